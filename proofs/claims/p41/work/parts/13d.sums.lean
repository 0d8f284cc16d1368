def sm_341 : aM := (127, 0, [(0, (-2147483648), 2147483647), (0, 1, 1), (0, 4, 4)], [], [], [(some (1, 1), [(0, 1, 4)], []), (some (0, 0), [], [])])
def lb_341 : List aLab := []
theorem ms_341 {Ext : gI → Prop} (hX : pSt Ext) : MSok bT Ext MT sm_341 := achk_ok (nm := 297) (sm := []) (labs := lb_341) (sp := []) (fuel := 14) (rE := [(1000000, (2, 0))]) (maxL := 3) (M := mX12_in1) mt_X12_in1 rfl os_X12_in1 MT_len ( mA.nil) (pE hX (by decide +kernel)) (by decide +kernel)
def sm_342 : aM := (127, 0, [(0, (-2147483648), 2147483647), (0, 0, 0), (0, 1, 1)], [], [], [(some (1, 1), [(0, 0, 1)], []), (some (0, 0), [], [])])
def lb_342 : List aLab := []
theorem ms_342 {Ext : gI → Prop} (hX : pSt Ext) : MSok bT Ext MT sm_342 := achk_ok (nm := 297) (sm := []) (labs := lb_342) (sp := []) (fuel := 14) (rE := [(1000000, (2, 0))]) (maxL := 3) (M := mX12_in1) mt_X12_in1 rfl os_X12_in1 MT_len ( mA.nil) (pE hX (by decide +kernel)) (by decide +kernel)
def sm_343 : aM := (193, 0, [(1, 67, 0), (0, 64, 64), (0, 0, 1)], [], [(68, 64, 64)], [(some (0, 1), [], [])])
def lb_343 : List aLab := []
theorem ms_343 {Ext : gI → Prop} (hX : pSt Ext) : MSok bT Ext MT sm_343 := achk_ok (nm := 297) (sm := []) (labs := lb_343) (sp := []) (fuel := 17) (rE := [(1000000, (2, 0))]) (maxL := 4) (M := mX12_becomes) mt_X12_becomes rfl os_X12_becomes MT_len ( mA.nil) (pE hX (by decide +kernel)) (by decide +kernel)
def sm_344 : aM := (193, 0, [(1, 67, 0), (0, 59, 59), (0, 0, 1)], [], [(68, 59, 59)], [(some (0, 1), [], [])])
def lb_344 : List aLab := []
theorem ms_344 {Ext : gI → Prop} (hX : pSt Ext) : MSok bT Ext MT sm_344 := achk_ok (nm := 297) (sm := []) (labs := lb_344) (sp := []) (fuel := 17) (rE := [(1000000, (2, 0))]) (maxL := 4) (M := mX12_becomes) mt_X12_becomes rfl os_X12_becomes MT_len ( mA.nil) (pE hX (by decide +kernel)) (by decide +kernel)
def sm_345 : aM := (193, 0, [(1, 67, 0), (0, 54, 54), (0, 0, 1)], [], [(68, 54, 54)], [(some (0, 1), [], [])])
def lb_345 : List aLab := []
theorem ms_345 {Ext : gI → Prop} (hX : pSt Ext) : MSok bT Ext MT sm_345 := achk_ok (nm := 297) (sm := []) (labs := lb_345) (sp := []) (fuel := 17) (rE := [(1000000, (2, 0))]) (maxL := 4) (M := mX12_becomes) mt_X12_becomes rfl os_X12_becomes MT_len ( mA.nil) (pE hX (by decide +kernel)) (by decide +kernel)
def sm_346 : aM := (193, 0, [(1, 67, 0), (0, 49, 49), (0, 0, 1)], [], [(68, 49, 49)], [(some (0, 1), [], [])])
def lb_346 : List aLab := []
theorem ms_346 {Ext : gI → Prop} (hX : pSt Ext) : MSok bT Ext MT sm_346 := achk_ok (nm := 297) (sm := []) (labs := lb_346) (sp := []) (fuel := 17) (rE := [(1000000, (2, 0))]) (maxL := 4) (M := mX12_becomes) mt_X12_becomes rfl os_X12_becomes MT_len ( mA.nil) (pE hX (by decide +kernel)) (by decide +kernel)
def sm_347 : aM := (193, 0, [(1, 67, 0), (0, 44, 44), (0, 0, 1)], [], [(68, 44, 44)], [(some (0, 1), [], [])])
def lb_347 : List aLab := []
theorem ms_347 {Ext : gI → Prop} (hX : pSt Ext) : MSok bT Ext MT sm_347 := achk_ok (nm := 297) (sm := []) (labs := lb_347) (sp := []) (fuel := 17) (rE := [(1000000, (2, 0))]) (maxL := 4) (M := mX12_becomes) mt_X12_becomes rfl os_X12_becomes MT_len ( mA.nil) (pE hX (by decide +kernel)) (by decide +kernel)
def sm_348 : aM := (193, 0, [(1, 67, 0), (0, 39, 39), (0, 0, 1)], [], [(68, 39, 39)], [(some (0, 1), [], [])])
def lb_348 : List aLab := []
theorem ms_348 {Ext : gI → Prop} (hX : pSt Ext) : MSok bT Ext MT sm_348 := achk_ok (nm := 297) (sm := []) (labs := lb_348) (sp := []) (fuel := 17) (rE := [(1000000, (2, 0))]) (maxL := 4) (M := mX12_becomes) mt_X12_becomes rfl os_X12_becomes MT_len ( mA.nil) (pE hX (by decide +kernel)) (by decide +kernel)
def sm_349 : aM := (193, 0, [(1, 67, 0), (0, 63, 63), (0, 0, 5)], [], [(68, 63, 63)], [(some (0, 5), [], [])])
def lb_349 : List aLab := []
theorem ms_349 {Ext : gI → Prop} (hX : pSt Ext) : MSok bT Ext MT sm_349 := achk_ok (nm := 297) (sm := []) (labs := lb_349) (sp := []) (fuel := 17) (rE := [(1000000, (2, 0))]) (maxL := 4) (M := mX12_becomes) mt_X12_becomes rfl os_X12_becomes MT_len ( mA.nil) (pE hX (by decide +kernel)) (by decide +kernel)
def sm_350 : aM := (193, 0, [(1, 67, 0), (0, 58, 58), (0, 0, 5)], [], [(68, 58, 58)], [(some (0, 5), [], [])])
def lb_350 : List aLab := []
theorem ms_350 {Ext : gI → Prop} (hX : pSt Ext) : MSok bT Ext MT sm_350 := achk_ok (nm := 297) (sm := []) (labs := lb_350) (sp := []) (fuel := 17) (rE := [(1000000, (2, 0))]) (maxL := 4) (M := mX12_becomes) mt_X12_becomes rfl os_X12_becomes MT_len ( mA.nil) (pE hX (by decide +kernel)) (by decide +kernel)
def sm_351 : aM := (193, 0, [(1, 67, 0), (0, 53, 53), (0, 0, 5)], [], [(68, 53, 53)], [(some (0, 5), [], [])])
def lb_351 : List aLab := []
theorem ms_351 {Ext : gI → Prop} (hX : pSt Ext) : MSok bT Ext MT sm_351 := achk_ok (nm := 297) (sm := []) (labs := lb_351) (sp := []) (fuel := 17) (rE := [(1000000, (2, 0))]) (maxL := 4) (M := mX12_becomes) mt_X12_becomes rfl os_X12_becomes MT_len ( mA.nil) (pE hX (by decide +kernel)) (by decide +kernel)
def sm_352 : aM := (193, 0, [(1, 67, 0), (0, 48, 48), (0, 0, 5)], [], [(68, 48, 48)], [(some (0, 5), [], [])])
def lb_352 : List aLab := []
theorem ms_352 {Ext : gI → Prop} (hX : pSt Ext) : MSok bT Ext MT sm_352 := achk_ok (nm := 297) (sm := []) (labs := lb_352) (sp := []) (fuel := 17) (rE := [(1000000, (2, 0))]) (maxL := 4) (M := mX12_becomes) mt_X12_becomes rfl os_X12_becomes MT_len ( mA.nil) (pE hX (by decide +kernel)) (by decide +kernel)
def sm_353 : aM := (193, 0, [(1, 67, 0), (0, 43, 43), (0, 0, 5)], [], [(68, 43, 43)], [(some (0, 5), [], [])])
def lb_353 : List aLab := []
theorem ms_353 {Ext : gI → Prop} (hX : pSt Ext) : MSok bT Ext MT sm_353 := achk_ok (nm := 297) (sm := []) (labs := lb_353) (sp := []) (fuel := 17) (rE := [(1000000, (2, 0))]) (maxL := 4) (M := mX12_becomes) mt_X12_becomes rfl os_X12_becomes MT_len ( mA.nil) (pE hX (by decide +kernel)) (by decide +kernel)
def sm_354 : aM := (193, 0, [(1, 67, 0), (0, 38, 38), (0, 0, 5)], [], [(68, 38, 38)], [(some (0, 5), [], [])])
def lb_354 : List aLab := []
theorem ms_354 {Ext : gI → Prop} (hX : pSt Ext) : MSok bT Ext MT sm_354 := achk_ok (nm := 297) (sm := []) (labs := lb_354) (sp := []) (fuel := 17) (rE := [(1000000, (2, 0))]) (maxL := 4) (M := mX12_becomes) mt_X12_becomes rfl os_X12_becomes MT_len ( mA.nil) (pE hX (by decide +kernel)) (by decide +kernel)
def sm_355 : aM := (193, 0, [(1, 67, 0), (0, 62, 62), (0, 0, 9)], [], [(68, 62, 62)], [(some (0, 9), [], [])])
def lb_355 : List aLab := []
theorem ms_355 {Ext : gI → Prop} (hX : pSt Ext) : MSok bT Ext MT sm_355 := achk_ok (nm := 297) (sm := []) (labs := lb_355) (sp := []) (fuel := 17) (rE := [(1000000, (2, 0))]) (maxL := 4) (M := mX12_becomes) mt_X12_becomes rfl os_X12_becomes MT_len ( mA.nil) (pE hX (by decide +kernel)) (by decide +kernel)
def sm_356 : aM := (193, 0, [(1, 67, 0), (0, 57, 57), (0, 0, 9)], [], [(68, 57, 57)], [(some (0, 9), [], [])])
def lb_356 : List aLab := []
theorem ms_356 {Ext : gI → Prop} (hX : pSt Ext) : MSok bT Ext MT sm_356 := achk_ok (nm := 297) (sm := []) (labs := lb_356) (sp := []) (fuel := 17) (rE := [(1000000, (2, 0))]) (maxL := 4) (M := mX12_becomes) mt_X12_becomes rfl os_X12_becomes MT_len ( mA.nil) (pE hX (by decide +kernel)) (by decide +kernel)
def sm_357 : aM := (193, 0, [(1, 67, 0), (0, 52, 52), (0, 0, 9)], [], [(68, 52, 52)], [(some (0, 9), [], [])])
def lb_357 : List aLab := []
theorem ms_357 {Ext : gI → Prop} (hX : pSt Ext) : MSok bT Ext MT sm_357 := achk_ok (nm := 297) (sm := []) (labs := lb_357) (sp := []) (fuel := 17) (rE := [(1000000, (2, 0))]) (maxL := 4) (M := mX12_becomes) mt_X12_becomes rfl os_X12_becomes MT_len ( mA.nil) (pE hX (by decide +kernel)) (by decide +kernel)
def sm_358 : aM := (193, 0, [(1, 67, 0), (0, 47, 47), (0, 0, 9)], [], [(68, 47, 47)], [(some (0, 9), [], [])])
def lb_358 : List aLab := []
theorem ms_358 {Ext : gI → Prop} (hX : pSt Ext) : MSok bT Ext MT sm_358 := achk_ok (nm := 297) (sm := []) (labs := lb_358) (sp := []) (fuel := 17) (rE := [(1000000, (2, 0))]) (maxL := 4) (M := mX12_becomes) mt_X12_becomes rfl os_X12_becomes MT_len ( mA.nil) (pE hX (by decide +kernel)) (by decide +kernel)
def sm_359 : aM := (193, 0, [(1, 67, 0), (0, 42, 42), (0, 0, 9)], [], [(68, 42, 42)], [(some (0, 9), [], [])])
def lb_359 : List aLab := []
theorem ms_359 {Ext : gI → Prop} (hX : pSt Ext) : MSok bT Ext MT sm_359 := achk_ok (nm := 297) (sm := []) (labs := lb_359) (sp := []) (fuel := 17) (rE := [(1000000, (2, 0))]) (maxL := 4) (M := mX12_becomes) mt_X12_becomes rfl os_X12_becomes MT_len ( mA.nil) (pE hX (by decide +kernel)) (by decide +kernel)
def sm_360 : aM := (193, 0, [(1, 67, 0), (0, 37, 37), (0, 0, 9)], [], [(68, 37, 37)], [(some (0, 9), [], [])])
def lb_360 : List aLab := []
theorem ms_360 {Ext : gI → Prop} (hX : pSt Ext) : MSok bT Ext MT sm_360 := achk_ok (nm := 297) (sm := []) (labs := lb_360) (sp := []) (fuel := 17) (rE := [(1000000, (2, 0))]) (maxL := 4) (M := mX12_becomes) mt_X12_becomes rfl os_X12_becomes MT_len ( mA.nil) (pE hX (by decide +kernel)) (by decide +kernel)
def sm_361 : aM := (193, 0, [(1, 67, 0), (0, 61, 61), (0, 0, 99)], [], [(68, 61, 61)], [(some (0, 99), [], [])])
def lb_361 : List aLab := []
theorem ms_361 {Ext : gI → Prop} (hX : pSt Ext) : MSok bT Ext MT sm_361 := achk_ok (nm := 297) (sm := []) (labs := lb_361) (sp := []) (fuel := 17) (rE := [(1000000, (2, 0))]) (maxL := 4) (M := mX12_becomes) mt_X12_becomes rfl os_X12_becomes MT_len ( mA.nil) (pE hX (by decide +kernel)) (by decide +kernel)
def sm_362 : aM := (193, 0, [(1, 67, 0), (0, 56, 56), (0, 0, 99)], [], [(68, 56, 56)], [(some (0, 99), [], [])])
def lb_362 : List aLab := []
theorem ms_362 {Ext : gI → Prop} (hX : pSt Ext) : MSok bT Ext MT sm_362 := achk_ok (nm := 297) (sm := []) (labs := lb_362) (sp := []) (fuel := 17) (rE := [(1000000, (2, 0))]) (maxL := 4) (M := mX12_becomes) mt_X12_becomes rfl os_X12_becomes MT_len ( mA.nil) (pE hX (by decide +kernel)) (by decide +kernel)
def sm_363 : aM := (193, 0, [(1, 67, 0), (0, 51, 51), (0, 0, 99)], [], [(68, 51, 51)], [(some (0, 99), [], [])])
def lb_363 : List aLab := []
theorem ms_363 {Ext : gI → Prop} (hX : pSt Ext) : MSok bT Ext MT sm_363 := achk_ok (nm := 297) (sm := []) (labs := lb_363) (sp := []) (fuel := 17) (rE := [(1000000, (2, 0))]) (maxL := 4) (M := mX12_becomes) mt_X12_becomes rfl os_X12_becomes MT_len ( mA.nil) (pE hX (by decide +kernel)) (by decide +kernel)
def sm_364 : aM := (193, 0, [(1, 67, 0), (0, 46, 46), (0, 0, 99)], [], [(68, 46, 46)], [(some (0, 99), [], [])])
def lb_364 : List aLab := []
theorem ms_364 {Ext : gI → Prop} (hX : pSt Ext) : MSok bT Ext MT sm_364 := achk_ok (nm := 297) (sm := []) (labs := lb_364) (sp := []) (fuel := 17) (rE := [(1000000, (2, 0))]) (maxL := 4) (M := mX12_becomes) mt_X12_becomes rfl os_X12_becomes MT_len ( mA.nil) (pE hX (by decide +kernel)) (by decide +kernel)
def sm_365 : aM := (193, 0, [(1, 67, 0), (0, 41, 41), (0, 0, 99)], [], [(68, 41, 41)], [(some (0, 99), [], [])])
def lb_365 : List aLab := []
theorem ms_365 {Ext : gI → Prop} (hX : pSt Ext) : MSok bT Ext MT sm_365 := achk_ok (nm := 297) (sm := []) (labs := lb_365) (sp := []) (fuel := 17) (rE := [(1000000, (2, 0))]) (maxL := 4) (M := mX12_becomes) mt_X12_becomes rfl os_X12_becomes MT_len ( mA.nil) (pE hX (by decide +kernel)) (by decide +kernel)
def sm_366 : aM := (193, 0, [(1, 67, 0), (0, 36, 36), (0, 0, 99)], [], [(68, 36, 36)], [(some (0, 99), [], [])])
def lb_366 : List aLab := []
theorem ms_366 {Ext : gI → Prop} (hX : pSt Ext) : MSok bT Ext MT sm_366 := achk_ok (nm := 297) (sm := []) (labs := lb_366) (sp := []) (fuel := 17) (rE := [(1000000, (2, 0))]) (maxL := 4) (M := mX12_becomes) mt_X12_becomes rfl os_X12_becomes MT_len ( mA.nil) (pE hX (by decide +kernel)) (by decide +kernel)
def sm_367 : aM := (192, 2, [(1, 67, 0), (0, (-2147483648), 2147483647), (0, (-2147483648), 2147483647), (0, (-2147483648), 2147483647)], [], [(68, 36, 39), (68, 41, 44), (68, 46, 49), (68, 51, 54), (68, 56, 59), (68, 61, 64)], [(some ((-1), 99), [], [])])
def lb_367 : List aLab := []
theorem ms_367 {Ext : gI → Prop} (hX : pSt Ext) : MSok bT Ext MT sm_367 := achk_ok (nm := 297) (sm := [sm_343, sm_344, sm_345, sm_346, sm_347, sm_348, sm_349, sm_350, sm_351, sm_352, sm_353, sm_354, sm_355, sm_356, sm_357, sm_358, sm_359, sm_360, sm_361, sm_362, sm_363, sm_364, sm_365, sm_366, sm_285, sm_341, sm_342, sm_276, sm_274, sm_273]) (labs := lb_367) (sp := [(0, 0, 2, [1, 2, 3, 4, 5]), (59, 0, 1, [])]) (fuel := 45) (rE := [(1000000, (2, 0))]) (maxL := 5) (M := mX12_change) mt_X12_change rfl os_X12_change MT_len ((mA.cons (ms_343 hX) (mA.cons (ms_344 hX) (mA.cons (ms_345 hX) (mA.cons (ms_346 hX) (mA.cons (ms_347 hX) (mA.cons (ms_348 hX) (mA.cons (ms_349 hX) (mA.cons (ms_350 hX) (mA.cons (ms_351 hX) (mA.cons (ms_352 hX) (mA.cons (ms_353 hX) (mA.cons (ms_354 hX) (mA.cons (ms_355 hX) (mA.cons (ms_356 hX) (mA.cons (ms_357 hX) (mA.cons (ms_358 hX) (mA.cons (ms_359 hX) (mA.cons (ms_360 hX) (mA.cons (ms_361 hX) (mA.cons (ms_362 hX) (mA.cons (ms_363 hX) (mA.cons (ms_364 hX) (mA.cons (ms_365 hX) (mA.cons (ms_366 hX) (mA.cons (ms_285 hX) (mA.cons (ms_341 hX) (mA.cons (ms_342 hX) (mA.cons (ms_276 hX) (mA.cons (ms_274 hX) (mA.cons (ms_273 hX) mA.nil))))))))))))))))))))))))))))))) (pE hX (by decide +kernel)) (by decide +kernel)
def sm_368 : aM := (193, 0, [(1, 67, 0), (0, 60, 60), (0, 1, 5)], [], [(68, 60, 60)], [(some (0, 5), [], [])])
def lb_368 : List aLab := []
theorem ms_368 {Ext : gI → Prop} (hX : pSt Ext) : MSok bT Ext MT sm_368 := achk_ok (nm := 297) (sm := []) (labs := lb_368) (sp := []) (fuel := 17) (rE := [(1000000, (2, 0))]) (maxL := 4) (M := mX12_becomes) mt_X12_becomes rfl os_X12_becomes MT_len ( mA.nil) (pE hX (by decide +kernel)) (by decide +kernel)
def sm_369 : aM := (193, 0, [(1, 67, 0), (0, 55, 55), (0, 1, 5)], [], [(68, 55, 55)], [(some (0, 5), [], [])])
def lb_369 : List aLab := []
theorem ms_369 {Ext : gI → Prop} (hX : pSt Ext) : MSok bT Ext MT sm_369 := achk_ok (nm := 297) (sm := []) (labs := lb_369) (sp := []) (fuel := 17) (rE := [(1000000, (2, 0))]) (maxL := 4) (M := mX12_becomes) mt_X12_becomes rfl os_X12_becomes MT_len ( mA.nil) (pE hX (by decide +kernel)) (by decide +kernel)
def sm_370 : aM := (193, 0, [(1, 67, 0), (0, 50, 50), (0, 1, 5)], [], [(68, 50, 50)], [(some (0, 5), [], [])])
def lb_370 : List aLab := []
theorem ms_370 {Ext : gI → Prop} (hX : pSt Ext) : MSok bT Ext MT sm_370 := achk_ok (nm := 297) (sm := []) (labs := lb_370) (sp := []) (fuel := 17) (rE := [(1000000, (2, 0))]) (maxL := 4) (M := mX12_becomes) mt_X12_becomes rfl os_X12_becomes MT_len ( mA.nil) (pE hX (by decide +kernel)) (by decide +kernel)
def sm_371 : aM := (193, 0, [(1, 67, 0), (0, 45, 45), (0, 1, 5)], [], [(68, 45, 45)], [(some (0, 5), [], [])])
def lb_371 : List aLab := []
theorem ms_371 {Ext : gI → Prop} (hX : pSt Ext) : MSok bT Ext MT sm_371 := achk_ok (nm := 297) (sm := []) (labs := lb_371) (sp := []) (fuel := 17) (rE := [(1000000, (2, 0))]) (maxL := 4) (M := mX12_becomes) mt_X12_becomes rfl os_X12_becomes MT_len ( mA.nil) (pE hX (by decide +kernel)) (by decide +kernel)
def sm_372 : aM := (193, 0, [(1, 67, 0), (0, 40, 40), (0, 1, 5)], [], [(68, 40, 40)], [(some (0, 5), [], [])])
def lb_372 : List aLab := []
theorem ms_372 {Ext : gI → Prop} (hX : pSt Ext) : MSok bT Ext MT sm_372 := achk_ok (nm := 297) (sm := []) (labs := lb_372) (sp := []) (fuel := 17) (rE := [(1000000, (2, 0))]) (maxL := 4) (M := mX12_becomes) mt_X12_becomes rfl os_X12_becomes MT_len ( mA.nil) (pE hX (by decide +kernel)) (by decide +kernel)
def sm_373 : aM := (193, 0, [(1, 67, 0), (0, 35, 35), (0, 1, 5)], [], [(68, 35, 35)], [(some (0, 5), [], [])])
def lb_373 : List aLab := []
theorem ms_373 {Ext : gI → Prop} (hX : pSt Ext) : MSok bT Ext MT sm_373 := achk_ok (nm := 297) (sm := []) (labs := lb_373) (sp := []) (fuel := 17) (rE := [(1000000, (2, 0))]) (maxL := 4) (M := mX12_becomes) mt_X12_becomes rfl os_X12_becomes MT_len ( mA.nil) (pE hX (by decide +kernel)) (by decide +kernel)
def sm_374 : aM := (195, 2, [(1, 67, 0), (0, (-2147483648), 2147483647), (0, (-2147483648), 2147483647)], [], [(68, 35, 35), (68, 40, 40), (68, 45, 45), (68, 50, 50), (68, 55, 55), (68, 60, 60)], [(some ((-1), 5), [], [])])
def lb_374 : List aLab := []
theorem ms_374 {Ext : gI → Prop} (hX : pSt Ext) : MSok bT Ext MT sm_374 := achk_ok (nm := 297) (sm := [sm_368, sm_369, sm_370, sm_371, sm_372, sm_373, sm_285, sm_272]) (labs := lb_374) (sp := [(17, 0, 1, [])]) (fuel := 25) (rE := [(1000000, (2, 0))]) (maxL := 3) (M := mX12_remake) mt_X12_remake rfl os_X12_remake MT_len ((mA.cons (ms_368 hX) (mA.cons (ms_369 hX) (mA.cons (ms_370 hX) (mA.cons (ms_371 hX) (mA.cons (ms_372 hX) (mA.cons (ms_373 hX) (mA.cons (ms_285 hX) (mA.cons (ms_272 hX) mA.nil))))))))) (pE hX (by decide +kernel)) (by decide +kernel)
def sm_375 : aM := (127, 0, [(0, (-2147483648), 2147483647), (0, 0, 0), (0, 15, 15)], [], [], [(some (1, 1), [(0, 0, 15)], []), (some (0, 0), [], [])])
def lb_375 : List aLab := []
theorem ms_375 {Ext : gI → Prop} (hX : pSt Ext) : MSok bT Ext MT sm_375 := achk_ok (nm := 297) (sm := []) (labs := lb_375) (sp := []) (fuel := 14) (rE := [(1000000, (2, 0))]) (maxL := 3) (M := mX12_in1) mt_X12_in1 rfl os_X12_in1 MT_len ( mA.nil) (pE hX (by decide +kernel)) (by decide +kernel)
def sm_376 : aM := (193, 0, [(1, 67, 0), (0, 7, 22), (0, 0, 15)], [], [(68, 7, 22)], [(some (0, 15), [], [])])
def lb_376 : List aLab := []
theorem ms_376 {Ext : gI → Prop} (hX : pSt Ext) : MSok bT Ext MT sm_376 := achk_ok (nm := 297) (sm := []) (labs := lb_376) (sp := []) (fuel := 17) (rE := [(1000000, (2, 0))]) (maxL := 4) (M := mX12_becomes) mt_X12_becomes rfl os_X12_becomes MT_len ( mA.nil) (pE hX (by decide +kernel)) (by decide +kernel)
def sm_377 : aM := (197, 1, [(1, 67, 0), (0, (-2147483648), 2147483647), (0, (-2147483648), 2147483647)], [], [(68, 7, 22)], [(some ((-1), 15), [], [])])
def lb_377 : List aLab := []
theorem ms_377 {Ext : gI → Prop} (hX : pSt Ext) : MSok bT Ext MT sm_377 := achk_ok (nm := 297) (sm := [sm_376, sm_375]) (labs := lb_377) (sp := []) (fuel := 23) (rE := [(1000000, (2, 0))]) (maxL := 3) (M := mX12_sun) mt_X12_sun rfl os_X12_sun MT_len ((mA.cons (ms_376 hX) (mA.cons (ms_375 hX) mA.nil))) (pE hX (by decide +kernel)) (by decide +kernel)
def sm_378 : aM := (193, 0, [(1, 67, 0), (0, 23, 28), (0, 0, 9)], [], [(68, 23, 28)], [(some ((-2147483648), 2147483647), [], [])])
def lb_378 : List aLab := []
theorem ms_378 {Ext : gI → Prop} (hX : pSt Ext) : MSok bT Ext MT sm_378 := achk_ok (nm := 297) (sm := []) (labs := lb_378) (sp := []) (fuel := 17) (rE := [(1000000, (2, 0))]) (maxL := 4) (M := mX12_becomes) mt_X12_becomes rfl os_X12_becomes MT_len ( mA.nil) (pE hX (by decide +kernel)) (by decide +kernel)
def sm_379 : aM := (193, 0, [(1, 67, 0), (0, 29, 34), (0, 0, 9)], [], [(68, 29, 34)], [(some ((-2147483648), 2147483647), [], [])])
def lb_379 : List aLab := []
theorem ms_379 {Ext : gI → Prop} (hX : pSt Ext) : MSok bT Ext MT sm_379 := achk_ok (nm := 297) (sm := []) (labs := lb_379) (sp := []) (fuel := 17) (rE := [(1000000, (2, 0))]) (maxL := 4) (M := mX12_becomes) mt_X12_becomes rfl os_X12_becomes MT_len ( mA.nil) (pE hX (by decide +kernel)) (by decide +kernel)
def sm_380 : aM := (199, 2, [(1, 67, 0), (0, (-2147483648), 2147483647), (0, (-2147483648), 2147483647), (0, (-2147483648), 2147483647)], [], [(68, 23, 34)], [(some ((-2147483648), 2147483647), [], [])])
def lb_380 : List aLab := []
theorem ms_380 {Ext : gI → Prop} (hX : pSt Ext) : MSok bT Ext MT sm_380 := achk_ok (nm := 297) (sm := [sm_378, sm_379, sm_277, sm_342, sm_275]) (labs := lb_380) (sp := []) (fuel := 27) (rE := [(1000000, (2, 0))]) (maxL := 4) (M := mX12_gate) mt_X12_gate rfl os_X12_gate MT_len ((mA.cons (ms_378 hX) (mA.cons (ms_379 hX) (mA.cons (ms_277 hX) (mA.cons (ms_342 hX) (mA.cons (ms_275 hX) mA.nil)))))) (pE hX (by decide +kernel)) (by decide +kernel)
def sm_381 : aM := (201, 2, [(1, 67, 0), (0, (-2147483648), 2147483647), (0, (-2147483648), 2147483647)], [], [], [(some ((-2147483648), 2147483647), [], [])])
def lb_381 : List aLab := []
theorem ms_381 {Ext : gI → Prop} (hX : pSt Ext) : MSok bT Ext MT sm_381 := achk_ok (nm := 297) (sm := [sm_277, sm_342]) (labs := lb_381) (sp := []) (fuel := 24) (rE := [(1000000, (2, 0))]) (maxL := 3) (M := mX12_gateOf) mt_X12_gateOf rfl os_X12_gateOf MT_len ((mA.cons (ms_277 hX) (mA.cons (ms_342 hX) mA.nil))) (pE hX (by decide +kernel)) (by decide +kernel)
def sm_382 : aM := (127, 0, [(0, (-2147483648), 2147483647), (0, 1, 1), (0, 16, 16)], [], [], [(some (1, 1), [(0, 1, 16)], []), (some (0, 0), [], [])])
def lb_382 : List aLab := []
theorem ms_382 {Ext : gI → Prop} (hX : pSt Ext) : MSok bT Ext MT sm_382 := achk_ok (nm := 297) (sm := []) (labs := lb_382) (sp := []) (fuel := 14) (rE := [(1000000, (2, 0))]) (maxL := 3) (M := mX12_in1) mt_X12_in1 rfl os_X12_in1 MT_len ( mA.nil) (pE hX (by decide +kernel)) (by decide +kernel)
def sm_383 : aM := (193, 0, [(1, 67, 0), (0, 1, 1), (0, 1, 16)], [], [(68, 1, 1)], [(some (0, 16), [], [])])
def lb_383 : List aLab := []
theorem ms_383 {Ext : gI → Prop} (hX : pSt Ext) : MSok bT Ext MT sm_383 := achk_ok (nm := 297) (sm := []) (labs := lb_383) (sp := []) (fuel := 17) (rE := [(1000000, (2, 0))]) (maxL := 4) (M := mX12_becomes) mt_X12_becomes rfl os_X12_becomes MT_len ( mA.nil) (pE hX (by decide +kernel)) (by decide +kernel)
def sm_384 : aM := (203, 1, [(1, 67, 0), (0, (-2147483648), 2147483647)], [], [(68, 1, 1)], [(some ((-4), 16), [], [])])
def lb_384 : List aLab := []
theorem ms_384 {Ext : gI → Prop} (hX : pSt Ext) : MSok bT Ext MT sm_384 := achk_ok (nm := 297) (sm := [sm_383, sm_382]) (labs := lb_384) (sp := []) (fuel := 21) (rE := [(1000000, (2, 0))]) (maxL := 2) (M := mX12_ends) mt_X12_ends rfl os_X12_ends MT_len ((mA.cons (ms_383 hX) (mA.cons (ms_382 hX) mA.nil))) (pE hX (by decide +kernel)) (by decide +kernel)
def sm_386 : aM := (193, 0, [(1, 67, 0), (0, 0, 0), (0, 0, 0)], [], [(68, 0, 0)], [(some (0, 16), [], [])])
def lb_386 : List aLab := []
theorem ms_386 {Ext : gI → Prop} (hX : pSt Ext) : MSok bT Ext MT sm_386 := achk_ok (nm := 297) (sm := []) (labs := lb_386) (sp := []) (fuel := 17) (rE := [(1000000, (2, 0))]) (maxL := 4) (M := mX12_becomes) mt_X12_becomes rfl os_X12_becomes MT_len ( mA.nil) (pE hX (by decide +kernel)) (by decide +kernel)
def sm_391 : aM := (205, 1, [(1, 67, 0)], [], [(68, 0, 0), (68, 2, 2), (68, 39, 39), (68, 44, 44), (68, 49, 49), (68, 54, 54), (68, 59, 59), (68, 64, 64)], [(some (0, 16), [], [])])
def lb_391 : List aLab := [(9, [some (1, 67), some (0, 0)], [], [(0, 6, none)], [(68, 2, (2, 0))], [(99991, (2, 0)), (6, (0, 0)), (99991, (2, 0))])]
theorem ms_391 {Ext : gI → Prop} (hX : pSt Ext) : MSok bT Ext MT sm_391 := achk_ok (nm := 297) (sm := [sm_386, sm_282]) (labs := lb_391) (sp := []) (fuel := 19) (rE := [(1000000, (2, 0)), (0, (2, 0)), (0, (2, 0))]) (maxL := 2) (M := mX12_anew) mt_X12_anew rfl os_X12_anew MT_len ((mA.cons (ms_386 hX) (mA.cons (ms_282 hX) mA.nil))) (pE hX (by decide +kernel)) (by decide +kernel)
def sm_397 : aM := (156, 1, [(1, 67, 0)], [], [], [(some ((-2147483648), 2147483647), [], [])])
def lb_397 : List aLab := [(4, [some (1, 67), some (0, 0), some (0, 1)], [], [((-2147483648), 2147483647, none), (0, 6, none)], [], [(99996, (2, 0)), (6, (0, 1)), (99996, (2, 0))])]
theorem ms_397 {Ext : gI → Prop} (hX : pSt Ext) : MSok bT Ext MT sm_397 := achk_ok (nm := 297) (sm := [sm_319]) (labs := lb_397) (sp := []) (fuel := 21) (rE := [(1000000, (2, 0)), (0, (2, 0)), (0, (2, 0))]) (maxL := 3) (M := mX12_teethAll) mt_X12_teethAll rfl os_X12_teethAll MT_len ((mA.cons (ms_319 hX) mA.nil)) (pE hX (by decide +kernel)) (by decide +kernel)
def sm_398 : aM := (157, 1, [(1, 67, 0), (0, 4, 4)], [], [], [(some ((-2147483648), 2147483647), [], [])])
def lb_398 : List aLab := [(4, [some (1, 67), some (2, 4), some (0, 0), some (0, 1)], [], [((-2147483648), 2147483647, none), (0, 6, none)], [], [(99996, (2, 0)), (6, (0, 1)), (99996, (2, 0))])]
theorem ms_398 {Ext : gI → Prop} (hX : pSt Ext) : MSok bT Ext MT sm_398 := achk_ok (nm := 297) (sm := [sm_317]) (labs := lb_398) (sp := []) (fuel := 26) (rE := [(1000000, (2, 0)), (0, (2, 0)), (0, (2, 0))]) (maxL := 4) (M := mX12_those) mt_X12_those rfl os_X12_those MT_len ((mA.cons (ms_317 hX) mA.nil)) (pE hX (by decide +kernel)) (by decide +kernel)
def sm_399 : aM := (150, 0, [(1, 67, 0)], [(68, 0, 0, 16)], [], [(some (1, 1), [], []), (some (0, 0), [], [(68, 0, 0, 15), (68, 1, 1, 16)])])
def lb_399 : List aLab := []
theorem ms_399 {Ext : gI → Prop} (hX : pSt Ext) : MSok bT Ext MT sm_399 := achk_ok (nm := 297) (sm := []) (labs := lb_399) (sp := []) (fuel := 17) (rE := [(1000000, (2, 0))]) (maxL := 1) (M := mX12_isOver) mt_X12_isOver rfl os_X12_isOver MT_len ( mA.nil) (pE hX (by decide +kernel)) (by decide +kernel)
def sm_400 : aM := (207, 2, [(1, 67, 0), (0, (-2147483648), 2147483647)], [], [], [(some ((-2147483648), 2147483647), [], [])])
def lb_400 : List aLab := []
theorem ms_400 {Ext : gI → Prop} (hX : pSt Ext) : MSok bT Ext MT sm_400 := achk_ok (nm := 297) (sm := [sm_397, sm_327, sm_398, sm_399]) (labs := lb_400) (sp := []) (fuel := 13) (rE := [(1000000, (2, 0))]) (maxL := 2) (M := mX12_state) mt_X12_state rfl os_X12_state MT_len ((mA.cons (ms_397 hX) (mA.cons (ms_327 hX) (mA.cons (ms_398 hX) (mA.cons (ms_399 hX) mA.nil))))) (pE hX (by decide +kernel)) (by decide +kernel)
def sm_405 : aM := (141, 0, [(1, 67, 0), (0, 0, 5), (0, 4, 4), (0, 1, 1)], [], [(68, 39, 39), (68, 44, 44), (68, 49, 49), (68, 54, 54), (68, 59, 59), (68, 64, 64)], [(none, [], [])])
def lb_405 : List aLab := []
theorem ms_405 {Ext : gI → Prop} (hX : pSt Ext) : MSok bT Ext MT sm_405 := achk_ok (nm := 297) (sm := []) (labs := lb_405) (sp := [(0, 0, 1, [])]) (fuel := 18) (rE := [(1000000, (2, 0))]) (maxL := 4) (M := mX12_puts) mt_X12_puts rfl os_X12_puts MT_len ( mA.nil) (pE hX (by decide +kernel)) (by decide +kernel)
def sm_406 : aM := (142, 4, [(1, 67, 0), (0, 0, 5)], [], [(68, 39, 39), (68, 44, 44), (68, 49, 49), (68, 54, 54), (68, 59, 59), (68, 64, 64)], [(some (0, 9), [], [])])
def lb_406 : List aLab := []
theorem ms_406 {Ext : gI → Prop} (hX : pSt Ext) : MSok bT Ext MT sm_406 := achk_ok (nm := 297) (sm := [sm_325, sm_405, sm_282]) (labs := lb_406) (sp := []) (fuel := 19) (rE := [(1000000, (2, 0))]) (maxL := 3) (M := mX12_turnsNow) mt_X12_turnsNow rfl os_X12_turnsNow MT_len ((mA.cons (ms_325 hX) (mA.cons (ms_405 hX) (mA.cons (ms_282 hX) mA.nil)))) (pE hX (by decide +kernel)) (by decide +kernel)
def sm_407 : aM := (143, 0, [(0, (-2147483648), 2147483647), (0, 99, 99)], [], [], [(some (0, 99), [], [])])
def lb_407 : List aLab := []
theorem ms_407 {Ext : gI → Prop} (hX : pSt Ext) : MSok bT Ext MT sm_407 := achk_ok (nm := 297) (sm := []) (labs := lb_407) (sp := []) (fuel := 13) (rE := [(1000000, (2, 0))]) (maxL := 2) (M := mX12_held) mt_X12_held rfl os_X12_held MT_len ( mA.nil) (pE hX (by decide +kernel)) (by decide +kernel)
def sm_416 : aM := (127, 0, [(0, (-2147483648), 2147483647), (0, 0, 0), (0, 16, 16)], [], [], [(some (1, 1), [(0, 0, 16)], []), (some (0, 0), [], [])])
def lb_416 : List aLab := []
theorem ms_416 {Ext : gI → Prop} (hX : pSt Ext) : MSok bT Ext MT sm_416 := achk_ok (nm := 297) (sm := []) (labs := lb_416) (sp := []) (fuel := 14) (rE := [(1000000, (2, 0))]) (maxL := 3) (M := mX12_in1) mt_X12_in1 rfl os_X12_in1 MT_len ( mA.nil) (pE hX (by decide +kernel)) (by decide +kernel)
def sm_417 : aM := (152, 0, [(1, 67, 0)], [(68, 5, 0, 0)], [(70, 0, 64)], [(none, [], [(70, 5, 0, 0)])])
theorem ms_417 {Ext : gI → Prop} (_hX : pSt Ext) : MSok bT Ext MT sm_417 := ms_cp (x := 68) (y := 70) (sp := 0) (dp := 0) (N := 65) mt_X12_layDown g_layDown (by decide +kernel) (by decide +kernel) (by decide +kernel)
def sm_419 : aM := (154, 0, [(1, 67, 0)], [(68, 5, 0, 0), (70, 5, 0, 0)], [(68, 0, 4), (68, 6, 64)], [(none, [], [])])
theorem ms_419 {Ext : gI → Prop} (_hX : pSt Ext) : MSok bT Ext MT sm_419 := ms_cp (x := 70) (y := 68) (sp := 0) (dp := 0) (N := 65) mt_X12_layBack g_layBack (by decide +kernel) (by decide +kernel) (by decide +kernel)
def sm_421 : aM := (152, 0, [(1, 67, 0)], [(68, 5, 1, 1)], [(70, 0, 64)], [(none, [], [(70, 5, 1, 1)])])
theorem ms_421 {Ext : gI → Prop} (_hX : pSt Ext) : MSok bT Ext MT sm_421 := ms_cp (x := 68) (y := 70) (sp := 0) (dp := 0) (N := 65) mt_X12_layDown g_layDown (by decide +kernel) (by decide +kernel) (by decide +kernel)
def sm_422 : aM := (154, 0, [(1, 67, 0)], [(68, 5, 1, 1), (70, 5, 1, 1)], [(68, 0, 4), (68, 6, 64)], [(none, [], [])])
theorem ms_422 {Ext : gI → Prop} (_hX : pSt Ext) : MSok bT Ext MT sm_422 := ms_cp (x := 70) (y := 68) (sp := 0) (dp := 0) (N := 65) mt_X12_layBack g_layBack (by decide +kernel) (by decide +kernel) (by decide +kernel)
def sm_424 : aM := (152, 0, [(1, 67, 0)], [(68, 5, 2, 2)], [(70, 0, 64)], [(none, [], [(70, 5, 2, 2)])])
theorem ms_424 {Ext : gI → Prop} (_hX : pSt Ext) : MSok bT Ext MT sm_424 := ms_cp (x := 68) (y := 70) (sp := 0) (dp := 0) (N := 65) mt_X12_layDown g_layDown (by decide +kernel) (by decide +kernel) (by decide +kernel)
def sm_425 : aM := (154, 0, [(1, 67, 0)], [(68, 5, 2, 2), (70, 5, 2, 2)], [(68, 0, 4), (68, 6, 64)], [(none, [], [])])
theorem ms_425 {Ext : gI → Prop} (_hX : pSt Ext) : MSok bT Ext MT sm_425 := ms_cp (x := 70) (y := 68) (sp := 0) (dp := 0) (N := 65) mt_X12_layBack g_layBack (by decide +kernel) (by decide +kernel) (by decide +kernel)
def sm_427 : aM := (152, 0, [(1, 67, 0)], [(68, 5, 3, 3)], [(70, 0, 64)], [(none, [], [(70, 5, 3, 3)])])
theorem ms_427 {Ext : gI → Prop} (_hX : pSt Ext) : MSok bT Ext MT sm_427 := ms_cp (x := 68) (y := 70) (sp := 0) (dp := 0) (N := 65) mt_X12_layDown g_layDown (by decide +kernel) (by decide +kernel) (by decide +kernel)
def sm_428 : aM := (154, 0, [(1, 67, 0)], [(68, 5, 3, 3), (70, 5, 3, 3)], [(68, 0, 4), (68, 6, 64)], [(none, [], [])])
theorem ms_428 {Ext : gI → Prop} (_hX : pSt Ext) : MSok bT Ext MT sm_428 := ms_cp (x := 70) (y := 68) (sp := 0) (dp := 0) (N := 65) mt_X12_layBack g_layBack (by decide +kernel) (by decide +kernel) (by decide +kernel)
def sm_430 : aM := (152, 0, [(1, 67, 0)], [(68, 5, 4, 4)], [(70, 0, 64)], [(none, [], [(70, 5, 4, 4)])])
theorem ms_430 {Ext : gI → Prop} (_hX : pSt Ext) : MSok bT Ext MT sm_430 := ms_cp (x := 68) (y := 70) (sp := 0) (dp := 0) (N := 65) mt_X12_layDown g_layDown (by decide +kernel) (by decide +kernel) (by decide +kernel)
def sm_431 : aM := (154, 0, [(1, 67, 0)], [(68, 5, 4, 4), (70, 5, 4, 4)], [(68, 0, 4), (68, 6, 64)], [(none, [], [])])
theorem ms_431 {Ext : gI → Prop} (_hX : pSt Ext) : MSok bT Ext MT sm_431 := ms_cp (x := 70) (y := 68) (sp := 0) (dp := 0) (N := 65) mt_X12_layBack g_layBack (by decide +kernel) (by decide +kernel) (by decide +kernel)
def sm_433 : aM := (152, 0, [(1, 67, 0)], [(68, 5, 5, 5)], [(70, 0, 64)], [(none, [], [(70, 5, 5, 5)])])
theorem ms_433 {Ext : gI → Prop} (_hX : pSt Ext) : MSok bT Ext MT sm_433 := ms_cp (x := 68) (y := 70) (sp := 0) (dp := 0) (N := 65) mt_X12_layDown g_layDown (by decide +kernel) (by decide +kernel) (by decide +kernel)
def sm_434 : aM := (154, 0, [(1, 67, 0)], [(68, 5, 5, 5), (70, 5, 5, 5)], [(68, 0, 4), (68, 6, 64)], [(none, [], [])])
theorem ms_434 {Ext : gI → Prop} (_hX : pSt Ext) : MSok bT Ext MT sm_434 := ms_cp (x := 70) (y := 68) (sp := 0) (dp := 0) (N := 65) mt_X12_layBack g_layBack (by decide +kernel) (by decide +kernel) (by decide +kernel)
def sm_436 : aM := (152, 0, [(1, 67, 0)], [(68, 5, 6, 6)], [(70, 0, 64)], [(none, [], [(70, 5, 6, 6)])])
theorem ms_436 {Ext : gI → Prop} (_hX : pSt Ext) : MSok bT Ext MT sm_436 := ms_cp (x := 68) (y := 70) (sp := 0) (dp := 0) (N := 65) mt_X12_layDown g_layDown (by decide +kernel) (by decide +kernel) (by decide +kernel)
def sm_437 : aM := (154, 0, [(1, 67, 0)], [(68, 5, 6, 6), (70, 5, 6, 6)], [(68, 0, 4), (68, 6, 64)], [(none, [], [])])
theorem ms_437 {Ext : gI → Prop} (_hX : pSt Ext) : MSok bT Ext MT sm_437 := ms_cp (x := 70) (y := 68) (sp := 0) (dp := 0) (N := 65) mt_X12_layBack g_layBack (by decide +kernel) (by decide +kernel) (by decide +kernel)
def sm_439 : aM := (152, 0, [(1, 67, 0)], [(68, 5, 7, 7)], [(70, 0, 64)], [(none, [], [(70, 5, 7, 7)])])
theorem ms_439 {Ext : gI → Prop} (_hX : pSt Ext) : MSok bT Ext MT sm_439 := ms_cp (x := 68) (y := 70) (sp := 0) (dp := 0) (N := 65) mt_X12_layDown g_layDown (by decide +kernel) (by decide +kernel) (by decide +kernel)
def sm_440 : aM := (154, 0, [(1, 67, 0)], [(68, 5, 7, 7), (70, 5, 7, 7)], [(68, 0, 4), (68, 6, 64)], [(none, [], [])])
theorem ms_440 {Ext : gI → Prop} (_hX : pSt Ext) : MSok bT Ext MT sm_440 := ms_cp (x := 70) (y := 68) (sp := 0) (dp := 0) (N := 65) mt_X12_layBack g_layBack (by decide +kernel) (by decide +kernel) (by decide +kernel)
def sm_442 : aM := (152, 0, [(1, 67, 0)], [(68, 5, 8, 8)], [(70, 0, 64)], [(none, [], [(70, 5, 8, 8)])])
theorem ms_442 {Ext : gI → Prop} (_hX : pSt Ext) : MSok bT Ext MT sm_442 := ms_cp (x := 68) (y := 70) (sp := 0) (dp := 0) (N := 65) mt_X12_layDown g_layDown (by decide +kernel) (by decide +kernel) (by decide +kernel)
def sm_443 : aM := (154, 0, [(1, 67, 0)], [(68, 5, 8, 8), (70, 5, 8, 8)], [(68, 0, 4), (68, 6, 64)], [(none, [], [])])
theorem ms_443 {Ext : gI → Prop} (_hX : pSt Ext) : MSok bT Ext MT sm_443 := ms_cp (x := 70) (y := 68) (sp := 0) (dp := 0) (N := 65) mt_X12_layBack g_layBack (by decide +kernel) (by decide +kernel) (by decide +kernel)
def sm_445 : aM := (150, 0, [(1, 67, 0)], [(68, 0, 16, 16)], [], [(some (1, 1), [], [(68, 0, 16, 16)])])
def lb_445 : List aLab := []
theorem ms_445 {Ext : gI → Prop} (hX : pSt Ext) : MSok bT Ext MT sm_445 := achk_ok (nm := 297) (sm := []) (labs := lb_445) (sp := []) (fuel := 17) (rE := [(1000000, (2, 0))]) (maxL := 1) (M := mX12_isOver) mt_X12_isOver rfl os_X12_isOver MT_len ( mA.nil) (pE hX (by decide +kernel)) (by decide +kernel)
def sm_446 : aM := (150, 0, [(1, 67, 0)], [(68, 0, 15, 15)], [], [(some (1, 1), [], [(68, 0, 15, 15), (68, 1, 0, 15)]), (some (0, 0), [], [(68, 0, 15, 15), (68, 1, 16, 16)])])
def lb_446 : List aLab := []
theorem ms_446 {Ext : gI → Prop} (hX : pSt Ext) : MSok bT Ext MT sm_446 := achk_ok (nm := 297) (sm := []) (labs := lb_446) (sp := []) (fuel := 17) (rE := [(1000000, (2, 0))]) (maxL := 1) (M := mX12_isOver) mt_X12_isOver rfl os_X12_isOver MT_len ( mA.nil) (pE hX (by decide +kernel)) (by decide +kernel)
def sm_448 : aM := (150, 0, [(1, 67, 0)], [(68, 0, 14, 14)], [], [(some (1, 1), [], [(68, 0, 14, 14), (68, 1, 0, 14)]), (some (0, 0), [], [(68, 0, 14, 14), (68, 1, 15, 16)])])
def lb_448 : List aLab := []
theorem ms_448 {Ext : gI → Prop} (hX : pSt Ext) : MSok bT Ext MT sm_448 := achk_ok (nm := 297) (sm := []) (labs := lb_448) (sp := []) (fuel := 17) (rE := [(1000000, (2, 0))]) (maxL := 1) (M := mX12_isOver) mt_X12_isOver rfl os_X12_isOver MT_len ( mA.nil) (pE hX (by decide +kernel)) (by decide +kernel)
def sm_450 : aM := (150, 0, [(1, 67, 0)], [(68, 0, 13, 13)], [], [(some (1, 1), [], [(68, 0, 13, 13), (68, 1, 0, 13)]), (some (0, 0), [], [(68, 0, 13, 13), (68, 1, 14, 16)])])
def lb_450 : List aLab := []
theorem ms_450 {Ext : gI → Prop} (hX : pSt Ext) : MSok bT Ext MT sm_450 := achk_ok (nm := 297) (sm := []) (labs := lb_450) (sp := []) (fuel := 17) (rE := [(1000000, (2, 0))]) (maxL := 1) (M := mX12_isOver) mt_X12_isOver rfl os_X12_isOver MT_len ( mA.nil) (pE hX (by decide +kernel)) (by decide +kernel)
def sm_452 : aM := (150, 0, [(1, 67, 0)], [(68, 0, 12, 12)], [], [(some (1, 1), [], [(68, 0, 12, 12), (68, 1, 0, 12)]), (some (0, 0), [], [(68, 0, 12, 12), (68, 1, 13, 16)])])
def lb_452 : List aLab := []
theorem ms_452 {Ext : gI → Prop} (hX : pSt Ext) : MSok bT Ext MT sm_452 := achk_ok (nm := 297) (sm := []) (labs := lb_452) (sp := []) (fuel := 17) (rE := [(1000000, (2, 0))]) (maxL := 1) (M := mX12_isOver) mt_X12_isOver rfl os_X12_isOver MT_len ( mA.nil) (pE hX (by decide +kernel)) (by decide +kernel)
def sm_454 : aM := (150, 0, [(1, 67, 0)], [(68, 0, 11, 11)], [], [(some (1, 1), [], [(68, 0, 11, 11), (68, 1, 0, 11)]), (some (0, 0), [], [(68, 0, 11, 11), (68, 1, 12, 16)])])
def lb_454 : List aLab := []
theorem ms_454 {Ext : gI → Prop} (hX : pSt Ext) : MSok bT Ext MT sm_454 := achk_ok (nm := 297) (sm := []) (labs := lb_454) (sp := []) (fuel := 17) (rE := [(1000000, (2, 0))]) (maxL := 1) (M := mX12_isOver) mt_X12_isOver rfl os_X12_isOver MT_len ( mA.nil) (pE hX (by decide +kernel)) (by decide +kernel)
def sm_456 : aM := (150, 0, [(1, 67, 0)], [(68, 0, 10, 10)], [], [(some (1, 1), [], [(68, 0, 10, 10), (68, 1, 0, 10)]), (some (0, 0), [], [(68, 0, 10, 10), (68, 1, 11, 16)])])
def lb_456 : List aLab := []
theorem ms_456 {Ext : gI → Prop} (hX : pSt Ext) : MSok bT Ext MT sm_456 := achk_ok (nm := 297) (sm := []) (labs := lb_456) (sp := []) (fuel := 17) (rE := [(1000000, (2, 0))]) (maxL := 1) (M := mX12_isOver) mt_X12_isOver rfl os_X12_isOver MT_len ( mA.nil) (pE hX (by decide +kernel)) (by decide +kernel)
def sm_458 : aM := (150, 0, [(1, 67, 0)], [(68, 0, 9, 9)], [], [(some (1, 1), [], [(68, 0, 9, 9), (68, 1, 0, 9)]), (some (0, 0), [], [(68, 0, 9, 9), (68, 1, 10, 16)])])
def lb_458 : List aLab := []
theorem ms_458 {Ext : gI → Prop} (hX : pSt Ext) : MSok bT Ext MT sm_458 := achk_ok (nm := 297) (sm := []) (labs := lb_458) (sp := []) (fuel := 17) (rE := [(1000000, (2, 0))]) (maxL := 1) (M := mX12_isOver) mt_X12_isOver rfl os_X12_isOver MT_len ( mA.nil) (pE hX (by decide +kernel)) (by decide +kernel)
def sm_460 : aM := (150, 0, [(1, 67, 0)], [(68, 0, 8, 8)], [], [(some (1, 1), [], [(68, 0, 8, 8), (68, 1, 0, 8)]), (some (0, 0), [], [(68, 0, 8, 8), (68, 1, 9, 16)])])
def lb_460 : List aLab := []
theorem ms_460 {Ext : gI → Prop} (hX : pSt Ext) : MSok bT Ext MT sm_460 := achk_ok (nm := 297) (sm := []) (labs := lb_460) (sp := []) (fuel := 17) (rE := [(1000000, (2, 0))]) (maxL := 1) (M := mX12_isOver) mt_X12_isOver rfl os_X12_isOver MT_len ( mA.nil) (pE hX (by decide +kernel)) (by decide +kernel)
def sm_462 : aM := (150, 0, [(1, 67, 0)], [(68, 0, 7, 7)], [], [(some (1, 1), [], [(68, 0, 7, 7), (68, 1, 0, 7)]), (some (0, 0), [], [(68, 0, 7, 7), (68, 1, 8, 16)])])
def lb_462 : List aLab := []
theorem ms_462 {Ext : gI → Prop} (hX : pSt Ext) : MSok bT Ext MT sm_462 := achk_ok (nm := 297) (sm := []) (labs := lb_462) (sp := []) (fuel := 17) (rE := [(1000000, (2, 0))]) (maxL := 1) (M := mX12_isOver) mt_X12_isOver rfl os_X12_isOver MT_len ( mA.nil) (pE hX (by decide +kernel)) (by decide +kernel)
def sm_464 : aM := (150, 0, [(1, 67, 0)], [(68, 0, 6, 6)], [], [(some (1, 1), [], [(68, 0, 6, 6), (68, 1, 0, 6)]), (some (0, 0), [], [(68, 0, 6, 6), (68, 1, 7, 16)])])
def lb_464 : List aLab := []
theorem ms_464 {Ext : gI → Prop} (hX : pSt Ext) : MSok bT Ext MT sm_464 := achk_ok (nm := 297) (sm := []) (labs := lb_464) (sp := []) (fuel := 17) (rE := [(1000000, (2, 0))]) (maxL := 1) (M := mX12_isOver) mt_X12_isOver rfl os_X12_isOver MT_len ( mA.nil) (pE hX (by decide +kernel)) (by decide +kernel)
def sm_466 : aM := (150, 0, [(1, 67, 0)], [(68, 0, 5, 5)], [], [(some (1, 1), [], [(68, 0, 5, 5), (68, 1, 0, 5)]), (some (0, 0), [], [(68, 0, 5, 5), (68, 1, 6, 16)])])
def lb_466 : List aLab := []
theorem ms_466 {Ext : gI → Prop} (hX : pSt Ext) : MSok bT Ext MT sm_466 := achk_ok (nm := 297) (sm := []) (labs := lb_466) (sp := []) (fuel := 17) (rE := [(1000000, (2, 0))]) (maxL := 1) (M := mX12_isOver) mt_X12_isOver rfl os_X12_isOver MT_len ( mA.nil) (pE hX (by decide +kernel)) (by decide +kernel)
def sm_468 : aM := (150, 0, [(1, 67, 0)], [(68, 0, 4, 4)], [], [(some (1, 1), [], [(68, 0, 4, 4), (68, 1, 0, 4)]), (some (0, 0), [], [(68, 0, 4, 4), (68, 1, 5, 16)])])
def lb_468 : List aLab := []
theorem ms_468 {Ext : gI → Prop} (hX : pSt Ext) : MSok bT Ext MT sm_468 := achk_ok (nm := 297) (sm := []) (labs := lb_468) (sp := []) (fuel := 17) (rE := [(1000000, (2, 0))]) (maxL := 1) (M := mX12_isOver) mt_X12_isOver rfl os_X12_isOver MT_len ( mA.nil) (pE hX (by decide +kernel)) (by decide +kernel)
def sm_470 : aM := (150, 0, [(1, 67, 0)], [(68, 0, 3, 3)], [], [(some (1, 1), [], [(68, 0, 3, 3), (68, 1, 0, 3)]), (some (0, 0), [], [(68, 0, 3, 3), (68, 1, 4, 16)])])
def lb_470 : List aLab := []
theorem ms_470 {Ext : gI → Prop} (hX : pSt Ext) : MSok bT Ext MT sm_470 := achk_ok (nm := 297) (sm := []) (labs := lb_470) (sp := []) (fuel := 17) (rE := [(1000000, (2, 0))]) (maxL := 1) (M := mX12_isOver) mt_X12_isOver rfl os_X12_isOver MT_len ( mA.nil) (pE hX (by decide +kernel)) (by decide +kernel)
def sm_472 : aM := (150, 0, [(1, 67, 0)], [(68, 0, 2, 2)], [], [(some (1, 1), [], [(68, 0, 2, 2), (68, 1, 0, 2)]), (some (0, 0), [], [(68, 0, 2, 2), (68, 1, 3, 16)])])
def lb_472 : List aLab := []
theorem ms_472 {Ext : gI → Prop} (hX : pSt Ext) : MSok bT Ext MT sm_472 := achk_ok (nm := 297) (sm := []) (labs := lb_472) (sp := []) (fuel := 17) (rE := [(1000000, (2, 0))]) (maxL := 1) (M := mX12_isOver) mt_X12_isOver rfl os_X12_isOver MT_len ( mA.nil) (pE hX (by decide +kernel)) (by decide +kernel)
def sm_474 : aM := (150, 0, [(1, 67, 0)], [(68, 0, 1, 1)], [], [(some (1, 1), [], [(68, 0, 1, 1), (68, 1, 0, 1)]), (some (0, 0), [], [(68, 0, 1, 1), (68, 1, 2, 16)])])
def lb_474 : List aLab := []
theorem ms_474 {Ext : gI → Prop} (hX : pSt Ext) : MSok bT Ext MT sm_474 := achk_ok (nm := 297) (sm := []) (labs := lb_474) (sp := []) (fuel := 17) (rE := [(1000000, (2, 0))]) (maxL := 1) (M := mX12_isOver) mt_X12_isOver rfl os_X12_isOver MT_len ( mA.nil) (pE hX (by decide +kernel)) (by decide +kernel)
def sm_476 : aM := (150, 0, [(1, 67, 0)], [(68, 0, 0, 0)], [], [(some (1, 1), [], [(68, 0, 0, 0), (68, 1, 0, 0)]), (some (0, 0), [], [(68, 0, 0, 0), (68, 1, 1, 16)])])
def lb_476 : List aLab := []
theorem ms_476 {Ext : gI → Prop} (hX : pSt Ext) : MSok bT Ext MT sm_476 := achk_ok (nm := 297) (sm := []) (labs := lb_476) (sp := []) (fuel := 17) (rE := [(1000000, (2, 0))]) (maxL := 1) (M := mX12_isOver) mt_X12_isOver rfl os_X12_isOver MT_len ( mA.nil) (pE hX (by decide +kernel)) (by decide +kernel)
def sm_543 : aM := (226, 3, [(1, 67, 0), (0, (-2147483648), 2147483647)], [], [], [(some ((-2147483648), 2147483647), [], [])])
def lb_543 : List aLab := [(14, [some (1, 67), some (0, 0), some (0, 1), some (0, 2)], [], [(0, 5, none), ((-2147483648), 2147483647, none), (0, 10, none)], [], [(99986, (2, 0)), (10, (0, 2)), (99986, (2, 0))])]
theorem ms_543 {Ext : gI → Prop} (hX : pSt Ext) : MSok bT Ext MT sm_543 := achk_ok (nm := 297) (sm := [sm_285, sm_324]) (labs := lb_543) (sp := []) (fuel := 23) (rE := [(1000000, (2, 0)), (0, (2, 0)), (0, (2, 0))]) (maxL := 4) (M := mX12_opens) mt_X12_opens rfl os_X12_opens MT_len ((mA.cons (ms_285 hX) (mA.cons (ms_324 hX) mA.nil))) (pE hX (by decide +kernel)) (by decide +kernel)
def sm_561 : aM := (159, 2, [(1, 67, 0), (0, 0, 5), (0, 0, 5)], [], [], [(some (1, 1), [], []), (some (0, 0), [], [])])
def lb_561 : List aLab := []
theorem ms_561 {Ext : gI → Prop} (hX : pSt Ext) : MSok bT Ext MT sm_561 := achk_ok (nm := 297) (sm := [sm_318, sm_322, sm_317]) (labs := lb_561) (sp := []) (fuel := 39) (rE := [(1000000, (2, 0))]) (maxL := 4) (M := mX12_areClose) mt_X12_areClose rfl os_X12_areClose MT_len ((mA.cons (ms_318 hX) (mA.cons (ms_322 hX) (mA.cons (ms_317 hX) mA.nil)))) (pE hX (by decide +kernel)) (by decide +kernel)
def sm_562 : aM := (158, 3, [(1, 67, 0), (0, 0, 5)], [], [], [(some ((-2147483648), 2147483647), [], [])])
def lb_562 : List aLab := [(6, [some (1, 67), some (0, 0), some (0, 1), some (0, 2), none, none], [], [(0, 5, none), ((-2147483648), 2147483647, none), (0, 6, none)], [], [(99994, (2, 0)), (6, (0, 2)), (99994, (2, 0)), (0, (2, 0)), (0, (2, 0)), (0, (2, 0)), (0, (2, 0))]), (19, [some (1, 67), some (0, 0), some (0, 1), some (0, 2), some (0, 3), none], [], [(0, 5, none), ((-2147483648), 2147483647, none), (0, 5, none), (0, 6, none), (1, 6, none)], [(68, 4, (0, 4))], [(99994, (2, 0)), (6, (0, 2)), (99981, (2, 0)), (6, (0, 3)), (99981, (2, 0)), (0, (2, 0)), (0, (2, 0))]), (33, [some (1, 67), some (0, 0), some (0, 1), some (0, 2), some (0, 3), some (0, 4)], [], [(0, 5, none), ((-2147483648), 2147483647, none), (0, 5, none), (0, 5, none), (0, 6, none), (1, 6, none)], [(68, 4, (0, 5))], [(99994, (2, 0)), (6, (0, 2)), (99981, (2, 0)), (6, (0, 3)), (99967, (2, 0)), (6, (0, 4)), (99967, (2, 0))])]
theorem ms_562 {Ext : gI → Prop} (hX : pSt Ext) : MSok bT Ext MT sm_562 := achk_ok (nm := 297) (sm := [sm_317, sm_561]) (labs := lb_562) (sp := []) (fuel := 33) (rE := [(1000000, (2, 0)), (0, (2, 0)), (0, (2, 0)), (0, (2, 0)), (0, (2, 0)), (0, (2, 0)), (0, (2, 0))]) (maxL := 6) (M := mX12_bunchOf) mt_X12_bunchOf rfl os_X12_bunchOf MT_len ((mA.cons (ms_317 hX) (mA.cons (ms_561 hX) mA.nil))) (pE hX (by decide +kernel)) (by decide +kernel)
def sm_563 : aM := (230, 4, [(1, 67, 0), (0, (-2147483648), 2147483647)], [], [], [(some ((-2147483648), 2147483647), [], [])])
def lb_563 : List aLab := [(29, [some (1, 67), some (2, (-1)), some (0, 0), some (0, 1), none], [], [((-2147483648), 2147483647, none), (0, 6, none)], [], [(99971, (2, 0)), (6, (0, 1)), (99971, (2, 0))])]
theorem ms_563 {Ext : gI → Prop} (hX : pSt Ext) : MSok bT Ext MT sm_563 := achk_ok (nm := 297) (sm := [sm_562, sm_285]) (labs := lb_563) (sp := []) (fuel := 31) (rE := [(1000000, (2, 0)), (0, (2, 0)), (0, (2, 0))]) (maxL := 5) (M := mX12_bunches) mt_X12_bunches rfl os_X12_bunches MT_len ((mA.cons (ms_562 hX) (mA.cons (ms_285 hX) mA.nil))) (pE hX (by decide +kernel)) (by decide +kernel)
def sm_564 : aM := (127, 0, [(0, (-2147483648), 2147483647), (0, 0, 0), (0, 4, 4)], [], [], [(some (1, 1), [(0, 0, 4)], []), (some (0, 0), [], [])])
def lb_564 : List aLab := []
theorem ms_564 {Ext : gI → Prop} (hX : pSt Ext) : MSok bT Ext MT sm_564 := achk_ok (nm := 297) (sm := []) (labs := lb_564) (sp := []) (fuel := 14) (rE := [(1000000, (2, 0))]) (maxL := 3) (M := mX12_in1) mt_X12_in1 rfl os_X12_in1 MT_len ( mA.nil) (pE hX (by decide +kernel)) (by decide +kernel)
def sm_565 : aM := (165, 1, [(0, (-2147483648), 2147483647)], [], [], [(some (0, 0), [], []), (some (1, 1), [(0, 0, 4)], [])])
def lb_565 : List aLab := []
theorem ms_565 {Ext : gI → Prop} (hX : pSt Ext) : MSok bT Ext MT sm_565 := achk_ok (nm := 297) (sm := [sm_564]) (labs := lb_565) (sp := []) (fuel := 10) (rE := [(1000000, (2, 0))]) (maxL := 1) (M := mX12_isPlan) mt_X12_isPlan rfl os_X12_isPlan MT_len ((mA.cons (ms_564 hX) mA.nil)) (pE hX (by decide +kernel)) (by decide +kernel)
def sm_566 : aM := (163, 1, [(1, 67, 0), (0, 0, 4)], [(68, 0, 0, 16)], [], [(some (0, 0), [], []), (some (1, 1), [(1, 1, 4)], [(68, 0, 0, 15), (68, 1, 1, 16)]), (some (2, 2), [(1, 2, 4)], [(68, 0, 0, 14), (68, 1, 1, 16)]), (some (3, 3), [(1, 3, 4)], [(68, 0, 0, 13), (68, 1, 1, 16)]), (some (4, 4), [(1, 4, 4)], [(68, 0, 0, 12), (68, 1, 1, 16)])])
def lb_566 : List aLab := []
theorem ms_566 {Ext : gI → Prop} (hX : pSt Ext) : MSok bT Ext MT sm_566 := achk_ok (nm := 297) (sm := [sm_445, sm_446, sm_448, sm_450, sm_452, sm_454, sm_456, sm_458, sm_460, sm_462, sm_464, sm_466, sm_468, sm_470, sm_472, sm_474, sm_476]) (labs := lb_566) (sp := [(0, 69, 0, []), (0, 0, 1, []), (25, 0, 2, [])]) (fuel := 27) (rE := [(1000000, (2, 0))]) (maxL := 3) (M := mX12_daysOf) mt_X12_daysOf rfl os_X12_daysOf MT_len ((mA.cons (ms_445 hX) (mA.cons (ms_446 hX) (mA.cons (ms_448 hX) (mA.cons (ms_450 hX) (mA.cons (ms_452 hX) (mA.cons (ms_454 hX) (mA.cons (ms_456 hX) (mA.cons (ms_458 hX) (mA.cons (ms_460 hX) (mA.cons (ms_462 hX) (mA.cons (ms_464 hX) (mA.cons (ms_466 hX) (mA.cons (ms_468 hX) (mA.cons (ms_470 hX) (mA.cons (ms_472 hX) (mA.cons (ms_474 hX) (mA.cons (ms_476 hX) mA.nil)))))))))))))))))) (pE hX (by decide +kernel)) (by decide +kernel)
