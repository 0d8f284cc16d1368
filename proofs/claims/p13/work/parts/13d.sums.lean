def sm_350 : aM := (193, 0, [(1, 67, 0), (0, 53, 53), (0, 0, 5)], [], [(68, 53, 53)], [(some (0, 5), [], [])])
def lb_350 : List aLab := []
theorem ms_350 {Ext : gI → Prop} (hX : pSt Ext) : MSok bT Ext MT sm_350 := achk_ok (nm := 297) (sm := []) (labs := lb_350) (sp := []) (fuel := 17) (rE := [(1000000, (2, 0))]) (maxL := 4) (M := mX12_becomes) mt_X12_becomes rfl os_X12_becomes MT_len ( mA.nil) (pE hX (by decide +kernel)) (by decide +kernel)
def sm_351 : aM := (193, 0, [(1, 67, 0), (0, 48, 48), (0, 0, 5)], [], [(68, 48, 48)], [(some (0, 5), [], [])])
def lb_351 : List aLab := []
theorem ms_351 {Ext : gI → Prop} (hX : pSt Ext) : MSok bT Ext MT sm_351 := achk_ok (nm := 297) (sm := []) (labs := lb_351) (sp := []) (fuel := 17) (rE := [(1000000, (2, 0))]) (maxL := 4) (M := mX12_becomes) mt_X12_becomes rfl os_X12_becomes MT_len ( mA.nil) (pE hX (by decide +kernel)) (by decide +kernel)
def sm_352 : aM := (193, 0, [(1, 67, 0), (0, 43, 43), (0, 0, 5)], [], [(68, 43, 43)], [(some (0, 5), [], [])])
def lb_352 : List aLab := []
theorem ms_352 {Ext : gI → Prop} (hX : pSt Ext) : MSok bT Ext MT sm_352 := achk_ok (nm := 297) (sm := []) (labs := lb_352) (sp := []) (fuel := 17) (rE := [(1000000, (2, 0))]) (maxL := 4) (M := mX12_becomes) mt_X12_becomes rfl os_X12_becomes MT_len ( mA.nil) (pE hX (by decide +kernel)) (by decide +kernel)
def sm_353 : aM := (193, 0, [(1, 67, 0), (0, 38, 38), (0, 0, 5)], [], [(68, 38, 38)], [(some (0, 5), [], [])])
def lb_353 : List aLab := []
theorem ms_353 {Ext : gI → Prop} (hX : pSt Ext) : MSok bT Ext MT sm_353 := achk_ok (nm := 297) (sm := []) (labs := lb_353) (sp := []) (fuel := 17) (rE := [(1000000, (2, 0))]) (maxL := 4) (M := mX12_becomes) mt_X12_becomes rfl os_X12_becomes MT_len ( mA.nil) (pE hX (by decide +kernel)) (by decide +kernel)
def sm_354 : aM := (193, 0, [(1, 67, 0), (0, 62, 62), (0, 0, 9)], [], [(68, 62, 62)], [(some (0, 9), [], [])])
def lb_354 : List aLab := []
theorem ms_354 {Ext : gI → Prop} (hX : pSt Ext) : MSok bT Ext MT sm_354 := achk_ok (nm := 297) (sm := []) (labs := lb_354) (sp := []) (fuel := 17) (rE := [(1000000, (2, 0))]) (maxL := 4) (M := mX12_becomes) mt_X12_becomes rfl os_X12_becomes MT_len ( mA.nil) (pE hX (by decide +kernel)) (by decide +kernel)
def sm_355 : aM := (193, 0, [(1, 67, 0), (0, 57, 57), (0, 0, 9)], [], [(68, 57, 57)], [(some (0, 9), [], [])])
def lb_355 : List aLab := []
theorem ms_355 {Ext : gI → Prop} (hX : pSt Ext) : MSok bT Ext MT sm_355 := achk_ok (nm := 297) (sm := []) (labs := lb_355) (sp := []) (fuel := 17) (rE := [(1000000, (2, 0))]) (maxL := 4) (M := mX12_becomes) mt_X12_becomes rfl os_X12_becomes MT_len ( mA.nil) (pE hX (by decide +kernel)) (by decide +kernel)
def sm_356 : aM := (193, 0, [(1, 67, 0), (0, 52, 52), (0, 0, 9)], [], [(68, 52, 52)], [(some (0, 9), [], [])])
def lb_356 : List aLab := []
theorem ms_356 {Ext : gI → Prop} (hX : pSt Ext) : MSok bT Ext MT sm_356 := achk_ok (nm := 297) (sm := []) (labs := lb_356) (sp := []) (fuel := 17) (rE := [(1000000, (2, 0))]) (maxL := 4) (M := mX12_becomes) mt_X12_becomes rfl os_X12_becomes MT_len ( mA.nil) (pE hX (by decide +kernel)) (by decide +kernel)
def sm_357 : aM := (193, 0, [(1, 67, 0), (0, 47, 47), (0, 0, 9)], [], [(68, 47, 47)], [(some (0, 9), [], [])])
def lb_357 : List aLab := []
theorem ms_357 {Ext : gI → Prop} (hX : pSt Ext) : MSok bT Ext MT sm_357 := achk_ok (nm := 297) (sm := []) (labs := lb_357) (sp := []) (fuel := 17) (rE := [(1000000, (2, 0))]) (maxL := 4) (M := mX12_becomes) mt_X12_becomes rfl os_X12_becomes MT_len ( mA.nil) (pE hX (by decide +kernel)) (by decide +kernel)
def sm_358 : aM := (193, 0, [(1, 67, 0), (0, 42, 42), (0, 0, 9)], [], [(68, 42, 42)], [(some (0, 9), [], [])])
def lb_358 : List aLab := []
theorem ms_358 {Ext : gI → Prop} (hX : pSt Ext) : MSok bT Ext MT sm_358 := achk_ok (nm := 297) (sm := []) (labs := lb_358) (sp := []) (fuel := 17) (rE := [(1000000, (2, 0))]) (maxL := 4) (M := mX12_becomes) mt_X12_becomes rfl os_X12_becomes MT_len ( mA.nil) (pE hX (by decide +kernel)) (by decide +kernel)
def sm_359 : aM := (193, 0, [(1, 67, 0), (0, 37, 37), (0, 0, 9)], [], [(68, 37, 37)], [(some (0, 9), [], [])])
def lb_359 : List aLab := []
theorem ms_359 {Ext : gI → Prop} (hX : pSt Ext) : MSok bT Ext MT sm_359 := achk_ok (nm := 297) (sm := []) (labs := lb_359) (sp := []) (fuel := 17) (rE := [(1000000, (2, 0))]) (maxL := 4) (M := mX12_becomes) mt_X12_becomes rfl os_X12_becomes MT_len ( mA.nil) (pE hX (by decide +kernel)) (by decide +kernel)
def sm_360 : aM := (193, 0, [(1, 67, 0), (0, 61, 61), (0, 0, 99)], [], [(68, 61, 61)], [(some (0, 99), [], [])])
def lb_360 : List aLab := []
theorem ms_360 {Ext : gI → Prop} (hX : pSt Ext) : MSok bT Ext MT sm_360 := achk_ok (nm := 297) (sm := []) (labs := lb_360) (sp := []) (fuel := 17) (rE := [(1000000, (2, 0))]) (maxL := 4) (M := mX12_becomes) mt_X12_becomes rfl os_X12_becomes MT_len ( mA.nil) (pE hX (by decide +kernel)) (by decide +kernel)
def sm_361 : aM := (193, 0, [(1, 67, 0), (0, 56, 56), (0, 0, 99)], [], [(68, 56, 56)], [(some (0, 99), [], [])])
def lb_361 : List aLab := []
theorem ms_361 {Ext : gI → Prop} (hX : pSt Ext) : MSok bT Ext MT sm_361 := achk_ok (nm := 297) (sm := []) (labs := lb_361) (sp := []) (fuel := 17) (rE := [(1000000, (2, 0))]) (maxL := 4) (M := mX12_becomes) mt_X12_becomes rfl os_X12_becomes MT_len ( mA.nil) (pE hX (by decide +kernel)) (by decide +kernel)
def sm_362 : aM := (193, 0, [(1, 67, 0), (0, 51, 51), (0, 0, 99)], [], [(68, 51, 51)], [(some (0, 99), [], [])])
def lb_362 : List aLab := []
theorem ms_362 {Ext : gI → Prop} (hX : pSt Ext) : MSok bT Ext MT sm_362 := achk_ok (nm := 297) (sm := []) (labs := lb_362) (sp := []) (fuel := 17) (rE := [(1000000, (2, 0))]) (maxL := 4) (M := mX12_becomes) mt_X12_becomes rfl os_X12_becomes MT_len ( mA.nil) (pE hX (by decide +kernel)) (by decide +kernel)
def sm_363 : aM := (193, 0, [(1, 67, 0), (0, 46, 46), (0, 0, 99)], [], [(68, 46, 46)], [(some (0, 99), [], [])])
def lb_363 : List aLab := []
theorem ms_363 {Ext : gI → Prop} (hX : pSt Ext) : MSok bT Ext MT sm_363 := achk_ok (nm := 297) (sm := []) (labs := lb_363) (sp := []) (fuel := 17) (rE := [(1000000, (2, 0))]) (maxL := 4) (M := mX12_becomes) mt_X12_becomes rfl os_X12_becomes MT_len ( mA.nil) (pE hX (by decide +kernel)) (by decide +kernel)
def sm_364 : aM := (193, 0, [(1, 67, 0), (0, 41, 41), (0, 0, 99)], [], [(68, 41, 41)], [(some (0, 99), [], [])])
def lb_364 : List aLab := []
theorem ms_364 {Ext : gI → Prop} (hX : pSt Ext) : MSok bT Ext MT sm_364 := achk_ok (nm := 297) (sm := []) (labs := lb_364) (sp := []) (fuel := 17) (rE := [(1000000, (2, 0))]) (maxL := 4) (M := mX12_becomes) mt_X12_becomes rfl os_X12_becomes MT_len ( mA.nil) (pE hX (by decide +kernel)) (by decide +kernel)
def sm_365 : aM := (193, 0, [(1, 67, 0), (0, 36, 36), (0, 0, 99)], [], [(68, 36, 36)], [(some (0, 99), [], [])])
def lb_365 : List aLab := []
theorem ms_365 {Ext : gI → Prop} (hX : pSt Ext) : MSok bT Ext MT sm_365 := achk_ok (nm := 297) (sm := []) (labs := lb_365) (sp := []) (fuel := 17) (rE := [(1000000, (2, 0))]) (maxL := 4) (M := mX12_becomes) mt_X12_becomes rfl os_X12_becomes MT_len ( mA.nil) (pE hX (by decide +kernel)) (by decide +kernel)
def sm_366 : aM := (192, 2, [(1, 67, 0), (0, (-2147483648), 2147483647), (0, (-2147483648), 2147483647), (0, (-2147483648), 2147483647)], [], [(68, 36, 39), (68, 41, 44), (68, 46, 49), (68, 51, 54), (68, 56, 59), (68, 61, 64)], [(some ((-1), 99), [], [])])
def lb_366 : List aLab := []
theorem ms_366 {Ext : gI → Prop} (hX : pSt Ext) : MSok bT Ext MT sm_366 := achk_ok (nm := 297) (sm := [sm_342, sm_343, sm_344, sm_345, sm_346, sm_347, sm_348, sm_349, sm_350, sm_351, sm_352, sm_353, sm_354, sm_355, sm_356, sm_357, sm_358, sm_359, sm_360, sm_361, sm_362, sm_363, sm_364, sm_365, sm_284, sm_340, sm_341, sm_275, sm_273, sm_272]) (labs := lb_366) (sp := [(0, 0, 2, [1, 2, 3, 4, 5]), (59, 0, 1, [])]) (fuel := 45) (rE := [(1000000, (2, 0))]) (maxL := 5) (M := mX12_change) mt_X12_change rfl os_X12_change MT_len ((mA.cons (ms_342 hX) (mA.cons (ms_343 hX) (mA.cons (ms_344 hX) (mA.cons (ms_345 hX) (mA.cons (ms_346 hX) (mA.cons (ms_347 hX) (mA.cons (ms_348 hX) (mA.cons (ms_349 hX) (mA.cons (ms_350 hX) (mA.cons (ms_351 hX) (mA.cons (ms_352 hX) (mA.cons (ms_353 hX) (mA.cons (ms_354 hX) (mA.cons (ms_355 hX) (mA.cons (ms_356 hX) (mA.cons (ms_357 hX) (mA.cons (ms_358 hX) (mA.cons (ms_359 hX) (mA.cons (ms_360 hX) (mA.cons (ms_361 hX) (mA.cons (ms_362 hX) (mA.cons (ms_363 hX) (mA.cons (ms_364 hX) (mA.cons (ms_365 hX) (mA.cons (ms_284 hX) (mA.cons (ms_340 hX) (mA.cons (ms_341 hX) (mA.cons (ms_275 hX) (mA.cons (ms_273 hX) (mA.cons (ms_272 hX) mA.nil))))))))))))))))))))))))))))))) (pE hX (by decide +kernel)) (by decide +kernel)
def sm_367 : aM := (193, 0, [(1, 67, 0), (0, 60, 60), (0, 1, 5)], [], [(68, 60, 60)], [(some (0, 5), [], [])])
def lb_367 : List aLab := []
theorem ms_367 {Ext : gI → Prop} (hX : pSt Ext) : MSok bT Ext MT sm_367 := achk_ok (nm := 297) (sm := []) (labs := lb_367) (sp := []) (fuel := 17) (rE := [(1000000, (2, 0))]) (maxL := 4) (M := mX12_becomes) mt_X12_becomes rfl os_X12_becomes MT_len ( mA.nil) (pE hX (by decide +kernel)) (by decide +kernel)
def sm_368 : aM := (193, 0, [(1, 67, 0), (0, 55, 55), (0, 1, 5)], [], [(68, 55, 55)], [(some (0, 5), [], [])])
def lb_368 : List aLab := []
theorem ms_368 {Ext : gI → Prop} (hX : pSt Ext) : MSok bT Ext MT sm_368 := achk_ok (nm := 297) (sm := []) (labs := lb_368) (sp := []) (fuel := 17) (rE := [(1000000, (2, 0))]) (maxL := 4) (M := mX12_becomes) mt_X12_becomes rfl os_X12_becomes MT_len ( mA.nil) (pE hX (by decide +kernel)) (by decide +kernel)
def sm_369 : aM := (193, 0, [(1, 67, 0), (0, 50, 50), (0, 1, 5)], [], [(68, 50, 50)], [(some (0, 5), [], [])])
def lb_369 : List aLab := []
theorem ms_369 {Ext : gI → Prop} (hX : pSt Ext) : MSok bT Ext MT sm_369 := achk_ok (nm := 297) (sm := []) (labs := lb_369) (sp := []) (fuel := 17) (rE := [(1000000, (2, 0))]) (maxL := 4) (M := mX12_becomes) mt_X12_becomes rfl os_X12_becomes MT_len ( mA.nil) (pE hX (by decide +kernel)) (by decide +kernel)
def sm_370 : aM := (193, 0, [(1, 67, 0), (0, 45, 45), (0, 1, 5)], [], [(68, 45, 45)], [(some (0, 5), [], [])])
def lb_370 : List aLab := []
theorem ms_370 {Ext : gI → Prop} (hX : pSt Ext) : MSok bT Ext MT sm_370 := achk_ok (nm := 297) (sm := []) (labs := lb_370) (sp := []) (fuel := 17) (rE := [(1000000, (2, 0))]) (maxL := 4) (M := mX12_becomes) mt_X12_becomes rfl os_X12_becomes MT_len ( mA.nil) (pE hX (by decide +kernel)) (by decide +kernel)
def sm_371 : aM := (193, 0, [(1, 67, 0), (0, 40, 40), (0, 1, 5)], [], [(68, 40, 40)], [(some (0, 5), [], [])])
def lb_371 : List aLab := []
theorem ms_371 {Ext : gI → Prop} (hX : pSt Ext) : MSok bT Ext MT sm_371 := achk_ok (nm := 297) (sm := []) (labs := lb_371) (sp := []) (fuel := 17) (rE := [(1000000, (2, 0))]) (maxL := 4) (M := mX12_becomes) mt_X12_becomes rfl os_X12_becomes MT_len ( mA.nil) (pE hX (by decide +kernel)) (by decide +kernel)
def sm_372 : aM := (193, 0, [(1, 67, 0), (0, 35, 35), (0, 1, 5)], [], [(68, 35, 35)], [(some (0, 5), [], [])])
def lb_372 : List aLab := []
theorem ms_372 {Ext : gI → Prop} (hX : pSt Ext) : MSok bT Ext MT sm_372 := achk_ok (nm := 297) (sm := []) (labs := lb_372) (sp := []) (fuel := 17) (rE := [(1000000, (2, 0))]) (maxL := 4) (M := mX12_becomes) mt_X12_becomes rfl os_X12_becomes MT_len ( mA.nil) (pE hX (by decide +kernel)) (by decide +kernel)
def sm_373 : aM := (195, 2, [(1, 67, 0), (0, (-2147483648), 2147483647), (0, (-2147483648), 2147483647)], [], [(68, 35, 35), (68, 40, 40), (68, 45, 45), (68, 50, 50), (68, 55, 55), (68, 60, 60)], [(some ((-1), 5), [], [])])
def lb_373 : List aLab := []
theorem ms_373 {Ext : gI → Prop} (hX : pSt Ext) : MSok bT Ext MT sm_373 := achk_ok (nm := 297) (sm := [sm_367, sm_368, sm_369, sm_370, sm_371, sm_372, sm_284, sm_271]) (labs := lb_373) (sp := [(17, 0, 1, [])]) (fuel := 25) (rE := [(1000000, (2, 0))]) (maxL := 3) (M := mX12_remake) mt_X12_remake rfl os_X12_remake MT_len ((mA.cons (ms_367 hX) (mA.cons (ms_368 hX) (mA.cons (ms_369 hX) (mA.cons (ms_370 hX) (mA.cons (ms_371 hX) (mA.cons (ms_372 hX) (mA.cons (ms_284 hX) (mA.cons (ms_271 hX) mA.nil))))))))) (pE hX (by decide +kernel)) (by decide +kernel)
def sm_374 : aM := (127, 0, [(0, (-2147483648), 2147483647), (0, 0, 0), (0, 15, 15)], [], [], [(some (1, 1), [(0, 0, 15)], []), (some (0, 0), [], [])])
def lb_374 : List aLab := []
theorem ms_374 {Ext : gI → Prop} (hX : pSt Ext) : MSok bT Ext MT sm_374 := achk_ok (nm := 297) (sm := []) (labs := lb_374) (sp := []) (fuel := 14) (rE := [(1000000, (2, 0))]) (maxL := 3) (M := mX12_in1) mt_X12_in1 rfl os_X12_in1 MT_len ( mA.nil) (pE hX (by decide +kernel)) (by decide +kernel)
def sm_375 : aM := (193, 0, [(1, 67, 0), (0, 7, 22), (0, 0, 15)], [], [(68, 7, 22)], [(some (0, 15), [], [])])
def lb_375 : List aLab := []
theorem ms_375 {Ext : gI → Prop} (hX : pSt Ext) : MSok bT Ext MT sm_375 := achk_ok (nm := 297) (sm := []) (labs := lb_375) (sp := []) (fuel := 17) (rE := [(1000000, (2, 0))]) (maxL := 4) (M := mX12_becomes) mt_X12_becomes rfl os_X12_becomes MT_len ( mA.nil) (pE hX (by decide +kernel)) (by decide +kernel)
def sm_376 : aM := (197, 1, [(1, 67, 0), (0, (-2147483648), 2147483647), (0, (-2147483648), 2147483647)], [], [(68, 7, 22)], [(some ((-1), 15), [], [])])
def lb_376 : List aLab := []
theorem ms_376 {Ext : gI → Prop} (hX : pSt Ext) : MSok bT Ext MT sm_376 := achk_ok (nm := 297) (sm := [sm_375, sm_374]) (labs := lb_376) (sp := []) (fuel := 23) (rE := [(1000000, (2, 0))]) (maxL := 3) (M := mX12_sun) mt_X12_sun rfl os_X12_sun MT_len ((mA.cons (ms_375 hX) (mA.cons (ms_374 hX) mA.nil))) (pE hX (by decide +kernel)) (by decide +kernel)
def sm_377 : aM := (193, 0, [(1, 67, 0), (0, 23, 28), (0, 0, 9)], [], [(68, 23, 28)], [(some ((-2147483648), 2147483647), [], [])])
def lb_377 : List aLab := []
theorem ms_377 {Ext : gI → Prop} (hX : pSt Ext) : MSok bT Ext MT sm_377 := achk_ok (nm := 297) (sm := []) (labs := lb_377) (sp := []) (fuel := 17) (rE := [(1000000, (2, 0))]) (maxL := 4) (M := mX12_becomes) mt_X12_becomes rfl os_X12_becomes MT_len ( mA.nil) (pE hX (by decide +kernel)) (by decide +kernel)
def sm_378 : aM := (193, 0, [(1, 67, 0), (0, 29, 34), (0, 0, 9)], [], [(68, 29, 34)], [(some ((-2147483648), 2147483647), [], [])])
def lb_378 : List aLab := []
theorem ms_378 {Ext : gI → Prop} (hX : pSt Ext) : MSok bT Ext MT sm_378 := achk_ok (nm := 297) (sm := []) (labs := lb_378) (sp := []) (fuel := 17) (rE := [(1000000, (2, 0))]) (maxL := 4) (M := mX12_becomes) mt_X12_becomes rfl os_X12_becomes MT_len ( mA.nil) (pE hX (by decide +kernel)) (by decide +kernel)
def sm_379 : aM := (199, 2, [(1, 67, 0), (0, (-2147483648), 2147483647), (0, (-2147483648), 2147483647), (0, (-2147483648), 2147483647)], [], [(68, 23, 34)], [(some ((-2147483648), 2147483647), [], [])])
def lb_379 : List aLab := []
theorem ms_379 {Ext : gI → Prop} (hX : pSt Ext) : MSok bT Ext MT sm_379 := achk_ok (nm := 297) (sm := [sm_377, sm_378, sm_276, sm_341, sm_274]) (labs := lb_379) (sp := []) (fuel := 27) (rE := [(1000000, (2, 0))]) (maxL := 4) (M := mX12_gate) mt_X12_gate rfl os_X12_gate MT_len ((mA.cons (ms_377 hX) (mA.cons (ms_378 hX) (mA.cons (ms_276 hX) (mA.cons (ms_341 hX) (mA.cons (ms_274 hX) mA.nil)))))) (pE hX (by decide +kernel)) (by decide +kernel)
def sm_380 : aM := (201, 2, [(1, 67, 0), (0, (-2147483648), 2147483647), (0, (-2147483648), 2147483647)], [], [], [(some ((-2147483648), 2147483647), [], [])])
def lb_380 : List aLab := []
theorem ms_380 {Ext : gI → Prop} (hX : pSt Ext) : MSok bT Ext MT sm_380 := achk_ok (nm := 297) (sm := [sm_276, sm_341]) (labs := lb_380) (sp := []) (fuel := 24) (rE := [(1000000, (2, 0))]) (maxL := 3) (M := mX12_gateOf) mt_X12_gateOf rfl os_X12_gateOf MT_len ((mA.cons (ms_276 hX) (mA.cons (ms_341 hX) mA.nil))) (pE hX (by decide +kernel)) (by decide +kernel)
def sm_381 : aM := (127, 0, [(0, (-2147483648), 2147483647), (0, 1, 1), (0, 16, 16)], [], [], [(some (1, 1), [(0, 1, 16)], []), (some (0, 0), [], [])])
def lb_381 : List aLab := []
theorem ms_381 {Ext : gI → Prop} (hX : pSt Ext) : MSok bT Ext MT sm_381 := achk_ok (nm := 297) (sm := []) (labs := lb_381) (sp := []) (fuel := 14) (rE := [(1000000, (2, 0))]) (maxL := 3) (M := mX12_in1) mt_X12_in1 rfl os_X12_in1 MT_len ( mA.nil) (pE hX (by decide +kernel)) (by decide +kernel)
def sm_382 : aM := (193, 0, [(1, 67, 0), (0, 1, 1), (0, 1, 16)], [], [(68, 1, 1)], [(some (0, 16), [], [])])
def lb_382 : List aLab := []
theorem ms_382 {Ext : gI → Prop} (hX : pSt Ext) : MSok bT Ext MT sm_382 := achk_ok (nm := 297) (sm := []) (labs := lb_382) (sp := []) (fuel := 17) (rE := [(1000000, (2, 0))]) (maxL := 4) (M := mX12_becomes) mt_X12_becomes rfl os_X12_becomes MT_len ( mA.nil) (pE hX (by decide +kernel)) (by decide +kernel)
def sm_383 : aM := (203, 1, [(1, 67, 0), (0, (-2147483648), 2147483647)], [], [(68, 1, 1)], [(some ((-4), 16), [], [])])
def lb_383 : List aLab := []
theorem ms_383 {Ext : gI → Prop} (hX : pSt Ext) : MSok bT Ext MT sm_383 := achk_ok (nm := 297) (sm := [sm_382, sm_381]) (labs := lb_383) (sp := []) (fuel := 21) (rE := [(1000000, (2, 0))]) (maxL := 2) (M := mX12_ends) mt_X12_ends rfl os_X12_ends MT_len ((mA.cons (ms_382 hX) (mA.cons (ms_381 hX) mA.nil))) (pE hX (by decide +kernel)) (by decide +kernel)
def sm_385 : aM := (193, 0, [(1, 67, 0), (0, 0, 0), (0, 0, 0)], [], [(68, 0, 0)], [(some (0, 16), [], [])])
def lb_385 : List aLab := []
theorem ms_385 {Ext : gI → Prop} (hX : pSt Ext) : MSok bT Ext MT sm_385 := achk_ok (nm := 297) (sm := []) (labs := lb_385) (sp := []) (fuel := 17) (rE := [(1000000, (2, 0))]) (maxL := 4) (M := mX12_becomes) mt_X12_becomes rfl os_X12_becomes MT_len ( mA.nil) (pE hX (by decide +kernel)) (by decide +kernel)
def sm_390 : aM := (205, 1, [(1, 67, 0)], [], [(68, 0, 0), (68, 2, 2), (68, 39, 39), (68, 44, 44), (68, 49, 49), (68, 54, 54), (68, 59, 59), (68, 64, 64)], [(some (0, 16), [], [])])
def lb_390 : List aLab := [(9, [some (1, 67), some (0, 0)], [], [(0, 6, none)], [(68, 2, (2, 0))], [(99991, (2, 0)), (6, (0, 0)), (99991, (2, 0))])]
theorem ms_390 {Ext : gI → Prop} (hX : pSt Ext) : MSok bT Ext MT sm_390 := achk_ok (nm := 297) (sm := [sm_385, sm_281]) (labs := lb_390) (sp := []) (fuel := 19) (rE := [(1000000, (2, 0)), (0, (2, 0)), (0, (2, 0))]) (maxL := 2) (M := mX12_anew) mt_X12_anew rfl os_X12_anew MT_len ((mA.cons (ms_385 hX) (mA.cons (ms_281 hX) mA.nil))) (pE hX (by decide +kernel)) (by decide +kernel)
def sm_396 : aM := (156, 1, [(1, 67, 0)], [], [], [(some ((-2147483648), 2147483647), [], [])])
def lb_396 : List aLab := [(4, [some (1, 67), some (0, 0), some (0, 1)], [], [((-2147483648), 2147483647, none), (0, 6, none)], [], [(99996, (2, 0)), (6, (0, 1)), (99996, (2, 0))])]
theorem ms_396 {Ext : gI → Prop} (hX : pSt Ext) : MSok bT Ext MT sm_396 := achk_ok (nm := 297) (sm := [sm_318]) (labs := lb_396) (sp := []) (fuel := 21) (rE := [(1000000, (2, 0)), (0, (2, 0)), (0, (2, 0))]) (maxL := 3) (M := mX12_teethAll) mt_X12_teethAll rfl os_X12_teethAll MT_len ((mA.cons (ms_318 hX) mA.nil)) (pE hX (by decide +kernel)) (by decide +kernel)
def sm_397 : aM := (157, 1, [(1, 67, 0), (0, 4, 4)], [], [], [(some ((-2147483648), 2147483647), [], [])])
def lb_397 : List aLab := [(4, [some (1, 67), some (2, 4), some (0, 0), some (0, 1)], [], [((-2147483648), 2147483647, none), (0, 6, none)], [], [(99996, (2, 0)), (6, (0, 1)), (99996, (2, 0))])]
theorem ms_397 {Ext : gI → Prop} (hX : pSt Ext) : MSok bT Ext MT sm_397 := achk_ok (nm := 297) (sm := [sm_316]) (labs := lb_397) (sp := []) (fuel := 26) (rE := [(1000000, (2, 0)), (0, (2, 0)), (0, (2, 0))]) (maxL := 4) (M := mX12_those) mt_X12_those rfl os_X12_those MT_len ((mA.cons (ms_316 hX) mA.nil)) (pE hX (by decide +kernel)) (by decide +kernel)
def sm_398 : aM := (150, 0, [(1, 67, 0)], [(68, 0, 0, 16)], [], [(some (1, 1), [], []), (some (0, 0), [], [(68, 0, 0, 15), (68, 1, 1, 16)])])
def lb_398 : List aLab := []
theorem ms_398 {Ext : gI → Prop} (hX : pSt Ext) : MSok bT Ext MT sm_398 := achk_ok (nm := 297) (sm := []) (labs := lb_398) (sp := []) (fuel := 17) (rE := [(1000000, (2, 0))]) (maxL := 1) (M := mX12_isOver) mt_X12_isOver rfl os_X12_isOver MT_len ( mA.nil) (pE hX (by decide +kernel)) (by decide +kernel)
def sm_399 : aM := (207, 2, [(1, 67, 0), (0, (-2147483648), 2147483647)], [], [], [(some ((-2147483648), 2147483647), [], [])])
def lb_399 : List aLab := []
theorem ms_399 {Ext : gI → Prop} (hX : pSt Ext) : MSok bT Ext MT sm_399 := achk_ok (nm := 297) (sm := [sm_396, sm_326, sm_397, sm_398]) (labs := lb_399) (sp := []) (fuel := 13) (rE := [(1000000, (2, 0))]) (maxL := 2) (M := mX12_state) mt_X12_state rfl os_X12_state MT_len ((mA.cons (ms_396 hX) (mA.cons (ms_326 hX) (mA.cons (ms_397 hX) (mA.cons (ms_398 hX) mA.nil))))) (pE hX (by decide +kernel)) (by decide +kernel)
def sm_404 : aM := (141, 0, [(1, 67, 0), (0, 0, 5), (0, 4, 4), (0, 1, 1)], [], [(68, 39, 39), (68, 44, 44), (68, 49, 49), (68, 54, 54), (68, 59, 59), (68, 64, 64)], [(none, [], [])])
def lb_404 : List aLab := []
theorem ms_404 {Ext : gI → Prop} (hX : pSt Ext) : MSok bT Ext MT sm_404 := achk_ok (nm := 297) (sm := []) (labs := lb_404) (sp := [(0, 0, 1, [])]) (fuel := 18) (rE := [(1000000, (2, 0))]) (maxL := 4) (M := mX12_puts) mt_X12_puts rfl os_X12_puts MT_len ( mA.nil) (pE hX (by decide +kernel)) (by decide +kernel)
def sm_405 : aM := (142, 4, [(1, 67, 0), (0, 0, 5)], [], [(68, 39, 39), (68, 44, 44), (68, 49, 49), (68, 54, 54), (68, 59, 59), (68, 64, 64)], [(some (0, 9), [], [])])
def lb_405 : List aLab := []
theorem ms_405 {Ext : gI → Prop} (hX : pSt Ext) : MSok bT Ext MT sm_405 := achk_ok (nm := 297) (sm := [sm_324, sm_404, sm_281]) (labs := lb_405) (sp := []) (fuel := 19) (rE := [(1000000, (2, 0))]) (maxL := 3) (M := mX12_turnsNow) mt_X12_turnsNow rfl os_X12_turnsNow MT_len ((mA.cons (ms_324 hX) (mA.cons (ms_404 hX) (mA.cons (ms_281 hX) mA.nil)))) (pE hX (by decide +kernel)) (by decide +kernel)
def sm_406 : aM := (143, 0, [(0, (-2147483648), 2147483647), (0, 99, 99)], [], [], [(some (0, 99), [], [])])
def lb_406 : List aLab := []
theorem ms_406 {Ext : gI → Prop} (hX : pSt Ext) : MSok bT Ext MT sm_406 := achk_ok (nm := 297) (sm := []) (labs := lb_406) (sp := []) (fuel := 13) (rE := [(1000000, (2, 0))]) (maxL := 2) (M := mX12_held) mt_X12_held rfl os_X12_held MT_len ( mA.nil) (pE hX (by decide +kernel)) (by decide +kernel)
def sm_415 : aM := (127, 0, [(0, (-2147483648), 2147483647), (0, 0, 0), (0, 16, 16)], [], [], [(some (1, 1), [(0, 0, 16)], []), (some (0, 0), [], [])])
def lb_415 : List aLab := []
theorem ms_415 {Ext : gI → Prop} (hX : pSt Ext) : MSok bT Ext MT sm_415 := achk_ok (nm := 297) (sm := []) (labs := lb_415) (sp := []) (fuel := 14) (rE := [(1000000, (2, 0))]) (maxL := 3) (M := mX12_in1) mt_X12_in1 rfl os_X12_in1 MT_len ( mA.nil) (pE hX (by decide +kernel)) (by decide +kernel)
def sm_416 : aM := (152, 0, [(1, 67, 0)], [], [(70, 0, 64)], [(none, [], [(70, 5, 10000000068, 5)])])
theorem ms_416 {Ext : gI → Prop} (_hX : pSt Ext) : MSok bT Ext MT sm_416 := ms_cp (x := 68) (y := 70) (sp := 0) (dp := 0) (N := 65) mt_X12_layDown g_layDown (by decide +kernel) (by decide +kernel) (by decide +kernel)
def sm_418 : aM := (154, 0, [(1, 67, 0)], [(68, 5, 10000000070, 5)], [(68, 0, 4), (68, 6, 64)], [(none, [], [])])
theorem ms_418 {Ext : gI → Prop} (_hX : pSt Ext) : MSok bT Ext MT sm_418 := ms_cp (x := 70) (y := 68) (sp := 0) (dp := 0) (N := 65) mt_X12_layBack g_layBack (by decide +kernel) (by decide +kernel) (by decide +kernel)
def sm_420 : aM := (150, 0, [(1, 67, 0)], [(68, 0, 16, 16)], [], [(some (1, 1), [], [(68, 0, 16, 16)])])
def lb_420 : List aLab := []
theorem ms_420 {Ext : gI → Prop} (hX : pSt Ext) : MSok bT Ext MT sm_420 := achk_ok (nm := 297) (sm := []) (labs := lb_420) (sp := []) (fuel := 17) (rE := [(1000000, (2, 0))]) (maxL := 1) (M := mX12_isOver) mt_X12_isOver rfl os_X12_isOver MT_len ( mA.nil) (pE hX (by decide +kernel)) (by decide +kernel)
def sm_421 : aM := (150, 0, [(1, 67, 0)], [(68, 0, 15, 15)], [], [(some (1, 1), [], [(68, 0, 15, 15), (68, 1, 0, 15)]), (some (0, 0), [], [(68, 0, 15, 15), (68, 1, 16, 16)])])
def lb_421 : List aLab := []
theorem ms_421 {Ext : gI → Prop} (hX : pSt Ext) : MSok bT Ext MT sm_421 := achk_ok (nm := 297) (sm := []) (labs := lb_421) (sp := []) (fuel := 17) (rE := [(1000000, (2, 0))]) (maxL := 1) (M := mX12_isOver) mt_X12_isOver rfl os_X12_isOver MT_len ( mA.nil) (pE hX (by decide +kernel)) (by decide +kernel)
def sm_423 : aM := (150, 0, [(1, 67, 0)], [(68, 0, 14, 14)], [], [(some (1, 1), [], [(68, 0, 14, 14), (68, 1, 0, 14)]), (some (0, 0), [], [(68, 0, 14, 14), (68, 1, 15, 16)])])
def lb_423 : List aLab := []
theorem ms_423 {Ext : gI → Prop} (hX : pSt Ext) : MSok bT Ext MT sm_423 := achk_ok (nm := 297) (sm := []) (labs := lb_423) (sp := []) (fuel := 17) (rE := [(1000000, (2, 0))]) (maxL := 1) (M := mX12_isOver) mt_X12_isOver rfl os_X12_isOver MT_len ( mA.nil) (pE hX (by decide +kernel)) (by decide +kernel)
def sm_425 : aM := (150, 0, [(1, 67, 0)], [(68, 0, 13, 13)], [], [(some (1, 1), [], [(68, 0, 13, 13), (68, 1, 0, 13)]), (some (0, 0), [], [(68, 0, 13, 13), (68, 1, 14, 16)])])
def lb_425 : List aLab := []
theorem ms_425 {Ext : gI → Prop} (hX : pSt Ext) : MSok bT Ext MT sm_425 := achk_ok (nm := 297) (sm := []) (labs := lb_425) (sp := []) (fuel := 17) (rE := [(1000000, (2, 0))]) (maxL := 1) (M := mX12_isOver) mt_X12_isOver rfl os_X12_isOver MT_len ( mA.nil) (pE hX (by decide +kernel)) (by decide +kernel)
def sm_427 : aM := (150, 0, [(1, 67, 0)], [(68, 0, 12, 12)], [], [(some (1, 1), [], [(68, 0, 12, 12), (68, 1, 0, 12)]), (some (0, 0), [], [(68, 0, 12, 12), (68, 1, 13, 16)])])
def lb_427 : List aLab := []
theorem ms_427 {Ext : gI → Prop} (hX : pSt Ext) : MSok bT Ext MT sm_427 := achk_ok (nm := 297) (sm := []) (labs := lb_427) (sp := []) (fuel := 17) (rE := [(1000000, (2, 0))]) (maxL := 1) (M := mX12_isOver) mt_X12_isOver rfl os_X12_isOver MT_len ( mA.nil) (pE hX (by decide +kernel)) (by decide +kernel)
def sm_429 : aM := (150, 0, [(1, 67, 0)], [(68, 0, 11, 11)], [], [(some (1, 1), [], [(68, 0, 11, 11), (68, 1, 0, 11)]), (some (0, 0), [], [(68, 0, 11, 11), (68, 1, 12, 16)])])
def lb_429 : List aLab := []
theorem ms_429 {Ext : gI → Prop} (hX : pSt Ext) : MSok bT Ext MT sm_429 := achk_ok (nm := 297) (sm := []) (labs := lb_429) (sp := []) (fuel := 17) (rE := [(1000000, (2, 0))]) (maxL := 1) (M := mX12_isOver) mt_X12_isOver rfl os_X12_isOver MT_len ( mA.nil) (pE hX (by decide +kernel)) (by decide +kernel)
def sm_431 : aM := (150, 0, [(1, 67, 0)], [(68, 0, 10, 10)], [], [(some (1, 1), [], [(68, 0, 10, 10), (68, 1, 0, 10)]), (some (0, 0), [], [(68, 0, 10, 10), (68, 1, 11, 16)])])
def lb_431 : List aLab := []
theorem ms_431 {Ext : gI → Prop} (hX : pSt Ext) : MSok bT Ext MT sm_431 := achk_ok (nm := 297) (sm := []) (labs := lb_431) (sp := []) (fuel := 17) (rE := [(1000000, (2, 0))]) (maxL := 1) (M := mX12_isOver) mt_X12_isOver rfl os_X12_isOver MT_len ( mA.nil) (pE hX (by decide +kernel)) (by decide +kernel)
def sm_433 : aM := (150, 0, [(1, 67, 0)], [(68, 0, 9, 9)], [], [(some (1, 1), [], [(68, 0, 9, 9), (68, 1, 0, 9)]), (some (0, 0), [], [(68, 0, 9, 9), (68, 1, 10, 16)])])
def lb_433 : List aLab := []
theorem ms_433 {Ext : gI → Prop} (hX : pSt Ext) : MSok bT Ext MT sm_433 := achk_ok (nm := 297) (sm := []) (labs := lb_433) (sp := []) (fuel := 17) (rE := [(1000000, (2, 0))]) (maxL := 1) (M := mX12_isOver) mt_X12_isOver rfl os_X12_isOver MT_len ( mA.nil) (pE hX (by decide +kernel)) (by decide +kernel)
def sm_435 : aM := (150, 0, [(1, 67, 0)], [(68, 0, 8, 8)], [], [(some (1, 1), [], [(68, 0, 8, 8), (68, 1, 0, 8)]), (some (0, 0), [], [(68, 0, 8, 8), (68, 1, 9, 16)])])
def lb_435 : List aLab := []
theorem ms_435 {Ext : gI → Prop} (hX : pSt Ext) : MSok bT Ext MT sm_435 := achk_ok (nm := 297) (sm := []) (labs := lb_435) (sp := []) (fuel := 17) (rE := [(1000000, (2, 0))]) (maxL := 1) (M := mX12_isOver) mt_X12_isOver rfl os_X12_isOver MT_len ( mA.nil) (pE hX (by decide +kernel)) (by decide +kernel)
def sm_437 : aM := (150, 0, [(1, 67, 0)], [(68, 0, 7, 7)], [], [(some (1, 1), [], [(68, 0, 7, 7), (68, 1, 0, 7)]), (some (0, 0), [], [(68, 0, 7, 7), (68, 1, 8, 16)])])
def lb_437 : List aLab := []
theorem ms_437 {Ext : gI → Prop} (hX : pSt Ext) : MSok bT Ext MT sm_437 := achk_ok (nm := 297) (sm := []) (labs := lb_437) (sp := []) (fuel := 17) (rE := [(1000000, (2, 0))]) (maxL := 1) (M := mX12_isOver) mt_X12_isOver rfl os_X12_isOver MT_len ( mA.nil) (pE hX (by decide +kernel)) (by decide +kernel)
def sm_439 : aM := (150, 0, [(1, 67, 0)], [(68, 0, 6, 6)], [], [(some (1, 1), [], [(68, 0, 6, 6), (68, 1, 0, 6)]), (some (0, 0), [], [(68, 0, 6, 6), (68, 1, 7, 16)])])
def lb_439 : List aLab := []
theorem ms_439 {Ext : gI → Prop} (hX : pSt Ext) : MSok bT Ext MT sm_439 := achk_ok (nm := 297) (sm := []) (labs := lb_439) (sp := []) (fuel := 17) (rE := [(1000000, (2, 0))]) (maxL := 1) (M := mX12_isOver) mt_X12_isOver rfl os_X12_isOver MT_len ( mA.nil) (pE hX (by decide +kernel)) (by decide +kernel)
def sm_441 : aM := (150, 0, [(1, 67, 0)], [(68, 0, 5, 5)], [], [(some (1, 1), [], [(68, 0, 5, 5), (68, 1, 0, 5)]), (some (0, 0), [], [(68, 0, 5, 5), (68, 1, 6, 16)])])
def lb_441 : List aLab := []
theorem ms_441 {Ext : gI → Prop} (hX : pSt Ext) : MSok bT Ext MT sm_441 := achk_ok (nm := 297) (sm := []) (labs := lb_441) (sp := []) (fuel := 17) (rE := [(1000000, (2, 0))]) (maxL := 1) (M := mX12_isOver) mt_X12_isOver rfl os_X12_isOver MT_len ( mA.nil) (pE hX (by decide +kernel)) (by decide +kernel)
def sm_443 : aM := (150, 0, [(1, 67, 0)], [(68, 0, 4, 4)], [], [(some (1, 1), [], [(68, 0, 4, 4), (68, 1, 0, 4)]), (some (0, 0), [], [(68, 0, 4, 4), (68, 1, 5, 16)])])
def lb_443 : List aLab := []
theorem ms_443 {Ext : gI → Prop} (hX : pSt Ext) : MSok bT Ext MT sm_443 := achk_ok (nm := 297) (sm := []) (labs := lb_443) (sp := []) (fuel := 17) (rE := [(1000000, (2, 0))]) (maxL := 1) (M := mX12_isOver) mt_X12_isOver rfl os_X12_isOver MT_len ( mA.nil) (pE hX (by decide +kernel)) (by decide +kernel)
def sm_445 : aM := (150, 0, [(1, 67, 0)], [(68, 0, 3, 3)], [], [(some (1, 1), [], [(68, 0, 3, 3), (68, 1, 0, 3)]), (some (0, 0), [], [(68, 0, 3, 3), (68, 1, 4, 16)])])
def lb_445 : List aLab := []
theorem ms_445 {Ext : gI → Prop} (hX : pSt Ext) : MSok bT Ext MT sm_445 := achk_ok (nm := 297) (sm := []) (labs := lb_445) (sp := []) (fuel := 17) (rE := [(1000000, (2, 0))]) (maxL := 1) (M := mX12_isOver) mt_X12_isOver rfl os_X12_isOver MT_len ( mA.nil) (pE hX (by decide +kernel)) (by decide +kernel)
def sm_447 : aM := (150, 0, [(1, 67, 0)], [(68, 0, 2, 2)], [], [(some (1, 1), [], [(68, 0, 2, 2), (68, 1, 0, 2)]), (some (0, 0), [], [(68, 0, 2, 2), (68, 1, 3, 16)])])
def lb_447 : List aLab := []
theorem ms_447 {Ext : gI → Prop} (hX : pSt Ext) : MSok bT Ext MT sm_447 := achk_ok (nm := 297) (sm := []) (labs := lb_447) (sp := []) (fuel := 17) (rE := [(1000000, (2, 0))]) (maxL := 1) (M := mX12_isOver) mt_X12_isOver rfl os_X12_isOver MT_len ( mA.nil) (pE hX (by decide +kernel)) (by decide +kernel)
def sm_449 : aM := (150, 0, [(1, 67, 0)], [(68, 0, 1, 1)], [], [(some (1, 1), [], [(68, 0, 1, 1), (68, 1, 0, 1)]), (some (0, 0), [], [(68, 0, 1, 1), (68, 1, 2, 16)])])
def lb_449 : List aLab := []
theorem ms_449 {Ext : gI → Prop} (hX : pSt Ext) : MSok bT Ext MT sm_449 := achk_ok (nm := 297) (sm := []) (labs := lb_449) (sp := []) (fuel := 17) (rE := [(1000000, (2, 0))]) (maxL := 1) (M := mX12_isOver) mt_X12_isOver rfl os_X12_isOver MT_len ( mA.nil) (pE hX (by decide +kernel)) (by decide +kernel)
def sm_451 : aM := (150, 0, [(1, 67, 0)], [(68, 0, 0, 0)], [], [(some (1, 1), [], [(68, 0, 0, 0), (68, 1, 0, 0)]), (some (0, 0), [], [(68, 0, 0, 0), (68, 1, 1, 16)])])
def lb_451 : List aLab := []
theorem ms_451 {Ext : gI → Prop} (hX : pSt Ext) : MSok bT Ext MT sm_451 := achk_ok (nm := 297) (sm := []) (labs := lb_451) (sp := []) (fuel := 17) (rE := [(1000000, (2, 0))]) (maxL := 1) (M := mX12_isOver) mt_X12_isOver rfl os_X12_isOver MT_len ( mA.nil) (pE hX (by decide +kernel)) (by decide +kernel)
def sm_470 : aM := (226, 3, [(1, 67, 0), (0, (-2147483648), 2147483647)], [], [], [(some ((-2147483648), 2147483647), [], [])])
def lb_470 : List aLab := [(14, [some (1, 67), some (0, 0), some (0, 1), some (0, 2)], [], [(0, 5, none), ((-2147483648), 2147483647, none), (0, 10, none)], [], [(99986, (2, 0)), (10, (0, 2)), (99986, (2, 0))])]
theorem ms_470 {Ext : gI → Prop} (hX : pSt Ext) : MSok bT Ext MT sm_470 := achk_ok (nm := 297) (sm := [sm_284, sm_323]) (labs := lb_470) (sp := []) (fuel := 23) (rE := [(1000000, (2, 0)), (0, (2, 0)), (0, (2, 0))]) (maxL := 4) (M := mX12_opens) mt_X12_opens rfl os_X12_opens MT_len ((mA.cons (ms_284 hX) (mA.cons (ms_323 hX) mA.nil))) (pE hX (by decide +kernel)) (by decide +kernel)
def sm_480 : aM := (159, 2, [(1, 67, 0), (0, 0, 5), (0, 0, 5)], [], [], [(some (1, 1), [], []), (some (0, 0), [], [])])
def lb_480 : List aLab := []
theorem ms_480 {Ext : gI → Prop} (hX : pSt Ext) : MSok bT Ext MT sm_480 := achk_ok (nm := 297) (sm := [sm_317, sm_321, sm_316]) (labs := lb_480) (sp := []) (fuel := 39) (rE := [(1000000, (2, 0))]) (maxL := 4) (M := mX12_areClose) mt_X12_areClose rfl os_X12_areClose MT_len ((mA.cons (ms_317 hX) (mA.cons (ms_321 hX) (mA.cons (ms_316 hX) mA.nil)))) (pE hX (by decide +kernel)) (by decide +kernel)
def sm_481 : aM := (158, 3, [(1, 67, 0), (0, 0, 5)], [], [], [(some ((-2147483648), 2147483647), [], [])])
def lb_481 : List aLab := [(6, [some (1, 67), some (0, 0), some (0, 1), some (0, 2), none, none], [], [(0, 5, none), ((-2147483648), 2147483647, none), (0, 6, none)], [], [(99994, (2, 0)), (6, (0, 2)), (99994, (2, 0)), (0, (2, 0)), (0, (2, 0)), (0, (2, 0)), (0, (2, 0))]), (19, [some (1, 67), some (0, 0), some (0, 1), some (0, 2), some (0, 3), none], [], [(0, 5, none), ((-2147483648), 2147483647, none), (0, 5, none), (0, 6, none), (1, 6, none)], [(68, 4, (0, 4))], [(99994, (2, 0)), (6, (0, 2)), (99981, (2, 0)), (6, (0, 3)), (99981, (2, 0)), (0, (2, 0)), (0, (2, 0))]), (33, [some (1, 67), some (0, 0), some (0, 1), some (0, 2), some (0, 3), some (0, 4)], [], [(0, 5, none), ((-2147483648), 2147483647, none), (0, 5, none), (0, 5, none), (0, 6, none), (1, 6, none)], [(68, 4, (0, 5))], [(99994, (2, 0)), (6, (0, 2)), (99981, (2, 0)), (6, (0, 3)), (99967, (2, 0)), (6, (0, 4)), (99967, (2, 0))])]
theorem ms_481 {Ext : gI → Prop} (hX : pSt Ext) : MSok bT Ext MT sm_481 := achk_ok (nm := 297) (sm := [sm_316, sm_480]) (labs := lb_481) (sp := []) (fuel := 33) (rE := [(1000000, (2, 0)), (0, (2, 0)), (0, (2, 0)), (0, (2, 0)), (0, (2, 0)), (0, (2, 0)), (0, (2, 0))]) (maxL := 6) (M := mX12_bunchOf) mt_X12_bunchOf rfl os_X12_bunchOf MT_len ((mA.cons (ms_316 hX) (mA.cons (ms_480 hX) mA.nil))) (pE hX (by decide +kernel)) (by decide +kernel)
def sm_482 : aM := (230, 4, [(1, 67, 0), (0, (-2147483648), 2147483647)], [], [], [(some ((-2147483648), 2147483647), [], [])])
def lb_482 : List aLab := [(29, [some (1, 67), some (2, (-1)), some (0, 0), some (0, 1), none], [], [((-2147483648), 2147483647, none), (0, 6, none)], [], [(99971, (2, 0)), (6, (0, 1)), (99971, (2, 0))])]
theorem ms_482 {Ext : gI → Prop} (hX : pSt Ext) : MSok bT Ext MT sm_482 := achk_ok (nm := 297) (sm := [sm_481, sm_284]) (labs := lb_482) (sp := []) (fuel := 31) (rE := [(1000000, (2, 0)), (0, (2, 0)), (0, (2, 0))]) (maxL := 5) (M := mX12_bunches) mt_X12_bunches rfl os_X12_bunches MT_len ((mA.cons (ms_481 hX) (mA.cons (ms_284 hX) mA.nil))) (pE hX (by decide +kernel)) (by decide +kernel)
def sm_483 : aM := (127, 0, [(0, (-2147483648), 2147483647), (0, 0, 0), (0, 4, 4)], [], [], [(some (1, 1), [(0, 0, 4)], []), (some (0, 0), [], [])])
def lb_483 : List aLab := []
theorem ms_483 {Ext : gI → Prop} (hX : pSt Ext) : MSok bT Ext MT sm_483 := achk_ok (nm := 297) (sm := []) (labs := lb_483) (sp := []) (fuel := 14) (rE := [(1000000, (2, 0))]) (maxL := 3) (M := mX12_in1) mt_X12_in1 rfl os_X12_in1 MT_len ( mA.nil) (pE hX (by decide +kernel)) (by decide +kernel)
def sm_484 : aM := (165, 1, [(0, (-2147483648), 2147483647)], [], [], [(some (0, 0), [], []), (some (1, 1), [(0, 0, 4)], [])])
def lb_484 : List aLab := []
theorem ms_484 {Ext : gI → Prop} (hX : pSt Ext) : MSok bT Ext MT sm_484 := achk_ok (nm := 297) (sm := [sm_483]) (labs := lb_484) (sp := []) (fuel := 10) (rE := [(1000000, (2, 0))]) (maxL := 1) (M := mX12_isPlan) mt_X12_isPlan rfl os_X12_isPlan MT_len ((mA.cons (ms_483 hX) mA.nil)) (pE hX (by decide +kernel)) (by decide +kernel)
def sm_485 : aM := (163, 1, [(1, 67, 0), (0, 0, 4)], [(68, 0, 0, 16)], [], [(some (0, 0), [], []), (some (1, 1), [(1, 1, 4)], [(68, 0, 0, 15), (68, 1, 1, 16)]), (some (2, 2), [(1, 2, 4)], [(68, 0, 0, 14), (68, 1, 1, 16)]), (some (3, 3), [(1, 3, 4)], [(68, 0, 0, 13), (68, 1, 1, 16)]), (some (4, 4), [(1, 4, 4)], [(68, 0, 0, 12), (68, 1, 1, 16)])])
def lb_485 : List aLab := []
theorem ms_485 {Ext : gI → Prop} (hX : pSt Ext) : MSok bT Ext MT sm_485 := achk_ok (nm := 297) (sm := [sm_420, sm_421, sm_423, sm_425, sm_427, sm_429, sm_431, sm_433, sm_435, sm_437, sm_439, sm_441, sm_443, sm_445, sm_447, sm_449, sm_451]) (labs := lb_485) (sp := [(0, 69, 0, []), (0, 0, 1, []), (25, 0, 2, [])]) (fuel := 27) (rE := [(1000000, (2, 0))]) (maxL := 3) (M := mX12_daysOf) mt_X12_daysOf rfl os_X12_daysOf MT_len ((mA.cons (ms_420 hX) (mA.cons (ms_421 hX) (mA.cons (ms_423 hX) (mA.cons (ms_425 hX) (mA.cons (ms_427 hX) (mA.cons (ms_429 hX) (mA.cons (ms_431 hX) (mA.cons (ms_433 hX) (mA.cons (ms_435 hX) (mA.cons (ms_437 hX) (mA.cons (ms_439 hX) (mA.cons (ms_441 hX) (mA.cons (ms_443 hX) (mA.cons (ms_445 hX) (mA.cons (ms_447 hX) (mA.cons (ms_449 hX) (mA.cons (ms_451 hX) mA.nil)))))))))))))))))) (pE hX (by decide +kernel)) (by decide +kernel)
