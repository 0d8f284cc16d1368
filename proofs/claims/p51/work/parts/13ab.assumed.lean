/-! ===== summaries that other parts prove ===== -/
def sm_295 : aM := (116, 6, [(1, 67, 0), (0, 0, 7), (0, 0, 5)], [], [(71, 0, 199)], [(some (0, 1), [], [])])
def pX (Ext : gI → Prop) : Prop := pSt Ext ∧ mA Ext [sm_295]
