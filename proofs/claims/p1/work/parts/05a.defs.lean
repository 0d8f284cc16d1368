abbrev mX11_isGate : gM := (yX11_isGate, cX11_isGate, 1, (some .boolean))
abbrev mX11_isIn : gM := (yX11_isIn, cX11_isIn, 3, (some .boolean))
abbrev mX11_isKeyKind : gM := (yX11_isKeyKind, cX11_isKeyKind, 1, (some .boolean))
abbrev mX11_isPlace : gM := (yX11_isPlace, cX11_isPlace, 1, (some .boolean))
abbrev mX11_isPlan : gM := (yX11_isPlan, cX11_isPlan, 1, (some .boolean))
abbrev mX1_isAct : gM := (yX1_isAct, cX1_isAct, 2, (some .boolean))
abbrev mX1_isKey : gM := (yX1_isKey, cX1_isKey, 2, (some .boolean))
abbrev mX1_isOver : gM := (yX1_isOver, cX1_isOver, 1, (some .boolean))
theorem dX11_isGate_0 : decode cX11_isGate 0 = .ok (.iload_n 0, 1) := by decide +kernel
theorem dX11_isGate_1 : decode cX11_isGate 1 = .ok (.iconst 0, 1) := by decide +kernel
theorem dX11_isGate_2 : decode cX11_isGate 2 = .ok (.iconst 5, 1) := by decide +kernel
theorem dX11_isGate_3 : decode cX11_isGate 3 = .ok (.invokestatic 90, 3) := by decide +kernel
theorem dX11_isGate_6 : decode cX11_isGate 6 = .ok (.ireturn, 1) := by decide +kernel
theorem dX11_isIn_0 : decode cX11_isIn 0 = .ok (.iload_n 0, 1) := by decide +kernel
theorem dX11_isIn_1 : decode cX11_isIn 1 = .ok (.iload_n 1, 1) := by decide +kernel
theorem dX11_isIn_2 : decode cX11_isIn 2 = .ok (.if_icmp .lt 12, 3) := by decide +kernel
theorem dX11_isIn_5 : decode cX11_isIn 5 = .ok (.iload_n 0, 1) := by decide +kernel
theorem dX11_isIn_6 : decode cX11_isIn 6 = .ok (.iload_n 2, 1) := by decide +kernel
theorem dX11_isIn_7 : decode cX11_isIn 7 = .ok (.if_icmp .gt 7, 3) := by decide +kernel
theorem dX11_isIn_10 : decode cX11_isIn 10 = .ok (.iconst 1, 1) := by decide +kernel
theorem dX11_isIn_11 : decode cX11_isIn 11 = .ok (.goto 4, 3) := by decide +kernel
theorem dX11_isIn_14 : decode cX11_isIn 14 = .ok (.iconst 0, 1) := by decide +kernel
theorem dX11_isIn_15 : decode cX11_isIn 15 = .ok (.ireturn, 1) := by decide +kernel
theorem dX11_isKeyKind_0 : decode cX11_isKeyKind 0 = .ok (.iload_n 0, 1) := by decide +kernel
theorem dX11_isKeyKind_1 : decode cX11_isKeyKind 1 = .ok (.iconst 1, 1) := by decide +kernel
theorem dX11_isKeyKind_2 : decode cX11_isKeyKind 2 = .ok (.iconst 5, 1) := by decide +kernel
theorem dX11_isKeyKind_3 : decode cX11_isKeyKind 3 = .ok (.invokestatic 90, 3) := by decide +kernel
theorem dX11_isKeyKind_6 : decode cX11_isKeyKind 6 = .ok (.ireturn, 1) := by decide +kernel
theorem dX11_isPlace_0 : decode cX11_isPlace 0 = .ok (.iload_n 0, 1) := by decide +kernel
theorem dX11_isPlace_1 : decode cX11_isPlace 1 = .ok (.iconst 0, 1) := by decide +kernel
theorem dX11_isPlace_2 : decode cX11_isPlace 2 = .ok (.iconst 3, 1) := by decide +kernel
theorem dX11_isPlace_3 : decode cX11_isPlace 3 = .ok (.invokestatic 90, 3) := by decide +kernel
theorem dX11_isPlace_6 : decode cX11_isPlace 6 = .ok (.ireturn, 1) := by decide +kernel
theorem dX11_isPlan_0 : decode cX11_isPlan 0 = .ok (.iload_n 0, 1) := by decide +kernel
theorem dX11_isPlan_1 : decode cX11_isPlan 1 = .ok (.iconst 0, 1) := by decide +kernel
theorem dX11_isPlan_2 : decode cX11_isPlan 2 = .ok (.iconst 4, 1) := by decide +kernel
theorem dX11_isPlan_3 : decode cX11_isPlan 3 = .ok (.invokestatic 90, 3) := by decide +kernel
theorem dX11_isPlan_6 : decode cX11_isPlan 6 = .ok (.ireturn, 1) := by decide +kernel
theorem dX1_isAct_0 : decode cX1_isAct 0 = .ok (.iload_n 1, 1) := by decide +kernel
theorem dX1_isAct_1 : decode cX1_isAct 1 = .ok (.ifCond .lt 15, 3) := by decide +kernel
theorem dX1_isAct_4 : decode cX1_isAct 4 = .ok (.iload_n 1, 1) := by decide +kernel
theorem dX1_isAct_5 : decode cX1_isAct 5 = .ok (.aload_n 0, 1) := by decide +kernel
theorem dX1_isAct_6 : decode cX1_isAct 6 = .ok (.getfield 72, 3) := by decide +kernel
theorem dX1_isAct_9 : decode cX1_isAct 9 = .ok (.if_icmp .gt 7, 3) := by decide +kernel
theorem dX1_isAct_12 : decode cX1_isAct 12 = .ok (.iconst 1, 1) := by decide +kernel
theorem dX1_isAct_13 : decode cX1_isAct 13 = .ok (.goto 4, 3) := by decide +kernel
theorem dX1_isAct_16 : decode cX1_isAct 16 = .ok (.iconst 0, 1) := by decide +kernel
theorem dX1_isAct_17 : decode cX1_isAct 17 = .ok (.ireturn, 1) := by decide +kernel
theorem dX1_isKey_0 : decode cX1_isKey 0 = .ok (.iload_n 1, 1) := by decide +kernel
theorem dX1_isKey_1 : decode cX1_isKey 1 = .ok (.ifCond .lt 15, 3) := by decide +kernel
theorem dX1_isKey_4 : decode cX1_isKey 4 = .ok (.iload_n 1, 1) := by decide +kernel
theorem dX1_isKey_5 : decode cX1_isKey 5 = .ok (.aload_n 0, 1) := by decide +kernel
theorem dX1_isKey_6 : decode cX1_isKey 6 = .ok (.getfield 72, 3) := by decide +kernel
theorem dX1_isKey_9 : decode cX1_isKey 9 = .ok (.if_icmp .ge 7, 3) := by decide +kernel
theorem dX1_isKey_12 : decode cX1_isKey 12 = .ok (.iconst 1, 1) := by decide +kernel
theorem dX1_isKey_13 : decode cX1_isKey 13 = .ok (.goto 4, 3) := by decide +kernel
theorem dX1_isKey_16 : decode cX1_isKey 16 = .ok (.iconst 0, 1) := by decide +kernel
theorem dX1_isKey_17 : decode cX1_isKey 17 = .ok (.ireturn, 1) := by decide +kernel
theorem dX1_isOver_0 : decode cX1_isOver 0 = .ok (.aload_n 0, 1) := by decide +kernel
theorem dX1_isOver_1 : decode cX1_isOver 1 = .ok (.getfield 60, 3) := by decide +kernel
theorem dX1_isOver_4 : decode cX1_isOver 4 = .ok (.aload_n 0, 1) := by decide +kernel
theorem dX1_isOver_5 : decode cX1_isOver 5 = .ok (.getfield 9, 3) := by decide +kernel
theorem dX1_isOver_8 : decode cX1_isOver 8 = .ok (.if_icmp .lt 7, 3) := by decide +kernel
theorem dX1_isOver_11 : decode cX1_isOver 11 = .ok (.iconst 1, 1) := by decide +kernel
theorem dX1_isOver_12 : decode cX1_isOver 12 = .ok (.goto 4, 3) := by decide +kernel
theorem dX1_isOver_15 : decode cX1_isOver 15 = .ok (.iconst 0, 1) := by decide +kernel
theorem dX1_isOver_16 : decode cX1_isOver 16 = .ok (.ireturn, 1) := by decide +kernel
theorem lk_RX1_60 : Cond.fieldLink RX1 60 (TX1 1).1 (TX1 1).2.1 (TX1 1).2.2.1 ∈ gBIG := gm_at (l := tables_1_1) 110 (by decide +kernel) gs1
theorem lk_RX1_72 : Cond.fieldLink RX1 72 (TX1 8).1 (TX1 8).2.1 (TX1 8).2.2.1 ∈ gBIG := gm_at (l := tables_1_1) 125 (by decide +kernel) gs1
theorem we_0 : Cond.methodLink RX11 90 yX11_isIn ∈ gBIG := gm_at (l := tables_1_2) 103 (by decide +kernel) gs2
theorem we_1 : Cond.code yX11_isIn cX11_isIn 3 (some .boolean) ∈ gBIG := gm_at (l := tables_1_2) 105 (by decide +kernel) gs2
theorem we_2 : Cond.initialized RX11 ∈ gBIG := gm_at (l := tables_1_1) 1 (by decide +kernel) gs1
theorem we_3 : Cond.static yX11_isIn ∈ gBIG := gm_at (l := tables_1_2) 104 (by decide +kernel) gs2
theorem cm_X11_isIn : gcm mX11_isIn 3 := ⟨we_1, we_2, by decide, by decide, by decide, by decide +kernel, by decide⟩
