/-- a truth as an int -/
def gB (P : Prop) [Decidable P] : Int32 := if P then 1 else 0
theorem gB_t {P : Prop} [Decidable P] (h : P) : (some (.int 1) : Option Value) = some (.int (gB P)) := by rw [gB, if_pos h]
theorem gB_f {P : Prop} [Decidable P] (h : ¬ P) : (some (.int 0) : Option Value) = some (.int (gB P)) := by rw [gB, if_neg h]
theorem gB_01 {P : Prop} [Decidable P] : gB P = 0 ∨ gB P = 1 := by by_cases h : P <;> simp [gB, h]
theorem gB_z {P : Prop} [Decidable P] (h : gB P = 0) : ¬ P := fun z => by rw [gB, if_pos z] at h; exact absurd h (by decide)
theorem gB_o {P : Prop} [Decidable P] (h : ¬ gB P = 0) : P := Decidable.byContradiction fun z => h (by rw [gB, if_neg z])
set_option maxRecDepth 100000 in
set_option maxHeartbeats 4000000 in
theorem isIn_s (d : Nat) {sh : List (Nat × Nat)} {R : gR} {I : gI} (v lo hi : Int32) : G (d) mX11_isIn 0 0 0 0 0 (gent 3 [.int v, .int lo, .int hi]) [] sh R I (fun r h => r = some (.int (gB (lo ≤ v ∧ v ≤ hi))) ∧ h = (sh, R, I)) := by
  refine G_iload_n (pc := 0) rfl dX11_isIn_0 ?_
  refine G_iload_n (pc := 1) rfl dX11_isIn_1 ?_
  refine G_icmp_lt (pc := 2) (tgt := 14) (by decide) dX11_isIn_2 (fun c_2 => ?_) (fun c_2 => ?_)
  · refine G_iconst (pc := 14) (v := 0) (by decide) dX11_isIn_14 ?_
    exact G_zret (pc := 15) (Nat.le_refl _) (Nat.le_refl _) rfl (by decide) dX11_isIn_15 ⟨gB_f (fun z => absurd z.1 (Int32.not_le.mpr c_2)), rfl⟩
  · refine G_iload_n (pc := 5) rfl dX11_isIn_5 ?_
    refine G_iload_n (pc := 6) rfl dX11_isIn_6 ?_
    refine G_icmp_gt (pc := 7) (tgt := 14) (by decide) dX11_isIn_7 (fun c_7 => ?_) (fun c_7 => ?_)
    · refine G_iconst (pc := 14) (v := 0) (by decide) dX11_isIn_14 ?_
      exact G_zret (pc := 15) (Nat.le_refl _) (Nat.le_refl _) rfl (by decide) dX11_isIn_15 ⟨gB_f (fun z => absurd z.2 (Int32.not_le.mpr c_7)), rfl⟩
    · refine G_iconst (pc := 10) (v := 1) (by decide) dX11_isIn_10 ?_
      refine G_goto (pc := 11) (tgt := 15) (by decide) dX11_isIn_11 ?_
      exact G_zret (pc := 15) (Nat.le_refl _) (Nat.le_refl _) rfl (by decide) dX11_isIn_15 ⟨gB_t ⟨Int32.not_lt.mp c_2, Int32.not_lt.mp c_7⟩, rfl⟩
set_option maxRecDepth 100000 in
set_option maxHeartbeats 4000000 in
theorem isKeyKind_s (d : Nat) {sh : List (Nat × Nat)} {R : gR} {I : gI} (v : Int32) : G (d + 1) mX11_isKeyKind 0 0 0 0 0 (gent 1 [.int v]) [] sh R I (fun r h => r = some (.int (gB (1 ≤ v ∧ v ≤ 5))) ∧ h = (sh, R, I)) := by
  refine G_iload_n (pc := 0) rfl dX11_isKeyKind_0 ?_
  refine G_iconst (pc := 1) (v := 1) (by decide) dX11_isKeyKind_1 ?_
  refine G_iconst (pc := 2) (v := 5) (by decide) dX11_isKeyKind_2 ?_
  refine G_callS (pc := 3) (mc1 := 0) (ms1 := 0) (mj := mX11_isIn) (vs := [_, _, _]) dX11_isKeyKind_3 cm_X11_isIn we_0 we_3 rfl (Nat.le_of_ble_eq_true rfl) (Nat.le_of_ble_eq_true rfl) (Nat.le_of_ble_eq_true rfl) (Nat.le_of_ble_eq_true rfl) (isIn_s d _ _ _) ?_
  rintro _ _ ⟨rfl, rfl⟩
  dsimp only [Option.toList, List.cons_append, List.nil_append]
  exact G_zret (pc := 6) (Nat.le_refl _) (Nat.le_refl _) rfl gB_01 dX11_isKeyKind_6 ⟨rfl, rfl⟩
set_option maxRecDepth 100000 in
set_option maxHeartbeats 4000000 in
theorem isGate_s (d : Nat) {sh : List (Nat × Nat)} {R : gR} {I : gI} (v : Int32) : G (d + 1) mX11_isGate 0 0 0 0 0 (gent 1 [.int v]) [] sh R I (fun r h => r = some (.int (gB (0 ≤ v ∧ v ≤ 5))) ∧ h = (sh, R, I)) := by
  refine G_iload_n (pc := 0) rfl dX11_isGate_0 ?_
  refine G_iconst (pc := 1) (v := 0) (by decide) dX11_isGate_1 ?_
  refine G_iconst (pc := 2) (v := 5) (by decide) dX11_isGate_2 ?_
  refine G_callS (pc := 3) (mc1 := 0) (ms1 := 0) (mj := mX11_isIn) (vs := [_, _, _]) dX11_isGate_3 cm_X11_isIn we_0 we_3 rfl (Nat.le_of_ble_eq_true rfl) (Nat.le_of_ble_eq_true rfl) (Nat.le_of_ble_eq_true rfl) (Nat.le_of_ble_eq_true rfl) (isIn_s d _ _ _) ?_
  rintro _ _ ⟨rfl, rfl⟩
  dsimp only [Option.toList, List.cons_append, List.nil_append]
  exact G_zret (pc := 6) (Nat.le_refl _) (Nat.le_refl _) rfl gB_01 dX11_isGate_6 ⟨rfl, rfl⟩
set_option maxRecDepth 100000 in
set_option maxHeartbeats 4000000 in
theorem isPlace_s (d : Nat) {sh : List (Nat × Nat)} {R : gR} {I : gI} (v : Int32) : G (d + 1) mX11_isPlace 0 0 0 0 0 (gent 1 [.int v]) [] sh R I (fun r h => r = some (.int (gB (0 ≤ v ∧ v ≤ 3))) ∧ h = (sh, R, I)) := by
  refine G_iload_n (pc := 0) rfl dX11_isPlace_0 ?_
  refine G_iconst (pc := 1) (v := 0) (by decide) dX11_isPlace_1 ?_
  refine G_iconst (pc := 2) (v := 3) (by decide) dX11_isPlace_2 ?_
  refine G_callS (pc := 3) (mc1 := 0) (ms1 := 0) (mj := mX11_isIn) (vs := [_, _, _]) dX11_isPlace_3 cm_X11_isIn we_0 we_3 rfl (Nat.le_of_ble_eq_true rfl) (Nat.le_of_ble_eq_true rfl) (Nat.le_of_ble_eq_true rfl) (Nat.le_of_ble_eq_true rfl) (isIn_s d _ _ _) ?_
  rintro _ _ ⟨rfl, rfl⟩
  dsimp only [Option.toList, List.cons_append, List.nil_append]
  exact G_zret (pc := 6) (Nat.le_refl _) (Nat.le_refl _) rfl gB_01 dX11_isPlace_6 ⟨rfl, rfl⟩
set_option maxRecDepth 100000 in
set_option maxHeartbeats 4000000 in
theorem isPlan_s (d : Nat) {sh : List (Nat × Nat)} {R : gR} {I : gI} (v : Int32) : G (d + 1) mX11_isPlan 0 0 0 0 0 (gent 1 [.int v]) [] sh R I (fun r h => r = some (.int (gB (0 ≤ v ∧ v ≤ 4))) ∧ h = (sh, R, I)) := by
  refine G_iload_n (pc := 0) rfl dX11_isPlan_0 ?_
  refine G_iconst (pc := 1) (v := 0) (by decide) dX11_isPlan_1 ?_
  refine G_iconst (pc := 2) (v := 4) (by decide) dX11_isPlan_2 ?_
  refine G_callS (pc := 3) (mc1 := 0) (ms1 := 0) (mj := mX11_isIn) (vs := [_, _, _]) dX11_isPlan_3 cm_X11_isIn we_0 we_3 rfl (Nat.le_of_ble_eq_true rfl) (Nat.le_of_ble_eq_true rfl) (Nat.le_of_ble_eq_true rfl) (Nat.le_of_ble_eq_true rfl) (isIn_s d _ _ _) ?_
  rintro _ _ ⟨rfl, rfl⟩
  dsimp only [Option.toList, List.cons_append, List.nil_append]
  exact G_zret (pc := 6) (Nat.le_refl _) (Nat.le_refl _) rfl gB_01 dX11_isPlan_6 ⟨rfl, rfl⟩
set_option maxRecDepth 100000 in
set_option maxHeartbeats 4000000 in
theorem isKey_s (d : Nat) {sh : List (Nat × Nat)} {R : gR} {I : gI} (x : Nat) (hx : sh[x]? = some (0, 1)) (k : Int32) : G (d) mX1_isKey 0 0 0 0 0 (gent 2 [.ref x, .int k]) [] sh R I (fun r h => r = some (.int (gB (0 ≤ k ∧ k < I x 8))) ∧ h = (sh, R, I)) := by
  refine G_iload_n (pc := 0) rfl dX1_isKey_0 ?_
  refine G_if_lt (pc := 1) (tgt := 16) (by decide) dX1_isKey_1 (fun c_1 => ?_) (fun c_1 => ?_)
  · refine G_iconst (pc := 16) (v := 0) (by decide) dX1_isKey_16 ?_
    exact G_zret (pc := 17) (Nat.le_refl _) (Nat.le_refl _) rfl (by decide) dX1_isKey_17 ⟨gB_f (fun z => absurd z.1 (Int32.not_le.mpr c_1)), rfl⟩
  · refine G_iload_n (pc := 4) rfl dX1_isKey_4 ?_
    refine G_aload_n (pc := 5) rfl dX1_isKey_5 ?_
    refine G_getI (pc := 6) (ci := 1) (j := 8) rfl rfl lk_RX1_72 hx rfl dX1_isKey_6 ?_
    refine G_icmp_ge (pc := 9) (tgt := 16) (by decide) dX1_isKey_9 (fun c_9 => ?_) (fun c_9 => ?_)
    · refine G_iconst (pc := 16) (v := 0) (by decide) dX1_isKey_16 ?_
      exact G_zret (pc := 17) (Nat.le_refl _) (Nat.le_refl _) rfl (by decide) dX1_isKey_17 ⟨gB_f (fun z => absurd z.2 (Int32.not_lt.mpr c_9)), rfl⟩
    · refine G_iconst (pc := 12) (v := 1) (by decide) dX1_isKey_12 ?_
      refine G_goto (pc := 13) (tgt := 17) (by decide) dX1_isKey_13 ?_
      exact G_zret (pc := 17) (Nat.le_refl _) (Nat.le_refl _) rfl (by decide) dX1_isKey_17 ⟨gB_t ⟨Int32.not_lt.mp c_1, Int32.not_le.mp c_9⟩, rfl⟩
set_option maxRecDepth 100000 in
set_option maxHeartbeats 4000000 in
theorem isAct_s (d : Nat) {sh : List (Nat × Nat)} {R : gR} {I : gI} (x : Nat) (hx : sh[x]? = some (0, 1)) (k : Int32) : G (d) mX1_isAct 0 0 0 0 0 (gent 2 [.ref x, .int k]) [] sh R I (fun r h => r = some (.int (gB (0 ≤ k ∧ k ≤ I x 8))) ∧ h = (sh, R, I)) := by
  refine G_iload_n (pc := 0) rfl dX1_isAct_0 ?_
  refine G_if_lt (pc := 1) (tgt := 16) (by decide) dX1_isAct_1 (fun c_1 => ?_) (fun c_1 => ?_)
  · refine G_iconst (pc := 16) (v := 0) (by decide) dX1_isAct_16 ?_
    exact G_zret (pc := 17) (Nat.le_refl _) (Nat.le_refl _) rfl (by decide) dX1_isAct_17 ⟨gB_f (fun z => absurd z.1 (Int32.not_le.mpr c_1)), rfl⟩
  · refine G_iload_n (pc := 4) rfl dX1_isAct_4 ?_
    refine G_aload_n (pc := 5) rfl dX1_isAct_5 ?_
    refine G_getI (pc := 6) (ci := 1) (j := 8) rfl rfl lk_RX1_72 hx rfl dX1_isAct_6 ?_
    refine G_icmp_gt (pc := 9) (tgt := 16) (by decide) dX1_isAct_9 (fun c_9 => ?_) (fun c_9 => ?_)
    · refine G_iconst (pc := 16) (v := 0) (by decide) dX1_isAct_16 ?_
      exact G_zret (pc := 17) (Nat.le_refl _) (Nat.le_refl _) rfl (by decide) dX1_isAct_17 ⟨gB_f (fun z => absurd z.2 (Int32.not_le.mpr c_9)), rfl⟩
    · refine G_iconst (pc := 12) (v := 1) (by decide) dX1_isAct_12 ?_
      refine G_goto (pc := 13) (tgt := 17) (by decide) dX1_isAct_13 ?_
      exact G_zret (pc := 17) (Nat.le_refl _) (Nat.le_refl _) rfl (by decide) dX1_isAct_17 ⟨gB_t ⟨Int32.not_lt.mp c_1, Int32.not_lt.mp c_9⟩, rfl⟩
set_option maxRecDepth 100000 in
set_option maxHeartbeats 4000000 in
theorem isOver_s (d : Nat) {sh : List (Nat × Nat)} {R : gR} {I : gI} (x : Nat) (hx : sh[x]? = some (0, 1)) : G (d) mX1_isOver 0 0 0 0 0 (gent 1 [.ref x]) [] sh R I (fun r h => r = some (.int (gB (I x 2 ≤ I x 1))) ∧ h = (sh, R, I)) := by
  refine G_aload_n (pc := 0) rfl dX1_isOver_0 ?_
  refine G_getI (pc := 1) (ci := 1) (j := 1) rfl rfl lk_RX1_60 hx rfl dX1_isOver_1 ?_
  refine G_aload_n (pc := 4) rfl dX1_isOver_4 ?_
  refine G_getI (pc := 5) (ci := 1) (j := 2) rfl rfl lk_RX1_9 hx rfl dX1_isOver_5 ?_
  refine G_icmp_lt (pc := 8) (tgt := 15) (by decide) dX1_isOver_8 (fun c_8 => ?_) (fun c_8 => ?_)
  · refine G_iconst (pc := 15) (v := 0) (by decide) dX1_isOver_15 ?_
    exact G_zret (pc := 16) (Nat.le_refl _) (Nat.le_refl _) rfl (by decide) dX1_isOver_16 ⟨gB_f (Int32.not_le.mpr c_8), rfl⟩
  · refine G_iconst (pc := 11) (v := 1) (by decide) dX1_isOver_11 ?_
    refine G_goto (pc := 12) (tgt := 16) (by decide) dX1_isOver_12 ?_
    exact G_zret (pc := 16) (Nat.le_refl _) (Nat.le_refl _) rfl (by decide) dX1_isOver_16 ⟨gB_t (Int32.not_lt.mp c_8), rfl⟩
