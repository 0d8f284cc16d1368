set_option maxRecDepth 100000 in
set_option maxHeartbeats 4000000 in
theorem kX3_init_1 (R : gR) (I : gI) (hr : ∀ a j, 14 ≤ a → R a j = none) (hz : ∀ a j, 14 ≤ a → I a j = 0) (d : Nat) : G (d + 1) mX3_init 0 0 0 0 0 (gent 1 [.ref 13]) [] [(0, 11), (1, 12), (1, 4), (1, 4), (5, 4), (1, 40), (1, 40), (1, 40), (1, 40), (1, 4), (1, 4), (1, 4), (4, 6), (0, 3)] R I (fun r h1 => r = none ∧ h1 = ([(0, 11), (1, 12), (1, 4), (1, 4), (5, 4), (1, 40), (1, 40), (1, 40), (1, 40), (1, 4), (1, 4), (1, 4), (4, 6), (0, 3)], R, I)) := by
  refine G_aload_n (pc := 0) rfl dX3_init_0 ?_
  refine G_obj (pc := 1) dX3_init_1 wd_9 wd_1 wd_2 (by decide) ?_
  exact G_vret (pc := 4) (by decide) (by decide) rfl dX3_init_4 ⟨rfl, rfl⟩
set_option maxRecDepth 100000 in
set_option maxHeartbeats 4000000 in
theorem kX3_init_2 (R : gR) (I : gI) (hr : ∀ a j, 15 ≤ a → R a j = none) (hz : ∀ a j, 15 ≤ a → I a j = 0) (d : Nat) : G (d + 1) mX3_init 0 0 0 0 0 (gent 1 [.ref 14]) [] [(0, 11), (1, 12), (1, 4), (1, 4), (5, 4), (1, 40), (1, 40), (1, 40), (1, 40), (1, 4), (1, 4), (1, 4), (4, 6), (0, 3), (0, 2)] R I (fun r h1 => r = none ∧ h1 = ([(0, 11), (1, 12), (1, 4), (1, 4), (5, 4), (1, 40), (1, 40), (1, 40), (1, 40), (1, 4), (1, 4), (1, 4), (4, 6), (0, 3), (0, 2)], R, I)) := by
  refine G_aload_n (pc := 0) rfl dX3_init_0 ?_
  refine G_obj (pc := 1) dX3_init_1 wd_9 wd_1 wd_2 (by decide) ?_
  exact G_vret (pc := 4) (by decide) (by decide) rfl dX3_init_4 ⟨rfl, rfl⟩
set_option maxRecDepth 100000 in
set_option maxHeartbeats 4000000 in
theorem kX2_init_1 (R : gR) (I : gI) (hr : ∀ a j, 15 ≤ a → R a j = none) (hz : ∀ a j, 15 ≤ a → I a j = 0) (d : Nat) : G (d + 2) mX2_init 0 0 0 0 0 (gent 1 [.ref 14]) [] [(0, 11), (1, 12), (1, 4), (1, 4), (5, 4), (1, 40), (1, 40), (1, 40), (1, 40), (1, 4), (1, 4), (1, 4), (4, 6), (0, 3), (0, 2)] R I (fun r h1 => r = none ∧ h1 = ([(0, 11), (1, 12), (1, 4), (1, 4), (5, 4), (1, 40), (1, 40), (1, 40), (1, 40), (1, 4), (1, 4), (1, 4), (4, 6), (0, 3), (0, 2)], R, I)) := by
  refine G_aload_n (pc := 0) rfl dX2_init_0 ?_
  refine G_callIN (pc := 1) (mc1 := 0) (ms1 := 0) (vs := []) (mj := mX3_init) (host := "IceKeys") dX2_init_1 cm_X3_init rfl rfl (by decide) wd_11 rfl (by decide) (by decide) (by decide) (by decide) (kX3_init_2 _ _ (fun a j ha => by (try simp only [gupR, gmna]); (repeat (rw [if_neg (by omega)])); exact hr a j (by omega)) (fun a j ha => by (try simp only [gup]); (repeat (rw [if_neg (by omega)])); exact hz a j (by omega)) _) ?_
  rintro r h1 ⟨rfl, rfl⟩
  dsimp only [Option.toList, List.nil_append]
  exact G_vret (pc := 4) (by decide) (by decide) rfl dX2_init_4 ⟨rfl, rfl⟩
set_option maxRecDepth 100000 in
set_option maxHeartbeats 4000000 in
theorem kX3_init_3 (R : gR) (I : gI) (hr : ∀ a j, 16 ≤ a → R a j = none) (hz : ∀ a j, 16 ≤ a → I a j = 0) (d : Nat) : G (d + 1) mX3_init 0 0 0 0 0 (gent 1 [.ref 15]) [] [(0, 11), (1, 12), (1, 4), (1, 4), (5, 4), (1, 40), (1, 40), (1, 40), (1, 40), (1, 4), (1, 4), (1, 4), (4, 6), (0, 3), (0, 2), (0, 8)] R I (fun r h1 => r = none ∧ h1 = ([(0, 11), (1, 12), (1, 4), (1, 4), (5, 4), (1, 40), (1, 40), (1, 40), (1, 40), (1, 4), (1, 4), (1, 4), (4, 6), (0, 3), (0, 2), (0, 8)], R, I)) := by
  refine G_aload_n (pc := 0) rfl dX3_init_0 ?_
  refine G_obj (pc := 1) dX3_init_1 wd_9 wd_1 wd_2 (by decide) ?_
  exact G_vret (pc := 4) (by decide) (by decide) rfl dX3_init_4 ⟨rfl, rfl⟩
set_option maxRecDepth 100000 in
set_option maxHeartbeats 4000000 in
theorem kX8_init_1 (R : gR) (I : gI) (hr : ∀ a j, 16 ≤ a → R a j = none) (hz : ∀ a j, 16 ≤ a → I a j = 0) (d : Nat) : G (d + 2) mX8_init 0 0 0 0 0 (gent 1 [.ref 15]) [] [(0, 11), (1, 12), (1, 4), (1, 4), (5, 4), (1, 40), (1, 40), (1, 40), (1, 40), (1, 4), (1, 4), (1, 4), (4, 6), (0, 3), (0, 2), (0, 8)] R I (fun r h1 => r = none ∧ h1 = ([(0, 11), (1, 12), (1, 4), (1, 4), (5, 4), (1, 40), (1, 40), (1, 40), (1, 40), (1, 4), (1, 4), (1, 4), (4, 6), (0, 3), (0, 2), (0, 8)], R, I)) := by
  refine G_aload_n (pc := 0) rfl dX8_init_0 ?_
  refine G_callIN (pc := 1) (mc1 := 0) (ms1 := 0) (vs := []) (mj := mX3_init) (host := "IceKeys") dX8_init_1 cm_X3_init rfl rfl (by decide) wd_11 rfl (by decide) (by decide) (by decide) (by decide) (kX3_init_3 _ _ (fun a j ha => by (try simp only [gupR, gmna]); (repeat (rw [if_neg (by omega)])); exact hr a j (by omega)) (fun a j ha => by (try simp only [gup]); (repeat (rw [if_neg (by omega)])); exact hz a j (by omega)) _) ?_
  rintro r h1 ⟨rfl, rfl⟩
  dsimp only [Option.toList, List.nil_append]
  exact G_vret (pc := 4) (by decide) (by decide) rfl dX8_init_4 ⟨rfl, rfl⟩
set_option maxRecDepth 100000 in
set_option maxHeartbeats 4000000 in
theorem kX3_init_4 (R : gR) (I : gI) (hr : ∀ a j, 17 ≤ a → R a j = none) (hz : ∀ a j, 17 ≤ a → I a j = 0) (d : Nat) : G (d + 1) mX3_init 0 0 0 0 0 (gent 1 [.ref 16]) [] [(0, 11), (1, 12), (1, 4), (1, 4), (5, 4), (1, 40), (1, 40), (1, 40), (1, 40), (1, 4), (1, 4), (1, 4), (4, 6), (0, 3), (0, 2), (0, 8), (0, 10)] R I (fun r h1 => r = none ∧ h1 = ([(0, 11), (1, 12), (1, 4), (1, 4), (5, 4), (1, 40), (1, 40), (1, 40), (1, 40), (1, 4), (1, 4), (1, 4), (4, 6), (0, 3), (0, 2), (0, 8), (0, 10)], R, I)) := by
  refine G_aload_n (pc := 0) rfl dX3_init_0 ?_
  refine G_obj (pc := 1) dX3_init_1 wd_9 wd_1 wd_2 (by decide) ?_
  exact G_vret (pc := 4) (by decide) (by decide) rfl dX3_init_4 ⟨rfl, rfl⟩
set_option maxRecDepth 100000 in
set_option maxHeartbeats 4000000 in
theorem kX8_init_2 (R : gR) (I : gI) (hr : ∀ a j, 17 ≤ a → R a j = none) (hz : ∀ a j, 17 ≤ a → I a j = 0) (d : Nat) : G (d + 2) mX8_init 0 0 0 0 0 (gent 1 [.ref 16]) [] [(0, 11), (1, 12), (1, 4), (1, 4), (5, 4), (1, 40), (1, 40), (1, 40), (1, 40), (1, 4), (1, 4), (1, 4), (4, 6), (0, 3), (0, 2), (0, 8), (0, 10)] R I (fun r h1 => r = none ∧ h1 = ([(0, 11), (1, 12), (1, 4), (1, 4), (5, 4), (1, 40), (1, 40), (1, 40), (1, 40), (1, 4), (1, 4), (1, 4), (4, 6), (0, 3), (0, 2), (0, 8), (0, 10)], R, I)) := by
  refine G_aload_n (pc := 0) rfl dX8_init_0 ?_
  refine G_callIN (pc := 1) (mc1 := 0) (ms1 := 0) (vs := []) (mj := mX3_init) (host := "IceKeys") dX8_init_1 cm_X3_init rfl rfl (by decide) wd_11 rfl (by decide) (by decide) (by decide) (by decide) (kX3_init_4 _ _ (fun a j ha => by (try simp only [gupR, gmna]); (repeat (rw [if_neg (by omega)])); exact hr a j (by omega)) (fun a j ha => by (try simp only [gup]); (repeat (rw [if_neg (by omega)])); exact hz a j (by omega)) _) ?_
  rintro r h1 ⟨rfl, rfl⟩
  dsimp only [Option.toList, List.nil_append]
  exact G_vret (pc := 4) (by decide) (by decide) rfl dX8_init_4 ⟨rfl, rfl⟩
set_option maxRecDepth 100000 in
set_option maxHeartbeats 4000000 in
theorem kX10_init_1 (R : gR) (I : gI) (hr : ∀ a j, 17 ≤ a → R a j = none) (hz : ∀ a j, 17 ≤ a → I a j = 0) (d : Nat) : G (d + 3) mX10_init 0 0 0 0 0 (gent 1 [.ref 16]) [] [(0, 11), (1, 12), (1, 4), (1, 4), (5, 4), (1, 40), (1, 40), (1, 40), (1, 40), (1, 4), (1, 4), (1, 4), (4, 6), (0, 3), (0, 2), (0, 8), (0, 10)] R I (fun r h1 => r = none ∧ h1 = ([(0, 11), (1, 12), (1, 4), (1, 4), (5, 4), (1, 40), (1, 40), (1, 40), (1, 40), (1, 4), (1, 4), (1, 4), (4, 6), (0, 3), (0, 2), (0, 8), (0, 10)], R, I)) := by
  refine G_aload_n (pc := 0) rfl dX10_init_0 ?_
  refine G_callIN (pc := 1) (mc1 := 0) (ms1 := 0) (vs := []) (mj := mX8_init) (host := "IceKeys") dX10_init_1 cm_X8_init rfl rfl (by decide) wd_21 rfl (by decide) (by decide) (by decide) (by decide) (kX8_init_2 _ _ (fun a j ha => by (try simp only [gupR, gmna]); (repeat (rw [if_neg (by omega)])); exact hr a j (by omega)) (fun a j ha => by (try simp only [gup]); (repeat (rw [if_neg (by omega)])); exact hz a j (by omega)) _) ?_
  rintro r h1 ⟨rfl, rfl⟩
  dsimp only [Option.toList, List.nil_append]
  exact G_vret (pc := 4) (by decide) (by decide) rfl dX10_init_4 ⟨rfl, rfl⟩
set_option maxRecDepth 100000 in
set_option maxHeartbeats 4000000 in
theorem kX3_init_5 (R : gR) (I : gI) (hr : ∀ a j, 18 ≤ a → R a j = none) (hz : ∀ a j, 18 ≤ a → I a j = 0) (d : Nat) : G (d + 1) mX3_init 0 0 0 0 0 (gent 1 [.ref 17]) [] [(0, 11), (1, 12), (1, 4), (1, 4), (5, 4), (1, 40), (1, 40), (1, 40), (1, 40), (1, 4), (1, 4), (1, 4), (4, 6), (0, 3), (0, 2), (0, 8), (0, 10), (0, 7)] R I (fun r h1 => r = none ∧ h1 = ([(0, 11), (1, 12), (1, 4), (1, 4), (5, 4), (1, 40), (1, 40), (1, 40), (1, 40), (1, 4), (1, 4), (1, 4), (4, 6), (0, 3), (0, 2), (0, 8), (0, 10), (0, 7)], R, I)) := by
  refine G_aload_n (pc := 0) rfl dX3_init_0 ?_
  refine G_obj (pc := 1) dX3_init_1 wd_9 wd_1 wd_2 (by decide) ?_
  exact G_vret (pc := 4) (by decide) (by decide) rfl dX3_init_4 ⟨rfl, rfl⟩
set_option maxRecDepth 100000 in
set_option maxHeartbeats 4000000 in
theorem kX7_init_1 (R : gR) (I : gI) (hr : ∀ a j, 18 ≤ a → R a j = none) (hz : ∀ a j, 18 ≤ a → I a j = 0) (d : Nat) : G (d + 2) mX7_init 0 0 0 0 0 (gent 1 [.ref 17]) [] [(0, 11), (1, 12), (1, 4), (1, 4), (5, 4), (1, 40), (1, 40), (1, 40), (1, 40), (1, 4), (1, 4), (1, 4), (4, 6), (0, 3), (0, 2), (0, 8), (0, 10), (0, 7)] R I (fun r h1 => r = none ∧ h1 = ([(0, 11), (1, 12), (1, 4), (1, 4), (5, 4), (1, 40), (1, 40), (1, 40), (1, 40), (1, 4), (1, 4), (1, 4), (4, 6), (0, 3), (0, 2), (0, 8), (0, 10), (0, 7)], R, I)) := by
  refine G_aload_n (pc := 0) rfl dX7_init_0 ?_
  refine G_callIN (pc := 1) (mc1 := 0) (ms1 := 0) (vs := []) (mj := mX3_init) (host := "IceKeys") dX7_init_1 cm_X3_init rfl rfl (by decide) wd_11 rfl (by decide) (by decide) (by decide) (by decide) (kX3_init_5 _ _ (fun a j ha => by (try simp only [gupR, gmna]); (repeat (rw [if_neg (by omega)])); exact hr a j (by omega)) (fun a j ha => by (try simp only [gup]); (repeat (rw [if_neg (by omega)])); exact hz a j (by omega)) _) ?_
  rintro r h1 ⟨rfl, rfl⟩
  dsimp only [Option.toList, List.nil_append]
  exact G_vret (pc := 4) (by decide) (by decide) rfl dX7_init_4 ⟨rfl, rfl⟩
set_option maxRecDepth 100000 in
set_option maxHeartbeats 4000000 in
theorem kX3_init_6 (R : gR) (I : gI) (hr : ∀ a j, 19 ≤ a → R a j = none) (hz : ∀ a j, 19 ≤ a → I a j = 0) (d : Nat) : G (d + 1) mX3_init 0 0 0 0 0 (gent 1 [.ref 18]) [] [(0, 11), (1, 12), (1, 4), (1, 4), (5, 4), (1, 40), (1, 40), (1, 40), (1, 40), (1, 4), (1, 4), (1, 4), (4, 6), (0, 3), (0, 2), (0, 8), (0, 10), (0, 7), (0, 9)] R I (fun r h1 => r = none ∧ h1 = ([(0, 11), (1, 12), (1, 4), (1, 4), (5, 4), (1, 40), (1, 40), (1, 40), (1, 40), (1, 4), (1, 4), (1, 4), (4, 6), (0, 3), (0, 2), (0, 8), (0, 10), (0, 7), (0, 9)], R, I)) := by
  refine G_aload_n (pc := 0) rfl dX3_init_0 ?_
  refine G_obj (pc := 1) dX3_init_1 wd_9 wd_1 wd_2 (by decide) ?_
  exact G_vret (pc := 4) (by decide) (by decide) rfl dX3_init_4 ⟨rfl, rfl⟩
set_option maxRecDepth 100000 in
set_option maxHeartbeats 4000000 in
theorem kX7_init_2 (R : gR) (I : gI) (hr : ∀ a j, 19 ≤ a → R a j = none) (hz : ∀ a j, 19 ≤ a → I a j = 0) (d : Nat) : G (d + 2) mX7_init 0 0 0 0 0 (gent 1 [.ref 18]) [] [(0, 11), (1, 12), (1, 4), (1, 4), (5, 4), (1, 40), (1, 40), (1, 40), (1, 40), (1, 4), (1, 4), (1, 4), (4, 6), (0, 3), (0, 2), (0, 8), (0, 10), (0, 7), (0, 9)] R I (fun r h1 => r = none ∧ h1 = ([(0, 11), (1, 12), (1, 4), (1, 4), (5, 4), (1, 40), (1, 40), (1, 40), (1, 40), (1, 4), (1, 4), (1, 4), (4, 6), (0, 3), (0, 2), (0, 8), (0, 10), (0, 7), (0, 9)], R, I)) := by
  refine G_aload_n (pc := 0) rfl dX7_init_0 ?_
  refine G_callIN (pc := 1) (mc1 := 0) (ms1 := 0) (vs := []) (mj := mX3_init) (host := "IceKeys") dX7_init_1 cm_X3_init rfl rfl (by decide) wd_11 rfl (by decide) (by decide) (by decide) (by decide) (kX3_init_6 _ _ (fun a j ha => by (try simp only [gupR, gmna]); (repeat (rw [if_neg (by omega)])); exact hr a j (by omega)) (fun a j ha => by (try simp only [gup]); (repeat (rw [if_neg (by omega)])); exact hz a j (by omega)) _) ?_
  rintro r h1 ⟨rfl, rfl⟩
  dsimp only [Option.toList, List.nil_append]
  exact G_vret (pc := 4) (by decide) (by decide) rfl dX7_init_4 ⟨rfl, rfl⟩
set_option maxRecDepth 100000 in
set_option maxHeartbeats 4000000 in
theorem kX9_init_1 (R : gR) (I : gI) (hr : ∀ a j, 19 ≤ a → R a j = none) (hz : ∀ a j, 19 ≤ a → I a j = 0) (d : Nat) : G (d + 3) mX9_init 0 0 0 0 0 (gent 1 [.ref 18]) [] [(0, 11), (1, 12), (1, 4), (1, 4), (5, 4), (1, 40), (1, 40), (1, 40), (1, 40), (1, 4), (1, 4), (1, 4), (4, 6), (0, 3), (0, 2), (0, 8), (0, 10), (0, 7), (0, 9)] R I (fun r h1 => r = none ∧ h1 = ([(0, 11), (1, 12), (1, 4), (1, 4), (5, 4), (1, 40), (1, 40), (1, 40), (1, 40), (1, 4), (1, 4), (1, 4), (4, 6), (0, 3), (0, 2), (0, 8), (0, 10), (0, 7), (0, 9)], R, I)) := by
  refine G_aload_n (pc := 0) rfl dX9_init_0 ?_
  refine G_callIN (pc := 1) (mc1 := 0) (ms1 := 0) (vs := []) (mj := mX7_init) (host := "IceKeys") dX9_init_1 cm_X7_init rfl rfl (by decide) wd_31 rfl (by decide) (by decide) (by decide) (by decide) (kX7_init_2 _ _ (fun a j ha => by (try simp only [gupR, gmna]); (repeat (rw [if_neg (by omega)])); exact hr a j (by omega)) (fun a j ha => by (try simp only [gup]); (repeat (rw [if_neg (by omega)])); exact hz a j (by omega)) _) ?_
  rintro r h1 ⟨rfl, rfl⟩
  dsimp only [Option.toList, List.nil_append]
  exact G_vret (pc := 4) (by decide) (by decide) rfl dX9_init_4 ⟨rfl, rfl⟩
set_option maxRecDepth 100000 in
set_option maxHeartbeats 4000000 in
theorem kX6_init_1 (R : gR) (I : gI) (hr : ∀ a j, 28 ≤ a → R a j = none) (hz : ∀ a j, 28 ≤ a → I a j = 0) (d : Nat) : G (d + 1) mX6_init 4 224 0 0 0 (gent 1 [.ref 27]) [] [(0, 11), (1, 12), (1, 4), (1, 4), (5, 4), (1, 40), (1, 40), (1, 40), (1, 40), (1, 4), (1, 4), (1, 4), (4, 6), (0, 3), (0, 2), (0, 8), (0, 10), (0, 7), (0, 9), (0, 1), (1, 16), (1, 6), (1, 6), (1, 6), (1, 6), (1, 6), (1, 6), (0, 6)] R I (fun r h1 => r = none ∧ h1 = ([(0, 11), (1, 12), (1, 4), (1, 4), (5, 4), (1, 40), (1, 40), (1, 40), (1, 40), (1, 4), (1, 4), (1, 4), (4, 6), (0, 3), (0, 2), (0, 8), (0, 10), (0, 7), (0, 9), (0, 1), (1, 16), (1, 6), (1, 6), (1, 6), (1, 6), (1, 6), (1, 6), (0, 6), (1, 8), (1, 8), (1, 8), (1, 200)], (gupR (gupR (gupR (gupR R 27 2 (some 28)) 27 3 (some 29)) 27 4 (some 30)) 27 5 (some 31)), I)) := by
  refine G_aload_n (pc := 0) rfl dX6_init_0 ?_
  refine G_obj (pc := 1) dX6_init_1 wd_44 wd_1 wd_2 (by decide) ?_
  refine G_aload_n (pc := 4) rfl dX6_init_4 ?_
  refine G_bipush (pc := 5) (v := 8) (by decide) dX6_init_5 ?_
  refine G_new_int (pc := 7) (N := 8) wd_3 (by decide) (by decide) (by decide) (len := 28) (sh1 := [(0, 11), (1, 12), (1, 4), (1, 4), (5, 4), (1, 40), (1, 40), (1, 40), (1, 40), (1, 4), (1, 4), (1, 4), (4, 6), (0, 3), (0, 2), (0, 8), (0, 10), (0, 7), (0, 9), (0, 1), (1, 16), (1, 6), (1, 6), (1, 6), (1, 6), (1, 6), (1, 6), (0, 6), (1, 8)]) rfl rfl (fun j => by simp [gup, hz]) (by decide) (by decide) dX6_init_7 ?_
  refine G_putF (pc := 9) (ci := 6) (j := 2) rfl lk_RX6_9 rfl rfl rfl rfl rfl rfl dX6_init_9 ?_
  refine G_aload_n (pc := 12) rfl dX6_init_12 ?_
  refine G_bipush (pc := 13) (v := 8) (by decide) dX6_init_13 ?_
  refine G_new_int (pc := 15) (N := 8) wd_3 (by decide) (by decide) (by decide) (len := 29) (sh1 := [(0, 11), (1, 12), (1, 4), (1, 4), (5, 4), (1, 40), (1, 40), (1, 40), (1, 40), (1, 4), (1, 4), (1, 4), (4, 6), (0, 3), (0, 2), (0, 8), (0, 10), (0, 7), (0, 9), (0, 1), (1, 16), (1, 6), (1, 6), (1, 6), (1, 6), (1, 6), (1, 6), (0, 6), (1, 8), (1, 8)]) rfl rfl (fun j => by simp [gup, hz]) (by decide) (by decide) dX6_init_15 ?_
  refine G_putF (pc := 17) (ci := 6) (j := 3) rfl lk_RX6_15 rfl rfl rfl rfl rfl rfl dX6_init_17 ?_
  refine G_aload_n (pc := 20) rfl dX6_init_20 ?_
  refine G_bipush (pc := 21) (v := 8) (by decide) dX6_init_21 ?_
  refine G_new_int (pc := 23) (N := 8) wd_3 (by decide) (by decide) (by decide) (len := 30) (sh1 := [(0, 11), (1, 12), (1, 4), (1, 4), (5, 4), (1, 40), (1, 40), (1, 40), (1, 40), (1, 4), (1, 4), (1, 4), (4, 6), (0, 3), (0, 2), (0, 8), (0, 10), (0, 7), (0, 9), (0, 1), (1, 16), (1, 6), (1, 6), (1, 6), (1, 6), (1, 6), (1, 6), (0, 6), (1, 8), (1, 8), (1, 8)]) rfl rfl (fun j => by simp [gup, hz]) (by decide) (by decide) dX6_init_23 ?_
  refine G_putF (pc := 25) (ci := 6) (j := 4) rfl lk_RX6_18 rfl rfl rfl rfl rfl rfl dX6_init_25 ?_
  refine G_aload_n (pc := 28) rfl dX6_init_28 ?_
  refine G_sipush (pc := 29) (v := 200) (by decide) dX6_init_29 ?_
  refine G_new_int (pc := 32) (N := 200) wd_3 (by decide) (by decide) (by decide) (len := 31) (sh1 := [(0, 11), (1, 12), (1, 4), (1, 4), (5, 4), (1, 40), (1, 40), (1, 40), (1, 40), (1, 4), (1, 4), (1, 4), (4, 6), (0, 3), (0, 2), (0, 8), (0, 10), (0, 7), (0, 9), (0, 1), (1, 16), (1, 6), (1, 6), (1, 6), (1, 6), (1, 6), (1, 6), (0, 6), (1, 8), (1, 8), (1, 8), (1, 200)]) rfl rfl (fun j => by simp [gup, hz]) (by decide) (by decide) dX6_init_32 ?_
  refine G_putF (pc := 34) (ci := 6) (j := 5) rfl lk_RX6_21 rfl rfl rfl rfl rfl rfl dX6_init_34 ?_
  exact G_vret (pc := 37) (by decide) (by decide) rfl dX6_init_37 ⟨rfl, rfl⟩
set_option maxRecDepth 100000 in
set_option maxHeartbeats 4000000 in
theorem kX1_init_1 (R : gR) (I : gI) (hr : ∀ a j, 20 ≤ a → R a j = none) (hz : ∀ a j, 20 ≤ a → I a j = 0) (d : Nat) : G (d + 2) mX1_init 15 351 0 0 0 (gent 3 [.ref 19, .ref 12]) [] [(0, 11), (1, 12), (1, 4), (1, 4), (5, 4), (1, 40), (1, 40), (1, 40), (1, 40), (1, 4), (1, 4), (1, 4), (4, 6), (0, 3), (0, 2), (0, 8), (0, 10), (0, 7), (0, 9), (0, 1)] R I (fun r h1 => r = none ∧ h1 = ([(0, 11), (1, 12), (1, 4), (1, 4), (5, 4), (1, 40), (1, 40), (1, 40), (1, 40), (1, 4), (1, 4), (1, 4), (4, 6), (0, 3), (0, 2), (0, 8), (0, 10), (0, 7), (0, 9), (0, 1), (1, 16), (1, 6), (1, 6), (1, 6), (1, 6), (1, 6), (1, 6), (0, 6), (1, 8), (1, 8), (1, 8), (1, 200), (1, 24), (1, 5), (1, 40)], (gupR (gupR (gupR (gupR (gupR (gupR (gupR (gupR (gupR (gupR (gupR (gupR (gupR (gupR (gupR (gupR R 19 5 (some 20)) 19 6 (some 21)) 19 7 (some 22)) 19 10 (some 23)) 19 11 (some 24)) 19 12 (some 25)) 19 13 (some 26)) 27 2 (some 28)) 27 3 (some 29)) 27 4 (some 30)) 27 5 (some 31)) 19 14 (some 27)) 19 15 (some 32)) 19 17 (some 33)) 19 18 (some 34)) 19 0 (some 12)), (gup (gup (gup (gup (gup (gup (gup (gup (gup (gup (gup (gup (gup (gup (gup (gup (gup (gup I 19 2 12) 19 4 1) 20 0 5) 20 1 5) 20 2 5) 20 3 5) 20 4 5) 20 5 5) 20 6 5) 20 7 5) 20 8 5) 20 9 5) 20 10 5) 20 11 5) 20 12 5) 20 13 5) 20 14 5) 20 15 5))) := by
  refine G_aload_n (pc := 0) rfl dX1_init_0 ?_
  refine G_obj (pc := 1) dX1_init_1 wd_40 wd_1 wd_2 (by decide) ?_
  refine G_aload_n (pc := 4) rfl dX1_init_4 ?_
  refine G_bipush (pc := 5) (v := 12) (by decide) dX1_init_5 ?_
  refine G_putI (pc := 7) (ci := 1) (j := 2) rfl lk_RX1_9 rfl rfl rfl trivial dX1_init_7 ?_
  refine G_aload_n (pc := 10) rfl dX1_init_10 ?_
  refine G_iconst (pc := 11) (v := 1) (by decide) dX1_init_11 ?_
  refine G_putI (pc := 12) (ci := 1) (j := 4) rfl lk_RX1_15 rfl rfl rfl trivial dX1_init_12 ?_
  refine G_aload_n (pc := 15) rfl dX1_init_15 ?_
  refine G_bipush (pc := 16) (v := 16) (by decide) dX1_init_16 ?_
  refine G_new_int (pc := 18) (N := 16) wd_3 (by decide) (by decide) (by decide) (len := 20) (sh1 := [(0, 11), (1, 12), (1, 4), (1, 4), (5, 4), (1, 40), (1, 40), (1, 40), (1, 40), (1, 4), (1, 4), (1, 4), (4, 6), (0, 3), (0, 2), (0, 8), (0, 10), (0, 7), (0, 9), (0, 1), (1, 16)]) rfl rfl (fun j => by simp [gup, hz]) (by decide) (by decide) dX1_init_18 ?_
  refine G_putF (pc := 20) (ci := 1) (j := 5) rfl lk_RX1_18 rfl rfl rfl rfl rfl rfl dX1_init_20 ?_
  refine G_aload_n (pc := 23) rfl dX1_init_23 ?_
  refine G_bipush (pc := 24) (v := 6) (by decide) dX1_init_24 ?_
  refine G_new_int (pc := 26) (N := 6) wd_3 (by decide) (by decide) (by decide) (len := 21) (sh1 := [(0, 11), (1, 12), (1, 4), (1, 4), (5, 4), (1, 40), (1, 40), (1, 40), (1, 40), (1, 4), (1, 4), (1, 4), (4, 6), (0, 3), (0, 2), (0, 8), (0, 10), (0, 7), (0, 9), (0, 1), (1, 16), (1, 6)]) rfl rfl (fun j => by simp [gup, hz]) (by decide) (by decide) dX1_init_26 ?_
  refine G_putF (pc := 28) (ci := 1) (j := 6) rfl lk_RX1_22 rfl rfl rfl rfl rfl rfl dX1_init_28 ?_
  refine G_aload_n (pc := 31) rfl dX1_init_31 ?_
  refine G_bipush (pc := 32) (v := 6) (by decide) dX1_init_32 ?_
  refine G_new_int (pc := 34) (N := 6) wd_3 (by decide) (by decide) (by decide) (len := 22) (sh1 := [(0, 11), (1, 12), (1, 4), (1, 4), (5, 4), (1, 40), (1, 40), (1, 40), (1, 40), (1, 4), (1, 4), (1, 4), (4, 6), (0, 3), (0, 2), (0, 8), (0, 10), (0, 7), (0, 9), (0, 1), (1, 16), (1, 6), (1, 6)]) rfl rfl (fun j => by simp [gup, hz]) (by decide) (by decide) dX1_init_34 ?_
  refine G_putF (pc := 36) (ci := 1) (j := 7) rfl lk_RX1_25 rfl rfl rfl rfl rfl rfl dX1_init_36 ?_
  refine G_aload_n (pc := 39) rfl dX1_init_39 ?_
  refine G_bipush (pc := 40) (v := 6) (by decide) dX1_init_40 ?_
  refine G_new_int (pc := 42) (N := 6) wd_3 (by decide) (by decide) (by decide) (len := 23) (sh1 := [(0, 11), (1, 12), (1, 4), (1, 4), (5, 4), (1, 40), (1, 40), (1, 40), (1, 40), (1, 4), (1, 4), (1, 4), (4, 6), (0, 3), (0, 2), (0, 8), (0, 10), (0, 7), (0, 9), (0, 1), (1, 16), (1, 6), (1, 6), (1, 6)]) rfl rfl (fun j => by simp [gup, hz]) (by decide) (by decide) dX1_init_42 ?_
  refine G_putF (pc := 44) (ci := 1) (j := 10) rfl lk_RX1_28 rfl rfl rfl rfl rfl rfl dX1_init_44 ?_
  refine G_aload_n (pc := 47) rfl dX1_init_47 ?_
  refine G_bipush (pc := 48) (v := 6) (by decide) dX1_init_48 ?_
  refine G_new_int (pc := 50) (N := 6) wd_3 (by decide) (by decide) (by decide) (len := 24) (sh1 := [(0, 11), (1, 12), (1, 4), (1, 4), (5, 4), (1, 40), (1, 40), (1, 40), (1, 40), (1, 4), (1, 4), (1, 4), (4, 6), (0, 3), (0, 2), (0, 8), (0, 10), (0, 7), (0, 9), (0, 1), (1, 16), (1, 6), (1, 6), (1, 6), (1, 6)]) rfl rfl (fun j => by simp [gup, hz]) (by decide) (by decide) dX1_init_50 ?_
  refine G_putF (pc := 52) (ci := 1) (j := 11) rfl lk_RX1_31 rfl rfl rfl rfl rfl rfl dX1_init_52 ?_
  refine G_aload_n (pc := 55) rfl dX1_init_55 ?_
  refine G_bipush (pc := 56) (v := 6) (by decide) dX1_init_56 ?_
  refine G_new_int (pc := 58) (N := 6) wd_3 (by decide) (by decide) (by decide) (len := 25) (sh1 := [(0, 11), (1, 12), (1, 4), (1, 4), (5, 4), (1, 40), (1, 40), (1, 40), (1, 40), (1, 4), (1, 4), (1, 4), (4, 6), (0, 3), (0, 2), (0, 8), (0, 10), (0, 7), (0, 9), (0, 1), (1, 16), (1, 6), (1, 6), (1, 6), (1, 6), (1, 6)]) rfl rfl (fun j => by simp [gup, hz]) (by decide) (by decide) dX1_init_58 ?_
  refine G_putF (pc := 60) (ci := 1) (j := 12) rfl lk_RX1_34 rfl rfl rfl rfl rfl rfl dX1_init_60 ?_
  refine G_aload_n (pc := 63) rfl dX1_init_63 ?_
  refine G_bipush (pc := 64) (v := 6) (by decide) dX1_init_64 ?_
  refine G_new_int (pc := 66) (N := 6) wd_3 (by decide) (by decide) (by decide) (len := 26) (sh1 := [(0, 11), (1, 12), (1, 4), (1, 4), (5, 4), (1, 40), (1, 40), (1, 40), (1, 40), (1, 4), (1, 4), (1, 4), (4, 6), (0, 3), (0, 2), (0, 8), (0, 10), (0, 7), (0, 9), (0, 1), (1, 16), (1, 6), (1, 6), (1, 6), (1, 6), (1, 6), (1, 6)]) rfl rfl (fun j => by simp [gup, hz]) (by decide) (by decide) dX1_init_66 ?_
  refine G_putF (pc := 68) (ci := 1) (j := 13) rfl lk_RX1_37 rfl rfl rfl rfl rfl rfl dX1_init_68 ?_
  refine G_aload_n (pc := 71) rfl dX1_init_71 ?_
  refine G_new (pc := 72) (ci := 6) rfl wd_41 wd_42 wd_43 (len := 27) (sh1 := [(0, 11), (1, 12), (1, 4), (1, 4), (5, 4), (1, 40), (1, 40), (1, 40), (1, 40), (1, 4), (1, 4), (1, 4), (4, 6), (0, 3), (0, 2), (0, 8), (0, 10), (0, 7), (0, 9), (0, 1), (1, 16), (1, 6), (1, 6), (1, 6), (1, 6), (1, 6), (1, 6), (0, 6)]) rfl rfl (fun j => by simp [gup, hz]) (fun j => by simp [gupR, gmna, hr]) (by decide) (by decide) dX1_init_72 ?_
  refine G_dup (pc := 75) rfl dX1_init_75 ?_
  refine G_callIN (pc := 76) (mc1 := 4) (ms1 := 224) (vs := []) (mj := mX6_init) (host := "IceKeys") dX1_init_76 cm_X6_init rfl rfl (by decide) wd_46 rfl (by decide) (by decide) (by decide) (by decide) (kX6_init_1 _ _ (fun a j ha => by (try simp only [gupR, gmna]); (repeat (rw [if_neg (by omega)])); exact hr a j (by omega)) (fun a j ha => by (try simp only [gup]); (repeat (rw [if_neg (by omega)])); exact hz a j (by omega)) _) ?_
  rintro r h1 ⟨rfl, rfl⟩
  dsimp only [Option.toList, List.nil_append]
  refine G_putF (pc := 79) (ci := 1) (j := 14) rfl lk_RX1_43 rfl rfl rfl rfl rfl rfl dX1_init_79 ?_
  refine G_aload_n (pc := 82) rfl dX1_init_82 ?_
  refine G_bipush (pc := 83) (v := 24) (by decide) dX1_init_83 ?_
  refine G_new_int (pc := 85) (N := 24) wd_3 (by decide) (by decide) (by decide) (len := 32) (sh1 := [(0, 11), (1, 12), (1, 4), (1, 4), (5, 4), (1, 40), (1, 40), (1, 40), (1, 40), (1, 4), (1, 4), (1, 4), (4, 6), (0, 3), (0, 2), (0, 8), (0, 10), (0, 7), (0, 9), (0, 1), (1, 16), (1, 6), (1, 6), (1, 6), (1, 6), (1, 6), (1, 6), (0, 6), (1, 8), (1, 8), (1, 8), (1, 200), (1, 24)]) rfl rfl (fun j => by simp [gup, hz]) (by decide) (by decide) dX1_init_85 ?_
  refine G_putF (pc := 87) (ci := 1) (j := 15) rfl lk_RX1_47 rfl rfl rfl rfl rfl rfl dX1_init_87 ?_
  refine G_aload_n (pc := 90) rfl dX1_init_90 ?_
  refine G_iconst (pc := 91) (v := 5) (by decide) dX1_init_91 ?_
  refine G_new_int (pc := 92) (N := 5) wd_3 (by decide) (by decide) (by decide) (len := 33) (sh1 := [(0, 11), (1, 12), (1, 4), (1, 4), (5, 4), (1, 40), (1, 40), (1, 40), (1, 40), (1, 4), (1, 4), (1, 4), (4, 6), (0, 3), (0, 2), (0, 8), (0, 10), (0, 7), (0, 9), (0, 1), (1, 16), (1, 6), (1, 6), (1, 6), (1, 6), (1, 6), (1, 6), (0, 6), (1, 8), (1, 8), (1, 8), (1, 200), (1, 24), (1, 5)]) rfl rfl (fun j => by simp [gup, hz]) (by decide) (by decide) dX1_init_92 ?_
  refine G_putF (pc := 94) (ci := 1) (j := 17) rfl lk_RX1_50 rfl rfl rfl rfl rfl rfl dX1_init_94 ?_
  refine G_aload_n (pc := 97) rfl dX1_init_97 ?_
  refine G_bipush (pc := 98) (v := 40) (by decide) dX1_init_98 ?_
  refine G_new_int (pc := 100) (N := 40) wd_3 (by decide) (by decide) (by decide) (len := 34) (sh1 := [(0, 11), (1, 12), (1, 4), (1, 4), (5, 4), (1, 40), (1, 40), (1, 40), (1, 40), (1, 4), (1, 4), (1, 4), (4, 6), (0, 3), (0, 2), (0, 8), (0, 10), (0, 7), (0, 9), (0, 1), (1, 16), (1, 6), (1, 6), (1, 6), (1, 6), (1, 6), (1, 6), (0, 6), (1, 8), (1, 8), (1, 8), (1, 200), (1, 24), (1, 5), (1, 40)]) rfl rfl (fun j => by simp [gup, hz]) (by decide) (by decide) dX1_init_100 ?_
  refine G_putF (pc := 102) (ci := 1) (j := 18) rfl lk_RX1_53 rfl rfl rfl rfl rfl rfl dX1_init_102 ?_
  refine G_aload_n (pc := 105) rfl dX1_init_105 ?_
  refine G_aload_n (pc := 106) rfl dX1_init_106 ?_
  refine G_putF (pc := 107) (ci := 1) (j := 0) rfl lk_RX1_56 rfl rfl rfl rfl rfl rfl dX1_init_107 ?_
  refine G_iconst (pc := 110) (v := 0) (by decide) dX1_init_110 ?_
  refine G_istore_n (pc := 111) (L1 := [some (.ref 19), some (.ref 12), some (.int 0)]) rfl rfl (by decide) dX1_init_111 ?_
  refine G_iload_n (pc := 112) rfl dX1_init_112 ?_
  refine G_bipush (pc := 113) (v := 16) (by decide) dX1_init_113 ?_
  refine G_icmp_ge (pc := 115) (tgt := 131) (by decide) dX1_init_115 (fun z => absurd z (by decide)) (fun _ => ?_)
  refine G_aload_n (pc := 118) rfl dX1_init_118 ?_
  refine G_getR (pc := 119) (r := 20) (ci := 1) (j := 5) rfl lk_RX1_18 rfl rfl (by simp [gupR, gmna]) dX1_init_119 ?_
  refine G_iload_n (pc := 122) rfl dX1_init_122 ?_
  refine G_iconst (pc := 123) (v := 5) (by decide) dX1_init_123 ?_
  refine G_iast (pc := 124) (jj := 0) (by decide) rfl (by unfold vp_in; decide) dX1_init_124 ?_
  refine G_iinc (pc := 125) (v := 1) (w := 1) (L1 := [some (.ref 19), some (.ref 12), some (.int 1)]) (by decide) rfl rfl (by decide) rfl (by decide) dX1_init_125 ?_
  refine G_goto (pc := 128) (tgt := 112) (by decide) dX1_init_128 ?_
  refine G_iload_n (pc := 112) rfl dX1_init_112 ?_
  refine G_bipush (pc := 113) (v := 16) (by decide) dX1_init_113 ?_
  refine G_icmp_ge (pc := 115) (tgt := 131) (by decide) dX1_init_115 (fun z => absurd z (by decide)) (fun _ => ?_)
  refine G_aload_n (pc := 118) rfl dX1_init_118 ?_
  refine G_getR (pc := 119) (r := 20) (ci := 1) (j := 5) rfl lk_RX1_18 rfl rfl (by simp [gupR, gmna]) dX1_init_119 ?_
  refine G_iload_n (pc := 122) rfl dX1_init_122 ?_
  refine G_iconst (pc := 123) (v := 5) (by decide) dX1_init_123 ?_
  refine G_iast (pc := 124) (jj := 1) (by decide) rfl (by unfold vp_in; decide) dX1_init_124 ?_
  refine G_iinc (pc := 125) (v := 1) (w := 2) (L1 := [some (.ref 19), some (.ref 12), some (.int 2)]) (by decide) rfl rfl (by decide) rfl (by decide) dX1_init_125 ?_
  refine G_goto (pc := 128) (tgt := 112) (by decide) dX1_init_128 ?_
  refine G_iload_n (pc := 112) rfl dX1_init_112 ?_
  refine G_bipush (pc := 113) (v := 16) (by decide) dX1_init_113 ?_
  refine G_icmp_ge (pc := 115) (tgt := 131) (by decide) dX1_init_115 (fun z => absurd z (by decide)) (fun _ => ?_)
  refine G_aload_n (pc := 118) rfl dX1_init_118 ?_
  refine G_getR (pc := 119) (r := 20) (ci := 1) (j := 5) rfl lk_RX1_18 rfl rfl (by simp [gupR, gmna]) dX1_init_119 ?_
  refine G_iload_n (pc := 122) rfl dX1_init_122 ?_
  refine G_iconst (pc := 123) (v := 5) (by decide) dX1_init_123 ?_
  refine G_iast (pc := 124) (jj := 2) (by decide) rfl (by unfold vp_in; decide) dX1_init_124 ?_
  refine G_iinc (pc := 125) (v := 1) (w := 3) (L1 := [some (.ref 19), some (.ref 12), some (.int 3)]) (by decide) rfl rfl (by decide) rfl (by decide) dX1_init_125 ?_
  refine G_goto (pc := 128) (tgt := 112) (by decide) dX1_init_128 ?_
  refine G_iload_n (pc := 112) rfl dX1_init_112 ?_
  refine G_bipush (pc := 113) (v := 16) (by decide) dX1_init_113 ?_
  refine G_icmp_ge (pc := 115) (tgt := 131) (by decide) dX1_init_115 (fun z => absurd z (by decide)) (fun _ => ?_)
  refine G_aload_n (pc := 118) rfl dX1_init_118 ?_
  refine G_getR (pc := 119) (r := 20) (ci := 1) (j := 5) rfl lk_RX1_18 rfl rfl (by simp [gupR, gmna]) dX1_init_119 ?_
  refine G_iload_n (pc := 122) rfl dX1_init_122 ?_
  refine G_iconst (pc := 123) (v := 5) (by decide) dX1_init_123 ?_
  refine G_iast (pc := 124) (jj := 3) (by decide) rfl (by unfold vp_in; decide) dX1_init_124 ?_
  refine G_iinc (pc := 125) (v := 1) (w := 4) (L1 := [some (.ref 19), some (.ref 12), some (.int 4)]) (by decide) rfl rfl (by decide) rfl (by decide) dX1_init_125 ?_
  refine G_goto (pc := 128) (tgt := 112) (by decide) dX1_init_128 ?_
  refine G_iload_n (pc := 112) rfl dX1_init_112 ?_
  refine G_bipush (pc := 113) (v := 16) (by decide) dX1_init_113 ?_
  refine G_icmp_ge (pc := 115) (tgt := 131) (by decide) dX1_init_115 (fun z => absurd z (by decide)) (fun _ => ?_)
  refine G_aload_n (pc := 118) rfl dX1_init_118 ?_
  refine G_getR (pc := 119) (r := 20) (ci := 1) (j := 5) rfl lk_RX1_18 rfl rfl (by simp [gupR, gmna]) dX1_init_119 ?_
  refine G_iload_n (pc := 122) rfl dX1_init_122 ?_
  refine G_iconst (pc := 123) (v := 5) (by decide) dX1_init_123 ?_
  refine G_iast (pc := 124) (jj := 4) (by decide) rfl (by unfold vp_in; decide) dX1_init_124 ?_
  refine G_iinc (pc := 125) (v := 1) (w := 5) (L1 := [some (.ref 19), some (.ref 12), some (.int 5)]) (by decide) rfl rfl (by decide) rfl (by decide) dX1_init_125 ?_
  refine G_goto (pc := 128) (tgt := 112) (by decide) dX1_init_128 ?_
  refine G_iload_n (pc := 112) rfl dX1_init_112 ?_
  refine G_bipush (pc := 113) (v := 16) (by decide) dX1_init_113 ?_
  refine G_icmp_ge (pc := 115) (tgt := 131) (by decide) dX1_init_115 (fun z => absurd z (by decide)) (fun _ => ?_)
  refine G_aload_n (pc := 118) rfl dX1_init_118 ?_
  refine G_getR (pc := 119) (r := 20) (ci := 1) (j := 5) rfl lk_RX1_18 rfl rfl (by simp [gupR, gmna]) dX1_init_119 ?_
  refine G_iload_n (pc := 122) rfl dX1_init_122 ?_
  refine G_iconst (pc := 123) (v := 5) (by decide) dX1_init_123 ?_
  refine G_iast (pc := 124) (jj := 5) (by decide) rfl (by unfold vp_in; decide) dX1_init_124 ?_
  refine G_iinc (pc := 125) (v := 1) (w := 6) (L1 := [some (.ref 19), some (.ref 12), some (.int 6)]) (by decide) rfl rfl (by decide) rfl (by decide) dX1_init_125 ?_
  refine G_goto (pc := 128) (tgt := 112) (by decide) dX1_init_128 ?_
  refine G_iload_n (pc := 112) rfl dX1_init_112 ?_
  refine G_bipush (pc := 113) (v := 16) (by decide) dX1_init_113 ?_
  refine G_icmp_ge (pc := 115) (tgt := 131) (by decide) dX1_init_115 (fun z => absurd z (by decide)) (fun _ => ?_)
  refine G_aload_n (pc := 118) rfl dX1_init_118 ?_
  refine G_getR (pc := 119) (r := 20) (ci := 1) (j := 5) rfl lk_RX1_18 rfl rfl (by simp [gupR, gmna]) dX1_init_119 ?_
  refine G_iload_n (pc := 122) rfl dX1_init_122 ?_
  refine G_iconst (pc := 123) (v := 5) (by decide) dX1_init_123 ?_
  refine G_iast (pc := 124) (jj := 6) (by decide) rfl (by unfold vp_in; decide) dX1_init_124 ?_
  refine G_iinc (pc := 125) (v := 1) (w := 7) (L1 := [some (.ref 19), some (.ref 12), some (.int 7)]) (by decide) rfl rfl (by decide) rfl (by decide) dX1_init_125 ?_
  refine G_goto (pc := 128) (tgt := 112) (by decide) dX1_init_128 ?_
  refine G_iload_n (pc := 112) rfl dX1_init_112 ?_
  refine G_bipush (pc := 113) (v := 16) (by decide) dX1_init_113 ?_
  refine G_icmp_ge (pc := 115) (tgt := 131) (by decide) dX1_init_115 (fun z => absurd z (by decide)) (fun _ => ?_)
  refine G_aload_n (pc := 118) rfl dX1_init_118 ?_
  refine G_getR (pc := 119) (r := 20) (ci := 1) (j := 5) rfl lk_RX1_18 rfl rfl (by simp [gupR, gmna]) dX1_init_119 ?_
  refine G_iload_n (pc := 122) rfl dX1_init_122 ?_
  refine G_iconst (pc := 123) (v := 5) (by decide) dX1_init_123 ?_
  refine G_iast (pc := 124) (jj := 7) (by decide) rfl (by unfold vp_in; decide) dX1_init_124 ?_
  refine G_iinc (pc := 125) (v := 1) (w := 8) (L1 := [some (.ref 19), some (.ref 12), some (.int 8)]) (by decide) rfl rfl (by decide) rfl (by decide) dX1_init_125 ?_
  refine G_goto (pc := 128) (tgt := 112) (by decide) dX1_init_128 ?_
  refine G_iload_n (pc := 112) rfl dX1_init_112 ?_
  refine G_bipush (pc := 113) (v := 16) (by decide) dX1_init_113 ?_
  refine G_icmp_ge (pc := 115) (tgt := 131) (by decide) dX1_init_115 (fun z => absurd z (by decide)) (fun _ => ?_)
  refine G_aload_n (pc := 118) rfl dX1_init_118 ?_
  refine G_getR (pc := 119) (r := 20) (ci := 1) (j := 5) rfl lk_RX1_18 rfl rfl (by simp [gupR, gmna]) dX1_init_119 ?_
  refine G_iload_n (pc := 122) rfl dX1_init_122 ?_
  refine G_iconst (pc := 123) (v := 5) (by decide) dX1_init_123 ?_
  refine G_iast (pc := 124) (jj := 8) (by decide) rfl (by unfold vp_in; decide) dX1_init_124 ?_
  refine G_iinc (pc := 125) (v := 1) (w := 9) (L1 := [some (.ref 19), some (.ref 12), some (.int 9)]) (by decide) rfl rfl (by decide) rfl (by decide) dX1_init_125 ?_
  refine G_goto (pc := 128) (tgt := 112) (by decide) dX1_init_128 ?_
  refine G_iload_n (pc := 112) rfl dX1_init_112 ?_
  refine G_bipush (pc := 113) (v := 16) (by decide) dX1_init_113 ?_
  refine G_icmp_ge (pc := 115) (tgt := 131) (by decide) dX1_init_115 (fun z => absurd z (by decide)) (fun _ => ?_)
  refine G_aload_n (pc := 118) rfl dX1_init_118 ?_
  refine G_getR (pc := 119) (r := 20) (ci := 1) (j := 5) rfl lk_RX1_18 rfl rfl (by simp [gupR, gmna]) dX1_init_119 ?_
  refine G_iload_n (pc := 122) rfl dX1_init_122 ?_
  refine G_iconst (pc := 123) (v := 5) (by decide) dX1_init_123 ?_
  refine G_iast (pc := 124) (jj := 9) (by decide) rfl (by unfold vp_in; decide) dX1_init_124 ?_
  refine G_iinc (pc := 125) (v := 1) (w := 10) (L1 := [some (.ref 19), some (.ref 12), some (.int 10)]) (by decide) rfl rfl (by decide) rfl (by decide) dX1_init_125 ?_
  refine G_goto (pc := 128) (tgt := 112) (by decide) dX1_init_128 ?_
  refine G_iload_n (pc := 112) rfl dX1_init_112 ?_
  refine G_bipush (pc := 113) (v := 16) (by decide) dX1_init_113 ?_
  refine G_icmp_ge (pc := 115) (tgt := 131) (by decide) dX1_init_115 (fun z => absurd z (by decide)) (fun _ => ?_)
  refine G_aload_n (pc := 118) rfl dX1_init_118 ?_
  refine G_getR (pc := 119) (r := 20) (ci := 1) (j := 5) rfl lk_RX1_18 rfl rfl (by simp [gupR, gmna]) dX1_init_119 ?_
  refine G_iload_n (pc := 122) rfl dX1_init_122 ?_
  refine G_iconst (pc := 123) (v := 5) (by decide) dX1_init_123 ?_
  refine G_iast (pc := 124) (jj := 10) (by decide) rfl (by unfold vp_in; decide) dX1_init_124 ?_
  refine G_iinc (pc := 125) (v := 1) (w := 11) (L1 := [some (.ref 19), some (.ref 12), some (.int 11)]) (by decide) rfl rfl (by decide) rfl (by decide) dX1_init_125 ?_
  refine G_goto (pc := 128) (tgt := 112) (by decide) dX1_init_128 ?_
  refine G_iload_n (pc := 112) rfl dX1_init_112 ?_
  refine G_bipush (pc := 113) (v := 16) (by decide) dX1_init_113 ?_
  refine G_icmp_ge (pc := 115) (tgt := 131) (by decide) dX1_init_115 (fun z => absurd z (by decide)) (fun _ => ?_)
  refine G_aload_n (pc := 118) rfl dX1_init_118 ?_
  refine G_getR (pc := 119) (r := 20) (ci := 1) (j := 5) rfl lk_RX1_18 rfl rfl (by simp [gupR, gmna]) dX1_init_119 ?_
  refine G_iload_n (pc := 122) rfl dX1_init_122 ?_
  refine G_iconst (pc := 123) (v := 5) (by decide) dX1_init_123 ?_
  refine G_iast (pc := 124) (jj := 11) (by decide) rfl (by unfold vp_in; decide) dX1_init_124 ?_
  refine G_iinc (pc := 125) (v := 1) (w := 12) (L1 := [some (.ref 19), some (.ref 12), some (.int 12)]) (by decide) rfl rfl (by decide) rfl (by decide) dX1_init_125 ?_
  refine G_goto (pc := 128) (tgt := 112) (by decide) dX1_init_128 ?_
  refine G_iload_n (pc := 112) rfl dX1_init_112 ?_
  refine G_bipush (pc := 113) (v := 16) (by decide) dX1_init_113 ?_
  refine G_icmp_ge (pc := 115) (tgt := 131) (by decide) dX1_init_115 (fun z => absurd z (by decide)) (fun _ => ?_)
  refine G_aload_n (pc := 118) rfl dX1_init_118 ?_
  refine G_getR (pc := 119) (r := 20) (ci := 1) (j := 5) rfl lk_RX1_18 rfl rfl (by simp [gupR, gmna]) dX1_init_119 ?_
  refine G_iload_n (pc := 122) rfl dX1_init_122 ?_
  refine G_iconst (pc := 123) (v := 5) (by decide) dX1_init_123 ?_
  refine G_iast (pc := 124) (jj := 12) (by decide) rfl (by unfold vp_in; decide) dX1_init_124 ?_
  refine G_iinc (pc := 125) (v := 1) (w := 13) (L1 := [some (.ref 19), some (.ref 12), some (.int 13)]) (by decide) rfl rfl (by decide) rfl (by decide) dX1_init_125 ?_
  refine G_goto (pc := 128) (tgt := 112) (by decide) dX1_init_128 ?_
  refine G_iload_n (pc := 112) rfl dX1_init_112 ?_
  refine G_bipush (pc := 113) (v := 16) (by decide) dX1_init_113 ?_
  refine G_icmp_ge (pc := 115) (tgt := 131) (by decide) dX1_init_115 (fun z => absurd z (by decide)) (fun _ => ?_)
  refine G_aload_n (pc := 118) rfl dX1_init_118 ?_
  refine G_getR (pc := 119) (r := 20) (ci := 1) (j := 5) rfl lk_RX1_18 rfl rfl (by simp [gupR, gmna]) dX1_init_119 ?_
  refine G_iload_n (pc := 122) rfl dX1_init_122 ?_
  refine G_iconst (pc := 123) (v := 5) (by decide) dX1_init_123 ?_
  refine G_iast (pc := 124) (jj := 13) (by decide) rfl (by unfold vp_in; decide) dX1_init_124 ?_
  refine G_iinc (pc := 125) (v := 1) (w := 14) (L1 := [some (.ref 19), some (.ref 12), some (.int 14)]) (by decide) rfl rfl (by decide) rfl (by decide) dX1_init_125 ?_
  refine G_goto (pc := 128) (tgt := 112) (by decide) dX1_init_128 ?_
  refine G_iload_n (pc := 112) rfl dX1_init_112 ?_
  refine G_bipush (pc := 113) (v := 16) (by decide) dX1_init_113 ?_
  refine G_icmp_ge (pc := 115) (tgt := 131) (by decide) dX1_init_115 (fun z => absurd z (by decide)) (fun _ => ?_)
  refine G_aload_n (pc := 118) rfl dX1_init_118 ?_
  refine G_getR (pc := 119) (r := 20) (ci := 1) (j := 5) rfl lk_RX1_18 rfl rfl (by simp [gupR, gmna]) dX1_init_119 ?_
  refine G_iload_n (pc := 122) rfl dX1_init_122 ?_
  refine G_iconst (pc := 123) (v := 5) (by decide) dX1_init_123 ?_
  refine G_iast (pc := 124) (jj := 14) (by decide) rfl (by unfold vp_in; decide) dX1_init_124 ?_
  refine G_iinc (pc := 125) (v := 1) (w := 15) (L1 := [some (.ref 19), some (.ref 12), some (.int 15)]) (by decide) rfl rfl (by decide) rfl (by decide) dX1_init_125 ?_
  refine G_goto (pc := 128) (tgt := 112) (by decide) dX1_init_128 ?_
  refine G_iload_n (pc := 112) rfl dX1_init_112 ?_
  refine G_bipush (pc := 113) (v := 16) (by decide) dX1_init_113 ?_
  refine G_icmp_ge (pc := 115) (tgt := 131) (by decide) dX1_init_115 (fun z => absurd z (by decide)) (fun _ => ?_)
  refine G_aload_n (pc := 118) rfl dX1_init_118 ?_
  refine G_getR (pc := 119) (r := 20) (ci := 1) (j := 5) rfl lk_RX1_18 rfl rfl (by simp [gupR, gmna]) dX1_init_119 ?_
  refine G_iload_n (pc := 122) rfl dX1_init_122 ?_
  refine G_iconst (pc := 123) (v := 5) (by decide) dX1_init_123 ?_
  refine G_iast (pc := 124) (jj := 15) (by decide) rfl (by unfold vp_in; decide) dX1_init_124 ?_
  refine G_iinc (pc := 125) (v := 1) (w := 16) (L1 := [some (.ref 19), some (.ref 12), some (.int 16)]) (by decide) rfl rfl (by decide) rfl (by decide) dX1_init_125 ?_
  refine G_goto (pc := 128) (tgt := 112) (by decide) dX1_init_128 ?_
  refine G_iload_n (pc := 112) rfl dX1_init_112 ?_
  refine G_bipush (pc := 113) (v := 16) (by decide) dX1_init_113 ?_
  refine G_icmp_ge (pc := 115) (tgt := 131) (by decide) dX1_init_115 (fun _ => ?_) (fun z => absurd (by decide) z)
  exact G_vret (pc := 131) (by decide) (by decide) rfl dX1_init_131 ⟨rfl, rfl⟩
set_option maxRecDepth 100000 in
set_option maxHeartbeats 4000000 in
theorem kX6_init_2 (R : gR) (I : gI) (hr : ∀ a j, 44 ≤ a → R a j = none) (hz : ∀ a j, 44 ≤ a → I a j = 0) (d : Nat) : G (d + 1) mX6_init 4 224 0 0 0 (gent 1 [.ref 43]) [] [(0, 11), (1, 12), (1, 4), (1, 4), (5, 4), (1, 40), (1, 40), (1, 40), (1, 40), (1, 4), (1, 4), (1, 4), (4, 6), (0, 3), (0, 2), (0, 8), (0, 10), (0, 7), (0, 9), (0, 1), (1, 16), (1, 6), (1, 6), (1, 6), (1, 6), (1, 6), (1, 6), (0, 6), (1, 8), (1, 8), (1, 8), (1, 200), (1, 24), (1, 5), (1, 40), (0, 1), (1, 16), (1, 6), (1, 6), (1, 6), (1, 6), (1, 6), (1, 6), (0, 6)] R I (fun r h1 => r = none ∧ h1 = ([(0, 11), (1, 12), (1, 4), (1, 4), (5, 4), (1, 40), (1, 40), (1, 40), (1, 40), (1, 4), (1, 4), (1, 4), (4, 6), (0, 3), (0, 2), (0, 8), (0, 10), (0, 7), (0, 9), (0, 1), (1, 16), (1, 6), (1, 6), (1, 6), (1, 6), (1, 6), (1, 6), (0, 6), (1, 8), (1, 8), (1, 8), (1, 200), (1, 24), (1, 5), (1, 40), (0, 1), (1, 16), (1, 6), (1, 6), (1, 6), (1, 6), (1, 6), (1, 6), (0, 6), (1, 8), (1, 8), (1, 8), (1, 200)], (gupR (gupR (gupR (gupR R 43 2 (some 44)) 43 3 (some 45)) 43 4 (some 46)) 43 5 (some 47)), I)) := by
  refine G_aload_n (pc := 0) rfl dX6_init_0 ?_
  refine G_obj (pc := 1) dX6_init_1 wd_44 wd_1 wd_2 (by decide) ?_
  refine G_aload_n (pc := 4) rfl dX6_init_4 ?_
  refine G_bipush (pc := 5) (v := 8) (by decide) dX6_init_5 ?_
  refine G_new_int (pc := 7) (N := 8) wd_3 (by decide) (by decide) (by decide) (len := 44) (sh1 := [(0, 11), (1, 12), (1, 4), (1, 4), (5, 4), (1, 40), (1, 40), (1, 40), (1, 40), (1, 4), (1, 4), (1, 4), (4, 6), (0, 3), (0, 2), (0, 8), (0, 10), (0, 7), (0, 9), (0, 1), (1, 16), (1, 6), (1, 6), (1, 6), (1, 6), (1, 6), (1, 6), (0, 6), (1, 8), (1, 8), (1, 8), (1, 200), (1, 24), (1, 5), (1, 40), (0, 1), (1, 16), (1, 6), (1, 6), (1, 6), (1, 6), (1, 6), (1, 6), (0, 6), (1, 8)]) rfl rfl (fun j => by simp [gup, hz]) (by decide) (by decide) dX6_init_7 ?_
  refine G_putF (pc := 9) (ci := 6) (j := 2) rfl lk_RX6_9 rfl rfl rfl rfl rfl rfl dX6_init_9 ?_
  refine G_aload_n (pc := 12) rfl dX6_init_12 ?_
  refine G_bipush (pc := 13) (v := 8) (by decide) dX6_init_13 ?_
  refine G_new_int (pc := 15) (N := 8) wd_3 (by decide) (by decide) (by decide) (len := 45) (sh1 := [(0, 11), (1, 12), (1, 4), (1, 4), (5, 4), (1, 40), (1, 40), (1, 40), (1, 40), (1, 4), (1, 4), (1, 4), (4, 6), (0, 3), (0, 2), (0, 8), (0, 10), (0, 7), (0, 9), (0, 1), (1, 16), (1, 6), (1, 6), (1, 6), (1, 6), (1, 6), (1, 6), (0, 6), (1, 8), (1, 8), (1, 8), (1, 200), (1, 24), (1, 5), (1, 40), (0, 1), (1, 16), (1, 6), (1, 6), (1, 6), (1, 6), (1, 6), (1, 6), (0, 6), (1, 8), (1, 8)]) rfl rfl (fun j => by simp [gup, hz]) (by decide) (by decide) dX6_init_15 ?_
  refine G_putF (pc := 17) (ci := 6) (j := 3) rfl lk_RX6_15 rfl rfl rfl rfl rfl rfl dX6_init_17 ?_
  refine G_aload_n (pc := 20) rfl dX6_init_20 ?_
  refine G_bipush (pc := 21) (v := 8) (by decide) dX6_init_21 ?_
  refine G_new_int (pc := 23) (N := 8) wd_3 (by decide) (by decide) (by decide) (len := 46) (sh1 := [(0, 11), (1, 12), (1, 4), (1, 4), (5, 4), (1, 40), (1, 40), (1, 40), (1, 40), (1, 4), (1, 4), (1, 4), (4, 6), (0, 3), (0, 2), (0, 8), (0, 10), (0, 7), (0, 9), (0, 1), (1, 16), (1, 6), (1, 6), (1, 6), (1, 6), (1, 6), (1, 6), (0, 6), (1, 8), (1, 8), (1, 8), (1, 200), (1, 24), (1, 5), (1, 40), (0, 1), (1, 16), (1, 6), (1, 6), (1, 6), (1, 6), (1, 6), (1, 6), (0, 6), (1, 8), (1, 8), (1, 8)]) rfl rfl (fun j => by simp [gup, hz]) (by decide) (by decide) dX6_init_23 ?_
  refine G_putF (pc := 25) (ci := 6) (j := 4) rfl lk_RX6_18 rfl rfl rfl rfl rfl rfl dX6_init_25 ?_
  refine G_aload_n (pc := 28) rfl dX6_init_28 ?_
  refine G_sipush (pc := 29) (v := 200) (by decide) dX6_init_29 ?_
  refine G_new_int (pc := 32) (N := 200) wd_3 (by decide) (by decide) (by decide) (len := 47) (sh1 := [(0, 11), (1, 12), (1, 4), (1, 4), (5, 4), (1, 40), (1, 40), (1, 40), (1, 40), (1, 4), (1, 4), (1, 4), (4, 6), (0, 3), (0, 2), (0, 8), (0, 10), (0, 7), (0, 9), (0, 1), (1, 16), (1, 6), (1, 6), (1, 6), (1, 6), (1, 6), (1, 6), (0, 6), (1, 8), (1, 8), (1, 8), (1, 200), (1, 24), (1, 5), (1, 40), (0, 1), (1, 16), (1, 6), (1, 6), (1, 6), (1, 6), (1, 6), (1, 6), (0, 6), (1, 8), (1, 8), (1, 8), (1, 200)]) rfl rfl (fun j => by simp [gup, hz]) (by decide) (by decide) dX6_init_32 ?_
  refine G_putF (pc := 34) (ci := 6) (j := 5) rfl lk_RX6_21 rfl rfl rfl rfl rfl rfl dX6_init_34 ?_
  exact G_vret (pc := 37) (by decide) (by decide) rfl dX6_init_37 ⟨rfl, rfl⟩
set_option maxRecDepth 100000 in
set_option maxHeartbeats 4000000 in
theorem kX1_init_2 (R : gR) (I : gI) (hr : ∀ a j, 36 ≤ a → R a j = none) (hz : ∀ a j, 36 ≤ a → I a j = 0) (d : Nat) : G (d + 2) mX1_init 15 351 0 0 0 (gent 3 [.ref 35, .ref 12]) [] [(0, 11), (1, 12), (1, 4), (1, 4), (5, 4), (1, 40), (1, 40), (1, 40), (1, 40), (1, 4), (1, 4), (1, 4), (4, 6), (0, 3), (0, 2), (0, 8), (0, 10), (0, 7), (0, 9), (0, 1), (1, 16), (1, 6), (1, 6), (1, 6), (1, 6), (1, 6), (1, 6), (0, 6), (1, 8), (1, 8), (1, 8), (1, 200), (1, 24), (1, 5), (1, 40), (0, 1)] R I (fun r h1 => r = none ∧ h1 = ([(0, 11), (1, 12), (1, 4), (1, 4), (5, 4), (1, 40), (1, 40), (1, 40), (1, 40), (1, 4), (1, 4), (1, 4), (4, 6), (0, 3), (0, 2), (0, 8), (0, 10), (0, 7), (0, 9), (0, 1), (1, 16), (1, 6), (1, 6), (1, 6), (1, 6), (1, 6), (1, 6), (0, 6), (1, 8), (1, 8), (1, 8), (1, 200), (1, 24), (1, 5), (1, 40), (0, 1), (1, 16), (1, 6), (1, 6), (1, 6), (1, 6), (1, 6), (1, 6), (0, 6), (1, 8), (1, 8), (1, 8), (1, 200), (1, 24), (1, 5), (1, 40)], (gupR (gupR (gupR (gupR (gupR (gupR (gupR (gupR (gupR (gupR (gupR (gupR (gupR (gupR (gupR (gupR R 35 5 (some 36)) 35 6 (some 37)) 35 7 (some 38)) 35 10 (some 39)) 35 11 (some 40)) 35 12 (some 41)) 35 13 (some 42)) 43 2 (some 44)) 43 3 (some 45)) 43 4 (some 46)) 43 5 (some 47)) 35 14 (some 43)) 35 15 (some 48)) 35 17 (some 49)) 35 18 (some 50)) 35 0 (some 12)), (gup (gup (gup (gup (gup (gup (gup (gup (gup (gup (gup (gup (gup (gup (gup (gup (gup (gup I 35 2 12) 35 4 1) 36 0 5) 36 1 5) 36 2 5) 36 3 5) 36 4 5) 36 5 5) 36 6 5) 36 7 5) 36 8 5) 36 9 5) 36 10 5) 36 11 5) 36 12 5) 36 13 5) 36 14 5) 36 15 5))) := by
  refine G_aload_n (pc := 0) rfl dX1_init_0 ?_
  refine G_obj (pc := 1) dX1_init_1 wd_40 wd_1 wd_2 (by decide) ?_
  refine G_aload_n (pc := 4) rfl dX1_init_4 ?_
  refine G_bipush (pc := 5) (v := 12) (by decide) dX1_init_5 ?_
  refine G_putI (pc := 7) (ci := 1) (j := 2) rfl lk_RX1_9 rfl rfl rfl trivial dX1_init_7 ?_
  refine G_aload_n (pc := 10) rfl dX1_init_10 ?_
  refine G_iconst (pc := 11) (v := 1) (by decide) dX1_init_11 ?_
  refine G_putI (pc := 12) (ci := 1) (j := 4) rfl lk_RX1_15 rfl rfl rfl trivial dX1_init_12 ?_
  refine G_aload_n (pc := 15) rfl dX1_init_15 ?_
  refine G_bipush (pc := 16) (v := 16) (by decide) dX1_init_16 ?_
  refine G_new_int (pc := 18) (N := 16) wd_3 (by decide) (by decide) (by decide) (len := 36) (sh1 := [(0, 11), (1, 12), (1, 4), (1, 4), (5, 4), (1, 40), (1, 40), (1, 40), (1, 40), (1, 4), (1, 4), (1, 4), (4, 6), (0, 3), (0, 2), (0, 8), (0, 10), (0, 7), (0, 9), (0, 1), (1, 16), (1, 6), (1, 6), (1, 6), (1, 6), (1, 6), (1, 6), (0, 6), (1, 8), (1, 8), (1, 8), (1, 200), (1, 24), (1, 5), (1, 40), (0, 1), (1, 16)]) rfl rfl (fun j => by simp [gup, hz]) (by decide) (by decide) dX1_init_18 ?_
  refine G_putF (pc := 20) (ci := 1) (j := 5) rfl lk_RX1_18 rfl rfl rfl rfl rfl rfl dX1_init_20 ?_
  refine G_aload_n (pc := 23) rfl dX1_init_23 ?_
  refine G_bipush (pc := 24) (v := 6) (by decide) dX1_init_24 ?_
  refine G_new_int (pc := 26) (N := 6) wd_3 (by decide) (by decide) (by decide) (len := 37) (sh1 := [(0, 11), (1, 12), (1, 4), (1, 4), (5, 4), (1, 40), (1, 40), (1, 40), (1, 40), (1, 4), (1, 4), (1, 4), (4, 6), (0, 3), (0, 2), (0, 8), (0, 10), (0, 7), (0, 9), (0, 1), (1, 16), (1, 6), (1, 6), (1, 6), (1, 6), (1, 6), (1, 6), (0, 6), (1, 8), (1, 8), (1, 8), (1, 200), (1, 24), (1, 5), (1, 40), (0, 1), (1, 16), (1, 6)]) rfl rfl (fun j => by simp [gup, hz]) (by decide) (by decide) dX1_init_26 ?_
  refine G_putF (pc := 28) (ci := 1) (j := 6) rfl lk_RX1_22 rfl rfl rfl rfl rfl rfl dX1_init_28 ?_
  refine G_aload_n (pc := 31) rfl dX1_init_31 ?_
  refine G_bipush (pc := 32) (v := 6) (by decide) dX1_init_32 ?_
  refine G_new_int (pc := 34) (N := 6) wd_3 (by decide) (by decide) (by decide) (len := 38) (sh1 := [(0, 11), (1, 12), (1, 4), (1, 4), (5, 4), (1, 40), (1, 40), (1, 40), (1, 40), (1, 4), (1, 4), (1, 4), (4, 6), (0, 3), (0, 2), (0, 8), (0, 10), (0, 7), (0, 9), (0, 1), (1, 16), (1, 6), (1, 6), (1, 6), (1, 6), (1, 6), (1, 6), (0, 6), (1, 8), (1, 8), (1, 8), (1, 200), (1, 24), (1, 5), (1, 40), (0, 1), (1, 16), (1, 6), (1, 6)]) rfl rfl (fun j => by simp [gup, hz]) (by decide) (by decide) dX1_init_34 ?_
  refine G_putF (pc := 36) (ci := 1) (j := 7) rfl lk_RX1_25 rfl rfl rfl rfl rfl rfl dX1_init_36 ?_
  refine G_aload_n (pc := 39) rfl dX1_init_39 ?_
  refine G_bipush (pc := 40) (v := 6) (by decide) dX1_init_40 ?_
  refine G_new_int (pc := 42) (N := 6) wd_3 (by decide) (by decide) (by decide) (len := 39) (sh1 := [(0, 11), (1, 12), (1, 4), (1, 4), (5, 4), (1, 40), (1, 40), (1, 40), (1, 40), (1, 4), (1, 4), (1, 4), (4, 6), (0, 3), (0, 2), (0, 8), (0, 10), (0, 7), (0, 9), (0, 1), (1, 16), (1, 6), (1, 6), (1, 6), (1, 6), (1, 6), (1, 6), (0, 6), (1, 8), (1, 8), (1, 8), (1, 200), (1, 24), (1, 5), (1, 40), (0, 1), (1, 16), (1, 6), (1, 6), (1, 6)]) rfl rfl (fun j => by simp [gup, hz]) (by decide) (by decide) dX1_init_42 ?_
  refine G_putF (pc := 44) (ci := 1) (j := 10) rfl lk_RX1_28 rfl rfl rfl rfl rfl rfl dX1_init_44 ?_
  refine G_aload_n (pc := 47) rfl dX1_init_47 ?_
  refine G_bipush (pc := 48) (v := 6) (by decide) dX1_init_48 ?_
  refine G_new_int (pc := 50) (N := 6) wd_3 (by decide) (by decide) (by decide) (len := 40) (sh1 := [(0, 11), (1, 12), (1, 4), (1, 4), (5, 4), (1, 40), (1, 40), (1, 40), (1, 40), (1, 4), (1, 4), (1, 4), (4, 6), (0, 3), (0, 2), (0, 8), (0, 10), (0, 7), (0, 9), (0, 1), (1, 16), (1, 6), (1, 6), (1, 6), (1, 6), (1, 6), (1, 6), (0, 6), (1, 8), (1, 8), (1, 8), (1, 200), (1, 24), (1, 5), (1, 40), (0, 1), (1, 16), (1, 6), (1, 6), (1, 6), (1, 6)]) rfl rfl (fun j => by simp [gup, hz]) (by decide) (by decide) dX1_init_50 ?_
  refine G_putF (pc := 52) (ci := 1) (j := 11) rfl lk_RX1_31 rfl rfl rfl rfl rfl rfl dX1_init_52 ?_
  refine G_aload_n (pc := 55) rfl dX1_init_55 ?_
  refine G_bipush (pc := 56) (v := 6) (by decide) dX1_init_56 ?_
  refine G_new_int (pc := 58) (N := 6) wd_3 (by decide) (by decide) (by decide) (len := 41) (sh1 := [(0, 11), (1, 12), (1, 4), (1, 4), (5, 4), (1, 40), (1, 40), (1, 40), (1, 40), (1, 4), (1, 4), (1, 4), (4, 6), (0, 3), (0, 2), (0, 8), (0, 10), (0, 7), (0, 9), (0, 1), (1, 16), (1, 6), (1, 6), (1, 6), (1, 6), (1, 6), (1, 6), (0, 6), (1, 8), (1, 8), (1, 8), (1, 200), (1, 24), (1, 5), (1, 40), (0, 1), (1, 16), (1, 6), (1, 6), (1, 6), (1, 6), (1, 6)]) rfl rfl (fun j => by simp [gup, hz]) (by decide) (by decide) dX1_init_58 ?_
  refine G_putF (pc := 60) (ci := 1) (j := 12) rfl lk_RX1_34 rfl rfl rfl rfl rfl rfl dX1_init_60 ?_
  refine G_aload_n (pc := 63) rfl dX1_init_63 ?_
  refine G_bipush (pc := 64) (v := 6) (by decide) dX1_init_64 ?_
  refine G_new_int (pc := 66) (N := 6) wd_3 (by decide) (by decide) (by decide) (len := 42) (sh1 := [(0, 11), (1, 12), (1, 4), (1, 4), (5, 4), (1, 40), (1, 40), (1, 40), (1, 40), (1, 4), (1, 4), (1, 4), (4, 6), (0, 3), (0, 2), (0, 8), (0, 10), (0, 7), (0, 9), (0, 1), (1, 16), (1, 6), (1, 6), (1, 6), (1, 6), (1, 6), (1, 6), (0, 6), (1, 8), (1, 8), (1, 8), (1, 200), (1, 24), (1, 5), (1, 40), (0, 1), (1, 16), (1, 6), (1, 6), (1, 6), (1, 6), (1, 6), (1, 6)]) rfl rfl (fun j => by simp [gup, hz]) (by decide) (by decide) dX1_init_66 ?_
  refine G_putF (pc := 68) (ci := 1) (j := 13) rfl lk_RX1_37 rfl rfl rfl rfl rfl rfl dX1_init_68 ?_
  refine G_aload_n (pc := 71) rfl dX1_init_71 ?_
  refine G_new (pc := 72) (ci := 6) rfl wd_41 wd_42 wd_43 (len := 43) (sh1 := [(0, 11), (1, 12), (1, 4), (1, 4), (5, 4), (1, 40), (1, 40), (1, 40), (1, 40), (1, 4), (1, 4), (1, 4), (4, 6), (0, 3), (0, 2), (0, 8), (0, 10), (0, 7), (0, 9), (0, 1), (1, 16), (1, 6), (1, 6), (1, 6), (1, 6), (1, 6), (1, 6), (0, 6), (1, 8), (1, 8), (1, 8), (1, 200), (1, 24), (1, 5), (1, 40), (0, 1), (1, 16), (1, 6), (1, 6), (1, 6), (1, 6), (1, 6), (1, 6), (0, 6)]) rfl rfl (fun j => by simp [gup, hz]) (fun j => by simp [gupR, gmna, hr]) (by decide) (by decide) dX1_init_72 ?_
  refine G_dup (pc := 75) rfl dX1_init_75 ?_
  refine G_callIN (pc := 76) (mc1 := 4) (ms1 := 224) (vs := []) (mj := mX6_init) (host := "IceKeys") dX1_init_76 cm_X6_init rfl rfl (by decide) wd_46 rfl (by decide) (by decide) (by decide) (by decide) (kX6_init_2 _ _ (fun a j ha => by (try simp only [gupR, gmna]); (repeat (rw [if_neg (by omega)])); exact hr a j (by omega)) (fun a j ha => by (try simp only [gup]); (repeat (rw [if_neg (by omega)])); exact hz a j (by omega)) _) ?_
  rintro r h1 ⟨rfl, rfl⟩
  dsimp only [Option.toList, List.nil_append]
  refine G_putF (pc := 79) (ci := 1) (j := 14) rfl lk_RX1_43 rfl rfl rfl rfl rfl rfl dX1_init_79 ?_
  refine G_aload_n (pc := 82) rfl dX1_init_82 ?_
  refine G_bipush (pc := 83) (v := 24) (by decide) dX1_init_83 ?_
  refine G_new_int (pc := 85) (N := 24) wd_3 (by decide) (by decide) (by decide) (len := 48) (sh1 := [(0, 11), (1, 12), (1, 4), (1, 4), (5, 4), (1, 40), (1, 40), (1, 40), (1, 40), (1, 4), (1, 4), (1, 4), (4, 6), (0, 3), (0, 2), (0, 8), (0, 10), (0, 7), (0, 9), (0, 1), (1, 16), (1, 6), (1, 6), (1, 6), (1, 6), (1, 6), (1, 6), (0, 6), (1, 8), (1, 8), (1, 8), (1, 200), (1, 24), (1, 5), (1, 40), (0, 1), (1, 16), (1, 6), (1, 6), (1, 6), (1, 6), (1, 6), (1, 6), (0, 6), (1, 8), (1, 8), (1, 8), (1, 200), (1, 24)]) rfl rfl (fun j => by simp [gup, hz]) (by decide) (by decide) dX1_init_85 ?_
  refine G_putF (pc := 87) (ci := 1) (j := 15) rfl lk_RX1_47 rfl rfl rfl rfl rfl rfl dX1_init_87 ?_
  refine G_aload_n (pc := 90) rfl dX1_init_90 ?_
  refine G_iconst (pc := 91) (v := 5) (by decide) dX1_init_91 ?_
  refine G_new_int (pc := 92) (N := 5) wd_3 (by decide) (by decide) (by decide) (len := 49) (sh1 := [(0, 11), (1, 12), (1, 4), (1, 4), (5, 4), (1, 40), (1, 40), (1, 40), (1, 40), (1, 4), (1, 4), (1, 4), (4, 6), (0, 3), (0, 2), (0, 8), (0, 10), (0, 7), (0, 9), (0, 1), (1, 16), (1, 6), (1, 6), (1, 6), (1, 6), (1, 6), (1, 6), (0, 6), (1, 8), (1, 8), (1, 8), (1, 200), (1, 24), (1, 5), (1, 40), (0, 1), (1, 16), (1, 6), (1, 6), (1, 6), (1, 6), (1, 6), (1, 6), (0, 6), (1, 8), (1, 8), (1, 8), (1, 200), (1, 24), (1, 5)]) rfl rfl (fun j => by simp [gup, hz]) (by decide) (by decide) dX1_init_92 ?_
  refine G_putF (pc := 94) (ci := 1) (j := 17) rfl lk_RX1_50 rfl rfl rfl rfl rfl rfl dX1_init_94 ?_
  refine G_aload_n (pc := 97) rfl dX1_init_97 ?_
  refine G_bipush (pc := 98) (v := 40) (by decide) dX1_init_98 ?_
  refine G_new_int (pc := 100) (N := 40) wd_3 (by decide) (by decide) (by decide) (len := 50) (sh1 := [(0, 11), (1, 12), (1, 4), (1, 4), (5, 4), (1, 40), (1, 40), (1, 40), (1, 40), (1, 4), (1, 4), (1, 4), (4, 6), (0, 3), (0, 2), (0, 8), (0, 10), (0, 7), (0, 9), (0, 1), (1, 16), (1, 6), (1, 6), (1, 6), (1, 6), (1, 6), (1, 6), (0, 6), (1, 8), (1, 8), (1, 8), (1, 200), (1, 24), (1, 5), (1, 40), (0, 1), (1, 16), (1, 6), (1, 6), (1, 6), (1, 6), (1, 6), (1, 6), (0, 6), (1, 8), (1, 8), (1, 8), (1, 200), (1, 24), (1, 5), (1, 40)]) rfl rfl (fun j => by simp [gup, hz]) (by decide) (by decide) dX1_init_100 ?_
  refine G_putF (pc := 102) (ci := 1) (j := 18) rfl lk_RX1_53 rfl rfl rfl rfl rfl rfl dX1_init_102 ?_
  refine G_aload_n (pc := 105) rfl dX1_init_105 ?_
  refine G_aload_n (pc := 106) rfl dX1_init_106 ?_
  refine G_putF (pc := 107) (ci := 1) (j := 0) rfl lk_RX1_56 rfl rfl rfl rfl rfl rfl dX1_init_107 ?_
  refine G_iconst (pc := 110) (v := 0) (by decide) dX1_init_110 ?_
  refine G_istore_n (pc := 111) (L1 := [some (.ref 35), some (.ref 12), some (.int 0)]) rfl rfl (by decide) dX1_init_111 ?_
  refine G_iload_n (pc := 112) rfl dX1_init_112 ?_
  refine G_bipush (pc := 113) (v := 16) (by decide) dX1_init_113 ?_
  refine G_icmp_ge (pc := 115) (tgt := 131) (by decide) dX1_init_115 (fun z => absurd z (by decide)) (fun _ => ?_)
  refine G_aload_n (pc := 118) rfl dX1_init_118 ?_
  refine G_getR (pc := 119) (r := 36) (ci := 1) (j := 5) rfl lk_RX1_18 rfl rfl (by simp [gupR, gmna]) dX1_init_119 ?_
  refine G_iload_n (pc := 122) rfl dX1_init_122 ?_
  refine G_iconst (pc := 123) (v := 5) (by decide) dX1_init_123 ?_
  refine G_iast (pc := 124) (jj := 0) (by decide) rfl (by unfold vp_in; decide) dX1_init_124 ?_
  refine G_iinc (pc := 125) (v := 1) (w := 1) (L1 := [some (.ref 35), some (.ref 12), some (.int 1)]) (by decide) rfl rfl (by decide) rfl (by decide) dX1_init_125 ?_
  refine G_goto (pc := 128) (tgt := 112) (by decide) dX1_init_128 ?_
  refine G_iload_n (pc := 112) rfl dX1_init_112 ?_
  refine G_bipush (pc := 113) (v := 16) (by decide) dX1_init_113 ?_
  refine G_icmp_ge (pc := 115) (tgt := 131) (by decide) dX1_init_115 (fun z => absurd z (by decide)) (fun _ => ?_)
  refine G_aload_n (pc := 118) rfl dX1_init_118 ?_
  refine G_getR (pc := 119) (r := 36) (ci := 1) (j := 5) rfl lk_RX1_18 rfl rfl (by simp [gupR, gmna]) dX1_init_119 ?_
  refine G_iload_n (pc := 122) rfl dX1_init_122 ?_
  refine G_iconst (pc := 123) (v := 5) (by decide) dX1_init_123 ?_
  refine G_iast (pc := 124) (jj := 1) (by decide) rfl (by unfold vp_in; decide) dX1_init_124 ?_
  refine G_iinc (pc := 125) (v := 1) (w := 2) (L1 := [some (.ref 35), some (.ref 12), some (.int 2)]) (by decide) rfl rfl (by decide) rfl (by decide) dX1_init_125 ?_
  refine G_goto (pc := 128) (tgt := 112) (by decide) dX1_init_128 ?_
  refine G_iload_n (pc := 112) rfl dX1_init_112 ?_
  refine G_bipush (pc := 113) (v := 16) (by decide) dX1_init_113 ?_
  refine G_icmp_ge (pc := 115) (tgt := 131) (by decide) dX1_init_115 (fun z => absurd z (by decide)) (fun _ => ?_)
  refine G_aload_n (pc := 118) rfl dX1_init_118 ?_
  refine G_getR (pc := 119) (r := 36) (ci := 1) (j := 5) rfl lk_RX1_18 rfl rfl (by simp [gupR, gmna]) dX1_init_119 ?_
  refine G_iload_n (pc := 122) rfl dX1_init_122 ?_
  refine G_iconst (pc := 123) (v := 5) (by decide) dX1_init_123 ?_
  refine G_iast (pc := 124) (jj := 2) (by decide) rfl (by unfold vp_in; decide) dX1_init_124 ?_
  refine G_iinc (pc := 125) (v := 1) (w := 3) (L1 := [some (.ref 35), some (.ref 12), some (.int 3)]) (by decide) rfl rfl (by decide) rfl (by decide) dX1_init_125 ?_
  refine G_goto (pc := 128) (tgt := 112) (by decide) dX1_init_128 ?_
  refine G_iload_n (pc := 112) rfl dX1_init_112 ?_
  refine G_bipush (pc := 113) (v := 16) (by decide) dX1_init_113 ?_
  refine G_icmp_ge (pc := 115) (tgt := 131) (by decide) dX1_init_115 (fun z => absurd z (by decide)) (fun _ => ?_)
  refine G_aload_n (pc := 118) rfl dX1_init_118 ?_
  refine G_getR (pc := 119) (r := 36) (ci := 1) (j := 5) rfl lk_RX1_18 rfl rfl (by simp [gupR, gmna]) dX1_init_119 ?_
  refine G_iload_n (pc := 122) rfl dX1_init_122 ?_
  refine G_iconst (pc := 123) (v := 5) (by decide) dX1_init_123 ?_
  refine G_iast (pc := 124) (jj := 3) (by decide) rfl (by unfold vp_in; decide) dX1_init_124 ?_
  refine G_iinc (pc := 125) (v := 1) (w := 4) (L1 := [some (.ref 35), some (.ref 12), some (.int 4)]) (by decide) rfl rfl (by decide) rfl (by decide) dX1_init_125 ?_
  refine G_goto (pc := 128) (tgt := 112) (by decide) dX1_init_128 ?_
  refine G_iload_n (pc := 112) rfl dX1_init_112 ?_
  refine G_bipush (pc := 113) (v := 16) (by decide) dX1_init_113 ?_
  refine G_icmp_ge (pc := 115) (tgt := 131) (by decide) dX1_init_115 (fun z => absurd z (by decide)) (fun _ => ?_)
  refine G_aload_n (pc := 118) rfl dX1_init_118 ?_
  refine G_getR (pc := 119) (r := 36) (ci := 1) (j := 5) rfl lk_RX1_18 rfl rfl (by simp [gupR, gmna]) dX1_init_119 ?_
  refine G_iload_n (pc := 122) rfl dX1_init_122 ?_
  refine G_iconst (pc := 123) (v := 5) (by decide) dX1_init_123 ?_
  refine G_iast (pc := 124) (jj := 4) (by decide) rfl (by unfold vp_in; decide) dX1_init_124 ?_
  refine G_iinc (pc := 125) (v := 1) (w := 5) (L1 := [some (.ref 35), some (.ref 12), some (.int 5)]) (by decide) rfl rfl (by decide) rfl (by decide) dX1_init_125 ?_
  refine G_goto (pc := 128) (tgt := 112) (by decide) dX1_init_128 ?_
  refine G_iload_n (pc := 112) rfl dX1_init_112 ?_
  refine G_bipush (pc := 113) (v := 16) (by decide) dX1_init_113 ?_
  refine G_icmp_ge (pc := 115) (tgt := 131) (by decide) dX1_init_115 (fun z => absurd z (by decide)) (fun _ => ?_)
  refine G_aload_n (pc := 118) rfl dX1_init_118 ?_
  refine G_getR (pc := 119) (r := 36) (ci := 1) (j := 5) rfl lk_RX1_18 rfl rfl (by simp [gupR, gmna]) dX1_init_119 ?_
  refine G_iload_n (pc := 122) rfl dX1_init_122 ?_
  refine G_iconst (pc := 123) (v := 5) (by decide) dX1_init_123 ?_
  refine G_iast (pc := 124) (jj := 5) (by decide) rfl (by unfold vp_in; decide) dX1_init_124 ?_
  refine G_iinc (pc := 125) (v := 1) (w := 6) (L1 := [some (.ref 35), some (.ref 12), some (.int 6)]) (by decide) rfl rfl (by decide) rfl (by decide) dX1_init_125 ?_
  refine G_goto (pc := 128) (tgt := 112) (by decide) dX1_init_128 ?_
  refine G_iload_n (pc := 112) rfl dX1_init_112 ?_
  refine G_bipush (pc := 113) (v := 16) (by decide) dX1_init_113 ?_
  refine G_icmp_ge (pc := 115) (tgt := 131) (by decide) dX1_init_115 (fun z => absurd z (by decide)) (fun _ => ?_)
  refine G_aload_n (pc := 118) rfl dX1_init_118 ?_
  refine G_getR (pc := 119) (r := 36) (ci := 1) (j := 5) rfl lk_RX1_18 rfl rfl (by simp [gupR, gmna]) dX1_init_119 ?_
  refine G_iload_n (pc := 122) rfl dX1_init_122 ?_
  refine G_iconst (pc := 123) (v := 5) (by decide) dX1_init_123 ?_
  refine G_iast (pc := 124) (jj := 6) (by decide) rfl (by unfold vp_in; decide) dX1_init_124 ?_
  refine G_iinc (pc := 125) (v := 1) (w := 7) (L1 := [some (.ref 35), some (.ref 12), some (.int 7)]) (by decide) rfl rfl (by decide) rfl (by decide) dX1_init_125 ?_
  refine G_goto (pc := 128) (tgt := 112) (by decide) dX1_init_128 ?_
  refine G_iload_n (pc := 112) rfl dX1_init_112 ?_
  refine G_bipush (pc := 113) (v := 16) (by decide) dX1_init_113 ?_
  refine G_icmp_ge (pc := 115) (tgt := 131) (by decide) dX1_init_115 (fun z => absurd z (by decide)) (fun _ => ?_)
  refine G_aload_n (pc := 118) rfl dX1_init_118 ?_
  refine G_getR (pc := 119) (r := 36) (ci := 1) (j := 5) rfl lk_RX1_18 rfl rfl (by simp [gupR, gmna]) dX1_init_119 ?_
  refine G_iload_n (pc := 122) rfl dX1_init_122 ?_
  refine G_iconst (pc := 123) (v := 5) (by decide) dX1_init_123 ?_
  refine G_iast (pc := 124) (jj := 7) (by decide) rfl (by unfold vp_in; decide) dX1_init_124 ?_
  refine G_iinc (pc := 125) (v := 1) (w := 8) (L1 := [some (.ref 35), some (.ref 12), some (.int 8)]) (by decide) rfl rfl (by decide) rfl (by decide) dX1_init_125 ?_
  refine G_goto (pc := 128) (tgt := 112) (by decide) dX1_init_128 ?_
  refine G_iload_n (pc := 112) rfl dX1_init_112 ?_
  refine G_bipush (pc := 113) (v := 16) (by decide) dX1_init_113 ?_
  refine G_icmp_ge (pc := 115) (tgt := 131) (by decide) dX1_init_115 (fun z => absurd z (by decide)) (fun _ => ?_)
  refine G_aload_n (pc := 118) rfl dX1_init_118 ?_
  refine G_getR (pc := 119) (r := 36) (ci := 1) (j := 5) rfl lk_RX1_18 rfl rfl (by simp [gupR, gmna]) dX1_init_119 ?_
  refine G_iload_n (pc := 122) rfl dX1_init_122 ?_
  refine G_iconst (pc := 123) (v := 5) (by decide) dX1_init_123 ?_
  refine G_iast (pc := 124) (jj := 8) (by decide) rfl (by unfold vp_in; decide) dX1_init_124 ?_
  refine G_iinc (pc := 125) (v := 1) (w := 9) (L1 := [some (.ref 35), some (.ref 12), some (.int 9)]) (by decide) rfl rfl (by decide) rfl (by decide) dX1_init_125 ?_
  refine G_goto (pc := 128) (tgt := 112) (by decide) dX1_init_128 ?_
  refine G_iload_n (pc := 112) rfl dX1_init_112 ?_
  refine G_bipush (pc := 113) (v := 16) (by decide) dX1_init_113 ?_
  refine G_icmp_ge (pc := 115) (tgt := 131) (by decide) dX1_init_115 (fun z => absurd z (by decide)) (fun _ => ?_)
  refine G_aload_n (pc := 118) rfl dX1_init_118 ?_
  refine G_getR (pc := 119) (r := 36) (ci := 1) (j := 5) rfl lk_RX1_18 rfl rfl (by simp [gupR, gmna]) dX1_init_119 ?_
  refine G_iload_n (pc := 122) rfl dX1_init_122 ?_
  refine G_iconst (pc := 123) (v := 5) (by decide) dX1_init_123 ?_
  refine G_iast (pc := 124) (jj := 9) (by decide) rfl (by unfold vp_in; decide) dX1_init_124 ?_
  refine G_iinc (pc := 125) (v := 1) (w := 10) (L1 := [some (.ref 35), some (.ref 12), some (.int 10)]) (by decide) rfl rfl (by decide) rfl (by decide) dX1_init_125 ?_
  refine G_goto (pc := 128) (tgt := 112) (by decide) dX1_init_128 ?_
  refine G_iload_n (pc := 112) rfl dX1_init_112 ?_
  refine G_bipush (pc := 113) (v := 16) (by decide) dX1_init_113 ?_
  refine G_icmp_ge (pc := 115) (tgt := 131) (by decide) dX1_init_115 (fun z => absurd z (by decide)) (fun _ => ?_)
  refine G_aload_n (pc := 118) rfl dX1_init_118 ?_
  refine G_getR (pc := 119) (r := 36) (ci := 1) (j := 5) rfl lk_RX1_18 rfl rfl (by simp [gupR, gmna]) dX1_init_119 ?_
  refine G_iload_n (pc := 122) rfl dX1_init_122 ?_
  refine G_iconst (pc := 123) (v := 5) (by decide) dX1_init_123 ?_
  refine G_iast (pc := 124) (jj := 10) (by decide) rfl (by unfold vp_in; decide) dX1_init_124 ?_
  refine G_iinc (pc := 125) (v := 1) (w := 11) (L1 := [some (.ref 35), some (.ref 12), some (.int 11)]) (by decide) rfl rfl (by decide) rfl (by decide) dX1_init_125 ?_
  refine G_goto (pc := 128) (tgt := 112) (by decide) dX1_init_128 ?_
  refine G_iload_n (pc := 112) rfl dX1_init_112 ?_
  refine G_bipush (pc := 113) (v := 16) (by decide) dX1_init_113 ?_
  refine G_icmp_ge (pc := 115) (tgt := 131) (by decide) dX1_init_115 (fun z => absurd z (by decide)) (fun _ => ?_)
  refine G_aload_n (pc := 118) rfl dX1_init_118 ?_
  refine G_getR (pc := 119) (r := 36) (ci := 1) (j := 5) rfl lk_RX1_18 rfl rfl (by simp [gupR, gmna]) dX1_init_119 ?_
  refine G_iload_n (pc := 122) rfl dX1_init_122 ?_
  refine G_iconst (pc := 123) (v := 5) (by decide) dX1_init_123 ?_
  refine G_iast (pc := 124) (jj := 11) (by decide) rfl (by unfold vp_in; decide) dX1_init_124 ?_
  refine G_iinc (pc := 125) (v := 1) (w := 12) (L1 := [some (.ref 35), some (.ref 12), some (.int 12)]) (by decide) rfl rfl (by decide) rfl (by decide) dX1_init_125 ?_
  refine G_goto (pc := 128) (tgt := 112) (by decide) dX1_init_128 ?_
  refine G_iload_n (pc := 112) rfl dX1_init_112 ?_
  refine G_bipush (pc := 113) (v := 16) (by decide) dX1_init_113 ?_
  refine G_icmp_ge (pc := 115) (tgt := 131) (by decide) dX1_init_115 (fun z => absurd z (by decide)) (fun _ => ?_)
  refine G_aload_n (pc := 118) rfl dX1_init_118 ?_
  refine G_getR (pc := 119) (r := 36) (ci := 1) (j := 5) rfl lk_RX1_18 rfl rfl (by simp [gupR, gmna]) dX1_init_119 ?_
  refine G_iload_n (pc := 122) rfl dX1_init_122 ?_
  refine G_iconst (pc := 123) (v := 5) (by decide) dX1_init_123 ?_
  refine G_iast (pc := 124) (jj := 12) (by decide) rfl (by unfold vp_in; decide) dX1_init_124 ?_
  refine G_iinc (pc := 125) (v := 1) (w := 13) (L1 := [some (.ref 35), some (.ref 12), some (.int 13)]) (by decide) rfl rfl (by decide) rfl (by decide) dX1_init_125 ?_
  refine G_goto (pc := 128) (tgt := 112) (by decide) dX1_init_128 ?_
  refine G_iload_n (pc := 112) rfl dX1_init_112 ?_
  refine G_bipush (pc := 113) (v := 16) (by decide) dX1_init_113 ?_
  refine G_icmp_ge (pc := 115) (tgt := 131) (by decide) dX1_init_115 (fun z => absurd z (by decide)) (fun _ => ?_)
  refine G_aload_n (pc := 118) rfl dX1_init_118 ?_
  refine G_getR (pc := 119) (r := 36) (ci := 1) (j := 5) rfl lk_RX1_18 rfl rfl (by simp [gupR, gmna]) dX1_init_119 ?_
  refine G_iload_n (pc := 122) rfl dX1_init_122 ?_
  refine G_iconst (pc := 123) (v := 5) (by decide) dX1_init_123 ?_
  refine G_iast (pc := 124) (jj := 13) (by decide) rfl (by unfold vp_in; decide) dX1_init_124 ?_
  refine G_iinc (pc := 125) (v := 1) (w := 14) (L1 := [some (.ref 35), some (.ref 12), some (.int 14)]) (by decide) rfl rfl (by decide) rfl (by decide) dX1_init_125 ?_
  refine G_goto (pc := 128) (tgt := 112) (by decide) dX1_init_128 ?_
  refine G_iload_n (pc := 112) rfl dX1_init_112 ?_
  refine G_bipush (pc := 113) (v := 16) (by decide) dX1_init_113 ?_
  refine G_icmp_ge (pc := 115) (tgt := 131) (by decide) dX1_init_115 (fun z => absurd z (by decide)) (fun _ => ?_)
  refine G_aload_n (pc := 118) rfl dX1_init_118 ?_
  refine G_getR (pc := 119) (r := 36) (ci := 1) (j := 5) rfl lk_RX1_18 rfl rfl (by simp [gupR, gmna]) dX1_init_119 ?_
  refine G_iload_n (pc := 122) rfl dX1_init_122 ?_
  refine G_iconst (pc := 123) (v := 5) (by decide) dX1_init_123 ?_
  refine G_iast (pc := 124) (jj := 14) (by decide) rfl (by unfold vp_in; decide) dX1_init_124 ?_
  refine G_iinc (pc := 125) (v := 1) (w := 15) (L1 := [some (.ref 35), some (.ref 12), some (.int 15)]) (by decide) rfl rfl (by decide) rfl (by decide) dX1_init_125 ?_
  refine G_goto (pc := 128) (tgt := 112) (by decide) dX1_init_128 ?_
  refine G_iload_n (pc := 112) rfl dX1_init_112 ?_
  refine G_bipush (pc := 113) (v := 16) (by decide) dX1_init_113 ?_
  refine G_icmp_ge (pc := 115) (tgt := 131) (by decide) dX1_init_115 (fun z => absurd z (by decide)) (fun _ => ?_)
  refine G_aload_n (pc := 118) rfl dX1_init_118 ?_
  refine G_getR (pc := 119) (r := 36) (ci := 1) (j := 5) rfl lk_RX1_18 rfl rfl (by simp [gupR, gmna]) dX1_init_119 ?_
  refine G_iload_n (pc := 122) rfl dX1_init_122 ?_
  refine G_iconst (pc := 123) (v := 5) (by decide) dX1_init_123 ?_
  refine G_iast (pc := 124) (jj := 15) (by decide) rfl (by unfold vp_in; decide) dX1_init_124 ?_
  refine G_iinc (pc := 125) (v := 1) (w := 16) (L1 := [some (.ref 35), some (.ref 12), some (.int 16)]) (by decide) rfl rfl (by decide) rfl (by decide) dX1_init_125 ?_
  refine G_goto (pc := 128) (tgt := 112) (by decide) dX1_init_128 ?_
  refine G_iload_n (pc := 112) rfl dX1_init_112 ?_
  refine G_bipush (pc := 113) (v := 16) (by decide) dX1_init_113 ?_
  refine G_icmp_ge (pc := 115) (tgt := 131) (by decide) dX1_init_115 (fun _ => ?_) (fun z => absurd (by decide) z)
  exact G_vret (pc := 131) (by decide) (by decide) rfl dX1_init_131 ⟨rfl, rfl⟩
set_option maxRecDepth 100000 in
set_option maxHeartbeats 4000000 in
theorem kX4_init_1 (R : gR) (I : gI) (hr : ∀ a j, 52 ≤ a → R a j = none) (hz : ∀ a j, 52 ≤ a → I a j = 0) (d : Nat) : G (d + 1) mX4_init 3 15 0 0 0 (gent 2 [.ref 51, .ref 19]) [] [(0, 11), (1, 12), (1, 4), (1, 4), (5, 4), (1, 40), (1, 40), (1, 40), (1, 40), (1, 4), (1, 4), (1, 4), (4, 6), (0, 3), (0, 2), (0, 8), (0, 10), (0, 7), (0, 9), (0, 1), (1, 16), (1, 6), (1, 6), (1, 6), (1, 6), (1, 6), (1, 6), (0, 6), (1, 8), (1, 8), (1, 8), (1, 200), (1, 24), (1, 5), (1, 40), (0, 1), (1, 16), (1, 6), (1, 6), (1, 6), (1, 6), (1, 6), (1, 6), (0, 6), (1, 8), (1, 8), (1, 8), (1, 200), (1, 24), (1, 5), (1, 40), (0, 4)] R I (fun r h1 => r = none ∧ h1 = ([(0, 11), (1, 12), (1, 4), (1, 4), (5, 4), (1, 40), (1, 40), (1, 40), (1, 40), (1, 4), (1, 4), (1, 4), (4, 6), (0, 3), (0, 2), (0, 8), (0, 10), (0, 7), (0, 9), (0, 1), (1, 16), (1, 6), (1, 6), (1, 6), (1, 6), (1, 6), (1, 6), (0, 6), (1, 8), (1, 8), (1, 8), (1, 200), (1, 24), (1, 5), (1, 40), (0, 1), (1, 16), (1, 6), (1, 6), (1, 6), (1, 6), (1, 6), (1, 6), (0, 6), (1, 8), (1, 8), (1, 8), (1, 200), (1, 24), (1, 5), (1, 40), (0, 4), (1, 5), (1, 5), (1, 5)], (gupR (gupR (gupR (gupR R 51 1 (some 52)) 51 2 (some 53)) 51 3 (some 54)) 51 0 (some 19)), I)) := by
  refine G_aload_n (pc := 0) rfl dX4_init_0 ?_
  refine G_obj (pc := 1) dX4_init_1 wd_53 wd_1 wd_2 (by decide) ?_
  refine G_aload_n (pc := 4) rfl dX4_init_4 ?_
  refine G_iconst (pc := 5) (v := 5) (by decide) dX4_init_5 ?_
  refine G_new_int (pc := 6) (N := 5) wd_3 (by decide) (by decide) (by decide) (len := 52) (sh1 := [(0, 11), (1, 12), (1, 4), (1, 4), (5, 4), (1, 40), (1, 40), (1, 40), (1, 40), (1, 4), (1, 4), (1, 4), (4, 6), (0, 3), (0, 2), (0, 8), (0, 10), (0, 7), (0, 9), (0, 1), (1, 16), (1, 6), (1, 6), (1, 6), (1, 6), (1, 6), (1, 6), (0, 6), (1, 8), (1, 8), (1, 8), (1, 200), (1, 24), (1, 5), (1, 40), (0, 1), (1, 16), (1, 6), (1, 6), (1, 6), (1, 6), (1, 6), (1, 6), (0, 6), (1, 8), (1, 8), (1, 8), (1, 200), (1, 24), (1, 5), (1, 40), (0, 4), (1, 5)]) rfl rfl (fun j => by simp [gup, hz]) (by decide) (by decide) dX4_init_6 ?_
  refine G_putF (pc := 8) (ci := 4) (j := 1) rfl lk_RX4_9 rfl rfl rfl rfl rfl rfl dX4_init_8 ?_
  refine G_aload_n (pc := 11) rfl dX4_init_11 ?_
  refine G_iconst (pc := 12) (v := 5) (by decide) dX4_init_12 ?_
  refine G_new_int (pc := 13) (N := 5) wd_3 (by decide) (by decide) (by decide) (len := 53) (sh1 := [(0, 11), (1, 12), (1, 4), (1, 4), (5, 4), (1, 40), (1, 40), (1, 40), (1, 40), (1, 4), (1, 4), (1, 4), (4, 6), (0, 3), (0, 2), (0, 8), (0, 10), (0, 7), (0, 9), (0, 1), (1, 16), (1, 6), (1, 6), (1, 6), (1, 6), (1, 6), (1, 6), (0, 6), (1, 8), (1, 8), (1, 8), (1, 200), (1, 24), (1, 5), (1, 40), (0, 1), (1, 16), (1, 6), (1, 6), (1, 6), (1, 6), (1, 6), (1, 6), (0, 6), (1, 8), (1, 8), (1, 8), (1, 200), (1, 24), (1, 5), (1, 40), (0, 4), (1, 5), (1, 5)]) rfl rfl (fun j => by simp [gup, hz]) (by decide) (by decide) dX4_init_13 ?_
  refine G_putF (pc := 15) (ci := 4) (j := 2) rfl lk_RX4_15 rfl rfl rfl rfl rfl rfl dX4_init_15 ?_
  refine G_aload_n (pc := 18) rfl dX4_init_18 ?_
  refine G_iconst (pc := 19) (v := 5) (by decide) dX4_init_19 ?_
  refine G_new_int (pc := 20) (N := 5) wd_3 (by decide) (by decide) (by decide) (len := 54) (sh1 := [(0, 11), (1, 12), (1, 4), (1, 4), (5, 4), (1, 40), (1, 40), (1, 40), (1, 40), (1, 4), (1, 4), (1, 4), (4, 6), (0, 3), (0, 2), (0, 8), (0, 10), (0, 7), (0, 9), (0, 1), (1, 16), (1, 6), (1, 6), (1, 6), (1, 6), (1, 6), (1, 6), (0, 6), (1, 8), (1, 8), (1, 8), (1, 200), (1, 24), (1, 5), (1, 40), (0, 1), (1, 16), (1, 6), (1, 6), (1, 6), (1, 6), (1, 6), (1, 6), (0, 6), (1, 8), (1, 8), (1, 8), (1, 200), (1, 24), (1, 5), (1, 40), (0, 4), (1, 5), (1, 5), (1, 5)]) rfl rfl (fun j => by simp [gup, hz]) (by decide) (by decide) dX4_init_20 ?_
  refine G_putF (pc := 22) (ci := 4) (j := 3) rfl lk_RX4_18 rfl rfl rfl rfl rfl rfl dX4_init_22 ?_
  refine G_aload_n (pc := 25) rfl dX4_init_25 ?_
  refine G_aload_n (pc := 26) rfl dX4_init_26 ?_
  refine G_putF (pc := 27) (ci := 4) (j := 0) rfl lk_RX4_21 rfl rfl rfl rfl rfl rfl dX4_init_27 ?_
  exact G_vret (pc := 30) (by decide) (by decide) rfl dX4_init_30 ⟨rfl, rfl⟩
set_option maxRecDepth 100000 in
set_option maxHeartbeats 4000000 in
theorem kX6_init_3 (R : gR) (I : gI) (hr : ∀ a j, 58 ≤ a → R a j = none) (hz : ∀ a j, 58 ≤ a → I a j = 0) (d : Nat) : G (d + 1) mX6_init 4 224 0 0 0 (gent 1 [.ref 57]) [] [(0, 11), (1, 12), (1, 4), (1, 4), (5, 4), (1, 40), (1, 40), (1, 40), (1, 40), (1, 4), (1, 4), (1, 4), (4, 6), (0, 3), (0, 2), (0, 8), (0, 10), (0, 7), (0, 9), (0, 1), (1, 16), (1, 6), (1, 6), (1, 6), (1, 6), (1, 6), (1, 6), (0, 6), (1, 8), (1, 8), (1, 8), (1, 200), (1, 24), (1, 5), (1, 40), (0, 1), (1, 16), (1, 6), (1, 6), (1, 6), (1, 6), (1, 6), (1, 6), (0, 6), (1, 8), (1, 8), (1, 8), (1, 200), (1, 24), (1, 5), (1, 40), (0, 4), (1, 5), (1, 5), (1, 5), (0, 5), (1, 200), (0, 6)] R I (fun r h1 => r = none ∧ h1 = ([(0, 11), (1, 12), (1, 4), (1, 4), (5, 4), (1, 40), (1, 40), (1, 40), (1, 40), (1, 4), (1, 4), (1, 4), (4, 6), (0, 3), (0, 2), (0, 8), (0, 10), (0, 7), (0, 9), (0, 1), (1, 16), (1, 6), (1, 6), (1, 6), (1, 6), (1, 6), (1, 6), (0, 6), (1, 8), (1, 8), (1, 8), (1, 200), (1, 24), (1, 5), (1, 40), (0, 1), (1, 16), (1, 6), (1, 6), (1, 6), (1, 6), (1, 6), (1, 6), (0, 6), (1, 8), (1, 8), (1, 8), (1, 200), (1, 24), (1, 5), (1, 40), (0, 4), (1, 5), (1, 5), (1, 5), (0, 5), (1, 200), (0, 6), (1, 8), (1, 8), (1, 8), (1, 200)], (gupR (gupR (gupR (gupR R 57 2 (some 58)) 57 3 (some 59)) 57 4 (some 60)) 57 5 (some 61)), I)) := by
  refine G_aload_n (pc := 0) rfl dX6_init_0 ?_
  refine G_obj (pc := 1) dX6_init_1 wd_44 wd_1 wd_2 (by decide) ?_
  refine G_aload_n (pc := 4) rfl dX6_init_4 ?_
  refine G_bipush (pc := 5) (v := 8) (by decide) dX6_init_5 ?_
  refine G_new_int (pc := 7) (N := 8) wd_3 (by decide) (by decide) (by decide) (len := 58) (sh1 := [(0, 11), (1, 12), (1, 4), (1, 4), (5, 4), (1, 40), (1, 40), (1, 40), (1, 40), (1, 4), (1, 4), (1, 4), (4, 6), (0, 3), (0, 2), (0, 8), (0, 10), (0, 7), (0, 9), (0, 1), (1, 16), (1, 6), (1, 6), (1, 6), (1, 6), (1, 6), (1, 6), (0, 6), (1, 8), (1, 8), (1, 8), (1, 200), (1, 24), (1, 5), (1, 40), (0, 1), (1, 16), (1, 6), (1, 6), (1, 6), (1, 6), (1, 6), (1, 6), (0, 6), (1, 8), (1, 8), (1, 8), (1, 200), (1, 24), (1, 5), (1, 40), (0, 4), (1, 5), (1, 5), (1, 5), (0, 5), (1, 200), (0, 6), (1, 8)]) rfl rfl (fun j => by simp [gup, hz]) (by decide) (by decide) dX6_init_7 ?_
  refine G_putF (pc := 9) (ci := 6) (j := 2) rfl lk_RX6_9 rfl rfl rfl rfl rfl rfl dX6_init_9 ?_
  refine G_aload_n (pc := 12) rfl dX6_init_12 ?_
  refine G_bipush (pc := 13) (v := 8) (by decide) dX6_init_13 ?_
  refine G_new_int (pc := 15) (N := 8) wd_3 (by decide) (by decide) (by decide) (len := 59) (sh1 := [(0, 11), (1, 12), (1, 4), (1, 4), (5, 4), (1, 40), (1, 40), (1, 40), (1, 40), (1, 4), (1, 4), (1, 4), (4, 6), (0, 3), (0, 2), (0, 8), (0, 10), (0, 7), (0, 9), (0, 1), (1, 16), (1, 6), (1, 6), (1, 6), (1, 6), (1, 6), (1, 6), (0, 6), (1, 8), (1, 8), (1, 8), (1, 200), (1, 24), (1, 5), (1, 40), (0, 1), (1, 16), (1, 6), (1, 6), (1, 6), (1, 6), (1, 6), (1, 6), (0, 6), (1, 8), (1, 8), (1, 8), (1, 200), (1, 24), (1, 5), (1, 40), (0, 4), (1, 5), (1, 5), (1, 5), (0, 5), (1, 200), (0, 6), (1, 8), (1, 8)]) rfl rfl (fun j => by simp [gup, hz]) (by decide) (by decide) dX6_init_15 ?_
  refine G_putF (pc := 17) (ci := 6) (j := 3) rfl lk_RX6_15 rfl rfl rfl rfl rfl rfl dX6_init_17 ?_
  refine G_aload_n (pc := 20) rfl dX6_init_20 ?_
  refine G_bipush (pc := 21) (v := 8) (by decide) dX6_init_21 ?_
  refine G_new_int (pc := 23) (N := 8) wd_3 (by decide) (by decide) (by decide) (len := 60) (sh1 := [(0, 11), (1, 12), (1, 4), (1, 4), (5, 4), (1, 40), (1, 40), (1, 40), (1, 40), (1, 4), (1, 4), (1, 4), (4, 6), (0, 3), (0, 2), (0, 8), (0, 10), (0, 7), (0, 9), (0, 1), (1, 16), (1, 6), (1, 6), (1, 6), (1, 6), (1, 6), (1, 6), (0, 6), (1, 8), (1, 8), (1, 8), (1, 200), (1, 24), (1, 5), (1, 40), (0, 1), (1, 16), (1, 6), (1, 6), (1, 6), (1, 6), (1, 6), (1, 6), (0, 6), (1, 8), (1, 8), (1, 8), (1, 200), (1, 24), (1, 5), (1, 40), (0, 4), (1, 5), (1, 5), (1, 5), (0, 5), (1, 200), (0, 6), (1, 8), (1, 8), (1, 8)]) rfl rfl (fun j => by simp [gup, hz]) (by decide) (by decide) dX6_init_23 ?_
  refine G_putF (pc := 25) (ci := 6) (j := 4) rfl lk_RX6_18 rfl rfl rfl rfl rfl rfl dX6_init_25 ?_
  refine G_aload_n (pc := 28) rfl dX6_init_28 ?_
  refine G_sipush (pc := 29) (v := 200) (by decide) dX6_init_29 ?_
  refine G_new_int (pc := 32) (N := 200) wd_3 (by decide) (by decide) (by decide) (len := 61) (sh1 := [(0, 11), (1, 12), (1, 4), (1, 4), (5, 4), (1, 40), (1, 40), (1, 40), (1, 40), (1, 4), (1, 4), (1, 4), (4, 6), (0, 3), (0, 2), (0, 8), (0, 10), (0, 7), (0, 9), (0, 1), (1, 16), (1, 6), (1, 6), (1, 6), (1, 6), (1, 6), (1, 6), (0, 6), (1, 8), (1, 8), (1, 8), (1, 200), (1, 24), (1, 5), (1, 40), (0, 1), (1, 16), (1, 6), (1, 6), (1, 6), (1, 6), (1, 6), (1, 6), (0, 6), (1, 8), (1, 8), (1, 8), (1, 200), (1, 24), (1, 5), (1, 40), (0, 4), (1, 5), (1, 5), (1, 5), (0, 5), (1, 200), (0, 6), (1, 8), (1, 8), (1, 8), (1, 200)]) rfl rfl (fun j => by simp [gup, hz]) (by decide) (by decide) dX6_init_32 ?_
  refine G_putF (pc := 34) (ci := 6) (j := 5) rfl lk_RX6_21 rfl rfl rfl rfl rfl rfl dX6_init_34 ?_
  exact G_vret (pc := 37) (by decide) (by decide) rfl dX6_init_37 ⟨rfl, rfl⟩
set_option maxRecDepth 100000 in
set_option maxHeartbeats 4000000 in
theorem kX5_init_1 (R : gR) (I : gI) (hr : ∀ a j, 56 ≤ a → R a j = none) (hz : ∀ a j, 56 ≤ a → I a j = 0) (d : Nat) : G (d + 2) mX5_init 9 442 0 0 0 (gent 1 [.ref 55]) [] [(0, 11), (1, 12), (1, 4), (1, 4), (5, 4), (1, 40), (1, 40), (1, 40), (1, 40), (1, 4), (1, 4), (1, 4), (4, 6), (0, 3), (0, 2), (0, 8), (0, 10), (0, 7), (0, 9), (0, 1), (1, 16), (1, 6), (1, 6), (1, 6), (1, 6), (1, 6), (1, 6), (0, 6), (1, 8), (1, 8), (1, 8), (1, 200), (1, 24), (1, 5), (1, 40), (0, 1), (1, 16), (1, 6), (1, 6), (1, 6), (1, 6), (1, 6), (1, 6), (0, 6), (1, 8), (1, 8), (1, 8), (1, 200), (1, 24), (1, 5), (1, 40), (0, 4), (1, 5), (1, 5), (1, 5), (0, 5)] R I (fun r h1 => r = none ∧ h1 = ([(0, 11), (1, 12), (1, 4), (1, 4), (5, 4), (1, 40), (1, 40), (1, 40), (1, 40), (1, 4), (1, 4), (1, 4), (4, 6), (0, 3), (0, 2), (0, 8), (0, 10), (0, 7), (0, 9), (0, 1), (1, 16), (1, 6), (1, 6), (1, 6), (1, 6), (1, 6), (1, 6), (0, 6), (1, 8), (1, 8), (1, 8), (1, 200), (1, 24), (1, 5), (1, 40), (0, 1), (1, 16), (1, 6), (1, 6), (1, 6), (1, 6), (1, 6), (1, 6), (0, 6), (1, 8), (1, 8), (1, 8), (1, 200), (1, 24), (1, 5), (1, 40), (0, 4), (1, 5), (1, 5), (1, 5), (0, 5), (1, 200), (0, 6), (1, 8), (1, 8), (1, 8), (1, 200), (2, 4), (2, 4), (2, 4)], (gupR (gupR (gupR (gupR (gupR (gupR (gupR (gupR (gupR R 55 0 (some 56)) 57 2 (some 58)) 57 3 (some 59)) 57 4 (some 60)) 57 5 (some 61)) 55 2 (some 57)) 55 12 (some 62)) 55 13 (some 63)) 55 14 (some 64)), I)) := by
  refine G_aload_n (pc := 0) rfl dX5_init_0 ?_
  refine G_obj (pc := 1) dX5_init_1 wd_60 wd_1 wd_2 (by decide) ?_
  refine G_aload_n (pc := 4) rfl dX5_init_4 ?_
  refine G_sipush (pc := 5) (v := 200) (by decide) dX5_init_5 ?_
  refine G_new_int (pc := 8) (N := 200) wd_3 (by decide) (by decide) (by decide) (len := 56) (sh1 := [(0, 11), (1, 12), (1, 4), (1, 4), (5, 4), (1, 40), (1, 40), (1, 40), (1, 40), (1, 4), (1, 4), (1, 4), (4, 6), (0, 3), (0, 2), (0, 8), (0, 10), (0, 7), (0, 9), (0, 1), (1, 16), (1, 6), (1, 6), (1, 6), (1, 6), (1, 6), (1, 6), (0, 6), (1, 8), (1, 8), (1, 8), (1, 200), (1, 24), (1, 5), (1, 40), (0, 1), (1, 16), (1, 6), (1, 6), (1, 6), (1, 6), (1, 6), (1, 6), (0, 6), (1, 8), (1, 8), (1, 8), (1, 200), (1, 24), (1, 5), (1, 40), (0, 4), (1, 5), (1, 5), (1, 5), (0, 5), (1, 200)]) rfl rfl (fun j => by simp [gup, hz]) (by decide) (by decide) dX5_init_8 ?_
  refine G_putF (pc := 10) (ci := 5) (j := 0) rfl lk_RX5_9 rfl rfl rfl rfl rfl rfl dX5_init_10 ?_
  refine G_aload_n (pc := 13) rfl dX5_init_13 ?_
  refine G_new (pc := 14) (ci := 6) rfl wd_61 wd_42 wd_43 (len := 57) (sh1 := [(0, 11), (1, 12), (1, 4), (1, 4), (5, 4), (1, 40), (1, 40), (1, 40), (1, 40), (1, 4), (1, 4), (1, 4), (4, 6), (0, 3), (0, 2), (0, 8), (0, 10), (0, 7), (0, 9), (0, 1), (1, 16), (1, 6), (1, 6), (1, 6), (1, 6), (1, 6), (1, 6), (0, 6), (1, 8), (1, 8), (1, 8), (1, 200), (1, 24), (1, 5), (1, 40), (0, 1), (1, 16), (1, 6), (1, 6), (1, 6), (1, 6), (1, 6), (1, 6), (0, 6), (1, 8), (1, 8), (1, 8), (1, 200), (1, 24), (1, 5), (1, 40), (0, 4), (1, 5), (1, 5), (1, 5), (0, 5), (1, 200), (0, 6)]) rfl rfl (fun j => by simp [gup, hz]) (fun j => by simp [gupR, gmna, hr]) (by decide) (by decide) dX5_init_14 ?_
  refine G_dup (pc := 17) rfl dX5_init_17 ?_
  refine G_callIN (pc := 18) (mc1 := 4) (ms1 := 224) (vs := []) (mj := mX6_init) (host := "IceKeys") dX5_init_18 cm_X6_init rfl rfl (by decide) wd_46 rfl (by decide) (by decide) (by decide) (by decide) (kX6_init_3 _ _ (fun a j ha => by (try simp only [gupR, gmna]); (repeat (rw [if_neg (by omega)])); exact hr a j (by omega)) (fun a j ha => by (try simp only [gup]); (repeat (rw [if_neg (by omega)])); exact hz a j (by omega)) _) ?_
  rintro r h1 ⟨rfl, rfl⟩
  dsimp only [Option.toList, List.nil_append]
  refine G_putF (pc := 21) (ci := 5) (j := 2) rfl lk_RX5_18 rfl rfl rfl rfl rfl rfl dX5_init_21 ?_
  refine G_aload_n (pc := 24) rfl dX5_init_24 ?_
  refine G_iconst (pc := 25) (v := 4) (by decide) dX5_init_25 ?_
  refine G_new_boolean (pc := 26) (N := 4) wd_62 (by decide) (by decide) (by decide) (len := 62) (sh1 := [(0, 11), (1, 12), (1, 4), (1, 4), (5, 4), (1, 40), (1, 40), (1, 40), (1, 40), (1, 4), (1, 4), (1, 4), (4, 6), (0, 3), (0, 2), (0, 8), (0, 10), (0, 7), (0, 9), (0, 1), (1, 16), (1, 6), (1, 6), (1, 6), (1, 6), (1, 6), (1, 6), (0, 6), (1, 8), (1, 8), (1, 8), (1, 200), (1, 24), (1, 5), (1, 40), (0, 1), (1, 16), (1, 6), (1, 6), (1, 6), (1, 6), (1, 6), (1, 6), (0, 6), (1, 8), (1, 8), (1, 8), (1, 200), (1, 24), (1, 5), (1, 40), (0, 4), (1, 5), (1, 5), (1, 5), (0, 5), (1, 200), (0, 6), (1, 8), (1, 8), (1, 8), (1, 200), (2, 4)]) rfl rfl (fun j => by simp [gup, hz]) (by decide) (by decide) dX5_init_26 ?_
  refine G_putF (pc := 28) (ci := 5) (j := 12) rfl lk_RX5_22 rfl rfl rfl rfl rfl rfl dX5_init_28 ?_
  refine G_aload_n (pc := 31) rfl dX5_init_31 ?_
  refine G_iconst (pc := 32) (v := 4) (by decide) dX5_init_32 ?_
  refine G_new_boolean (pc := 33) (N := 4) wd_62 (by decide) (by decide) (by decide) (len := 63) (sh1 := [(0, 11), (1, 12), (1, 4), (1, 4), (5, 4), (1, 40), (1, 40), (1, 40), (1, 40), (1, 4), (1, 4), (1, 4), (4, 6), (0, 3), (0, 2), (0, 8), (0, 10), (0, 7), (0, 9), (0, 1), (1, 16), (1, 6), (1, 6), (1, 6), (1, 6), (1, 6), (1, 6), (0, 6), (1, 8), (1, 8), (1, 8), (1, 200), (1, 24), (1, 5), (1, 40), (0, 1), (1, 16), (1, 6), (1, 6), (1, 6), (1, 6), (1, 6), (1, 6), (0, 6), (1, 8), (1, 8), (1, 8), (1, 200), (1, 24), (1, 5), (1, 40), (0, 4), (1, 5), (1, 5), (1, 5), (0, 5), (1, 200), (0, 6), (1, 8), (1, 8), (1, 8), (1, 200), (2, 4), (2, 4)]) rfl rfl (fun j => by simp [gup, hz]) (by decide) (by decide) dX5_init_33 ?_
  refine G_putF (pc := 35) (ci := 5) (j := 13) rfl lk_RX5_26 rfl rfl rfl rfl rfl rfl dX5_init_35 ?_
  refine G_aload_n (pc := 38) rfl dX5_init_38 ?_
  refine G_iconst (pc := 39) (v := 4) (by decide) dX5_init_39 ?_
  refine G_new_boolean (pc := 40) (N := 4) wd_62 (by decide) (by decide) (by decide) (len := 64) (sh1 := [(0, 11), (1, 12), (1, 4), (1, 4), (5, 4), (1, 40), (1, 40), (1, 40), (1, 40), (1, 4), (1, 4), (1, 4), (4, 6), (0, 3), (0, 2), (0, 8), (0, 10), (0, 7), (0, 9), (0, 1), (1, 16), (1, 6), (1, 6), (1, 6), (1, 6), (1, 6), (1, 6), (0, 6), (1, 8), (1, 8), (1, 8), (1, 200), (1, 24), (1, 5), (1, 40), (0, 1), (1, 16), (1, 6), (1, 6), (1, 6), (1, 6), (1, 6), (1, 6), (0, 6), (1, 8), (1, 8), (1, 8), (1, 200), (1, 24), (1, 5), (1, 40), (0, 4), (1, 5), (1, 5), (1, 5), (0, 5), (1, 200), (0, 6), (1, 8), (1, 8), (1, 8), (1, 200), (2, 4), (2, 4), (2, 4)]) rfl rfl (fun j => by simp [gup, hz]) (by decide) (by decide) dX5_init_40 ?_
  refine G_putF (pc := 42) (ci := 5) (j := 14) rfl lk_RX5_29 rfl rfl rfl rfl rfl rfl dX5_init_42 ?_
  exact G_vret (pc := 45) (by decide) (by decide) rfl dX5_init_45 ⟨rfl, rfl⟩
set_option maxRecDepth 100000 in
set_option maxHeartbeats 4000000 in
theorem kX0_init_1 (R : gR) (I : gI) (hr : ∀ a j, 66 ≤ a → R a j = none) (hz : ∀ a j, 66 ≤ a → I a j = 0) (d : Nat) : G (d + 1) mX0_init 1 30 0 0 0 (gent 1 [.ref 65]) [] [(0, 11), (1, 12), (1, 4), (1, 4), (5, 4), (1, 40), (1, 40), (1, 40), (1, 40), (1, 4), (1, 4), (1, 4), (4, 6), (0, 3), (0, 2), (0, 8), (0, 10), (0, 7), (0, 9), (0, 1), (1, 16), (1, 6), (1, 6), (1, 6), (1, 6), (1, 6), (1, 6), (0, 6), (1, 8), (1, 8), (1, 8), (1, 200), (1, 24), (1, 5), (1, 40), (0, 1), (1, 16), (1, 6), (1, 6), (1, 6), (1, 6), (1, 6), (1, 6), (0, 6), (1, 8), (1, 8), (1, 8), (1, 200), (1, 24), (1, 5), (1, 40), (0, 4), (1, 5), (1, 5), (1, 5), (0, 5), (1, 200), (0, 6), (1, 8), (1, 8), (1, 8), (1, 200), (2, 4), (2, 4), (2, 4), (0, 0)] R I (fun r h1 => r = none ∧ h1 = ([(0, 11), (1, 12), (1, 4), (1, 4), (5, 4), (1, 40), (1, 40), (1, 40), (1, 40), (1, 4), (1, 4), (1, 4), (4, 6), (0, 3), (0, 2), (0, 8), (0, 10), (0, 7), (0, 9), (0, 1), (1, 16), (1, 6), (1, 6), (1, 6), (1, 6), (1, 6), (1, 6), (0, 6), (1, 8), (1, 8), (1, 8), (1, 200), (1, 24), (1, 5), (1, 40), (0, 1), (1, 16), (1, 6), (1, 6), (1, 6), (1, 6), (1, 6), (1, 6), (0, 6), (1, 8), (1, 8), (1, 8), (1, 200), (1, 24), (1, 5), (1, 40), (0, 4), (1, 5), (1, 5), (1, 5), (0, 5), (1, 200), (0, 6), (1, 8), (1, 8), (1, 8), (1, 200), (2, 4), (2, 4), (2, 4), (0, 0), (1, 30)], (gupR R 65 4 (some 66)), I)) := by
  refine G_aload_n (pc := 0) rfl dX0_init_0 ?_
  refine G_obj (pc := 1) dX0_init_1 wd_68 wd_1 wd_2 (by decide) ?_
  refine G_aload_n (pc := 4) rfl dX0_init_4 ?_
  refine G_bipush (pc := 5) (v := 30) (by decide) dX0_init_5 ?_
  refine G_new_int (pc := 7) (N := 30) wd_3 (by decide) (by decide) (by decide) (len := 66) (sh1 := [(0, 11), (1, 12), (1, 4), (1, 4), (5, 4), (1, 40), (1, 40), (1, 40), (1, 40), (1, 4), (1, 4), (1, 4), (4, 6), (0, 3), (0, 2), (0, 8), (0, 10), (0, 7), (0, 9), (0, 1), (1, 16), (1, 6), (1, 6), (1, 6), (1, 6), (1, 6), (1, 6), (0, 6), (1, 8), (1, 8), (1, 8), (1, 200), (1, 24), (1, 5), (1, 40), (0, 1), (1, 16), (1, 6), (1, 6), (1, 6), (1, 6), (1, 6), (1, 6), (0, 6), (1, 8), (1, 8), (1, 8), (1, 200), (1, 24), (1, 5), (1, 40), (0, 4), (1, 5), (1, 5), (1, 5), (0, 5), (1, 200), (0, 6), (1, 8), (1, 8), (1, 8), (1, 200), (2, 4), (2, 4), (2, 4), (0, 0), (1, 30)]) rfl rfl (fun j => by simp [gup, hz]) (by decide) (by decide) dX0_init_7 ?_
  refine G_putF (pc := 9) (ci := 0) (j := 4) rfl lk_RX0_9 rfl rfl rfl rfl rfl rfl dX0_init_9 ?_
  exact G_vret (pc := 12) (by decide) (by decide) rfl dX0_init_12 ⟨rfl, rfl⟩
set_option maxRecDepth 100000 in
set_option maxHeartbeats 4000000 in
theorem kX11_init_1 (R : gR) (I : gI) (hr : ∀ a j, 1 ≤ a → R a j = none) (hz : ∀ a j, 1 ≤ a → I a j = 0) (d : Nat) : G (d + 4) mX11_init 66 1453 0 0 0 (gent 4 [.ref 0]) [] [(0, 11)] R I (fun r h1 => r = none ∧ h1 = ([(0, 11), (1, 12), (1, 4), (1, 4), (5, 4), (1, 40), (1, 40), (1, 40), (1, 40), (1, 4), (1, 4), (1, 4), (4, 6), (0, 3), (0, 2), (0, 8), (0, 10), (0, 7), (0, 9), (0, 1), (1, 16), (1, 6), (1, 6), (1, 6), (1, 6), (1, 6), (1, 6), (0, 6), (1, 8), (1, 8), (1, 8), (1, 200), (1, 24), (1, 5), (1, 40), (0, 1), (1, 16), (1, 6), (1, 6), (1, 6), (1, 6), (1, 6), (1, 6), (0, 6), (1, 8), (1, 8), (1, 8), (1, 200), (1, 24), (1, 5), (1, 40), (0, 4), (1, 5), (1, 5), (1, 5), (0, 5), (1, 200), (0, 6), (1, 8), (1, 8), (1, 8), (1, 200), (2, 4), (2, 4), (2, 4), (0, 0), (1, 30)], (gupR (gupR (gupR (gupR (gupR (gupR (gupR (gupR (gupR (gupR (gupR (gupR (gupR (gupR (gupR (gupR (gupR (gupR (gupR (gupR (gupR (gupR (gupR (gupR (gupR (gupR (gupR (gupR (gupR (gupR (gupR (gupR (gupR (gupR (gupR (gupR (gupR (gupR (gupR (gupR (gupR (gupR (gupR (gupR (gupR (gupR (gupR (gupR (gupR (gupR (gupR (gupR (gupR (gupR (gupR (gupR (gupR (gupR (gupR (gupR (gupR (gmna (gupR (gupR (gupR R 0 6 (some 1)) 0 8 (some 2)) 0 9 (some 3)) 4 4) 0 10 (some 4)) 0 11 (some 9)) 0 12 (some 10)) 0 13 (some 11)) 12 0 (some 13)) 12 1 (some 14)) 12 2 (some 15)) 12 3 (some 16)) 12 4 (some 17)) 12 5 (some 18)) 19 5 (some 20)) 19 6 (some 21)) 19 7 (some 22)) 19 10 (some 23)) 19 11 (some 24)) 19 12 (some 25)) 19 13 (some 26)) 27 2 (some 28)) 27 3 (some 29)) 27 4 (some 30)) 27 5 (some 31)) 19 14 (some 27)) 19 15 (some 32)) 19 17 (some 33)) 19 18 (some 34)) 19 0 (some 12)) 0 0 (some 19)) 35 5 (some 36)) 35 6 (some 37)) 35 7 (some 38)) 35 10 (some 39)) 35 11 (some 40)) 35 12 (some 41)) 35 13 (some 42)) 43 2 (some 44)) 43 3 (some 45)) 43 4 (some 46)) 43 5 (some 47)) 35 14 (some 43)) 35 15 (some 48)) 35 17 (some 49)) 35 18 (some 50)) 35 0 (some 12)) 0 1 (some 35)) 51 1 (some 52)) 51 2 (some 53)) 51 3 (some 54)) 51 0 (some 19)) 0 3 (some 51)) 55 0 (some 56)) 57 2 (some 58)) 57 3 (some 59)) 57 4 (some 60)) 57 5 (some 61)) 55 2 (some 57)) 55 12 (some 62)) 55 13 (some 63)) 55 14 (some 64)) 0 4 (some 55)) 65 4 (some 66)) 0 5 (some 65)), (gup (gup (gup (gup (gup (gup (gup (gup (gup (gup (gup (gup (gup (gup (gup (gup (gup (gup (gup (gup (gup (gup (gup (gup (gup (gup (gup (gup (gup (gup (gup (gup (gup (gup (gup (gup (gup (gup (gup (gup (gup (gup (gup (gup I 19 2 12) 19 4 1) 20 0 5) 20 1 5) 20 2 5) 20 3 5) 20 4 5) 20 5 5) 20 6 5) 20 7 5) 20 8 5) 20 9 5) 20 10 5) 20 11 5) 20 12 5) 20 13 5) 20 14 5) 20 15 5) 35 2 12) 35 4 1) 36 0 5) 36 1 5) 36 2 5) 36 3 5) 36 4 5) 36 5 5) 36 6 5) 36 7 5) 36 8 5) 36 9 5) 36 10 5) 36 11 5) 36 12 5) 36 13 5) 36 14 5) 36 15 5) 2 0 (-1)) 9 0 2) 2 1 (-1)) 9 1 2) 2 2 (-1)) 9 2 2) 2 3 (-1)) 9 3 2))) := by
  refine G_aload_n (pc := 0) rfl dX11_init_0 ?_
  refine G_obj (pc := 1) dX11_init_1 wd_0 wd_1 wd_2 (by decide) ?_
  refine G_aload_n (pc := 4) rfl dX11_init_4 ?_
  refine G_bipush (pc := 5) (v := 12) (by decide) dX11_init_5 ?_
  refine G_new_int (pc := 7) (N := 12) wd_3 (by decide) (by decide) (by decide) (len := 1) (sh1 := [(0, 11), (1, 12)]) rfl rfl (fun j => by simp [gup, hz]) (by decide) (by decide) dX11_init_7 ?_
  refine G_putF (pc := 9) (ci := 11) (j := 6) rfl lk_RX11_9 rfl rfl rfl rfl rfl rfl dX11_init_9 ?_
  refine G_aload_n (pc := 12) rfl dX11_init_12 ?_
  refine G_iconst (pc := 13) (v := 4) (by decide) dX11_init_13 ?_
  refine G_new_int (pc := 14) (N := 4) wd_3 (by decide) (by decide) (by decide) (len := 2) (sh1 := [(0, 11), (1, 12), (1, 4)]) rfl rfl (fun j => by simp [gup, hz]) (by decide) (by decide) dX11_init_14 ?_
  refine G_putF (pc := 16) (ci := 11) (j := 8) rfl lk_RX11_13 rfl rfl rfl rfl rfl rfl dX11_init_16 ?_
  refine G_aload_n (pc := 19) rfl dX11_init_19 ?_
  refine G_iconst (pc := 20) (v := 4) (by decide) dX11_init_20 ?_
  refine G_new_int (pc := 21) (N := 4) wd_3 (by decide) (by decide) (by decide) (len := 3) (sh1 := [(0, 11), (1, 12), (1, 4), (1, 4)]) rfl rfl (fun j => by simp [gup, hz]) (by decide) (by decide) dX11_init_21 ?_
  refine G_putF (pc := 23) (ci := 11) (j := 9) rfl lk_RX11_16 rfl rfl rfl rfl rfl rfl dX11_init_23 ?_
  refine G_aload_n (pc := 26) rfl dX11_init_26 ?_
  refine G_iconst (pc := 27) (v := 4) (by decide) dX11_init_27 ?_
  refine G_bipush (pc := 28) (v := 40) (by decide) dX11_init_28 ?_
  refine G_mna (pc := 30) (N := 4) (K := 40) wd_4 wd_3 (by decide) (by decide) (by decide) (by decide) (by decide) (by decide) (len := 4) (sh1 := [(0, 11), (1, 12), (1, 4), (1, 4), (5, 4), (1, 40), (1, 40), (1, 40), (1, 40)]) (kk1 := 8) (nn1 := 184) rfl rfl (fun a j ha => by (try simp only [gup]); (repeat (rw [if_neg (by omega)])); exact hz a j (by omega)) (fun a j ha => by (try simp only [gupR, gmna]); (repeat (rw [if_neg (by omega)])); exact hr a j (by omega)) rfl rfl (by decide) (by decide) dX11_init_30 ?_
  refine G_putF (pc := 34) (ci := 11) (j := 10) rfl lk_RX11_21 rfl rfl rfl rfl rfl rfl dX11_init_34 ?_
  refine G_aload_n (pc := 37) rfl dX11_init_37 ?_
  refine G_iconst (pc := 38) (v := 4) (by decide) dX11_init_38 ?_
  refine G_new_int (pc := 39) (N := 4) wd_3 (by decide) (by decide) (by decide) (len := 9) (sh1 := [(0, 11), (1, 12), (1, 4), (1, 4), (5, 4), (1, 40), (1, 40), (1, 40), (1, 40), (1, 4)]) rfl rfl (fun j => by simp [gup, hz]) (by decide) (by decide) dX11_init_39 ?_
  refine G_putF (pc := 41) (ci := 11) (j := 11) rfl lk_RX11_24 rfl rfl rfl rfl rfl rfl dX11_init_41 ?_
  refine G_aload_n (pc := 44) rfl dX11_init_44 ?_
  refine G_iconst (pc := 45) (v := 4) (by decide) dX11_init_45 ?_
  refine G_new_int (pc := 46) (N := 4) wd_3 (by decide) (by decide) (by decide) (len := 10) (sh1 := [(0, 11), (1, 12), (1, 4), (1, 4), (5, 4), (1, 40), (1, 40), (1, 40), (1, 40), (1, 4), (1, 4)]) rfl rfl (fun j => by simp [gup, hz]) (by decide) (by decide) dX11_init_46 ?_
  refine G_putF (pc := 48) (ci := 11) (j := 12) rfl lk_RX11_27 rfl rfl rfl rfl rfl rfl dX11_init_48 ?_
  refine G_aload_n (pc := 51) rfl dX11_init_51 ?_
  refine G_iconst (pc := 52) (v := 4) (by decide) dX11_init_52 ?_
  refine G_new_int (pc := 53) (N := 4) wd_3 (by decide) (by decide) (by decide) (len := 11) (sh1 := [(0, 11), (1, 12), (1, 4), (1, 4), (5, 4), (1, 40), (1, 40), (1, 40), (1, 40), (1, 4), (1, 4), (1, 4)]) rfl rfl (fun j => by simp [gup, hz]) (by decide) (by decide) dX11_init_53 ?_
  refine G_putF (pc := 55) (ci := 11) (j := 13) rfl lk_RX11_30 rfl rfl rfl rfl rfl rfl dX11_init_55 ?_
  refine G_bipush (pc := 58) (v := 6) (by decide) dX11_init_58 ?_
  refine G_new_keys (pc := 60) (N := 6) wd_5 (by decide) (by decide) (by decide) (len := 12) (sh1 := [(0, 11), (1, 12), (1, 4), (1, 4), (5, 4), (1, 40), (1, 40), (1, 40), (1, 40), (1, 4), (1, 4), (1, 4), (4, 6)]) rfl rfl (fun j => by simp [gupR, gmna, hr]) (by decide) (by decide) dX11_init_60 ?_
  refine G_astore_n (pc := 63) (L1 := [some (.ref 0), some (.ref 12), none, none]) rfl rfl (by decide) dX11_init_63 ?_
  refine G_aload_n (pc := 64) rfl dX11_init_64 ?_
  refine G_iconst (pc := 65) (v := 0) (by decide) dX11_init_65 ?_
  refine G_new (pc := 66) (ci := 3) rfl wd_6 wd_7 wd_8 (len := 13) (sh1 := [(0, 11), (1, 12), (1, 4), (1, 4), (5, 4), (1, 40), (1, 40), (1, 40), (1, 40), (1, 4), (1, 4), (1, 4), (4, 6), (0, 3)]) rfl rfl (fun j => by simp [gup, hz]) (fun j => by simp [gupR, gmna, hr]) (by decide) (by decide) dX11_init_66 ?_
  refine G_dup (pc := 69) rfl dX11_init_69 ?_
  refine G_callIN (pc := 70) (mc1 := 0) (ms1 := 0) (vs := []) (mj := mX3_init) (host := "IceKeys") dX11_init_70 cm_X3_init rfl rfl (by decide) wd_11 rfl (by decide) (by decide) (by decide) (by decide) (kX3_init_1 _ _ (fun a j ha => by (try simp only [gupR, gmna]); (repeat (rw [if_neg (by omega)])); exact hr a j (by omega)) (fun a j ha => by (try simp only [gup]); (repeat (rw [if_neg (by omega)])); exact hz a j (by omega)) _) ?_
  rintro r h1 ⟨rfl, rfl⟩
  dsimp only [Option.toList, List.nil_append]
  refine G_kast (pc := 73) (jj := 0) (ci := 3) (by decide) rfl (by decide) rfl rfl (by unfold vp_in; decide) dX11_init_73 ?_
  refine G_aload_n (pc := 74) rfl dX11_init_74 ?_
  refine G_iconst (pc := 75) (v := 1) (by decide) dX11_init_75 ?_
  refine G_new (pc := 76) (ci := 2) rfl wd_12 wd_13 wd_14 (len := 14) (sh1 := [(0, 11), (1, 12), (1, 4), (1, 4), (5, 4), (1, 40), (1, 40), (1, 40), (1, 40), (1, 4), (1, 4), (1, 4), (4, 6), (0, 3), (0, 2)]) rfl rfl (fun j => by simp [gup, hz]) (fun j => by simp [gupR, gmna, hr]) (by decide) (by decide) dX11_init_76 ?_
  refine G_dup (pc := 79) rfl dX11_init_79 ?_
  refine G_callIN (pc := 80) (mc1 := 0) (ms1 := 0) (vs := []) (mj := mX2_init) (host := "IceKeys") dX11_init_80 cm_X2_init rfl rfl (by decide) wd_16 rfl (by decide) (by decide) (by decide) (by decide) (kX2_init_1 _ _ (fun a j ha => by (try simp only [gupR, gmna]); (repeat (rw [if_neg (by omega)])); exact hr a j (by omega)) (fun a j ha => by (try simp only [gup]); (repeat (rw [if_neg (by omega)])); exact hz a j (by omega)) _) ?_
  rintro r h1 ⟨rfl, rfl⟩
  dsimp only [Option.toList, List.nil_append]
  refine G_kast (pc := 83) (jj := 1) (ci := 2) (by decide) rfl (by decide) rfl rfl (by unfold vp_in; decide) dX11_init_83 ?_
  refine G_aload_n (pc := 84) rfl dX11_init_84 ?_
  refine G_iconst (pc := 85) (v := 2) (by decide) dX11_init_85 ?_
  refine G_new (pc := 86) (ci := 8) rfl wd_17 wd_18 wd_19 (len := 15) (sh1 := [(0, 11), (1, 12), (1, 4), (1, 4), (5, 4), (1, 40), (1, 40), (1, 40), (1, 40), (1, 4), (1, 4), (1, 4), (4, 6), (0, 3), (0, 2), (0, 8)]) rfl rfl (fun j => by simp [gup, hz]) (fun j => by simp [gupR, gmna, hr]) (by decide) (by decide) dX11_init_86 ?_
  refine G_dup (pc := 89) rfl dX11_init_89 ?_
  refine G_callIN (pc := 90) (mc1 := 0) (ms1 := 0) (vs := []) (mj := mX8_init) (host := "IceKeys") dX11_init_90 cm_X8_init rfl rfl (by decide) wd_21 rfl (by decide) (by decide) (by decide) (by decide) (kX8_init_1 _ _ (fun a j ha => by (try simp only [gupR, gmna]); (repeat (rw [if_neg (by omega)])); exact hr a j (by omega)) (fun a j ha => by (try simp only [gup]); (repeat (rw [if_neg (by omega)])); exact hz a j (by omega)) _) ?_
  rintro r h1 ⟨rfl, rfl⟩
  dsimp only [Option.toList, List.nil_append]
  refine G_kast (pc := 93) (jj := 2) (ci := 8) (by decide) rfl (by decide) rfl rfl (by unfold vp_in; decide) dX11_init_93 ?_
  refine G_aload_n (pc := 94) rfl dX11_init_94 ?_
  refine G_iconst (pc := 95) (v := 3) (by decide) dX11_init_95 ?_
  refine G_new (pc := 96) (ci := 10) rfl wd_22 wd_23 wd_24 (len := 16) (sh1 := [(0, 11), (1, 12), (1, 4), (1, 4), (5, 4), (1, 40), (1, 40), (1, 40), (1, 40), (1, 4), (1, 4), (1, 4), (4, 6), (0, 3), (0, 2), (0, 8), (0, 10)]) rfl rfl (fun j => by simp [gup, hz]) (fun j => by simp [gupR, gmna, hr]) (by decide) (by decide) dX11_init_96 ?_
  refine G_dup (pc := 99) rfl dX11_init_99 ?_
  refine G_callIN (pc := 100) (mc1 := 0) (ms1 := 0) (vs := []) (mj := mX10_init) (host := "IceKeys") dX11_init_100 cm_X10_init rfl rfl (by decide) wd_26 rfl (by decide) (by decide) (by decide) (by decide) (kX10_init_1 _ _ (fun a j ha => by (try simp only [gupR, gmna]); (repeat (rw [if_neg (by omega)])); exact hr a j (by omega)) (fun a j ha => by (try simp only [gup]); (repeat (rw [if_neg (by omega)])); exact hz a j (by omega)) _) ?_
  rintro r h1 ⟨rfl, rfl⟩
  dsimp only [Option.toList, List.nil_append]
  refine G_kast (pc := 103) (jj := 3) (ci := 10) (by decide) rfl (by decide) rfl rfl (by unfold vp_in; decide) dX11_init_103 ?_
  refine G_aload_n (pc := 104) rfl dX11_init_104 ?_
  refine G_iconst (pc := 105) (v := 4) (by decide) dX11_init_105 ?_
  refine G_new (pc := 106) (ci := 7) rfl wd_27 wd_28 wd_29 (len := 17) (sh1 := [(0, 11), (1, 12), (1, 4), (1, 4), (5, 4), (1, 40), (1, 40), (1, 40), (1, 40), (1, 4), (1, 4), (1, 4), (4, 6), (0, 3), (0, 2), (0, 8), (0, 10), (0, 7)]) rfl rfl (fun j => by simp [gup, hz]) (fun j => by simp [gupR, gmna, hr]) (by decide) (by decide) dX11_init_106 ?_
  refine G_dup (pc := 109) rfl dX11_init_109 ?_
  refine G_callIN (pc := 110) (mc1 := 0) (ms1 := 0) (vs := []) (mj := mX7_init) (host := "IceKeys") dX11_init_110 cm_X7_init rfl rfl (by decide) wd_31 rfl (by decide) (by decide) (by decide) (by decide) (kX7_init_1 _ _ (fun a j ha => by (try simp only [gupR, gmna]); (repeat (rw [if_neg (by omega)])); exact hr a j (by omega)) (fun a j ha => by (try simp only [gup]); (repeat (rw [if_neg (by omega)])); exact hz a j (by omega)) _) ?_
  rintro r h1 ⟨rfl, rfl⟩
  dsimp only [Option.toList, List.nil_append]
  refine G_kast (pc := 113) (jj := 4) (ci := 7) (by decide) rfl (by decide) rfl rfl (by unfold vp_in; decide) dX11_init_113 ?_
  refine G_aload_n (pc := 114) rfl dX11_init_114 ?_
  refine G_iconst (pc := 115) (v := 5) (by decide) dX11_init_115 ?_
  refine G_new (pc := 116) (ci := 9) rfl wd_32 wd_33 wd_34 (len := 18) (sh1 := [(0, 11), (1, 12), (1, 4), (1, 4), (5, 4), (1, 40), (1, 40), (1, 40), (1, 40), (1, 4), (1, 4), (1, 4), (4, 6), (0, 3), (0, 2), (0, 8), (0, 10), (0, 7), (0, 9)]) rfl rfl (fun j => by simp [gup, hz]) (fun j => by simp [gupR, gmna, hr]) (by decide) (by decide) dX11_init_116 ?_
  refine G_dup (pc := 119) rfl dX11_init_119 ?_
  refine G_callIN (pc := 120) (mc1 := 0) (ms1 := 0) (vs := []) (mj := mX9_init) (host := "IceKeys") dX11_init_120 cm_X9_init rfl rfl (by decide) wd_36 rfl (by decide) (by decide) (by decide) (by decide) (kX9_init_1 _ _ (fun a j ha => by (try simp only [gupR, gmna]); (repeat (rw [if_neg (by omega)])); exact hr a j (by omega)) (fun a j ha => by (try simp only [gup]); (repeat (rw [if_neg (by omega)])); exact hz a j (by omega)) _) ?_
  rintro r h1 ⟨rfl, rfl⟩
  dsimp only [Option.toList, List.nil_append]
  refine G_kast (pc := 123) (jj := 5) (ci := 9) (by decide) rfl (by decide) rfl rfl (by unfold vp_in; decide) dX11_init_123 ?_
  refine G_new (pc := 124) (ci := 1) rfl wd_37 wd_38 wd_39 (len := 19) (sh1 := [(0, 11), (1, 12), (1, 4), (1, 4), (5, 4), (1, 40), (1, 40), (1, 40), (1, 40), (1, 4), (1, 4), (1, 4), (4, 6), (0, 3), (0, 2), (0, 8), (0, 10), (0, 7), (0, 9), (0, 1)]) rfl rfl (fun j => by simp [gup, hz]) (fun j => by simp [gupR, gmna, hr]) (by decide) (by decide) dX11_init_124 ?_
  refine G_dup (pc := 127) rfl dX11_init_127 ?_
  refine G_aload_n (pc := 128) rfl dX11_init_128 ?_
  refine G_callI (pc := 129) (mc1 := 15) (ms1 := 351) (vs := [_]) (mj := mX1_init) dX11_init_129 cm_X1_init rfl rfl wd_48 wd_49 rfl (by decide) (by decide) (by decide) (by decide) (kX1_init_1 _ _ (fun a j ha => by (try simp only [gupR, gmna]); (repeat (rw [if_neg (by omega)])); exact hr a j (by omega)) (fun a j ha => by (try simp only [gup]); (repeat (rw [if_neg (by omega)])); exact hz a j (by omega)) _) ?_
  rintro r h1 ⟨rfl, rfl⟩
  dsimp only [Option.toList, List.nil_append]
  refine G_astore_n (pc := 132) (L1 := [some (.ref 0), some (.ref 12), some (.ref 19), none]) rfl rfl (by decide) dX11_init_132 ?_
  refine G_aload_n (pc := 133) rfl dX11_init_133 ?_
  refine G_aload_n (pc := 134) rfl dX11_init_134 ?_
  refine G_putF (pc := 135) (ci := 11) (j := 0) rfl lk_RX11_56 rfl rfl rfl rfl rfl rfl dX11_init_135 ?_
  refine G_aload_n (pc := 138) rfl dX11_init_138 ?_
  refine G_new (pc := 139) (ci := 1) rfl wd_37 wd_38 wd_39 (len := 35) (sh1 := [(0, 11), (1, 12), (1, 4), (1, 4), (5, 4), (1, 40), (1, 40), (1, 40), (1, 40), (1, 4), (1, 4), (1, 4), (4, 6), (0, 3), (0, 2), (0, 8), (0, 10), (0, 7), (0, 9), (0, 1), (1, 16), (1, 6), (1, 6), (1, 6), (1, 6), (1, 6), (1, 6), (0, 6), (1, 8), (1, 8), (1, 8), (1, 200), (1, 24), (1, 5), (1, 40), (0, 1)]) rfl rfl (fun j => by simp [gup, hz]) (fun j => by simp [gupR, gmna, hr]) (by decide) (by decide) dX11_init_139 ?_
  refine G_dup (pc := 142) rfl dX11_init_142 ?_
  refine G_aload_n (pc := 143) rfl dX11_init_143 ?_
  refine G_callI (pc := 144) (mc1 := 15) (ms1 := 351) (vs := [_]) (mj := mX1_init) dX11_init_144 cm_X1_init rfl rfl wd_48 wd_49 rfl (by decide) (by decide) (by decide) (by decide) (kX1_init_2 _ _ (fun a j ha => by (try simp only [gupR, gmna]); (repeat (rw [if_neg (by omega)])); exact hr a j (by omega)) (fun a j ha => by (try simp only [gup]); (repeat (rw [if_neg (by omega)])); exact hz a j (by omega)) _) ?_
  rintro r h1 ⟨rfl, rfl⟩
  dsimp only [Option.toList, List.nil_append]
  refine G_putF (pc := 147) (ci := 11) (j := 1) rfl lk_RX11_60 rfl rfl rfl rfl rfl rfl dX11_init_147 ?_
  refine G_aload_n (pc := 150) rfl dX11_init_150 ?_
  refine G_new (pc := 151) (ci := 4) rfl wd_50 wd_51 wd_52 (len := 51) (sh1 := [(0, 11), (1, 12), (1, 4), (1, 4), (5, 4), (1, 40), (1, 40), (1, 40), (1, 40), (1, 4), (1, 4), (1, 4), (4, 6), (0, 3), (0, 2), (0, 8), (0, 10), (0, 7), (0, 9), (0, 1), (1, 16), (1, 6), (1, 6), (1, 6), (1, 6), (1, 6), (1, 6), (0, 6), (1, 8), (1, 8), (1, 8), (1, 200), (1, 24), (1, 5), (1, 40), (0, 1), (1, 16), (1, 6), (1, 6), (1, 6), (1, 6), (1, 6), (1, 6), (0, 6), (1, 8), (1, 8), (1, 8), (1, 200), (1, 24), (1, 5), (1, 40), (0, 4)]) rfl rfl (fun j => by simp [gup, hz]) (fun j => by simp [gupR, gmna, hr]) (by decide) (by decide) dX11_init_151 ?_
  refine G_dup (pc := 154) rfl dX11_init_154 ?_
  refine G_aload_n (pc := 155) rfl dX11_init_155 ?_
  refine G_callI (pc := 156) (mc1 := 3) (ms1 := 15) (vs := [_]) (mj := mX4_init) dX11_init_156 cm_X4_init rfl rfl wd_55 wd_56 rfl (by decide) (by decide) (by decide) (by decide) (kX4_init_1 _ _ (fun a j ha => by (try simp only [gupR, gmna]); (repeat (rw [if_neg (by omega)])); exact hr a j (by omega)) (fun a j ha => by (try simp only [gup]); (repeat (rw [if_neg (by omega)])); exact hz a j (by omega)) _) ?_
  rintro r h1 ⟨rfl, rfl⟩
  dsimp only [Option.toList, List.nil_append]
  refine G_putF (pc := 159) (ci := 11) (j := 3) rfl lk_RX11_68 rfl rfl rfl rfl rfl rfl dX11_init_159 ?_
  refine G_aload_n (pc := 162) rfl dX11_init_162 ?_
  refine G_new (pc := 163) (ci := 5) rfl wd_57 wd_58 wd_59 (len := 55) (sh1 := [(0, 11), (1, 12), (1, 4), (1, 4), (5, 4), (1, 40), (1, 40), (1, 40), (1, 40), (1, 4), (1, 4), (1, 4), (4, 6), (0, 3), (0, 2), (0, 8), (0, 10), (0, 7), (0, 9), (0, 1), (1, 16), (1, 6), (1, 6), (1, 6), (1, 6), (1, 6), (1, 6), (0, 6), (1, 8), (1, 8), (1, 8), (1, 200), (1, 24), (1, 5), (1, 40), (0, 1), (1, 16), (1, 6), (1, 6), (1, 6), (1, 6), (1, 6), (1, 6), (0, 6), (1, 8), (1, 8), (1, 8), (1, 200), (1, 24), (1, 5), (1, 40), (0, 4), (1, 5), (1, 5), (1, 5), (0, 5)]) rfl rfl (fun j => by simp [gup, hz]) (fun j => by simp [gupR, gmna, hr]) (by decide) (by decide) dX11_init_163 ?_
  refine G_dup (pc := 166) rfl dX11_init_166 ?_
  refine G_callIN (pc := 167) (mc1 := 9) (ms1 := 442) (vs := []) (mj := mX5_init) (host := "IceKeys") dX11_init_167 cm_X5_init rfl rfl (by decide) wd_64 rfl (by decide) (by decide) (by decide) (by decide) (kX5_init_1 _ _ (fun a j ha => by (try simp only [gupR, gmna]); (repeat (rw [if_neg (by omega)])); exact hr a j (by omega)) (fun a j ha => by (try simp only [gup]); (repeat (rw [if_neg (by omega)])); exact hz a j (by omega)) _) ?_
  rintro r h1 ⟨rfl, rfl⟩
  dsimp only [Option.toList, List.nil_append]
  refine G_putF (pc := 170) (ci := 11) (j := 4) rfl lk_RX11_75 rfl rfl rfl rfl rfl rfl dX11_init_170 ?_
  refine G_aload_n (pc := 173) rfl dX11_init_173 ?_
  refine G_new (pc := 174) (ci := 0) rfl wd_65 wd_66 wd_67 (len := 65) (sh1 := [(0, 11), (1, 12), (1, 4), (1, 4), (5, 4), (1, 40), (1, 40), (1, 40), (1, 40), (1, 4), (1, 4), (1, 4), (4, 6), (0, 3), (0, 2), (0, 8), (0, 10), (0, 7), (0, 9), (0, 1), (1, 16), (1, 6), (1, 6), (1, 6), (1, 6), (1, 6), (1, 6), (0, 6), (1, 8), (1, 8), (1, 8), (1, 200), (1, 24), (1, 5), (1, 40), (0, 1), (1, 16), (1, 6), (1, 6), (1, 6), (1, 6), (1, 6), (1, 6), (0, 6), (1, 8), (1, 8), (1, 8), (1, 200), (1, 24), (1, 5), (1, 40), (0, 4), (1, 5), (1, 5), (1, 5), (0, 5), (1, 200), (0, 6), (1, 8), (1, 8), (1, 8), (1, 200), (2, 4), (2, 4), (2, 4), (0, 0)]) rfl rfl (fun j => by simp [gup, hz]) (fun j => by simp [gupR, gmna, hr]) (by decide) (by decide) dX11_init_174 ?_
  refine G_dup (pc := 177) rfl dX11_init_177 ?_
  refine G_callIN (pc := 178) (mc1 := 1) (ms1 := 30) (vs := []) (mj := mX0_init) (host := "IceKeys") dX11_init_178 cm_X0_init rfl rfl (by decide) wd_70 rfl (by decide) (by decide) (by decide) (by decide) (kX0_init_1 _ _ (fun a j ha => by (try simp only [gupR, gmna]); (repeat (rw [if_neg (by omega)])); exact hr a j (by omega)) (fun a j ha => by (try simp only [gup]); (repeat (rw [if_neg (by omega)])); exact hz a j (by omega)) _) ?_
  rintro r h1 ⟨rfl, rfl⟩
  dsimp only [Option.toList, List.nil_append]
  refine G_putF (pc := 181) (ci := 11) (j := 5) rfl lk_RX11_82 rfl rfl rfl rfl rfl rfl dX11_init_181 ?_
  refine G_iconst (pc := 184) (v := 0) (by decide) dX11_init_184 ?_
  refine G_istore_n (pc := 185) (L1 := [some (.ref 0), some (.ref 12), some (.ref 19), some (.int 0)]) rfl rfl (by decide) dX11_init_185 ?_
  refine G_iload_n (pc := 186) rfl dX11_init_186 ?_
  refine G_iconst (pc := 187) (v := 4) (by decide) dX11_init_187 ?_
  refine G_icmp_ge (pc := 188) (tgt := 211) (by decide) dX11_init_188 (fun z => absurd z (by decide)) (fun _ => ?_)
  refine G_aload_n (pc := 191) rfl dX11_init_191 ?_
  refine G_getR (pc := 192) (r := 2) (ci := 11) (j := 8) rfl lk_RX11_13 rfl rfl (by simp [gupR, gmna]) dX11_init_192 ?_
  refine G_iload_n (pc := 195) rfl dX11_init_195 ?_
  refine G_iconst (pc := 196) (v := (-1)) (by decide) dX11_init_196 ?_
  refine G_iast (pc := 197) (jj := 0) (by decide) rfl (by unfold vp_in; decide) dX11_init_197 ?_
  refine G_aload_n (pc := 198) rfl dX11_init_198 ?_
  refine G_getR (pc := 199) (r := 9) (ci := 11) (j := 11) rfl lk_RX11_24 rfl rfl (by simp [gupR, gmna]) dX11_init_199 ?_
  refine G_iload_n (pc := 202) rfl dX11_init_202 ?_
  refine G_iconst (pc := 203) (v := 2) (by decide) dX11_init_203 ?_
  refine G_iast (pc := 204) (jj := 0) (by decide) rfl (by unfold vp_in; decide) dX11_init_204 ?_
  refine G_iinc (pc := 205) (v := 1) (w := 1) (L1 := [some (.ref 0), some (.ref 12), some (.ref 19), some (.int 1)]) (by decide) rfl rfl (by decide) rfl (by decide) dX11_init_205 ?_
  refine G_goto (pc := 208) (tgt := 186) (by decide) dX11_init_208 ?_
  refine G_iload_n (pc := 186) rfl dX11_init_186 ?_
  refine G_iconst (pc := 187) (v := 4) (by decide) dX11_init_187 ?_
  refine G_icmp_ge (pc := 188) (tgt := 211) (by decide) dX11_init_188 (fun z => absurd z (by decide)) (fun _ => ?_)
  refine G_aload_n (pc := 191) rfl dX11_init_191 ?_
  refine G_getR (pc := 192) (r := 2) (ci := 11) (j := 8) rfl lk_RX11_13 rfl rfl (by simp [gupR, gmna]) dX11_init_192 ?_
  refine G_iload_n (pc := 195) rfl dX11_init_195 ?_
  refine G_iconst (pc := 196) (v := (-1)) (by decide) dX11_init_196 ?_
  refine G_iast (pc := 197) (jj := 1) (by decide) rfl (by unfold vp_in; decide) dX11_init_197 ?_
  refine G_aload_n (pc := 198) rfl dX11_init_198 ?_
  refine G_getR (pc := 199) (r := 9) (ci := 11) (j := 11) rfl lk_RX11_24 rfl rfl (by simp [gupR, gmna]) dX11_init_199 ?_
  refine G_iload_n (pc := 202) rfl dX11_init_202 ?_
  refine G_iconst (pc := 203) (v := 2) (by decide) dX11_init_203 ?_
  refine G_iast (pc := 204) (jj := 1) (by decide) rfl (by unfold vp_in; decide) dX11_init_204 ?_
  refine G_iinc (pc := 205) (v := 1) (w := 2) (L1 := [some (.ref 0), some (.ref 12), some (.ref 19), some (.int 2)]) (by decide) rfl rfl (by decide) rfl (by decide) dX11_init_205 ?_
  refine G_goto (pc := 208) (tgt := 186) (by decide) dX11_init_208 ?_
  refine G_iload_n (pc := 186) rfl dX11_init_186 ?_
  refine G_iconst (pc := 187) (v := 4) (by decide) dX11_init_187 ?_
  refine G_icmp_ge (pc := 188) (tgt := 211) (by decide) dX11_init_188 (fun z => absurd z (by decide)) (fun _ => ?_)
  refine G_aload_n (pc := 191) rfl dX11_init_191 ?_
  refine G_getR (pc := 192) (r := 2) (ci := 11) (j := 8) rfl lk_RX11_13 rfl rfl (by simp [gupR, gmna]) dX11_init_192 ?_
  refine G_iload_n (pc := 195) rfl dX11_init_195 ?_
  refine G_iconst (pc := 196) (v := (-1)) (by decide) dX11_init_196 ?_
  refine G_iast (pc := 197) (jj := 2) (by decide) rfl (by unfold vp_in; decide) dX11_init_197 ?_
  refine G_aload_n (pc := 198) rfl dX11_init_198 ?_
  refine G_getR (pc := 199) (r := 9) (ci := 11) (j := 11) rfl lk_RX11_24 rfl rfl (by simp [gupR, gmna]) dX11_init_199 ?_
  refine G_iload_n (pc := 202) rfl dX11_init_202 ?_
  refine G_iconst (pc := 203) (v := 2) (by decide) dX11_init_203 ?_
  refine G_iast (pc := 204) (jj := 2) (by decide) rfl (by unfold vp_in; decide) dX11_init_204 ?_
  refine G_iinc (pc := 205) (v := 1) (w := 3) (L1 := [some (.ref 0), some (.ref 12), some (.ref 19), some (.int 3)]) (by decide) rfl rfl (by decide) rfl (by decide) dX11_init_205 ?_
  refine G_goto (pc := 208) (tgt := 186) (by decide) dX11_init_208 ?_
  refine G_iload_n (pc := 186) rfl dX11_init_186 ?_
  refine G_iconst (pc := 187) (v := 4) (by decide) dX11_init_187 ?_
  refine G_icmp_ge (pc := 188) (tgt := 211) (by decide) dX11_init_188 (fun z => absurd z (by decide)) (fun _ => ?_)
  refine G_aload_n (pc := 191) rfl dX11_init_191 ?_
  refine G_getR (pc := 192) (r := 2) (ci := 11) (j := 8) rfl lk_RX11_13 rfl rfl (by simp [gupR, gmna]) dX11_init_192 ?_
  refine G_iload_n (pc := 195) rfl dX11_init_195 ?_
  refine G_iconst (pc := 196) (v := (-1)) (by decide) dX11_init_196 ?_
  refine G_iast (pc := 197) (jj := 3) (by decide) rfl (by unfold vp_in; decide) dX11_init_197 ?_
  refine G_aload_n (pc := 198) rfl dX11_init_198 ?_
  refine G_getR (pc := 199) (r := 9) (ci := 11) (j := 11) rfl lk_RX11_24 rfl rfl (by simp [gupR, gmna]) dX11_init_199 ?_
  refine G_iload_n (pc := 202) rfl dX11_init_202 ?_
  refine G_iconst (pc := 203) (v := 2) (by decide) dX11_init_203 ?_
  refine G_iast (pc := 204) (jj := 3) (by decide) rfl (by unfold vp_in; decide) dX11_init_204 ?_
  refine G_iinc (pc := 205) (v := 1) (w := 4) (L1 := [some (.ref 0), some (.ref 12), some (.ref 19), some (.int 4)]) (by decide) rfl rfl (by decide) rfl (by decide) dX11_init_205 ?_
  refine G_goto (pc := 208) (tgt := 186) (by decide) dX11_init_208 ?_
  refine G_iload_n (pc := 186) rfl dX11_init_186 ?_
  refine G_iconst (pc := 187) (v := 4) (by decide) dX11_init_187 ?_
  refine G_icmp_ge (pc := 188) (tgt := 211) (by decide) dX11_init_188 (fun _ => ?_) (fun z => absurd (by decide) z)
  exact G_vret (pc := 211) (by decide) (by decide) rfl dX11_init_211 ⟨rfl, rfl⟩
