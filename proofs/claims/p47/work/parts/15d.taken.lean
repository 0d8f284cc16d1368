set_option maxRecDepth 16384 in
def kqpn : List (Nat × Nat × Int × Int) := [(68, 4, 0, 6), (19, 8, 10000000068, 4)]
set_option maxRecDepth 16384 in
def kqpx : List (Nat × Nat × Int × Int) := [(68, 4, 0, 6), (19, 8, 10000000068, 4)]
set_option maxRecDepth 16384 in
def kqp0 : List (Nat × Nat × Int × Int) := [(68, 4, 0, 6), (19, 8, 10000000068, 4), (68, 35, 0, 5), (23, 0, 10000000068, 35)]
set_option maxRecDepth 16384 in
def kqp1 : List (Nat × Nat × Int × Int) := [(68, 4, 0, 6), (19, 8, 10000000068, 4), (68, 40, 0, 5), (23, 1, 10000000068, 40)]
set_option maxRecDepth 16384 in
def kqp2 : List (Nat × Nat × Int × Int) := [(68, 4, 0, 6), (19, 8, 10000000068, 4), (68, 45, 0, 5), (23, 2, 10000000068, 45)]
set_option maxRecDepth 16384 in
def kqp3 : List (Nat × Nat × Int × Int) := [(68, 4, 0, 6), (19, 8, 10000000068, 4), (68, 50, 0, 5), (23, 3, 10000000068, 50)]
set_option maxRecDepth 16384 in
def kqp4 : List (Nat × Nat × Int × Int) := [(68, 4, 0, 6), (19, 8, 10000000068, 4), (68, 55, 0, 5), (23, 4, 10000000068, 55)]
set_option maxRecDepth 16384 in
def kqp5 : List (Nat × Nat × Int × Int) := [(68, 4, 0, 6), (19, 8, 10000000068, 4), (68, 60, 0, 5), (23, 5, 10000000068, 60)]
set_option maxRecDepth 16384 in
theorem pr_taken : prOK mX11_taken mX12_taken 2 true := by
  intro d xs I hn hi hw
  match xs, hn with
  | [a, b], _ =>
    have ra : (-2147483648 : Int) ≤ a.toInt ∧ a.toInt ≤ 2147483647 := a_rng a
    have rb : (-2147483648 : Int) ≤ b.toInt ∧ b.toInt ≤ 2147483647 := a_rng b
    by_cases h1 : a.toInt < 0
    · exact tk1 d a b I hi (ax2 (by omega)) no_pre (fun x y J _ hf h => ex_wf hw hf h)
    by_cases h2 : 3 < a.toInt
    · exact tk2 d a b I hi (ax2 (by omega)) no_pre (fun x y J _ hf h => ex_wf hw hf h)
    have hs : a.toInt = 0 ∨ a.toInt = 1 ∨ a.toInt = 2 ∨ a.toInt = 3 := by omega
    have kqn : ∀ s ∈ kqpn, slotOK I s := preR_ok (by decide +kernel) hi hw
    have kqx : ∀ s ∈ kqpx, slotOK I s := preR_ok (by decide +kernel) hi hw
    have kq0 : ∀ s ∈ kqp0, slotOK I s := preR_ok (by decide +kernel) hi hw
    have kq1 : ∀ s ∈ kqp1, slotOK I s := preR_ok (by decide +kernel) hi hw
    have kq2 : ∀ s ∈ kqp2, slotOK I s := preR_ok (by decide +kernel) hi hw
    have kq3 : ∀ s ∈ kqp3, slotOK I s := preR_ok (by decide +kernel) hi hw
    have kq4 : ∀ s ∈ kqp4, slotOK I s := preR_ok (by decide +kernel) hi hw
    have kq5 : ∀ s ∈ kqp5, slotOK I s := preR_ok (by decide +kernel) hi hw
    have e0 : ∀ {c j : Nat} {z : Int32} {v : Int}, v < aEQ → I c j = z → z.toInt = v → slotOK I (c, j, v, v) := fun hv e ez => sbd hv (by rw [e, ez]; exact ⟨Int.le_refl _, Int.le_refl _⟩)
    have e1 : ∀ {c j : Nat} {v : Int}, v < aEQ → (I c j).toInt = v → slotOK I (c, j, v, v) := fun hv e => sbd hv ⟨Int.le_of_eq e.symm, Int.le_of_eq e⟩
    have e2 : ∀ {c j : Nat}, slotOK I (c, j, -2147483648, 2147483647) := sbd (by decide) (a_rng _)
    rcases hs with hs | hs | hs | hs
    · rcases (hw.2.2.2.2.2 0 (by decide)).2 with ⟨k1, k2, k3⟩ | ⟨k1, k2, k3, k4, k5⟩ | ⟨k1, k2⟩
      · have rg : (-2147483648 : Int) ≤ (I 86 0).toInt ∧ (I 86 0).toInt ≤ 2147483647 := a_rng _
        have hv : (I 86 0).toInt < 0 ∨ 5 < (I 86 0).toInt ∨ (I 86 0).toInt = 0 ∨ (I 86 0).toInt = 1 ∨ (I 86 0).toInt = 2 ∨ (I 86 0).toInt = 3 ∨ (I 86 0).toInt = 4 ∨ (I 86 0).toInt = 5 := by omega
        rcases hv with hv | hv | hv | hv | hv | hv | hv | hv
        · exact tv0_0_n d a b I hi (ax2 (by omega)) (fun s hs => by
            rcases List.mem_append.mp (show s ∈ kqpn ++ [(9, 0, 0, 0), (85, 0, 0, 0), (86, 0, (-2147483648), (-1)), (10, 0, aEQ + 86, 0)] from hs) with hs | hs
            · exact kqn s hs
            · exact pcons (e0 (by decide) k1 rfl) (pcons (e0 (by decide) k2 rfl) (pcons (sbd (by decide) ⟨rg.1, by omega⟩) (pcons (slotOK_q (c' := 86) (j' := 0) k3) no_pre))) s hs) (fun x y J _ hf h => ex_wf hw hf h)
        · exact tv0_0_x d a b I hi (ax2 (by omega)) (fun s hs => by
            rcases List.mem_append.mp (show s ∈ kqpx ++ [(9, 0, 0, 0), (85, 0, 0, 0), (86, 0, 6, 2147483647), (10, 0, aEQ + 86, 0)] from hs) with hs | hs
            · exact kqx s hs
            · exact pcons (e0 (by decide) k1 rfl) (pcons (e0 (by decide) k2 rfl) (pcons (sbd (by decide) ⟨by omega, rg.2⟩) (pcons (slotOK_q (c' := 86) (j' := 0) k3) no_pre))) s hs) (fun x y J _ hf h => ex_wf hw hf h)
        · exact tv0_0_0 d a b I hi (ax2 (by omega)) (fun s hs => by
            rcases List.mem_append.mp (show s ∈ kqp0 ++ [(9, 0, 0, 0), (85, 0, 0, 0), (86, 0, 0, 0), (10, 0, aEQ + 86, 0)] from hs) with hs | hs
            · exact kq0 s hs
            · exact pcons (e0 (by decide) k1 rfl) (pcons (e0 (by decide) k2 rfl) (pcons (e1 (by decide) hv) (pcons (slotOK_q (c' := 86) (j' := 0) k3) no_pre))) s hs) (fun x y J _ hf h => ex_wf hw hf h)
        · exact tv0_0_1 d a b I hi (ax2 (by omega)) (fun s hs => by
            rcases List.mem_append.mp (show s ∈ kqp1 ++ [(9, 0, 0, 0), (85, 0, 0, 0), (86, 0, 1, 1), (10, 0, aEQ + 86, 0)] from hs) with hs | hs
            · exact kq1 s hs
            · exact pcons (e0 (by decide) k1 rfl) (pcons (e0 (by decide) k2 rfl) (pcons (e1 (by decide) hv) (pcons (slotOK_q (c' := 86) (j' := 0) k3) no_pre))) s hs) (fun x y J _ hf h => ex_wf hw hf h)
        · exact tv0_0_2 d a b I hi (ax2 (by omega)) (fun s hs => by
            rcases List.mem_append.mp (show s ∈ kqp2 ++ [(9, 0, 0, 0), (85, 0, 0, 0), (86, 0, 2, 2), (10, 0, aEQ + 86, 0)] from hs) with hs | hs
            · exact kq2 s hs
            · exact pcons (e0 (by decide) k1 rfl) (pcons (e0 (by decide) k2 rfl) (pcons (e1 (by decide) hv) (pcons (slotOK_q (c' := 86) (j' := 0) k3) no_pre))) s hs) (fun x y J _ hf h => ex_wf hw hf h)
        · exact tv0_0_3 d a b I hi (ax2 (by omega)) (fun s hs => by
            rcases List.mem_append.mp (show s ∈ kqp3 ++ [(9, 0, 0, 0), (85, 0, 0, 0), (86, 0, 3, 3), (10, 0, aEQ + 86, 0)] from hs) with hs | hs
            · exact kq3 s hs
            · exact pcons (e0 (by decide) k1 rfl) (pcons (e0 (by decide) k2 rfl) (pcons (e1 (by decide) hv) (pcons (slotOK_q (c' := 86) (j' := 0) k3) no_pre))) s hs) (fun x y J _ hf h => ex_wf hw hf h)
        · exact tv0_0_4 d a b I hi (ax2 (by omega)) (fun s hs => by
            rcases List.mem_append.mp (show s ∈ kqp4 ++ [(9, 0, 0, 0), (85, 0, 0, 0), (86, 0, 4, 4), (10, 0, aEQ + 86, 0)] from hs) with hs | hs
            · exact kq4 s hs
            · exact pcons (e0 (by decide) k1 rfl) (pcons (e0 (by decide) k2 rfl) (pcons (e1 (by decide) hv) (pcons (slotOK_q (c' := 86) (j' := 0) k3) no_pre))) s hs) (fun x y J _ hf h => ex_wf hw hf h)
        · exact tv0_0_5 d a b I hi (ax2 (by omega)) (fun s hs => by
            rcases List.mem_append.mp (show s ∈ kqp5 ++ [(9, 0, 0, 0), (85, 0, 0, 0), (86, 0, 5, 5), (10, 0, aEQ + 86, 0)] from hs) with hs | hs
            · exact kq5 s hs
            · exact pcons (e0 (by decide) k1 rfl) (pcons (e0 (by decide) k2 rfl) (pcons (e1 (by decide) hv) (pcons (slotOK_q (c' := 86) (j' := 0) k3) no_pre))) s hs) (fun x y J _ hf h => ex_wf hw hf h)
      · have ht : (I 10 0).toInt = 0 ∨ (I 10 0).toInt = 1 ∨ (I 10 0).toInt = 2 ∨ (I 10 0).toInt = 3 ∨ (I 10 0).toInt = 4 := by omega
        rcases ht with ht | ht | ht | ht | ht
        · exact tv1_0_0 d a b I hi (ax2 (by omega)) (pcons (e0 (by decide) k1 rfl) (pcons (e1 (by decide) ht) (pcons (e1 (by decide) (by omega)) (pcons e2 (pcons (slotOK_q (c' := 86) (j' := 0) k5) no_pre))))) (fun x y J _ hf h => ex_wf hw hf h)
        · exact tv1_0_1 d a b I hi (ax2 (by omega)) (pcons (e0 (by decide) k1 rfl) (pcons (e1 (by decide) ht) (pcons (e1 (by decide) (by omega)) (pcons e2 (pcons (slotOK_q (c' := 86) (j' := 0) k5) no_pre))))) (fun x y J _ hf h => ex_wf hw hf h)
        · exact tv1_0_2 d a b I hi (ax2 (by omega)) (pcons (e0 (by decide) k1 rfl) (pcons (e1 (by decide) ht) (pcons (e1 (by decide) (by omega)) (pcons e2 (pcons (slotOK_q (c' := 86) (j' := 0) k5) no_pre))))) (fun x y J _ hf h => ex_wf hw hf h)
        · exact tv1_0_3 d a b I hi (ax2 (by omega)) (pcons (e0 (by decide) k1 rfl) (pcons (e1 (by decide) ht) (pcons (e1 (by decide) (by omega)) (pcons e2 (pcons (slotOK_q (c' := 86) (j' := 0) k5) no_pre))))) (fun x y J _ hf h => ex_wf hw hf h)
        · exact tv1_0_4 d a b I hi (ax2 (by omega)) (pcons (e0 (by decide) k1 rfl) (pcons (e1 (by decide) ht) (pcons (e1 (by decide) (by omega)) (pcons e2 (pcons (slotOK_q (c' := 86) (j' := 0) k5) no_pre))))) (fun x y J _ hf h => ex_wf hw hf h)
      · exact tv2_0 d a b I hi (ax2 (by omega)) (pcons (e0 (by decide) k1 rfl) (pcons (e1 (by decide) k2) no_pre)) (fun x y J _ hf h => ex_wf hw hf h)
    · rcases (hw.2.2.2.2.2 1 (by decide)).2 with ⟨k1, k2, k3⟩ | ⟨k1, k2, k3, k4, k5⟩ | ⟨k1, k2⟩
      · have rg : (-2147483648 : Int) ≤ (I 86 1).toInt ∧ (I 86 1).toInt ≤ 2147483647 := a_rng _
        have hv : (I 86 1).toInt < 0 ∨ 5 < (I 86 1).toInt ∨ (I 86 1).toInt = 0 ∨ (I 86 1).toInt = 1 ∨ (I 86 1).toInt = 2 ∨ (I 86 1).toInt = 3 ∨ (I 86 1).toInt = 4 ∨ (I 86 1).toInt = 5 := by omega
        rcases hv with hv | hv | hv | hv | hv | hv | hv | hv
        · exact tv0_1_n d a b I hi (ax2 (by omega)) (fun s hs => by
            rcases List.mem_append.mp (show s ∈ kqpn ++ [(9, 1, 0, 0), (85, 1, 0, 0), (86, 1, (-2147483648), (-1)), (10, 1, aEQ + 86, 1)] from hs) with hs | hs
            · exact kqn s hs
            · exact pcons (e0 (by decide) k1 rfl) (pcons (e0 (by decide) k2 rfl) (pcons (sbd (by decide) ⟨rg.1, by omega⟩) (pcons (slotOK_q (c' := 86) (j' := 1) k3) no_pre))) s hs) (fun x y J _ hf h => ex_wf hw hf h)
        · exact tv0_1_x d a b I hi (ax2 (by omega)) (fun s hs => by
            rcases List.mem_append.mp (show s ∈ kqpx ++ [(9, 1, 0, 0), (85, 1, 0, 0), (86, 1, 6, 2147483647), (10, 1, aEQ + 86, 1)] from hs) with hs | hs
            · exact kqx s hs
            · exact pcons (e0 (by decide) k1 rfl) (pcons (e0 (by decide) k2 rfl) (pcons (sbd (by decide) ⟨by omega, rg.2⟩) (pcons (slotOK_q (c' := 86) (j' := 1) k3) no_pre))) s hs) (fun x y J _ hf h => ex_wf hw hf h)
        · exact tv0_1_0 d a b I hi (ax2 (by omega)) (fun s hs => by
            rcases List.mem_append.mp (show s ∈ kqp0 ++ [(9, 1, 0, 0), (85, 1, 0, 0), (86, 1, 0, 0), (10, 1, aEQ + 86, 1)] from hs) with hs | hs
            · exact kq0 s hs
            · exact pcons (e0 (by decide) k1 rfl) (pcons (e0 (by decide) k2 rfl) (pcons (e1 (by decide) hv) (pcons (slotOK_q (c' := 86) (j' := 1) k3) no_pre))) s hs) (fun x y J _ hf h => ex_wf hw hf h)
        · exact tv0_1_1 d a b I hi (ax2 (by omega)) (fun s hs => by
            rcases List.mem_append.mp (show s ∈ kqp1 ++ [(9, 1, 0, 0), (85, 1, 0, 0), (86, 1, 1, 1), (10, 1, aEQ + 86, 1)] from hs) with hs | hs
            · exact kq1 s hs
            · exact pcons (e0 (by decide) k1 rfl) (pcons (e0 (by decide) k2 rfl) (pcons (e1 (by decide) hv) (pcons (slotOK_q (c' := 86) (j' := 1) k3) no_pre))) s hs) (fun x y J _ hf h => ex_wf hw hf h)
        · exact tv0_1_2 d a b I hi (ax2 (by omega)) (fun s hs => by
            rcases List.mem_append.mp (show s ∈ kqp2 ++ [(9, 1, 0, 0), (85, 1, 0, 0), (86, 1, 2, 2), (10, 1, aEQ + 86, 1)] from hs) with hs | hs
            · exact kq2 s hs
            · exact pcons (e0 (by decide) k1 rfl) (pcons (e0 (by decide) k2 rfl) (pcons (e1 (by decide) hv) (pcons (slotOK_q (c' := 86) (j' := 1) k3) no_pre))) s hs) (fun x y J _ hf h => ex_wf hw hf h)
        · exact tv0_1_3 d a b I hi (ax2 (by omega)) (fun s hs => by
            rcases List.mem_append.mp (show s ∈ kqp3 ++ [(9, 1, 0, 0), (85, 1, 0, 0), (86, 1, 3, 3), (10, 1, aEQ + 86, 1)] from hs) with hs | hs
            · exact kq3 s hs
            · exact pcons (e0 (by decide) k1 rfl) (pcons (e0 (by decide) k2 rfl) (pcons (e1 (by decide) hv) (pcons (slotOK_q (c' := 86) (j' := 1) k3) no_pre))) s hs) (fun x y J _ hf h => ex_wf hw hf h)
        · exact tv0_1_4 d a b I hi (ax2 (by omega)) (fun s hs => by
            rcases List.mem_append.mp (show s ∈ kqp4 ++ [(9, 1, 0, 0), (85, 1, 0, 0), (86, 1, 4, 4), (10, 1, aEQ + 86, 1)] from hs) with hs | hs
            · exact kq4 s hs
            · exact pcons (e0 (by decide) k1 rfl) (pcons (e0 (by decide) k2 rfl) (pcons (e1 (by decide) hv) (pcons (slotOK_q (c' := 86) (j' := 1) k3) no_pre))) s hs) (fun x y J _ hf h => ex_wf hw hf h)
        · exact tv0_1_5 d a b I hi (ax2 (by omega)) (fun s hs => by
            rcases List.mem_append.mp (show s ∈ kqp5 ++ [(9, 1, 0, 0), (85, 1, 0, 0), (86, 1, 5, 5), (10, 1, aEQ + 86, 1)] from hs) with hs | hs
            · exact kq5 s hs
            · exact pcons (e0 (by decide) k1 rfl) (pcons (e0 (by decide) k2 rfl) (pcons (e1 (by decide) hv) (pcons (slotOK_q (c' := 86) (j' := 1) k3) no_pre))) s hs) (fun x y J _ hf h => ex_wf hw hf h)
      · have ht : (I 10 1).toInt = 0 ∨ (I 10 1).toInt = 1 ∨ (I 10 1).toInt = 2 ∨ (I 10 1).toInt = 3 ∨ (I 10 1).toInt = 4 := by omega
        rcases ht with ht | ht | ht | ht | ht
        · exact tv1_1_0 d a b I hi (ax2 (by omega)) (pcons (e0 (by decide) k1 rfl) (pcons (e1 (by decide) ht) (pcons (e1 (by decide) (by omega)) (pcons e2 (pcons (slotOK_q (c' := 86) (j' := 1) k5) no_pre))))) (fun x y J _ hf h => ex_wf hw hf h)
        · exact tv1_1_1 d a b I hi (ax2 (by omega)) (pcons (e0 (by decide) k1 rfl) (pcons (e1 (by decide) ht) (pcons (e1 (by decide) (by omega)) (pcons e2 (pcons (slotOK_q (c' := 86) (j' := 1) k5) no_pre))))) (fun x y J _ hf h => ex_wf hw hf h)
        · exact tv1_1_2 d a b I hi (ax2 (by omega)) (pcons (e0 (by decide) k1 rfl) (pcons (e1 (by decide) ht) (pcons (e1 (by decide) (by omega)) (pcons e2 (pcons (slotOK_q (c' := 86) (j' := 1) k5) no_pre))))) (fun x y J _ hf h => ex_wf hw hf h)
        · exact tv1_1_3 d a b I hi (ax2 (by omega)) (pcons (e0 (by decide) k1 rfl) (pcons (e1 (by decide) ht) (pcons (e1 (by decide) (by omega)) (pcons e2 (pcons (slotOK_q (c' := 86) (j' := 1) k5) no_pre))))) (fun x y J _ hf h => ex_wf hw hf h)
        · exact tv1_1_4 d a b I hi (ax2 (by omega)) (pcons (e0 (by decide) k1 rfl) (pcons (e1 (by decide) ht) (pcons (e1 (by decide) (by omega)) (pcons e2 (pcons (slotOK_q (c' := 86) (j' := 1) k5) no_pre))))) (fun x y J _ hf h => ex_wf hw hf h)
      · exact tv2_1 d a b I hi (ax2 (by omega)) (pcons (e0 (by decide) k1 rfl) (pcons (e1 (by decide) k2) no_pre)) (fun x y J _ hf h => ex_wf hw hf h)
    · rcases (hw.2.2.2.2.2 2 (by decide)).2 with ⟨k1, k2, k3⟩ | ⟨k1, k2, k3, k4, k5⟩ | ⟨k1, k2⟩
      · have rg : (-2147483648 : Int) ≤ (I 86 2).toInt ∧ (I 86 2).toInt ≤ 2147483647 := a_rng _
        have hv : (I 86 2).toInt < 0 ∨ 5 < (I 86 2).toInt ∨ (I 86 2).toInt = 0 ∨ (I 86 2).toInt = 1 ∨ (I 86 2).toInt = 2 ∨ (I 86 2).toInt = 3 ∨ (I 86 2).toInt = 4 ∨ (I 86 2).toInt = 5 := by omega
        rcases hv with hv | hv | hv | hv | hv | hv | hv | hv
        · exact tv0_2_n d a b I hi (ax2 (by omega)) (fun s hs => by
            rcases List.mem_append.mp (show s ∈ kqpn ++ [(9, 2, 0, 0), (85, 2, 0, 0), (86, 2, (-2147483648), (-1)), (10, 2, aEQ + 86, 2)] from hs) with hs | hs
            · exact kqn s hs
            · exact pcons (e0 (by decide) k1 rfl) (pcons (e0 (by decide) k2 rfl) (pcons (sbd (by decide) ⟨rg.1, by omega⟩) (pcons (slotOK_q (c' := 86) (j' := 2) k3) no_pre))) s hs) (fun x y J _ hf h => ex_wf hw hf h)
        · exact tv0_2_x d a b I hi (ax2 (by omega)) (fun s hs => by
            rcases List.mem_append.mp (show s ∈ kqpx ++ [(9, 2, 0, 0), (85, 2, 0, 0), (86, 2, 6, 2147483647), (10, 2, aEQ + 86, 2)] from hs) with hs | hs
            · exact kqx s hs
            · exact pcons (e0 (by decide) k1 rfl) (pcons (e0 (by decide) k2 rfl) (pcons (sbd (by decide) ⟨by omega, rg.2⟩) (pcons (slotOK_q (c' := 86) (j' := 2) k3) no_pre))) s hs) (fun x y J _ hf h => ex_wf hw hf h)
        · exact tv0_2_0 d a b I hi (ax2 (by omega)) (fun s hs => by
            rcases List.mem_append.mp (show s ∈ kqp0 ++ [(9, 2, 0, 0), (85, 2, 0, 0), (86, 2, 0, 0), (10, 2, aEQ + 86, 2)] from hs) with hs | hs
            · exact kq0 s hs
            · exact pcons (e0 (by decide) k1 rfl) (pcons (e0 (by decide) k2 rfl) (pcons (e1 (by decide) hv) (pcons (slotOK_q (c' := 86) (j' := 2) k3) no_pre))) s hs) (fun x y J _ hf h => ex_wf hw hf h)
        · exact tv0_2_1 d a b I hi (ax2 (by omega)) (fun s hs => by
            rcases List.mem_append.mp (show s ∈ kqp1 ++ [(9, 2, 0, 0), (85, 2, 0, 0), (86, 2, 1, 1), (10, 2, aEQ + 86, 2)] from hs) with hs | hs
            · exact kq1 s hs
            · exact pcons (e0 (by decide) k1 rfl) (pcons (e0 (by decide) k2 rfl) (pcons (e1 (by decide) hv) (pcons (slotOK_q (c' := 86) (j' := 2) k3) no_pre))) s hs) (fun x y J _ hf h => ex_wf hw hf h)
        · exact tv0_2_2 d a b I hi (ax2 (by omega)) (fun s hs => by
            rcases List.mem_append.mp (show s ∈ kqp2 ++ [(9, 2, 0, 0), (85, 2, 0, 0), (86, 2, 2, 2), (10, 2, aEQ + 86, 2)] from hs) with hs | hs
            · exact kq2 s hs
            · exact pcons (e0 (by decide) k1 rfl) (pcons (e0 (by decide) k2 rfl) (pcons (e1 (by decide) hv) (pcons (slotOK_q (c' := 86) (j' := 2) k3) no_pre))) s hs) (fun x y J _ hf h => ex_wf hw hf h)
        · exact tv0_2_3 d a b I hi (ax2 (by omega)) (fun s hs => by
            rcases List.mem_append.mp (show s ∈ kqp3 ++ [(9, 2, 0, 0), (85, 2, 0, 0), (86, 2, 3, 3), (10, 2, aEQ + 86, 2)] from hs) with hs | hs
            · exact kq3 s hs
            · exact pcons (e0 (by decide) k1 rfl) (pcons (e0 (by decide) k2 rfl) (pcons (e1 (by decide) hv) (pcons (slotOK_q (c' := 86) (j' := 2) k3) no_pre))) s hs) (fun x y J _ hf h => ex_wf hw hf h)
        · exact tv0_2_4 d a b I hi (ax2 (by omega)) (fun s hs => by
            rcases List.mem_append.mp (show s ∈ kqp4 ++ [(9, 2, 0, 0), (85, 2, 0, 0), (86, 2, 4, 4), (10, 2, aEQ + 86, 2)] from hs) with hs | hs
            · exact kq4 s hs
            · exact pcons (e0 (by decide) k1 rfl) (pcons (e0 (by decide) k2 rfl) (pcons (e1 (by decide) hv) (pcons (slotOK_q (c' := 86) (j' := 2) k3) no_pre))) s hs) (fun x y J _ hf h => ex_wf hw hf h)
        · exact tv0_2_5 d a b I hi (ax2 (by omega)) (fun s hs => by
            rcases List.mem_append.mp (show s ∈ kqp5 ++ [(9, 2, 0, 0), (85, 2, 0, 0), (86, 2, 5, 5), (10, 2, aEQ + 86, 2)] from hs) with hs | hs
            · exact kq5 s hs
            · exact pcons (e0 (by decide) k1 rfl) (pcons (e0 (by decide) k2 rfl) (pcons (e1 (by decide) hv) (pcons (slotOK_q (c' := 86) (j' := 2) k3) no_pre))) s hs) (fun x y J _ hf h => ex_wf hw hf h)
      · have ht : (I 10 2).toInt = 0 ∨ (I 10 2).toInt = 1 ∨ (I 10 2).toInt = 2 ∨ (I 10 2).toInt = 3 ∨ (I 10 2).toInt = 4 := by omega
        rcases ht with ht | ht | ht | ht | ht
        · exact tv1_2_0 d a b I hi (ax2 (by omega)) (pcons (e0 (by decide) k1 rfl) (pcons (e1 (by decide) ht) (pcons (e1 (by decide) (by omega)) (pcons e2 (pcons (slotOK_q (c' := 86) (j' := 2) k5) no_pre))))) (fun x y J _ hf h => ex_wf hw hf h)
        · exact tv1_2_1 d a b I hi (ax2 (by omega)) (pcons (e0 (by decide) k1 rfl) (pcons (e1 (by decide) ht) (pcons (e1 (by decide) (by omega)) (pcons e2 (pcons (slotOK_q (c' := 86) (j' := 2) k5) no_pre))))) (fun x y J _ hf h => ex_wf hw hf h)
        · exact tv1_2_2 d a b I hi (ax2 (by omega)) (pcons (e0 (by decide) k1 rfl) (pcons (e1 (by decide) ht) (pcons (e1 (by decide) (by omega)) (pcons e2 (pcons (slotOK_q (c' := 86) (j' := 2) k5) no_pre))))) (fun x y J _ hf h => ex_wf hw hf h)
        · exact tv1_2_3 d a b I hi (ax2 (by omega)) (pcons (e0 (by decide) k1 rfl) (pcons (e1 (by decide) ht) (pcons (e1 (by decide) (by omega)) (pcons e2 (pcons (slotOK_q (c' := 86) (j' := 2) k5) no_pre))))) (fun x y J _ hf h => ex_wf hw hf h)
        · exact tv1_2_4 d a b I hi (ax2 (by omega)) (pcons (e0 (by decide) k1 rfl) (pcons (e1 (by decide) ht) (pcons (e1 (by decide) (by omega)) (pcons e2 (pcons (slotOK_q (c' := 86) (j' := 2) k5) no_pre))))) (fun x y J _ hf h => ex_wf hw hf h)
      · exact tv2_2 d a b I hi (ax2 (by omega)) (pcons (e0 (by decide) k1 rfl) (pcons (e1 (by decide) k2) no_pre)) (fun x y J _ hf h => ex_wf hw hf h)
    · rcases (hw.2.2.2.2.2 3 (by decide)).2 with ⟨k1, k2, k3⟩ | ⟨k1, k2, k3, k4, k5⟩ | ⟨k1, k2⟩
      · have rg : (-2147483648 : Int) ≤ (I 86 3).toInt ∧ (I 86 3).toInt ≤ 2147483647 := a_rng _
        have hv : (I 86 3).toInt < 0 ∨ 5 < (I 86 3).toInt ∨ (I 86 3).toInt = 0 ∨ (I 86 3).toInt = 1 ∨ (I 86 3).toInt = 2 ∨ (I 86 3).toInt = 3 ∨ (I 86 3).toInt = 4 ∨ (I 86 3).toInt = 5 := by omega
        rcases hv with hv | hv | hv | hv | hv | hv | hv | hv
        · exact tv0_3_n d a b I hi (ax2 (by omega)) (fun s hs => by
            rcases List.mem_append.mp (show s ∈ kqpn ++ [(9, 3, 0, 0), (85, 3, 0, 0), (86, 3, (-2147483648), (-1)), (10, 3, aEQ + 86, 3)] from hs) with hs | hs
            · exact kqn s hs
            · exact pcons (e0 (by decide) k1 rfl) (pcons (e0 (by decide) k2 rfl) (pcons (sbd (by decide) ⟨rg.1, by omega⟩) (pcons (slotOK_q (c' := 86) (j' := 3) k3) no_pre))) s hs) (fun x y J _ hf h => ex_wf hw hf h)
        · exact tv0_3_x d a b I hi (ax2 (by omega)) (fun s hs => by
            rcases List.mem_append.mp (show s ∈ kqpx ++ [(9, 3, 0, 0), (85, 3, 0, 0), (86, 3, 6, 2147483647), (10, 3, aEQ + 86, 3)] from hs) with hs | hs
            · exact kqx s hs
            · exact pcons (e0 (by decide) k1 rfl) (pcons (e0 (by decide) k2 rfl) (pcons (sbd (by decide) ⟨by omega, rg.2⟩) (pcons (slotOK_q (c' := 86) (j' := 3) k3) no_pre))) s hs) (fun x y J _ hf h => ex_wf hw hf h)
        · exact tv0_3_0 d a b I hi (ax2 (by omega)) (fun s hs => by
            rcases List.mem_append.mp (show s ∈ kqp0 ++ [(9, 3, 0, 0), (85, 3, 0, 0), (86, 3, 0, 0), (10, 3, aEQ + 86, 3)] from hs) with hs | hs
            · exact kq0 s hs
            · exact pcons (e0 (by decide) k1 rfl) (pcons (e0 (by decide) k2 rfl) (pcons (e1 (by decide) hv) (pcons (slotOK_q (c' := 86) (j' := 3) k3) no_pre))) s hs) (fun x y J _ hf h => ex_wf hw hf h)
        · exact tv0_3_1 d a b I hi (ax2 (by omega)) (fun s hs => by
            rcases List.mem_append.mp (show s ∈ kqp1 ++ [(9, 3, 0, 0), (85, 3, 0, 0), (86, 3, 1, 1), (10, 3, aEQ + 86, 3)] from hs) with hs | hs
            · exact kq1 s hs
            · exact pcons (e0 (by decide) k1 rfl) (pcons (e0 (by decide) k2 rfl) (pcons (e1 (by decide) hv) (pcons (slotOK_q (c' := 86) (j' := 3) k3) no_pre))) s hs) (fun x y J _ hf h => ex_wf hw hf h)
        · exact tv0_3_2 d a b I hi (ax2 (by omega)) (fun s hs => by
            rcases List.mem_append.mp (show s ∈ kqp2 ++ [(9, 3, 0, 0), (85, 3, 0, 0), (86, 3, 2, 2), (10, 3, aEQ + 86, 3)] from hs) with hs | hs
            · exact kq2 s hs
            · exact pcons (e0 (by decide) k1 rfl) (pcons (e0 (by decide) k2 rfl) (pcons (e1 (by decide) hv) (pcons (slotOK_q (c' := 86) (j' := 3) k3) no_pre))) s hs) (fun x y J _ hf h => ex_wf hw hf h)
        · exact tv0_3_3 d a b I hi (ax2 (by omega)) (fun s hs => by
            rcases List.mem_append.mp (show s ∈ kqp3 ++ [(9, 3, 0, 0), (85, 3, 0, 0), (86, 3, 3, 3), (10, 3, aEQ + 86, 3)] from hs) with hs | hs
            · exact kq3 s hs
            · exact pcons (e0 (by decide) k1 rfl) (pcons (e0 (by decide) k2 rfl) (pcons (e1 (by decide) hv) (pcons (slotOK_q (c' := 86) (j' := 3) k3) no_pre))) s hs) (fun x y J _ hf h => ex_wf hw hf h)
        · exact tv0_3_4 d a b I hi (ax2 (by omega)) (fun s hs => by
            rcases List.mem_append.mp (show s ∈ kqp4 ++ [(9, 3, 0, 0), (85, 3, 0, 0), (86, 3, 4, 4), (10, 3, aEQ + 86, 3)] from hs) with hs | hs
            · exact kq4 s hs
            · exact pcons (e0 (by decide) k1 rfl) (pcons (e0 (by decide) k2 rfl) (pcons (e1 (by decide) hv) (pcons (slotOK_q (c' := 86) (j' := 3) k3) no_pre))) s hs) (fun x y J _ hf h => ex_wf hw hf h)
        · exact tv0_3_5 d a b I hi (ax2 (by omega)) (fun s hs => by
            rcases List.mem_append.mp (show s ∈ kqp5 ++ [(9, 3, 0, 0), (85, 3, 0, 0), (86, 3, 5, 5), (10, 3, aEQ + 86, 3)] from hs) with hs | hs
            · exact kq5 s hs
            · exact pcons (e0 (by decide) k1 rfl) (pcons (e0 (by decide) k2 rfl) (pcons (e1 (by decide) hv) (pcons (slotOK_q (c' := 86) (j' := 3) k3) no_pre))) s hs) (fun x y J _ hf h => ex_wf hw hf h)
      · have ht : (I 10 3).toInt = 0 ∨ (I 10 3).toInt = 1 ∨ (I 10 3).toInt = 2 ∨ (I 10 3).toInt = 3 ∨ (I 10 3).toInt = 4 := by omega
        rcases ht with ht | ht | ht | ht | ht
        · exact tv1_3_0 d a b I hi (ax2 (by omega)) (pcons (e0 (by decide) k1 rfl) (pcons (e1 (by decide) ht) (pcons (e1 (by decide) (by omega)) (pcons e2 (pcons (slotOK_q (c' := 86) (j' := 3) k5) no_pre))))) (fun x y J _ hf h => ex_wf hw hf h)
        · exact tv1_3_1 d a b I hi (ax2 (by omega)) (pcons (e0 (by decide) k1 rfl) (pcons (e1 (by decide) ht) (pcons (e1 (by decide) (by omega)) (pcons e2 (pcons (slotOK_q (c' := 86) (j' := 3) k5) no_pre))))) (fun x y J _ hf h => ex_wf hw hf h)
        · exact tv1_3_2 d a b I hi (ax2 (by omega)) (pcons (e0 (by decide) k1 rfl) (pcons (e1 (by decide) ht) (pcons (e1 (by decide) (by omega)) (pcons e2 (pcons (slotOK_q (c' := 86) (j' := 3) k5) no_pre))))) (fun x y J _ hf h => ex_wf hw hf h)
        · exact tv1_3_3 d a b I hi (ax2 (by omega)) (pcons (e0 (by decide) k1 rfl) (pcons (e1 (by decide) ht) (pcons (e1 (by decide) (by omega)) (pcons e2 (pcons (slotOK_q (c' := 86) (j' := 3) k5) no_pre))))) (fun x y J _ hf h => ex_wf hw hf h)
        · exact tv1_3_4 d a b I hi (ax2 (by omega)) (pcons (e0 (by decide) k1 rfl) (pcons (e1 (by decide) ht) (pcons (e1 (by decide) (by omega)) (pcons e2 (pcons (slotOK_q (c' := 86) (j' := 3) k5) no_pre))))) (fun x y J _ hf h => ex_wf hw hf h)
      · exact tv2_3 d a b I hi (ax2 (by omega)) (pcons (e0 (by decide) k1 rfl) (pcons (e1 (by decide) k2) no_pre)) (fun x y J _ hf h => ex_wf hw hf h)
