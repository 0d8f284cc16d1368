def ae1_md : aMd := [(65, 3, 3), (67, 34, 34)]
theorem ae1 (d : Nat) (a b c : Int32) (I : gI) (hi : aInv bT I) (ha : argsOK [(0, (-2147483648), (-1)), (0, (-2147483648), 2147483647), (0, (-2147483648), 2147483647)] ([a, b, c].map Value.int)) (hp : ∀ s ∈ ([] : List (Nat × Nat × Int × Int)), slotOK I s) (hE : ∀ x y J, aInv bT J → afr ae1_md I J → pEv true [] [(65, 3, 0), (67, 34, 0)] [] [] false ([a, b, c].map Value.int) x y J → (true = true → y = x) ∧ WF J) : gg (d + 40) mX11_act 0 (gent mX11_act.2.2.1 (.ref 0 :: [a, b, c].map Value.int)) [] I (pbM (fun x J => gg (d + 40) mX12_act 0 (gent mX12_act.2.2.1 (.ref 67 :: [a, b, c].map Value.int)) [] J (prE true x))) := pr_box (xc := pxv (aentA [(0, (-2147483648), (-1)), (0, (-2147483648), 2147483647), (0, (-2147483648), 2147483647)] []).1 true [] [(65, 3, 0), (67, 34, 0)] [] [] false) (E := pEv true [] [(65, 3, 0), (67, 34, 0)] [] [] false) (pm := [(285, 7, [], ops_X11_act), (37, 3, [], ops_X11_isIn), (103, 1, [], ops_X11_isPlace), (286, 6, [], ops_X12_act), (127, 3, [], ops_X12_in1), (174, 1, [], ops_X12_isSheet)]) (mi1 := 285) (nl1 := 7) (mi2 := 286) (nl2 := 6) (fuel := 40) (by decide +kernel) (fun vs => pxv_ok vs) (pmOK.cons mt_X11_act rfl os_X11_act (pmOK.cons mt_X11_isIn rfl os_X11_isIn (pmOK.cons mt_X11_isPlace rfl os_X11_isPlace (pmOK.cons mt_X12_act rfl os_X12_act (pmOK.cons mt_X12_in1 rfl os_X12_in1 (pmOK.cons mt_X12_isSheet rfl os_X12_isSheet (pmOK.nil))))))) mt_X11_act rfl mt_X12_act rfl d [a, b, c] I ha hi hp hE
def ae2_md : aMd := [(65, 3, 3), (67, 34, 34)]
theorem ae2 (d : Nat) (a b c : Int32) (I : gI) (hi : aInv bT I) (ha : argsOK [(0, 4, 2147483647), (0, (-2147483648), 2147483647), (0, (-2147483648), 2147483647)] ([a, b, c].map Value.int)) (hp : ∀ s ∈ ([] : List (Nat × Nat × Int × Int)), slotOK I s) (hE : ∀ x y J, aInv bT J → afr ae2_md I J → pEv true [] [(65, 3, 0), (67, 34, 0)] [] [] false ([a, b, c].map Value.int) x y J → (true = true → y = x) ∧ WF J) : gg (d + 40) mX11_act 0 (gent mX11_act.2.2.1 (.ref 0 :: [a, b, c].map Value.int)) [] I (pbM (fun x J => gg (d + 40) mX12_act 0 (gent mX12_act.2.2.1 (.ref 67 :: [a, b, c].map Value.int)) [] J (prE true x))) := pr_box (xc := pxv (aentA [(0, 4, 2147483647), (0, (-2147483648), 2147483647), (0, (-2147483648), 2147483647)] []).1 true [] [(65, 3, 0), (67, 34, 0)] [] [] false) (E := pEv true [] [(65, 3, 0), (67, 34, 0)] [] [] false) (pm := [(285, 7, [], ops_X11_act), (37, 3, [], ops_X11_isIn), (103, 1, [], ops_X11_isPlace), (286, 6, [], ops_X12_act), (127, 3, [], ops_X12_in1), (174, 1, [], ops_X12_isSheet)]) (mi1 := 285) (nl1 := 7) (mi2 := 286) (nl2 := 6) (fuel := 46) (by decide +kernel) (fun vs => pxv_ok vs) (pmOK.cons mt_X11_act rfl os_X11_act (pmOK.cons mt_X11_isIn rfl os_X11_isIn (pmOK.cons mt_X11_isPlace rfl os_X11_isPlace (pmOK.cons mt_X12_act rfl os_X12_act (pmOK.cons mt_X12_in1 rfl os_X12_in1 (pmOK.cons mt_X12_isSheet rfl os_X12_isSheet (pmOK.nil))))))) mt_X11_act rfl mt_X12_act rfl d [a, b, c] I ha hi hp hE
def ae3_md : aMd := [(65, 3, 3), (67, 34, 34)]
theorem ae3 (d : Nat) (a b c : Int32) (I : gI) (hi : aInv bT I) (ha : argsOK [(0, 0, 3), (0, (-2147483648), (-1)), (0, (-2147483648), 2147483647)] ([a, b, c].map Value.int)) (hp : ∀ s ∈ ([] : List (Nat × Nat × Int × Int)), slotOK I s) (hE : ∀ x y J, aInv bT J → afr ae3_md I J → pEv true [] [(65, 3, 0), (67, 34, 0)] [] [] false ([a, b, c].map Value.int) x y J → (true = true → y = x) ∧ WF J) : gg (d + 40) mX11_act 0 (gent mX11_act.2.2.1 (.ref 0 :: [a, b, c].map Value.int)) [] I (pbM (fun x J => gg (d + 40) mX12_act 0 (gent mX12_act.2.2.1 (.ref 67 :: [a, b, c].map Value.int)) [] J (prE true x))) := pr_box (xc := pxv (aentA [(0, 0, 3), (0, (-2147483648), (-1)), (0, (-2147483648), 2147483647)] []).1 true [] [(65, 3, 0), (67, 34, 0)] [] [] false) (E := pEv true [] [(65, 3, 0), (67, 34, 0)] [] [] false) (pm := [(285, 7, [], ops_X11_act), (37, 3, [], ops_X11_isIn), (103, 1, [], ops_X11_isPlace), (286, 6, [], ops_X12_act), (127, 3, [], ops_X12_in1), (174, 1, [], ops_X12_isSheet)]) (mi1 := 285) (nl1 := 7) (mi2 := 286) (nl2 := 6) (fuel := 68) (by decide +kernel) (fun vs => pxv_ok vs) (pmOK.cons mt_X11_act rfl os_X11_act (pmOK.cons mt_X11_isIn rfl os_X11_isIn (pmOK.cons mt_X11_isPlace rfl os_X11_isPlace (pmOK.cons mt_X12_act rfl os_X12_act (pmOK.cons mt_X12_in1 rfl os_X12_in1 (pmOK.cons mt_X12_isSheet rfl os_X12_isSheet (pmOK.nil))))))) mt_X11_act rfl mt_X12_act rfl d [a, b, c] I ha hi hp hE
def ae4_md : aMd := [(65, 3, 3), (67, 34, 34)]
theorem ae4 (d : Nat) (a b c : Int32) (I : gI) (hi : aInv bT I) (ha : argsOK [(0, 0, 3), (0, 4, 2147483647), (0, (-2147483648), 2147483647)] ([a, b, c].map Value.int)) (hp : ∀ s ∈ ([] : List (Nat × Nat × Int × Int)), slotOK I s) (hE : ∀ x y J, aInv bT J → afr ae4_md I J → pEv true [] [(65, 3, 0), (67, 34, 0)] [] [] false ([a, b, c].map Value.int) x y J → (true = true → y = x) ∧ WF J) : gg (d + 40) mX11_act 0 (gent mX11_act.2.2.1 (.ref 0 :: [a, b, c].map Value.int)) [] I (pbM (fun x J => gg (d + 40) mX12_act 0 (gent mX12_act.2.2.1 (.ref 67 :: [a, b, c].map Value.int)) [] J (prE true x))) := pr_box (xc := pxv (aentA [(0, 0, 3), (0, 4, 2147483647), (0, (-2147483648), 2147483647)] []).1 true [] [(65, 3, 0), (67, 34, 0)] [] [] false) (E := pEv true [] [(65, 3, 0), (67, 34, 0)] [] [] false) (pm := [(285, 7, [], ops_X11_act), (37, 3, [], ops_X11_isIn), (103, 1, [], ops_X11_isPlace), (286, 6, [], ops_X12_act), (127, 3, [], ops_X12_in1), (174, 1, [], ops_X12_isSheet)]) (mi1 := 285) (nl1 := 7) (mi2 := 286) (nl2 := 6) (fuel := 74) (by decide +kernel) (fun vs => pxv_ok vs) (pmOK.cons mt_X11_act rfl os_X11_act (pmOK.cons mt_X11_isIn rfl os_X11_isIn (pmOK.cons mt_X11_isPlace rfl os_X11_isPlace (pmOK.cons mt_X12_act rfl os_X12_act (pmOK.cons mt_X12_in1 rfl os_X12_in1 (pmOK.cons mt_X12_isSheet rfl os_X12_isSheet (pmOK.nil))))))) mt_X11_act rfl mt_X12_act rfl d [a, b, c] I ha hi hp hE
def ae5_md : aMd := [(65, 3, 3), (67, 34, 34)]
theorem ae5 (d : Nat) (xs : List Int32) (I : gI) (ρ : List Int32) (hA : aSt ρ [(0, 0), (0, 1), (0, 2)] (xs.map Value.int)) (hB : aok [(0, 3, none), (0, 3, none), ((-2147483648), 2147483647, none), (1, 2, none), ((-1), (-1), none)] ρ) (hK : aheap bT [] ρ I) (hf : fok I [(3, 9, (0, 0), (2, 0), (0, 3)), (3, 85, (0, 0), (2, 0), (0, 4))] ρ) (hE : ∀ x y J, aInv bT J → afr ae5_md I J → pEv true [] [(65, 3, 0), (67, 34, 0)] [] [] false (xs.map Value.int) x y J → (true = true → y = x) ∧ WF J) : gg (d + 40) mX11_act 0 (gent mX11_act.2.2.1 (.ref 0 :: xs.map Value.int)) [] I (pbM (fun x J => gg (d + 40) mX12_act 0 (gent mX12_act.2.2.1 (.ref 67 :: xs.map Value.int)) [] J (prE true x))) := pr2_box (xc := pxv [(0, 0), (0, 1), (0, 2)] true [] [(65, 3, 0), (67, 34, 0)] [] [] false) (E := pEv true [] [(65, 3, 0), (67, 34, 0)] [] [] false (xs.map Value.int)) (pm := [(285, 7, [], ops_X11_act), (107, 2, [], ops_X11_holdsKey), (37, 3, [], ops_X11_isIn), (103, 1, [], ops_X11_isPlace), (286, 6, [], ops_X12_act), (177, 2, [], ops_X12_heldOn), (127, 3, [], ops_X12_in1), (174, 1, [], ops_X12_isSheet)]) (mi1 := 285) (nl1 := 7) (mi2 := 286) (nl2 := 6) (fuel := 101) (by decide +kernel) (pmOK.cons mt_X11_act rfl os_X11_act (pmOK.cons mt_X11_holdsKey rfl os_X11_holdsKey (pmOK.cons mt_X11_isIn rfl os_X11_isIn (pmOK.cons mt_X11_isPlace rfl os_X11_isPlace (pmOK.cons mt_X12_act rfl os_X12_act (pmOK.cons mt_X12_heldOn rfl os_X12_heldOn (pmOK.cons mt_X12_in1 rfl os_X12_in1 (pmOK.cons mt_X12_isSheet rfl os_X12_isSheet (pmOK.nil))))))))) mt_X11_act rfl mt_X12_act rfl d xs I ρ (pxv_ok _) hA hB hK hf hE
def ae6_md : aMd := [(65, 3, 3), (67, 34, 34)]
theorem ae6 (d : Nat) (xs : List Int32) (I : gI) (ρ : List Int32) (hA : aSt ρ [(0, 0), (0, 1), (0, 2)] (xs.map Value.int)) (hB : aok [(0, 3, none), (0, 3, none), ((-2147483648), 2147483647, none), (1, 2, none), (1, 14, none)] ρ) (hK : aheap bT [] ρ I) (hf : fok I [(3, 9, (0, 0), (2, 0), (0, 3)), (3, 85, (0, 0), (2, 0), (0, 4))] ρ) (hE : ∀ x y J, aInv bT J → afr ae6_md I J → pEv true [] [(65, 3, 0), (67, 34, 0)] [] [] false (xs.map Value.int) x y J → (true = true → y = x) ∧ WF J) : gg (d + 40) mX11_act 0 (gent mX11_act.2.2.1 (.ref 0 :: xs.map Value.int)) [] I (pbM (fun x J => gg (d + 40) mX12_act 0 (gent mX12_act.2.2.1 (.ref 67 :: xs.map Value.int)) [] J (prE true x))) := pr2_box (xc := pxv [(0, 0), (0, 1), (0, 2)] true [] [(65, 3, 0), (67, 34, 0)] [] [] false) (E := pEv true [] [(65, 3, 0), (67, 34, 0)] [] [] false (xs.map Value.int)) (pm := [(285, 7, [], ops_X11_act), (107, 2, [], ops_X11_holdsKey), (37, 3, [], ops_X11_isIn), (103, 1, [], ops_X11_isPlace), (286, 6, [], ops_X12_act), (177, 2, [], ops_X12_heldOn), (127, 3, [], ops_X12_in1), (174, 1, [], ops_X12_isSheet)]) (mi1 := 285) (nl1 := 7) (mi2 := 286) (nl2 := 6) (fuel := 101) (by decide +kernel) (pmOK.cons mt_X11_act rfl os_X11_act (pmOK.cons mt_X11_holdsKey rfl os_X11_holdsKey (pmOK.cons mt_X11_isIn rfl os_X11_isIn (pmOK.cons mt_X11_isPlace rfl os_X11_isPlace (pmOK.cons mt_X12_act rfl os_X12_act (pmOK.cons mt_X12_heldOn rfl os_X12_heldOn (pmOK.cons mt_X12_in1 rfl os_X12_in1 (pmOK.cons mt_X12_isSheet rfl os_X12_isSheet (pmOK.nil))))))))) mt_X11_act rfl mt_X12_act rfl d xs I ρ (pxv_ok _) hA hB hK hf hE
def acA (a : Int) : List aV := [(0, 0), (2, a), (0, 1)]
def acB : aB := [(0, 3, none), ((-2147483648), 2147483647, none), (0, 5, none), (0, 6, none), (0, 5, none), (0, 25, none), (35, 60, none), (38, 63, none)]
def acK : aK := [(68, 4, (0, 3)), (19, 8, (0, 3))]
def acF (kd : Int) : aF := [(3, 10, (0, 0), (2, 0), (0, 2)), (3, 86, (0, 0), (2, 0), (0, 2)), (3, 9, (0, 0), (2, 0), (2, 0)), (3, 85, (0, 0), (2, 0), (2, 0)), (3, 23, (0, 2), (2, 0), (2, kd)), (3, 68, (0, 6), (2, 0), (2, kd)), (3, 26, (0, 2), (2, 0), (0, 4)), (3, 68, (0, 7), (2, 0), (0, 4)), (1, 2, (2, 5), (0, 2), (0, 5)), (1, 0, (2, 35), (0, 5), (0, 6)), (1, 0, (0, 6), (2, 0), (0, 6)), (1, 0, (0, 6), (2, 3), (0, 7))]
def acR (I : gI) (s x : Int32) : List Int32 := [] ++ [s] ++ [x] ++ [I 86 s.toInt.toNat] ++ [I 68 4] ++ [I 26 (I 86 s.toInt.toNat).toInt.toNat] ++ [5 * I 86 s.toInt.toNat] ++ [35 + 5 * I 86 s.toInt.toNat] ++ [35 + 5 * I 86 s.toInt.toNat + 3]
theorem ac_mul {k : Int32} (h : 0 ≤ k.toInt ∧ k.toInt ≤ 5) : (5 * k).toInt = 5 * k.toInt := by
  rw [Int32.toInt_mul, show (5 : Int32).toInt = 5 from rfl]
  exact a_bm (by unfold aLo; omega) (by unfold aHi; omega)
theorem ac_35 {k : Int32} (h : 0 ≤ k.toInt ∧ k.toInt ≤ 5) : (35 + 5 * k).toInt = 35 + 5 * k.toInt := by
  rw [Int32.toInt_add, ac_mul h, show (35 : Int32).toInt = 35 from rfl]
  exact a_bm (by unfold aLo; omega) (by unfold aHi; omega)
theorem ac_38 {k : Int32} (h : 0 ≤ k.toInt ∧ k.toInt ≤ 5) : (35 + 5 * k + 3).toInt = 38 + 5 * k.toInt := by
  rw [Int32.toInt_add, ac_35 h, show (3 : Int32).toInt = 3 from rfl, a_bm (by unfold aLo; omega) (by unfold aHi; omega)]
  omega
theorem ac_kind {I : gI} (hw : WF I) {k : Nat} (hk : k < 6) : I 23 k = I 68 (35 + 5 * k) ∧ I 26 k = I 68 (38 + 5 * k) := by
  rcases (by omega : k = 0 ∨ k = 1 ∨ k = 2 ∨ k = 3 ∨ k = 4 ∨ k = 5) with rfl | rfl | rfl | rfl | rfl | rfl
  · exact ⟨hw.2.1 (23, 0, 39, 0, 35) (by decide +kernel), WF_h hw (26, 0, 68, 38) (by decide +kernel)⟩
  · exact ⟨hw.2.1 (23, 1, 39, 1, 40) (by decide +kernel), WF_h hw (26, 1, 68, 43) (by decide +kernel)⟩
  · exact ⟨hw.2.1 (23, 2, 39, 2, 45) (by decide +kernel), WF_h hw (26, 2, 68, 48) (by decide +kernel)⟩
  · exact ⟨hw.2.1 (23, 3, 39, 3, 50) (by decide +kernel), WF_h hw (26, 3, 68, 53) (by decide +kernel)⟩
  · exact ⟨hw.2.1 (23, 4, 39, 4, 55) (by decide +kernel), WF_h hw (26, 4, 68, 58) (by decide +kernel)⟩
  · exact ⟨hw.2.1 (23, 5, 39, 5, 60) (by decide +kernel), WF_h hw (26, 5, 68, 63) (by decide +kernel)⟩
theorem ac_gate {I : gI} (hi : aInv bT I) {k : Nat} (hk : k < 6) : 0 ≤ (I 26 k).toInt ∧ (I 26 k).toInt ≤ 5 := by
  rcases (by omega : k = 0 ∨ k = 1 ∨ k = 2 ∨ k = 3 ∨ k = 4 ∨ k = 5) with rfl | rfl | rfl | rfl | rfl | rfl
  · exact ain_of hi (show bnd bT 26 0 = (0, 5) by decide +kernel)
  · exact ain_of hi (show bnd bT 26 1 = (0, 5) by decide +kernel)
  · exact ain_of hi (show bnd bT 26 2 = (0, 5) by decide +kernel)
  · exact ain_of hi (show bnd bT 26 3 = (0, 5) by decide +kernel)
  · exact ain_of hi (show bnd bT 26 4 = (0, 5) by decide +kernel)
  · exact ain_of hi (show bnd bT 26 5 = (0, 5) by decide +kernel)
theorem ac_kd {I : gI} (hi : aInv bT I) {k : Nat} (hk : k < 6) : 0 ≤ (I 23 k).toInt ∧ (I 23 k).toInt ≤ 5 := by
  rcases (by omega : k = 0 ∨ k = 1 ∨ k = 2 ∨ k = 3 ∨ k = 4 ∨ k = 5) with rfl | rfl | rfl | rfl | rfl | rfl
  · exact ain_of hi (show bnd bT 23 0 = (0, 5) by decide +kernel)
  · exact ain_of hi (show bnd bT 23 1 = (0, 5) by decide +kernel)
  · exact ain_of hi (show bnd bT 23 2 = (0, 5) by decide +kernel)
  · exact ain_of hi (show bnd bT 23 3 = (0, 5) by decide +kernel)
  · exact ain_of hi (show bnd bT 23 4 = (0, 5) by decide +kernel)
  · exact ain_of hi (show bnd bT 23 5 = (0, 5) by decide +kernel)
theorem ac_st {I : gI} (hi : aInv bT I) (hw : WF I) {s a x : Int32} {az kd : Int} (hs : 0 ≤ s.toInt ∧ s.toInt ≤ 3) (ha : a.toInt = az) (h9 : I 9 s.toInt.toNat = 0) (h85 : I 85 s.toInt.toNat = 0) (h10 : I 10 s.toInt.toNat = I 86 s.toInt.toNat) (hk : 0 ≤ (I 86 s.toInt.toNat).toInt ∧ (I 86 s.toInt.toNat).toInt ≤ 5) (hkd : (I 23 (I 86 s.toInt.toNat).toInt.toNat).toInt = kd) : aSt (acR I s x) (acA az) ([s, a, x].map Value.int) ∧ aok acB (acR I s x) ∧ aheap bT acK (acR I s x) I ∧ fok I (acF kd) (acR I s x) := by
  have rx := a_rng x
  have q4 := ain_of hi (show bnd bT 68 4 = (0, 6) by decide +kernel)
  dsimp only at q4
  have wc : I 19 8 = I 68 4 := hw.2.1 (19, 8, 35, 8, 4) (by decide +kernel)
  obtain ⟨n1, n2⟩ := ac_kind hw (show (I 86 s.toInt.toNat).toInt.toNat < 6 by omega)
  have hg : 0 ≤ (I 26 (I 86 s.toInt.toNat).toInt.toNat).toInt ∧ (I 26 (I 86 s.toInt.toNat).toInt.toNat).toInt ≤ 5 := ac_gate hi (by omega)
  have t1 := ac_mul hk
  have t2 := ac_35 hk
  have t3 := ac_38 hk
  refine ⟨⟨aint (Or.inl ⟨rfl, rfl⟩), aint (Or.inr ⟨rfl, ha⟩), aint (Or.inl ⟨rfl, rfl⟩), trivial⟩, ?_, ah_pair (l := 3) hi rfl rfl wc, fun f hf => ?_⟩
  · unfold aLo aHi at rx
    exact ((((((((aok.nil.push (lo := 0) (hi := 3) (v := s) (ex := none) hs.1 hs.2 (fun _ _ h => by cases h)).push (lo := -2147483648) (hi := 2147483647) (v := x) (ex := none) rx.1 rx.2 (fun _ _ h => by cases h)).push (lo := 0) (hi := 5) (v := I 86 s.toInt.toNat) (ex := none) hk.1 hk.2 (fun _ _ h => by cases h)).push (lo := 0) (hi := 6) (v := I 68 4) (ex := none) q4.1 q4.2 (fun _ _ h => by cases h)).push (lo := 0) (hi := 5) (v := I 26 (I 86 s.toInt.toNat).toInt.toNat) (ex := none) hg.1 hg.2 (fun _ _ h => by cases h)).push (lo := 0) (hi := 25) (v := 5 * I 86 s.toInt.toNat) (ex := none) (by omega) (by omega) (fun _ _ h => by cases h)).push (lo := 35) (hi := 60) (v := 35 + 5 * I 86 s.toInt.toNat) (ex := none) (by omega) (by omega) (fun _ _ h => by cases h)).push (lo := 38) (hi := 63) (v := 35 + 5 * I 86 s.toInt.toNat + 3) (ex := none) (by omega) (by omega) (fun _ _ h => by cases h))
  · simp only [acF, List.mem_cons, List.not_mem_nil, or_false] at hf
    rcases hf with rfl | rfl | rfl | rfl | rfl | rfl | rfl | rfl | rfl | rfl | rfl | rfl
    · exact ⟨s, Or.inl ⟨rfl, rfl⟩, Or.inl ⟨rfl, by show some (I 86 s.toInt.toNat) = some (I 10 s.toInt.toNat); rw [h10]⟩⟩
    · exact ⟨s, Or.inl ⟨rfl, rfl⟩, Or.inl ⟨rfl, rfl⟩⟩
    · exact ⟨s, Or.inl ⟨rfl, rfl⟩, Or.inr ⟨rfl, by show (I 9 s.toInt.toNat).toInt = 0; rw [h9]; rfl⟩⟩
    · exact ⟨s, Or.inl ⟨rfl, rfl⟩, Or.inr ⟨rfl, by show (I 85 s.toInt.toNat).toInt = 0; rw [h85]; rfl⟩⟩
    · exact ⟨I 86 s.toInt.toNat, Or.inl ⟨rfl, rfl⟩, Or.inr ⟨rfl, hkd⟩⟩
    · refine ⟨35 + 5 * I 86 s.toInt.toNat, Or.inl ⟨rfl, rfl⟩, Or.inr ⟨rfl, ?_⟩⟩
      show (I 68 (35 + 5 * I 86 s.toInt.toNat).toInt.toNat).toInt = kd
      rw [t2, show (35 + 5 * (I 86 s.toInt.toNat).toInt).toNat = 35 + 5 * (I 86 s.toInt.toNat).toInt.toNat by omega, ← n1]
      exact hkd
    · exact ⟨I 86 s.toInt.toNat, Or.inl ⟨rfl, rfl⟩, Or.inl ⟨rfl, rfl⟩⟩
    · refine ⟨35 + 5 * I 86 s.toInt.toNat + 3, Or.inl ⟨rfl, rfl⟩, Or.inl ⟨rfl, ?_⟩⟩
      show some (I 26 (I 86 s.toInt.toNat).toInt.toNat) = some (I 68 (35 + 5 * I 86 s.toInt.toNat + 3).toInt.toNat)
      rw [t3, show (38 + 5 * (I 86 s.toInt.toNat).toInt).toNat = 38 + 5 * (I 86 s.toInt.toNat).toInt.toNat by omega, ← n2]
    · exact ⟨5, I 86 s.toInt.toNat, Or.inr ⟨rfl, rfl⟩, Or.inl ⟨rfl, rfl⟩, Or.inl ⟨rfl, rfl⟩⟩
    · exact ⟨35, 5 * I 86 s.toInt.toNat, Or.inr ⟨rfl, rfl⟩, Or.inl ⟨rfl, rfl⟩, Or.inl ⟨rfl, rfl⟩⟩
    · refine ⟨35 + 5 * I 86 s.toInt.toNat, 0, Or.inl ⟨rfl, rfl⟩, Or.inr ⟨rfl, rfl⟩, Or.inl ⟨rfl, ?_⟩⟩
      show some (35 + 5 * I 86 s.toInt.toNat) = some (35 + 5 * I 86 s.toInt.toNat + 0)
      rw [Int32.add_zero]
    · exact ⟨35 + 5 * I 86 s.toInt.toNat, 3, Or.inl ⟨rfl, rfl⟩, Or.inr ⟨rfl, rfl⟩, Or.inl ⟨rfl, rfl⟩⟩
theorem ac_r9 {I : gI} (hi : aInv bT I) {s : Nat} (hs : s < 4) : (0 ≤ (I 9 s).toInt ∧ (I 9 s).toInt ≤ 2) ∧ -1 ≤ (I 85 s).toInt ∧ (I 85 s).toInt ≤ 14 := by
  rcases (by omega : s = 0 ∨ s = 1 ∨ s = 2 ∨ s = 3) with rfl | rfl | rfl | rfl
  · exact ⟨ain_of hi (show bnd bT 9 0 = (0, 2) by decide +kernel), ain_of hi (show bnd bT 85 0 = (-1, 14) by decide +kernel)⟩
  · exact ⟨ain_of hi (show bnd bT 9 1 = (0, 2) by decide +kernel), ain_of hi (show bnd bT 85 1 = (-1, 14) by decide +kernel)⟩
  · exact ⟨ain_of hi (show bnd bT 9 2 = (0, 2) by decide +kernel), ain_of hi (show bnd bT 85 2 = (-1, 14) by decide +kernel)⟩
  · exact ⟨ain_of hi (show bnd bT 9 3 = (0, 2) by decide +kernel), ain_of hi (show bnd bT 85 3 = (-1, 14) by decide +kernel)⟩
