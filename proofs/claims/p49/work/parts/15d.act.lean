theorem pr_act : prOK mX11_act mX12_act 3 true := by
  intro d xs I hn hi hw
  match xs, hn with
  | [a, b, c], _ =>
    have ra : (-2147483648 : Int) ≤ a.toInt ∧ a.toInt ≤ 2147483647 := a_rng a
    have rb : (-2147483648 : Int) ≤ b.toInt ∧ b.toInt ≤ 2147483647 := a_rng b
    have rc : (-2147483648 : Int) ≤ c.toInt ∧ c.toInt ≤ 2147483647 := a_rng c
    have q4 := ain_of hi (show bnd bT 68 4 = (0, 6) by decide +kernel)
    dsimp only at q4
    have wc : I 19 8 = I 68 4 := hw.2.1 (19, 8, 35, 8, 4) (by decide +kernel)
    by_cases hae1 : a.toInt < 0
    · exact ae1 d a b c I hi (ax3 (by omega)) no_pre (fun x y J _ hf h => ⟨h.1.1, tr_wf (by decide +kernel) hw hf (rT_0 (h.1.2.2 (65, 3, 0) List.mem_cons_self) (h.1.2.2 (67, 34, 0) (by simp)))⟩)
    by_cases hae2 : 3 < a.toInt
    · exact ae2 d a b c I hi (ax3 (by omega)) no_pre (fun x y J _ hf h => ⟨h.1.1, tr_wf (by decide +kernel) hw hf (rT_0 (h.1.2.2 (65, 3, 0) List.mem_cons_self) (h.1.2.2 (67, 34, 0) (by simp)))⟩)
    by_cases hae3 : b.toInt < 0
    · exact ae3 d a b c I hi (ax3 (by omega)) no_pre (fun x y J _ hf h => ⟨h.1.1, tr_wf (by decide +kernel) hw hf (rT_0 (h.1.2.2 (65, 3, 0) List.mem_cons_self) (h.1.2.2 (67, 34, 0) (by simp)))⟩)
    by_cases hae4 : 3 < b.toInt
    · exact ae4 d a b c I hi (ax3 (by omega)) no_pre (fun x y J _ hf h => ⟨h.1.1, tr_wf (by decide +kernel) hw hf (rT_0 (h.1.2.2 (65, 3, 0) List.mem_cons_self) (h.1.2.2 (67, 34, 0) (by simp)))⟩)
    have hs : 0 ≤ a.toInt ∧ a.toInt ≤ 3 := by omega
    rcases hw.2.2.2.2.2.1.1 a.toInt.toNat (by omega) with ⟨h9, h85, h10, k1, k2⟩ | ⟨n9, n85⟩
    · have hkd := ac_kd hi (show (I 86 a.toInt.toNat).toInt.toNat < 6 by omega)
      have hb : b.toInt = 0 ∨ b.toInt = 1 ∨ b.toInt = 2 ∨ b.toInt = 3 := by omega
      have hv : (I 23 (I 86 a.toInt.toNat).toInt.toNat).toInt = 0 ∨ (I 23 (I 86 a.toInt.toNat).toInt.toNat).toInt = 1 ∨ (I 23 (I 86 a.toInt.toNat).toInt.toNat).toInt = 2 ∨ (I 23 (I 86 a.toInt.toNat).toInt.toNat).toInt = 3 ∨ (I 23 (I 86 a.toInt.toNat).toInt.toNat).toInt = 4 ∨ (I 23 (I 86 a.toInt.toNat).toInt.toNat).toInt = 5 := by omega
      rcases hb with hb | hb | hb | hb <;> rcases hv with hv | hv | hv | hv | hv | hv
      · obtain ⟨p1, p2, p3, p4⟩ := ac_st (x := c) hi hw hs hb h9 h85 h10 ⟨k1, k2⟩ hv
        exact ac_0_0 d [a, b, c] I _ p1 p2 p3 p4 (fun x y J _ hf h => ⟨h.1.1, tr_wf (by decide +kernel) hw hf (h.2.2.2 rfl)⟩)
      · obtain ⟨p1, p2, p3, p4⟩ := ac_st (x := c) hi hw hs hb h9 h85 h10 ⟨k1, k2⟩ hv
        exact ac_0_1 d [a, b, c] I _ p1 p2 p3 p4 (fun x y J _ hf h => ⟨h.1.1, tr_wf (by decide +kernel) hw hf (h.2.2.2 rfl)⟩)
      · obtain ⟨p1, p2, p3, p4⟩ := ac_st (x := c) hi hw hs hb h9 h85 h10 ⟨k1, k2⟩ hv
        exact ac_0_2 d [a, b, c] I _ p1 p2 p3 p4 (fun x y J _ hf h => ⟨h.1.1, tr_wf (by decide +kernel) hw hf (h.2.2.2 rfl)⟩)
      · obtain ⟨p1, p2, p3, p4⟩ := ac_st (x := c) hi hw hs hb h9 h85 h10 ⟨k1, k2⟩ hv
        exact ac_0_3 d [a, b, c] I _ p1 p2 p3 p4 (fun x y J _ hf h => ⟨h.1.1, tr_wf (by decide +kernel) hw hf (h.2.2.2 rfl)⟩)
      · obtain ⟨p1, p2, p3, p4⟩ := ac_st (x := c) hi hw hs hb h9 h85 h10 ⟨k1, k2⟩ hv
        exact ac_0_4 d [a, b, c] I _ p1 p2 p3 p4 (fun x y J _ hf h => ⟨h.1.1, tr_wf (by decide +kernel) hw hf (h.2.2.2 rfl)⟩)
      · obtain ⟨p1, p2, p3, p4⟩ := ac_st (x := c) hi hw hs hb h9 h85 h10 ⟨k1, k2⟩ hv
        exact ac_0_5 d [a, b, c] I _ p1 p2 p3 p4 (fun x y J _ hf h => ⟨h.1.1, tr_wf (by decide +kernel) hw hf (h.2.2.2 rfl)⟩)
      · obtain ⟨p1, p2, p3, p4⟩ := ac_st (x := c) hi hw hs hb h9 h85 h10 ⟨k1, k2⟩ hv
        exact ac_1_0 d [a, b, c] I _ p1 p2 p3 p4 (fun x y J _ hf h => ⟨h.1.1, tr_wf (by decide +kernel) hw hf (h.2.2.2 rfl)⟩)
      · obtain ⟨p1, p2, p3, p4⟩ := ac_st (x := c) hi hw hs hb h9 h85 h10 ⟨k1, k2⟩ hv
        exact ac_1_1 d [a, b, c] I _ p1 p2 p3 p4 (fun x y J _ hf h => ⟨h.1.1, tr_wf (by decide +kernel) hw hf (h.2.2.2 rfl)⟩)
      · obtain ⟨p1, p2, p3, p4⟩ := ac_st (x := c) hi hw hs hb h9 h85 h10 ⟨k1, k2⟩ hv
        exact ac_1_2 d [a, b, c] I _ p1 p2 p3 p4 (fun x y J _ hf h => ⟨h.1.1, tr_wf (by decide +kernel) hw hf (h.2.2.2 rfl)⟩)
      · obtain ⟨p1, p2, p3, p4⟩ := ac_st (x := c) hi hw hs hb h9 h85 h10 ⟨k1, k2⟩ hv
        exact ac_1_3 d [a, b, c] I _ p1 p2 p3 p4 (fun x y J _ hf h => ⟨h.1.1, tr_wf (by decide +kernel) hw hf (h.2.2.2 rfl)⟩)
      · obtain ⟨p1, p2, p3, p4⟩ := ac_st (x := c) hi hw hs hb h9 h85 h10 ⟨k1, k2⟩ hv
        exact ac_1_4 d [a, b, c] I _ p1 p2 p3 p4 (fun x y J _ hf h => ⟨h.1.1, tr_wf (by decide +kernel) hw hf (h.2.2.2 rfl)⟩)
      · obtain ⟨p1, p2, p3, p4⟩ := ac_st (x := c) hi hw hs hb h9 h85 h10 ⟨k1, k2⟩ hv
        exact ac_1_5 d [a, b, c] I _ p1 p2 p3 p4 (fun x y J _ hf h => ⟨h.1.1, tr_wf (by decide +kernel) hw hf (h.2.2.2 rfl)⟩)
      · obtain ⟨p1, p2, p3, p4⟩ := ac_st (x := c) hi hw hs hb h9 h85 h10 ⟨k1, k2⟩ hv
        exact ac_2_0 d [a, b, c] I _ p1 p2 p3 p4 (fun x y J _ hf h => ⟨h.1.1, tr_wf (by decide +kernel) hw hf (h.2.2.2 rfl)⟩)
      · obtain ⟨p1, p2, p3, p4⟩ := ac_st (x := c) hi hw hs hb h9 h85 h10 ⟨k1, k2⟩ hv
        exact ac_2_1 d [a, b, c] I _ p1 p2 p3 p4 (fun x y J _ hf h => ⟨h.1.1, tr_wf (by decide +kernel) hw hf (h.2.2.2 rfl)⟩)
      · obtain ⟨p1, p2, p3, p4⟩ := ac_st (x := c) hi hw hs hb h9 h85 h10 ⟨k1, k2⟩ hv
        exact ac_2_2 d [a, b, c] I _ p1 p2 p3 p4 (fun x y J _ hf h => ⟨h.1.1, tr_wf (by decide +kernel) hw hf (h.2.2.2 rfl)⟩)
      · obtain ⟨p1, p2, p3, p4⟩ := ac_st (x := c) hi hw hs hb h9 h85 h10 ⟨k1, k2⟩ hv
        exact ac_2_3 d [a, b, c] I _ p1 p2 p3 p4 (fun x y J _ hf h => ⟨h.1.1, tr_wf (by decide +kernel) hw hf (h.2.2.2 rfl)⟩)
      · obtain ⟨p1, p2, p3, p4⟩ := ac_st (x := c) hi hw hs hb h9 h85 h10 ⟨k1, k2⟩ hv
        exact ac_2_4 d [a, b, c] I _ p1 p2 p3 p4 (fun x y J _ hf h => ⟨h.1.1, tr_wf (by decide +kernel) hw hf (h.2.2.2 rfl)⟩)
      · obtain ⟨p1, p2, p3, p4⟩ := ac_st (x := c) hi hw hs hb h9 h85 h10 ⟨k1, k2⟩ hv
        exact ac_2_5 d [a, b, c] I _ p1 p2 p3 p4 (fun x y J _ hf h => ⟨h.1.1, tr_wf (by decide +kernel) hw hf (h.2.2.2 rfl)⟩)
      · obtain ⟨p1, p2, p3, p4⟩ := ac_st (x := c) hi hw hs hb h9 h85 h10 ⟨k1, k2⟩ hv
        exact ac_3_0 d [a, b, c] I _ p1 p2 p3 p4 (fun x y J _ hf h => ⟨h.1.1, tr_wf (by decide +kernel) hw hf (h.2.2.2 rfl)⟩)
      · obtain ⟨p1, p2, p3, p4⟩ := ac_st (x := c) hi hw hs hb h9 h85 h10 ⟨k1, k2⟩ hv
        exact ac_3_1 d [a, b, c] I _ p1 p2 p3 p4 (fun x y J _ hf h => ⟨h.1.1, tr_wf (by decide +kernel) hw hf (h.2.2.2 rfl)⟩)
      · obtain ⟨p1, p2, p3, p4⟩ := ac_st (x := c) hi hw hs hb h9 h85 h10 ⟨k1, k2⟩ hv
        exact ac_3_2 d [a, b, c] I _ p1 p2 p3 p4 (fun x y J _ hf h => ⟨h.1.1, tr_wf (by decide +kernel) hw hf (h.2.2.2 rfl)⟩)
      · obtain ⟨p1, p2, p3, p4⟩ := ac_st (x := c) hi hw hs hb h9 h85 h10 ⟨k1, k2⟩ hv
        exact ac_3_3 d [a, b, c] I _ p1 p2 p3 p4 (fun x y J _ hf h => ⟨h.1.1, tr_wf (by decide +kernel) hw hf (h.2.2.2 rfl)⟩)
      · obtain ⟨p1, p2, p3, p4⟩ := ac_st (x := c) hi hw hs hb h9 h85 h10 ⟨k1, k2⟩ hv
        exact ac_3_4 d [a, b, c] I _ p1 p2 p3 p4 (fun x y J _ hf h => ⟨h.1.1, tr_wf (by decide +kernel) hw hf (h.2.2.2 rfl)⟩)
      · obtain ⟨p1, p2, p3, p4⟩ := ac_st (x := c) hi hw hs hb h9 h85 h10 ⟨k1, k2⟩ hv
        exact ac_3_5 d [a, b, c] I _ p1 p2 p3 p4 (fun x y J _ hf h => ⟨h.1.1, tr_wf (by decide +kernel) hw hf (h.2.2.2 rfl)⟩)
    · have r9 := ac_r9 hi (show a.toInt.toNat < 4 by omega)
      have z9 : (I 9 a.toInt.toNat).toInt ≠ 0 := fun e => n9 (i32 e)
      have z85 : (I 85 a.toInt.toNat).toInt ≠ 0 := fun e => n85 (i32 e)
      have hA : aSt ([] ++ [a] ++ [b] ++ [c] ++ [I 9 a.toInt.toNat] ++ [I 85 a.toInt.toNat]) [(0, 0), (0, 1), (0, 2)] ([a, b, c].map Value.int) := ⟨aint (Or.inl ⟨rfl, rfl⟩), aint (Or.inl ⟨rfl, rfl⟩), aint (Or.inl ⟨rfl, rfl⟩), trivial⟩
      have hF : fok I [(3, 9, (0, 0), (2, 0), (0, 3)), (3, 85, (0, 0), (2, 0), (0, 4))] ([] ++ [a] ++ [b] ++ [c] ++ [I 9 a.toInt.toNat] ++ [I 85 a.toInt.toNat]) := fun f hf => by
        simp only [List.mem_cons, List.not_mem_nil, or_false] at hf
        rcases hf with rfl | rfl
        · exact ⟨a, Or.inl ⟨rfl, rfl⟩, Or.inl ⟨rfl, rfl⟩⟩
        · exact ⟨a, Or.inl ⟨rfl, rfl⟩, Or.inl ⟨rfl, rfl⟩⟩
      have hK : aheap bT [] ([] ++ [a] ++ [b] ++ [c] ++ [I 9 a.toInt.toNat] ++ [I 85 a.toInt.toNat]) I := ⟨fun k hk => absurd hk List.not_mem_nil, fun q j _ => hi q j⟩
      have hB4 : aok [(0, 3, none), (0, 3, none), (-2147483648, 2147483647, none), (1, 2, none)] ([] ++ [a] ++ [b] ++ [c] ++ [I 9 a.toInt.toNat]) := ((((aok.nil.push (lo := 0) (hi := 3) (v := a) (ex := none) hs.1 hs.2 (fun _ _ h => by cases h)).push (lo := 0) (hi := 3) (v := b) (ex := none) (by omega) (by omega) (fun _ _ h => by cases h)).push (lo := -2147483648) (hi := 2147483647) (v := c) (ex := none) rc.1 rc.2 (fun _ _ h => by cases h)).push (lo := 1) (hi := 2) (v := I 9 a.toInt.toNat) (ex := none) (by omega) (by omega) (fun _ _ h => by cases h))
      by_cases h0 : (I 85 a.toInt.toNat).toInt ≤ 0
      · exact ae5 d [a, b, c] I _ hA (hB4.push (lo := -1) (hi := -1) (v := I 85 a.toInt.toNat) (ex := none) (by omega) (by omega) (fun _ _ h => by cases h)) hK hF (fun x y J _ hf h => ⟨h.1.1, tr_wf (by decide +kernel) hw hf (rT_0 (h.1.2.2 (65, 3, 0) List.mem_cons_self) (h.1.2.2 (67, 34, 0) (by simp)))⟩)
      · exact ae6 d [a, b, c] I _ hA (hB4.push (lo := 1) (hi := 14) (v := I 85 a.toInt.toNat) (ex := none) (by omega) (by omega) (fun _ _ h => by cases h)) hK hF (fun x y J _ hf h => ⟨h.1.1, tr_wf (by decide +kernel) hw hf (rT_0 (h.1.2.2 (65, 3, 0) List.mem_cons_self) (h.1.2.2 (67, 34, 0) (by simp)))⟩)
def tr1_md : aMd := []
theorem tr1 (d : Nat) (a : Int32) (I : gI) (hi : aInv bT I) (ha : argsOK [(0, (-2147483648), (-1))] ([a].map Value.int)) (hp : ∀ s ∈ ([] : List (Nat × Nat × Int × Int)), slotOK I s) (hE : ∀ x y J, aInv bT J → afr tr1_md I J → pEx true [] [] x y J → (true = true → y = x) ∧ WF J) : gg (d + 40) mX11_trace 0 (gent mX11_trace.2.2.1 (.ref 0 :: [a].map Value.int)) [] I (pbM (fun x J => gg (d + 40) mX12_trace 0 (gent mX12_trace.2.2.1 (.ref 67 :: [a].map Value.int)) [] J (prE true x))) := pr_box (xc := fun B K _ v w => pxt true [] [] B K v w) (E := fun _ => pEx true [] []) (pm := [(37, 3, [], ops_X11_isIn), (287, 2, [], ops_X11_trace), (127, 3, [], ops_X12_in1), (288, 2, [], ops_X12_trace)]) (mi1 := 287) (nl1 := 2) (mi2 := 288) (nl2 := 2) (fuel := 34) (by decide +kernel) (fun vs => pxt_ok) (pmOK.cons mt_X11_isIn rfl os_X11_isIn (pmOK.cons mt_X11_trace rfl os_X11_trace (pmOK.cons mt_X12_in1 rfl os_X12_in1 (pmOK.cons mt_X12_trace rfl os_X12_trace (pmOK.nil))))) mt_X11_trace rfl mt_X12_trace rfl d [a] I ha hi hp hE
def tr2_md : aMd := []
theorem tr2 (d : Nat) (xs : List Int32) (I : gI) (ρ : List Int32) (hA : aSt ρ [(0, 0)] (xs.map Value.int)) (hB : aok [(0, 2147483647, none), (0, 30, none)] ρ) (hK : aheap bT [(65, 3, (0, 1)), (67, 34, (0, 1))] ρ I) (hf : fok I [(0, 3, (0, 0), (0, 1), (2, 0))] ρ) (hE : ∀ x y J, aInv bT J → afr tr2_md I J → pEv true [] [] [] [] false (xs.map Value.int) x y J → (true = true → y = x) ∧ WF J) : gg (d + 40) mX11_trace 0 (gent mX11_trace.2.2.1 (.ref 0 :: xs.map Value.int)) [] I (pbM (fun x J => gg (d + 40) mX12_trace 0 (gent mX12_trace.2.2.1 (.ref 67 :: xs.map Value.int)) [] J (prE true x))) := pr2_box (xc := pxv [(0, 0)] true [] [] [] [] false) (E := pEv true [] [] [] [] false (xs.map Value.int)) (pm := [(37, 3, [], ops_X11_isIn), (287, 2, [], ops_X11_trace), (127, 3, [], ops_X12_in1), (288, 2, [], ops_X12_trace)]) (mi1 := 287) (nl1 := 2) (mi2 := 288) (nl2 := 2) (fuel := 40) (by decide +kernel) (pmOK.cons mt_X11_isIn rfl os_X11_isIn (pmOK.cons mt_X11_trace rfl os_X11_trace (pmOK.cons mt_X12_in1 rfl os_X12_in1 (pmOK.cons mt_X12_trace rfl os_X12_trace (pmOK.nil))))) mt_X11_trace rfl mt_X12_trace rfl d xs I ρ (pxv_ok _) hA hB hK hf hE
def tr3_md : aMd := []
theorem tr3 (d : Nat) (xs : List Int32) (I : gI) (ρ : List Int32) (hA : aSt ρ [(0, 0)] (xs.map Value.int)) (hB : aok [(0, 29, none), (0, 30, none), ((-2147483648), 2147483647, none)] ρ) (hK : aheap bT [(65, 3, (0, 1)), (67, 34, (0, 1))] ρ I) (hf : fok I [(0, 2, (0, 0), (0, 1), (2, 0)), (3, 66, (0, 0), (2, 0), (0, 2)), (3, 87, (0, 0), (2, 0), (0, 2))] ρ) (hE : ∀ x y J, aInv bT J → afr tr3_md I J → pEv true [] [] [] [] false (xs.map Value.int) x y J → (true = true → y = x) ∧ WF J) : gg (d + 40) mX11_trace 0 (gent mX11_trace.2.2.1 (.ref 0 :: xs.map Value.int)) [] I (pbM (fun x J => gg (d + 40) mX12_trace 0 (gent mX12_trace.2.2.1 (.ref 67 :: xs.map Value.int)) [] J (prE true x))) := pr2_box (xc := pxv [(0, 0)] true [] [] [] [] false) (E := pEv true [] [] [] [] false (xs.map Value.int)) (pm := [(37, 3, [], ops_X11_isIn), (287, 2, [], ops_X11_trace), (127, 3, [], ops_X12_in1), (288, 2, [], ops_X12_trace)]) (mi1 := 287) (nl1 := 2) (mi2 := 288) (nl2 := 2) (fuel := 51) (by decide +kernel) (pmOK.cons mt_X11_isIn rfl os_X11_isIn (pmOK.cons mt_X11_trace rfl os_X11_trace (pmOK.cons mt_X12_in1 rfl os_X12_in1 (pmOK.cons mt_X12_trace rfl os_X12_trace (pmOK.nil))))) mt_X11_trace rfl mt_X12_trace rfl d xs I ρ (pxv_ok _) hA hB hK hf hE
theorem ah_tr {I : gI} {ρ : List Int32} {l : Int} {n : Int32} (hi : aInv bT I) (hl : ρ[l.toNat]? = some n) (h1 : I 65 3 = n) (h2 : I 67 34 = n) : aheap bT [(65, 3, (0, l)), (67, 34, (0, l))] ρ I := by
  refine ⟨fun k hk => ?_, fun c j _ => hi c j⟩
  simp only [List.mem_cons, List.not_mem_nil, or_false] at hk
  rcases hk with rfl | rfl
  · exact Or.inl ⟨rfl, by show ρ[l.toNat]? = some (I 65 3); rw [h1]; exact hl⟩
  · exact Or.inl ⟨rfl, by show ρ[l.toNat]? = some (I 67 34); rw [h2]; exact hl⟩
theorem pr_trace : prOK mX11_trace mX12_trace 1 true := by
  intro d xs I hn hi hw
  match xs, hn with
  | [a], _ =>
    have ra : (-2147483648 : Int) ≤ a.toInt ∧ a.toInt ≤ 2147483647 := a_rng a
    have q3 := ain_of hi (show bnd bT 65 3 = (0, 30) by decide +kernel)
    dsimp only at q3
    obtain ⟨t1, t2⟩ := hw.2.2.2.2.2.1.2
    by_cases h1 : a.toInt < 0
    · exact tr1 d a I hi ⟨⟨a, rfl, by show -2147483648 ≤ a.toInt; omega, by show a.toInt ≤ -1; omega⟩, trivial⟩ no_pre (fun x y J _ hf h => ex_wf hw hf h)
    by_cases h2 : (I 65 3).toInt ≤ a.toInt
    · refine tr2 d [a] I ([] ++ [a] ++ [I 65 3]) ⟨aint (Or.inl ⟨rfl, rfl⟩), trivial⟩ ((aok.nil.push (lo := 0) (hi := 2147483647) (v := a) (ex := none) (by omega) (by omega) (fun _ _ h => by cases h)).push (lo := 0) (hi := 30) (v := I 65 3) (ex := none) q3.1 q3.2 (fun _ _ h => by cases h)) (ah_tr (l := 1) hi rfl rfl t1.symm) (fun f hf => ?_) (fun x y J _ hf h => ex_wf hw hf h.1)
      rw [List.mem_singleton.mp hf]
      exact ⟨a, I 65 3, Or.inl ⟨rfl, rfl⟩, Or.inl ⟨rfl, rfl⟩, h2⟩
    · have t3 := t2 a.toInt.toNat (by omega) (by omega)
      refine tr3 d [a] I ([] ++ [a] ++ [I 65 3] ++ [I 66 a.toInt.toNat]) ⟨aint (Or.inl ⟨rfl, rfl⟩), trivial⟩ (((aok.nil.push (lo := 0) (hi := 29) (v := a) (ex := none) (by omega) (by omega) (fun _ _ h => by cases h)).push (lo := 0) (hi := 30) (v := I 65 3) (ex := none) q3.1 q3.2 (fun _ _ h => by cases h)).push (lo := -2147483648) (hi := 2147483647) (v := I 66 a.toInt.toNat) (ex := none) (a_rng _).1 (a_rng _).2 (fun _ _ h => by cases h)) (ah_tr (l := 1) hi rfl rfl t1.symm) (fun f hf => ?_) (fun x y J _ hf h => ex_wf hw hf h.1)
      simp only [List.mem_cons, List.not_mem_nil, or_false] at hf
      rcases hf with rfl | rfl | rfl
      · exact ⟨a, I 65 3, Or.inl ⟨rfl, rfl⟩, Or.inl ⟨rfl, rfl⟩, (by show a.toInt < (I 65 3).toInt; omega)⟩
      · exact ⟨a, Or.inl ⟨rfl, rfl⟩, Or.inl ⟨rfl, rfl⟩⟩
      · exact ⟨a, Or.inl ⟨rfl, rfl⟩, Or.inl ⟨rfl, by show some (I 66 a.toInt.toNat) = some (I 87 a.toInt.toNat); rw [t3]⟩⟩
