/-! ===== the methods that write the numbers of keys ===== -/
theorem pb_boxM {mi h : Nat} {args : List (Nat × Int × Int)} {pre : List (Nat × Nat × Int × Int)} {md : aMd} {po : List (Nat × Nat × Int × Int)} {vi : Int} {v : Int32} {M : gM} {cell d : Nat} {xs : List Int32} {I : gI} {R : Int32 → gI → Prop} (hm : MSok bT (fun _ => True) MT (mi, h, args, pre, md, [(some (vi, vi), [], po)])) (hM : MT[mi]? = some M) (hv : v.toInt = vi) (hh : h ≤ 40) (hi : aInv bT I) (ha : argsOK args (.ref cell :: xs.map Value.int)) (hp : ∀ s ∈ pre, slotOK I s) (hR : ∀ J, aInv bT J → afr md I J → (∀ s ∈ po, slotOK J s) → R v J) : gg (d + 40) M 0 (gent M.2.2.1 (.ref cell :: xs.map Value.int)) [] I (pbM R) := by
  have h1 := hm M hM (d + (40 - h)) (.ref cell :: xs.map Value.int) I ha hi trivial hp
  have e : d + (40 - h) + h = d + 40 := by omega
  have h1 : gg (d + (40 - h) + h) M 0 (gent M.2.2.1 (.ref cell :: xs.map Value.int)) [] I (mQ bT md [(some (vi, vi), [], po)] (.ref cell :: xs.map Value.int) I) := h1
  rw [e] at h1
  refine G_mono h1 ?_
  rintro r hh' ⟨J, e1, e2, e3, c, c1, c2⟩
  have ec := List.mem_singleton.mp c1
  subst ec
  obtain ⟨⟨x, e4, g1, g2⟩, -, g3⟩ := c2
  have g1 : vi ≤ x.toInt := g1
  have g2 : x.toInt ≤ vi := g2
  have ex : x = v := Int32.toInt_inj.mp (by omega)
  subst ex
  exact ⟨x, J, e4, e1, hR J e2 e3 g3⟩
def nc (c : Nat) (md : aMd) : Bool := md.all (fun r => decide (r.1 ≠ c))
theorem nc_ok {md : aMd} {c j : Nat} (h : nc c md = true) : amodr md c j j = false := by
  cases hm : amodr md c j j with
  | false => rfl
  | true =>
    obtain ⟨p, h1, h2⟩ := List.any_eq_true.mp hm
    have h3 := of_decide_eq_true (List.all_eq_true.mp h p h1)
    simp only [Bool.and_eq_true, decide_eq_true_eq] at h2
    exact absurd h2.1.1 h3
def nr (md : aMd) : Bool := md.all (fun r => (decide (r.1 ≠ 68) && decide (r.1 ≠ 69)) || (decide (r.2.2 < 89) && (decide (r.2.2 < 5) || decide (5 < r.2.1))))
theorem nr_ok {md : aMd} {c j : Nat} (h : nr md = true) (hc : c = 68 ∨ c = 69) (hj : j = 5 ∨ (89 ≤ j ∧ j ≤ 312)) : amodr md c j j = false := by
  cases hm : amodr md c j j with
  | false => rfl
  | true =>
    obtain ⟨p, h1, h2⟩ := List.any_eq_true.mp hm
    have h3 := List.all_eq_true.mp h p h1
    simp only [Bool.and_eq_true, Bool.or_eq_true, decide_eq_true_eq] at h2 h3
    omega
theorem wf0_md {I J : gI} {md : aMd} (h : nr md = true) (hf : afr md I J) (hw : WF0 I) : WF0 J := WF0_tr hw (fun c j hc hj => hf c j (nr_ok h hc hj))
theorem lt7 {x : Int32} (h : 0 ≤ x.toInt ∧ x.toInt ≤ 6) : x = 0 ∨ x = 1 ∨ x = 2 ∨ x = 3 ∨ x = 4 ∨ x = 5 ∨ x = 6 := by
  have h1 : x.toInt = (0 : Int32).toInt ∨ x.toInt = (1 : Int32).toInt ∨ x.toInt = (2 : Int32).toInt ∨ x.toInt = (3 : Int32).toInt ∨ x.toInt = (4 : Int32).toInt ∨ x.toInt = (5 : Int32).toInt ∨ x.toInt = (6 : Int32).toInt := by
    show x.toInt = 0 ∨ x.toInt = 1 ∨ x.toInt = 2 ∨ x.toInt = 3 ∨ x.toInt = 4 ∨ x.toInt = 5 ∨ x.toInt = 6
    omega
  simp only [Int32.toInt_inj] at h1
  exact h1
theorem sl1 {I : gI} {c j : Nat} {v : Int} {x : Int32} (h : slotOK I (c, j, v, v)) (hv : v < aEQ) (hx : x.toInt = v) : I c j = x := by
  have h1 := slotOK_b hv h
  have g1 : v ≤ (I c j).toInt := h1.1
  have g2 : (I c j).toInt ≤ v := h1.2
  exact Int32.toInt_inj.mp (by omega)
theorem sl0 {I : gI} {c j : Nat} {v : Int} {x : Int32} (h : I c j = x) (hv : v < aEQ) (hx : x.toInt = v) : slotOK I (c, j, v, v) := slotOK_m hv (by
  show ain (v, v) (I c j)
  rw [h]
  exact ⟨Int.le_of_eq hx.symm, Int.le_of_eq hx⟩)
theorem pr1 {I : gI} {s : Nat × Nat × Int × Int} (h : slotOK I s) : ∀ t ∈ [s], slotOK I t := fun t ht => by
  rw [List.mem_singleton.mp ht]
  exact h
theorem pr2 {I : gI} {s s' : Nat × Nat × Int × Int} (h : slotOK I s) (h' : slotOK I s') : ∀ t ∈ [s, s'], slotOK I t := fun t ht => by
  rcases List.mem_cons.mp ht with rfl | ht
  · exact h
  · exact pr1 h' t ht
theorem bx4 {cell : Nat} {a b c e : Int32} {p1 q1 p2 q2 p3 q3 p4 q4 : Int} (h : (p1 ≤ a.toInt ∧ a.toInt ≤ q1) ∧ (p2 ≤ b.toInt ∧ b.toInt ≤ q2) ∧ (p3 ≤ c.toInt ∧ c.toInt ≤ q3) ∧ (p4 ≤ e.toInt ∧ e.toInt ≤ q4)) : argsOK [(1, (cell : Int), 0), (0, p1, q1), (0, p2, q2), (0, p3, q3), (0, p4, q4)] (.ref cell :: [a, b, c, e].map Value.int) := ⟨⟨cell, rfl, rfl⟩, ⟨a, rfl, h.1⟩, ⟨b, rfl, h.2.1⟩, ⟨c, rfl, h.2.2.1⟩, ⟨e, rfl, h.2.2.2⟩, trivial⟩
/-- behind the class's call: the reference is still to go -/
theorem endX {I J : gI} {md : aMd} {x : Int32} {q : Int32 × Int32} (hw : WF I) (hJ : aInv bT J) (hf : afr md I J) (h1 : nr md = true) (h68 : nc 68 md = true) (h69 : nc 69 md = true) (h35 : nc 35 md = true) (h0 : nc 0 md = true) (h67 : nc 67 md = true) (hq : (x, J 19 8) = q) : aInv bT J ∧ WF0 J ∧ (x, J 19 8) = q ∧ J 68 4 = I 19 8 ∧ J 35 8 = J 69 4 ∧ J 0 2 = J 67 3 := by
  refine ⟨hJ, wf0_md h1 hf hw.1, hq, ?_, ?_, ?_⟩
  · rw [hf 68 4 (nc_ok h68)]
    exact hw.2.1.symm
  · rw [hf 35 8 (nc_ok h35), hf 69 4 (nc_ok h69)]
    exact hw.2.2.1
  · rw [hf 0 2 (nc_ok h0), hf 67 3 (nc_ok h67)]
    exact hw.2.2.2
theorem endM {J J' : gI} {md : aMd} (hw : WF0 J) (hf : afr md J J') (h1 : nr md = true) (h19 : nc 19 md = true) (h69 : nc 69 md = true) (h35 : nc 35 md = true) (h0 : nc 0 md = true) (h67 : nc 67 md = true) (e : J 19 8 = J' 68 4) (e2 : J 35 8 = J 69 4) (e3 : J 0 2 = J 67 3) : WF J' := by
  refine ⟨wf0_md h1 hf hw, ?_, ?_, ?_⟩
  · rw [hf 19 8 (nc_ok h19)]
    exact e
  · rw [hf 35 8 (nc_ok h35), hf 69 4 (nc_ok h69)]
    exact e2
  · rw [hf 0 2 (nc_ok h0), hf 67 3 (nc_ok h67)]
    exact e3
/-- what key answers, and the number of keys then -/
def kk (a b c e n : Int32) : Int32 × Int32 := if a.toInt < 1 then (-1, n) else if 5 < a.toInt then (-1, n) else if b.toInt < 0 then (-1, n) else if 99 < b.toInt then (-1, n) else if c.toInt < 0 then (-1, n) else if 9 < c.toInt then (-1, n) else if e.toInt < 0 then (-1, n) else if 5 < e.toInt then (-1, n) else if n = 6 then (-2, n) else (n, n + 1)
def smb_0 : aM := (37, 0, [(0, (-2147483648), 0), (0, 1, 1), (0, 5, 5)], [], [], [(some (0, 0), [], [])])
def lbb_0 : List aLab := []
theorem msb_0 : MSok bT (fun _ => True) MT smb_0 := achk_ok (nm := 297) (sm := []) (labs := lbb_0) (sp := []) (fuel := 10) (rE := [(1000000, (2, 0))]) (maxL := 3) (M := mX11_isIn) mt_X11_isIn rfl os_X11_isIn MT_len ( mA.nil) (fun _ _ _ _ => trivial) (by decide +kernel)
def smb_1 : aM := (184, 1, [(0, (-2147483648), 0)], [], [], [(some (0, 0), [], [])])
def lbb_1 : List aLab := []
theorem msb_1 : MSok bT (fun _ => True) MT smb_1 := achk_ok (nm := 297) (sm := [smb_0]) (labs := lbb_1) (sp := []) (fuel := 10) (rE := [(1000000, (2, 0))]) (maxL := 1) (M := mX11_isKeyKind) mt_X11_isKeyKind rfl os_X11_isKeyKind MT_len ((mA.cons msb_0 mA.nil)) (fun _ _ _ _ => trivial) (by decide +kernel)
def smb_2 : aM := (183, 2, [(1, 0, 0), (0, (-2147483648), 0), (0, (-2147483648), 2147483647), (0, (-2147483648), 2147483647), (0, (-2147483648), 2147483647)], [], [], [(some ((-1), (-1)), [], [])])
def lbb_2 : List aLab := []
theorem msb_2 : MSok bT (fun _ => True) MT smb_2 := achk_ok (nm := 297) (sm := [smb_1]) (labs := lbb_2) (sp := []) (fuel := 10) (rE := [(1000000, (2, 0))]) (maxL := 6) (M := mX11_key) mt_X11_key rfl os_X11_key MT_len ((mA.cons msb_1 mA.nil)) (fun _ _ _ _ => trivial) (by decide +kernel)
def smb_3 : aM := (37, 0, [(0, 6, 2147483647), (0, 1, 1), (0, 5, 5)], [], [], [(some (0, 0), [], [])])
def lbb_3 : List aLab := []
theorem msb_3 : MSok bT (fun _ => True) MT smb_3 := achk_ok (nm := 297) (sm := []) (labs := lbb_3) (sp := []) (fuel := 13) (rE := [(1000000, (2, 0))]) (maxL := 3) (M := mX11_isIn) mt_X11_isIn rfl os_X11_isIn MT_len ( mA.nil) (fun _ _ _ _ => trivial) (by decide +kernel)
def smb_4 : aM := (184, 1, [(0, 6, 2147483647)], [], [], [(some (0, 0), [], [])])
def lbb_4 : List aLab := []
theorem msb_4 : MSok bT (fun _ => True) MT smb_4 := achk_ok (nm := 297) (sm := [smb_3]) (labs := lbb_4) (sp := []) (fuel := 10) (rE := [(1000000, (2, 0))]) (maxL := 1) (M := mX11_isKeyKind) mt_X11_isKeyKind rfl os_X11_isKeyKind MT_len ((mA.cons msb_3 mA.nil)) (fun _ _ _ _ => trivial) (by decide +kernel)
def smb_5 : aM := (183, 2, [(1, 0, 0), (0, 6, 2147483647), (0, (-2147483648), 2147483647), (0, (-2147483648), 2147483647), (0, (-2147483648), 2147483647)], [], [], [(some ((-1), (-1)), [], [])])
def lbb_5 : List aLab := []
theorem msb_5 : MSok bT (fun _ => True) MT smb_5 := achk_ok (nm := 297) (sm := [smb_4]) (labs := lbb_5) (sp := []) (fuel := 10) (rE := [(1000000, (2, 0))]) (maxL := 6) (M := mX11_key) mt_X11_key rfl os_X11_key MT_len ((mA.cons msb_4 mA.nil)) (fun _ _ _ _ => trivial) (by decide +kernel)
def smb_6 : aM := (37, 0, [(0, 1, 5), (0, 1, 1), (0, 5, 5)], [], [], [(some (1, 1), [], [])])
def lbb_6 : List aLab := []
theorem msb_6 : MSok bT (fun _ => True) MT smb_6 := achk_ok (nm := 297) (sm := []) (labs := lbb_6) (sp := []) (fuel := 14) (rE := [(1000000, (2, 0))]) (maxL := 3) (M := mX11_isIn) mt_X11_isIn rfl os_X11_isIn MT_len ( mA.nil) (fun _ _ _ _ => trivial) (by decide +kernel)
def smb_7 : aM := (184, 1, [(0, 1, 5)], [], [], [(some (1, 1), [], [])])
def lbb_7 : List aLab := []
theorem msb_7 : MSok bT (fun _ => True) MT smb_7 := achk_ok (nm := 297) (sm := [smb_6]) (labs := lbb_7) (sp := []) (fuel := 10) (rE := [(1000000, (2, 0))]) (maxL := 1) (M := mX11_isKeyKind) mt_X11_isKeyKind rfl os_X11_isKeyKind MT_len ((mA.cons msb_6 mA.nil)) (fun _ _ _ _ => trivial) (by decide +kernel)
def smb_8 : aM := (37, 0, [(0, (-2147483648), (-1)), (0, 0, 0), (0, 99, 99)], [], [], [(some (0, 0), [], [])])
def lbb_8 : List aLab := []
theorem msb_8 : MSok bT (fun _ => True) MT smb_8 := achk_ok (nm := 297) (sm := []) (labs := lbb_8) (sp := []) (fuel := 10) (rE := [(1000000, (2, 0))]) (maxL := 3) (M := mX11_isIn) mt_X11_isIn rfl os_X11_isIn MT_len ( mA.nil) (fun _ _ _ _ => trivial) (by decide +kernel)
def smb_9 : aM := (183, 2, [(1, 0, 0), (0, 1, 5), (0, (-2147483648), (-1)), (0, (-2147483648), 2147483647), (0, (-2147483648), 2147483647)], [], [], [(some ((-1), (-1)), [], [])])
def lbb_9 : List aLab := []
theorem msb_9 : MSok bT (fun _ => True) MT smb_9 := achk_ok (nm := 297) (sm := [smb_7, smb_8]) (labs := lbb_9) (sp := []) (fuel := 15) (rE := [(1000000, (2, 0))]) (maxL := 6) (M := mX11_key) mt_X11_key rfl os_X11_key MT_len ((mA.cons msb_7 (mA.cons msb_8 mA.nil))) (fun _ _ _ _ => trivial) (by decide +kernel)
def smb_10 : aM := (37, 0, [(0, 100, 2147483647), (0, 0, 0), (0, 99, 99)], [], [], [(some (0, 0), [], [])])
def lbb_10 : List aLab := []
theorem msb_10 : MSok bT (fun _ => True) MT smb_10 := achk_ok (nm := 297) (sm := []) (labs := lbb_10) (sp := []) (fuel := 13) (rE := [(1000000, (2, 0))]) (maxL := 3) (M := mX11_isIn) mt_X11_isIn rfl os_X11_isIn MT_len ( mA.nil) (fun _ _ _ _ => trivial) (by decide +kernel)
def smb_11 : aM := (183, 2, [(1, 0, 0), (0, 1, 5), (0, 100, 2147483647), (0, (-2147483648), 2147483647), (0, (-2147483648), 2147483647)], [], [], [(some ((-1), (-1)), [], [])])
def lbb_11 : List aLab := []
theorem msb_11 : MSok bT (fun _ => True) MT smb_11 := achk_ok (nm := 297) (sm := [smb_7, smb_10]) (labs := lbb_11) (sp := []) (fuel := 15) (rE := [(1000000, (2, 0))]) (maxL := 6) (M := mX11_key) mt_X11_key rfl os_X11_key MT_len ((mA.cons msb_7 (mA.cons msb_10 mA.nil))) (fun _ _ _ _ => trivial) (by decide +kernel)
def smb_12 : aM := (37, 0, [(0, 0, 99), (0, 0, 0), (0, 99, 99)], [], [], [(some (1, 1), [], [])])
def lbb_12 : List aLab := []
theorem msb_12 : MSok bT (fun _ => True) MT smb_12 := achk_ok (nm := 297) (sm := []) (labs := lbb_12) (sp := []) (fuel := 14) (rE := [(1000000, (2, 0))]) (maxL := 3) (M := mX11_isIn) mt_X11_isIn rfl os_X11_isIn MT_len ( mA.nil) (fun _ _ _ _ => trivial) (by decide +kernel)
def smb_13 : aM := (37, 0, [(0, (-2147483648), (-1)), (0, 0, 0), (0, 9, 9)], [], [], [(some (0, 0), [], [])])
def lbb_13 : List aLab := []
theorem msb_13 : MSok bT (fun _ => True) MT smb_13 := achk_ok (nm := 297) (sm := []) (labs := lbb_13) (sp := []) (fuel := 10) (rE := [(1000000, (2, 0))]) (maxL := 3) (M := mX11_isIn) mt_X11_isIn rfl os_X11_isIn MT_len ( mA.nil) (fun _ _ _ _ => trivial) (by decide +kernel)
def smb_14 : aM := (183, 2, [(1, 0, 0), (0, 1, 5), (0, 0, 99), (0, (-2147483648), (-1)), (0, (-2147483648), 2147483647)], [], [], [(some ((-1), (-1)), [], [])])
def lbb_14 : List aLab := []
theorem msb_14 : MSok bT (fun _ => True) MT smb_14 := achk_ok (nm := 297) (sm := [smb_7, smb_12, smb_13]) (labs := lbb_14) (sp := []) (fuel := 20) (rE := [(1000000, (2, 0))]) (maxL := 6) (M := mX11_key) mt_X11_key rfl os_X11_key MT_len ((mA.cons msb_7 (mA.cons msb_12 (mA.cons msb_13 mA.nil)))) (fun _ _ _ _ => trivial) (by decide +kernel)
def smb_15 : aM := (37, 0, [(0, 10, 2147483647), (0, 0, 0), (0, 9, 9)], [], [], [(some (0, 0), [], [])])
def lbb_15 : List aLab := []
theorem msb_15 : MSok bT (fun _ => True) MT smb_15 := achk_ok (nm := 297) (sm := []) (labs := lbb_15) (sp := []) (fuel := 13) (rE := [(1000000, (2, 0))]) (maxL := 3) (M := mX11_isIn) mt_X11_isIn rfl os_X11_isIn MT_len ( mA.nil) (fun _ _ _ _ => trivial) (by decide +kernel)
def smb_16 : aM := (183, 2, [(1, 0, 0), (0, 1, 5), (0, 0, 99), (0, 10, 2147483647), (0, (-2147483648), 2147483647)], [], [], [(some ((-1), (-1)), [], [])])
def lbb_16 : List aLab := []
theorem msb_16 : MSok bT (fun _ => True) MT smb_16 := achk_ok (nm := 297) (sm := [smb_7, smb_12, smb_15]) (labs := lbb_16) (sp := []) (fuel := 20) (rE := [(1000000, (2, 0))]) (maxL := 6) (M := mX11_key) mt_X11_key rfl os_X11_key MT_len ((mA.cons msb_7 (mA.cons msb_12 (mA.cons msb_15 mA.nil)))) (fun _ _ _ _ => trivial) (by decide +kernel)
def smb_17 : aM := (37, 0, [(0, 0, 9), (0, 0, 0), (0, 9, 9)], [], [], [(some (1, 1), [], [])])
def lbb_17 : List aLab := []
theorem msb_17 : MSok bT (fun _ => True) MT smb_17 := achk_ok (nm := 297) (sm := []) (labs := lbb_17) (sp := []) (fuel := 14) (rE := [(1000000, (2, 0))]) (maxL := 3) (M := mX11_isIn) mt_X11_isIn rfl os_X11_isIn MT_len ( mA.nil) (fun _ _ _ _ => trivial) (by decide +kernel)
def smb_18 : aM := (37, 0, [(0, (-2147483648), (-1)), (0, 0, 0), (0, 5, 5)], [], [], [(some (0, 0), [], [])])
def lbb_18 : List aLab := []
theorem msb_18 : MSok bT (fun _ => True) MT smb_18 := achk_ok (nm := 297) (sm := []) (labs := lbb_18) (sp := []) (fuel := 10) (rE := [(1000000, (2, 0))]) (maxL := 3) (M := mX11_isIn) mt_X11_isIn rfl os_X11_isIn MT_len ( mA.nil) (fun _ _ _ _ => trivial) (by decide +kernel)
def smb_19 : aM := (185, 1, [(0, (-2147483648), (-1))], [], [], [(some (0, 0), [], [])])
def lbb_19 : List aLab := []
theorem msb_19 : MSok bT (fun _ => True) MT smb_19 := achk_ok (nm := 297) (sm := [smb_18]) (labs := lbb_19) (sp := []) (fuel := 10) (rE := [(1000000, (2, 0))]) (maxL := 1) (M := mX11_isGate) mt_X11_isGate rfl os_X11_isGate MT_len ((mA.cons msb_18 mA.nil)) (fun _ _ _ _ => trivial) (by decide +kernel)
def smb_20 : aM := (183, 2, [(1, 0, 0), (0, 1, 5), (0, 0, 99), (0, 0, 9), (0, (-2147483648), (-1))], [], [], [(some ((-1), (-1)), [], [])])
def lbb_20 : List aLab := []
theorem msb_20 : MSok bT (fun _ => True) MT smb_20 := achk_ok (nm := 297) (sm := [smb_7, smb_17, smb_12, smb_19]) (labs := lbb_20) (sp := []) (fuel := 23) (rE := [(1000000, (2, 0))]) (maxL := 6) (M := mX11_key) mt_X11_key rfl os_X11_key MT_len ((mA.cons msb_7 (mA.cons msb_17 (mA.cons msb_12 (mA.cons msb_19 mA.nil))))) (fun _ _ _ _ => trivial) (by decide +kernel)
def smb_21 : aM := (37, 0, [(0, 6, 2147483647), (0, 0, 0), (0, 5, 5)], [], [], [(some (0, 0), [], [])])
def lbb_21 : List aLab := []
theorem msb_21 : MSok bT (fun _ => True) MT smb_21 := achk_ok (nm := 297) (sm := []) (labs := lbb_21) (sp := []) (fuel := 13) (rE := [(1000000, (2, 0))]) (maxL := 3) (M := mX11_isIn) mt_X11_isIn rfl os_X11_isIn MT_len ( mA.nil) (fun _ _ _ _ => trivial) (by decide +kernel)
def smb_22 : aM := (185, 1, [(0, 6, 2147483647)], [], [], [(some (0, 0), [], [])])
def lbb_22 : List aLab := []
theorem msb_22 : MSok bT (fun _ => True) MT smb_22 := achk_ok (nm := 297) (sm := [smb_21]) (labs := lbb_22) (sp := []) (fuel := 10) (rE := [(1000000, (2, 0))]) (maxL := 1) (M := mX11_isGate) mt_X11_isGate rfl os_X11_isGate MT_len ((mA.cons msb_21 mA.nil)) (fun _ _ _ _ => trivial) (by decide +kernel)
def smb_23 : aM := (183, 2, [(1, 0, 0), (0, 1, 5), (0, 0, 99), (0, 0, 9), (0, 6, 2147483647)], [], [], [(some ((-1), (-1)), [], [])])
def lbb_23 : List aLab := []
theorem msb_23 : MSok bT (fun _ => True) MT smb_23 := achk_ok (nm := 297) (sm := [smb_7, smb_17, smb_12, smb_22]) (labs := lbb_23) (sp := []) (fuel := 23) (rE := [(1000000, (2, 0))]) (maxL := 6) (M := mX11_key) mt_X11_key rfl os_X11_key MT_len ((mA.cons msb_7 (mA.cons msb_17 (mA.cons msb_12 (mA.cons msb_22 mA.nil))))) (fun _ _ _ _ => trivial) (by decide +kernel)
def smb_24 : aM := (37, 0, [(0, 0, 5), (0, 0, 0), (0, 5, 5)], [], [], [(some (1, 1), [], [])])
def lbb_24 : List aLab := []
theorem msb_24 : MSok bT (fun _ => True) MT smb_24 := achk_ok (nm := 297) (sm := []) (labs := lbb_24) (sp := []) (fuel := 14) (rE := [(1000000, (2, 0))]) (maxL := 3) (M := mX11_isIn) mt_X11_isIn rfl os_X11_isIn MT_len ( mA.nil) (fun _ _ _ _ => trivial) (by decide +kernel)
def smb_25 : aM := (185, 1, [(0, 0, 5)], [], [], [(some (1, 1), [], [])])
def lbb_25 : List aLab := []
theorem msb_25 : MSok bT (fun _ => True) MT smb_25 := achk_ok (nm := 297) (sm := [smb_24]) (labs := lbb_25) (sp := []) (fuel := 10) (rE := [(1000000, (2, 0))]) (maxL := 1) (M := mX11_isGate) mt_X11_isGate rfl os_X11_isGate MT_len ((mA.cons msb_24 mA.nil)) (fun _ _ _ _ => trivial) (by decide +kernel)
def smb_26 : aM := (183, 2, [(1, 0, 0), (0, 1, 5), (0, 0, 99), (0, 0, 9), (0, 0, 5)], [(19, 8, 0, 0)], [(19, 8, 8), (23, 0, 0), (24, 0, 0), (25, 0, 0), (26, 0, 0)], [(some (0, 0), [], [(19, 8, 1, 1)])])
def lbb_26 : List aLab := []
theorem msb_26 : MSok bT (fun _ => True) MT smb_26 := achk_ok (nm := 297) (sm := [smb_7, smb_25, smb_17, smb_12]) (labs := lbb_26) (sp := []) (fuel := 62) (rE := [(1000000, (2, 0))]) (maxL := 6) (M := mX11_key) mt_X11_key rfl os_X11_key MT_len ((mA.cons msb_7 (mA.cons msb_25 (mA.cons msb_17 (mA.cons msb_12 mA.nil))))) (fun _ _ _ _ => trivial) (by decide +kernel)
def smb_27 : aM := (183, 2, [(1, 0, 0), (0, 1, 5), (0, 0, 99), (0, 0, 9), (0, 0, 5)], [(19, 8, 1, 1)], [(19, 8, 8), (23, 1, 1), (24, 1, 1), (25, 1, 1), (26, 1, 1)], [(some (1, 1), [], [(19, 8, 2, 2)])])
def lbb_27 : List aLab := []
theorem msb_27 : MSok bT (fun _ => True) MT smb_27 := achk_ok (nm := 297) (sm := [smb_7, smb_25, smb_17, smb_12]) (labs := lbb_27) (sp := []) (fuel := 62) (rE := [(1000000, (2, 0))]) (maxL := 6) (M := mX11_key) mt_X11_key rfl os_X11_key MT_len ((mA.cons msb_7 (mA.cons msb_25 (mA.cons msb_17 (mA.cons msb_12 mA.nil))))) (fun _ _ _ _ => trivial) (by decide +kernel)
def smb_28 : aM := (183, 2, [(1, 0, 0), (0, 1, 5), (0, 0, 99), (0, 0, 9), (0, 0, 5)], [(19, 8, 2, 2)], [(19, 8, 8), (23, 2, 2), (24, 2, 2), (25, 2, 2), (26, 2, 2)], [(some (2, 2), [], [(19, 8, 3, 3)])])
def lbb_28 : List aLab := []
theorem msb_28 : MSok bT (fun _ => True) MT smb_28 := achk_ok (nm := 297) (sm := [smb_7, smb_25, smb_17, smb_12]) (labs := lbb_28) (sp := []) (fuel := 62) (rE := [(1000000, (2, 0))]) (maxL := 6) (M := mX11_key) mt_X11_key rfl os_X11_key MT_len ((mA.cons msb_7 (mA.cons msb_25 (mA.cons msb_17 (mA.cons msb_12 mA.nil))))) (fun _ _ _ _ => trivial) (by decide +kernel)
def smb_29 : aM := (183, 2, [(1, 0, 0), (0, 1, 5), (0, 0, 99), (0, 0, 9), (0, 0, 5)], [(19, 8, 3, 3)], [(19, 8, 8), (23, 3, 3), (24, 3, 3), (25, 3, 3), (26, 3, 3)], [(some (3, 3), [], [(19, 8, 4, 4)])])
def lbb_29 : List aLab := []
theorem msb_29 : MSok bT (fun _ => True) MT smb_29 := achk_ok (nm := 297) (sm := [smb_7, smb_25, smb_17, smb_12]) (labs := lbb_29) (sp := []) (fuel := 62) (rE := [(1000000, (2, 0))]) (maxL := 6) (M := mX11_key) mt_X11_key rfl os_X11_key MT_len ((mA.cons msb_7 (mA.cons msb_25 (mA.cons msb_17 (mA.cons msb_12 mA.nil))))) (fun _ _ _ _ => trivial) (by decide +kernel)
def smb_30 : aM := (183, 2, [(1, 0, 0), (0, 1, 5), (0, 0, 99), (0, 0, 9), (0, 0, 5)], [(19, 8, 4, 4)], [(19, 8, 8), (23, 4, 4), (24, 4, 4), (25, 4, 4), (26, 4, 4)], [(some (4, 4), [], [(19, 8, 5, 5)])])
def lbb_30 : List aLab := []
theorem msb_30 : MSok bT (fun _ => True) MT smb_30 := achk_ok (nm := 297) (sm := [smb_7, smb_25, smb_17, smb_12]) (labs := lbb_30) (sp := []) (fuel := 62) (rE := [(1000000, (2, 0))]) (maxL := 6) (M := mX11_key) mt_X11_key rfl os_X11_key MT_len ((mA.cons msb_7 (mA.cons msb_25 (mA.cons msb_17 (mA.cons msb_12 mA.nil))))) (fun _ _ _ _ => trivial) (by decide +kernel)
def smb_31 : aM := (183, 2, [(1, 0, 0), (0, 1, 5), (0, 0, 99), (0, 0, 9), (0, 0, 5)], [(19, 8, 5, 5)], [(19, 8, 8), (23, 5, 5), (24, 5, 5), (25, 5, 5), (26, 5, 5)], [(some (5, 5), [], [(19, 8, 6, 6)])])
def lbb_31 : List aLab := []
theorem msb_31 : MSok bT (fun _ => True) MT smb_31 := achk_ok (nm := 297) (sm := [smb_7, smb_25, smb_17, smb_12]) (labs := lbb_31) (sp := []) (fuel := 62) (rE := [(1000000, (2, 0))]) (maxL := 6) (M := mX11_key) mt_X11_key rfl os_X11_key MT_len ((mA.cons msb_7 (mA.cons msb_25 (mA.cons msb_17 (mA.cons msb_12 mA.nil))))) (fun _ _ _ _ => trivial) (by decide +kernel)
def smb_32 : aM := (183, 2, [(1, 0, 0), (0, 1, 5), (0, 0, 99), (0, 0, 9), (0, 0, 5)], [(19, 8, 6, 6)], [], [(some ((-2), (-2)), [], [(19, 8, 6, 6)])])
def lbb_32 : List aLab := []
theorem msb_32 : MSok bT (fun _ => True) MT smb_32 := achk_ok (nm := 297) (sm := [smb_7, smb_25, smb_17, smb_12]) (labs := lbb_32) (sp := []) (fuel := 28) (rE := [(1000000, (2, 0))]) (maxL := 6) (M := mX11_key) mt_X11_key rfl os_X11_key MT_len ((mA.cons msb_7 (mA.cons msb_25 (mA.cons msb_17 (mA.cons msb_12 mA.nil))))) (fun _ _ _ _ => trivial) (by decide +kernel)
def smb_33 : aM := (127, 0, [(0, (-2147483648), 0), (0, 1, 1), (0, 5, 5)], [], [], [(some (0, 0), [], [])])
def lbb_33 : List aLab := []
theorem msb_33 : MSok bT (fun _ => True) MT smb_33 := achk_ok (nm := 297) (sm := []) (labs := lbb_33) (sp := []) (fuel := 10) (rE := [(1000000, (2, 0))]) (maxL := 3) (M := mX12_in1) mt_X12_in1 rfl os_X12_in1 MT_len ( mA.nil) (fun _ _ _ _ => trivial) (by decide +kernel)
def smb_34 : aM := (186, 1, [(1, 67, 0), (0, (-2147483648), 0), (0, (-2147483648), 2147483647), (0, (-2147483648), 2147483647), (0, (-2147483648), 2147483647)], [], [], [(some ((-1), (-1)), [], [])])
def lbb_34 : List aLab := []
theorem msb_34 : MSok bT (fun _ => True) MT smb_34 := achk_ok (nm := 297) (sm := [smb_33]) (labs := lbb_34) (sp := []) (fuel := 12) (rE := [(1000000, (2, 0))]) (maxL := 6) (M := mX12_key) mt_X12_key rfl os_X12_key MT_len ((mA.cons msb_33 mA.nil)) (fun _ _ _ _ => trivial) (by decide +kernel)
def smb_35 : aM := (127, 0, [(0, 6, 2147483647), (0, 1, 1), (0, 5, 5)], [], [], [(some (0, 0), [], [])])
def lbb_35 : List aLab := []
theorem msb_35 : MSok bT (fun _ => True) MT smb_35 := achk_ok (nm := 297) (sm := []) (labs := lbb_35) (sp := []) (fuel := 13) (rE := [(1000000, (2, 0))]) (maxL := 3) (M := mX12_in1) mt_X12_in1 rfl os_X12_in1 MT_len ( mA.nil) (fun _ _ _ _ => trivial) (by decide +kernel)
def smb_36 : aM := (186, 1, [(1, 67, 0), (0, 6, 2147483647), (0, (-2147483648), 2147483647), (0, (-2147483648), 2147483647), (0, (-2147483648), 2147483647)], [], [], [(some ((-1), (-1)), [], [])])
def lbb_36 : List aLab := []
theorem msb_36 : MSok bT (fun _ => True) MT smb_36 := achk_ok (nm := 297) (sm := [smb_35]) (labs := lbb_36) (sp := []) (fuel := 12) (rE := [(1000000, (2, 0))]) (maxL := 6) (M := mX12_key) mt_X12_key rfl os_X12_key MT_len ((mA.cons msb_35 mA.nil)) (fun _ _ _ _ => trivial) (by decide +kernel)
def smb_37 : aM := (127, 0, [(0, 1, 5), (0, 1, 1), (0, 5, 5)], [], [], [(some (1, 1), [], [])])
def lbb_37 : List aLab := []
theorem msb_37 : MSok bT (fun _ => True) MT smb_37 := achk_ok (nm := 297) (sm := []) (labs := lbb_37) (sp := []) (fuel := 14) (rE := [(1000000, (2, 0))]) (maxL := 3) (M := mX12_in1) mt_X12_in1 rfl os_X12_in1 MT_len ( mA.nil) (fun _ _ _ _ => trivial) (by decide +kernel)
def smb_38 : aM := (127, 0, [(0, (-2147483648), (-1)), (0, 0, 0), (0, 99, 99)], [], [], [(some (0, 0), [], [])])
def lbb_38 : List aLab := []
theorem msb_38 : MSok bT (fun _ => True) MT smb_38 := achk_ok (nm := 297) (sm := []) (labs := lbb_38) (sp := []) (fuel := 10) (rE := [(1000000, (2, 0))]) (maxL := 3) (M := mX12_in1) mt_X12_in1 rfl os_X12_in1 MT_len ( mA.nil) (fun _ _ _ _ => trivial) (by decide +kernel)
def smb_39 : aM := (186, 1, [(1, 67, 0), (0, 1, 5), (0, (-2147483648), (-1)), (0, (-2147483648), 2147483647), (0, (-2147483648), 2147483647)], [], [], [(some ((-1), (-1)), [], [])])
def lbb_39 : List aLab := []
theorem msb_39 : MSok bT (fun _ => True) MT smb_39 := achk_ok (nm := 297) (sm := [smb_37, smb_38]) (labs := lbb_39) (sp := []) (fuel := 17) (rE := [(1000000, (2, 0))]) (maxL := 6) (M := mX12_key) mt_X12_key rfl os_X12_key MT_len ((mA.cons msb_37 (mA.cons msb_38 mA.nil))) (fun _ _ _ _ => trivial) (by decide +kernel)
def smb_40 : aM := (127, 0, [(0, 100, 2147483647), (0, 0, 0), (0, 99, 99)], [], [], [(some (0, 0), [], [])])
def lbb_40 : List aLab := []
theorem msb_40 : MSok bT (fun _ => True) MT smb_40 := achk_ok (nm := 297) (sm := []) (labs := lbb_40) (sp := []) (fuel := 13) (rE := [(1000000, (2, 0))]) (maxL := 3) (M := mX12_in1) mt_X12_in1 rfl os_X12_in1 MT_len ( mA.nil) (fun _ _ _ _ => trivial) (by decide +kernel)
def smb_41 : aM := (186, 1, [(1, 67, 0), (0, 1, 5), (0, 100, 2147483647), (0, (-2147483648), 2147483647), (0, (-2147483648), 2147483647)], [], [], [(some ((-1), (-1)), [], [])])
def lbb_41 : List aLab := []
theorem msb_41 : MSok bT (fun _ => True) MT smb_41 := achk_ok (nm := 297) (sm := [smb_37, smb_40]) (labs := lbb_41) (sp := []) (fuel := 17) (rE := [(1000000, (2, 0))]) (maxL := 6) (M := mX12_key) mt_X12_key rfl os_X12_key MT_len ((mA.cons msb_37 (mA.cons msb_40 mA.nil))) (fun _ _ _ _ => trivial) (by decide +kernel)
def smb_42 : aM := (127, 0, [(0, 0, 99), (0, 0, 0), (0, 99, 99)], [], [], [(some (1, 1), [], [])])
def lbb_42 : List aLab := []
theorem msb_42 : MSok bT (fun _ => True) MT smb_42 := achk_ok (nm := 297) (sm := []) (labs := lbb_42) (sp := []) (fuel := 14) (rE := [(1000000, (2, 0))]) (maxL := 3) (M := mX12_in1) mt_X12_in1 rfl os_X12_in1 MT_len ( mA.nil) (fun _ _ _ _ => trivial) (by decide +kernel)
def smb_43 : aM := (127, 0, [(0, (-2147483648), (-1)), (0, 0, 0), (0, 9, 9)], [], [], [(some (0, 0), [], [])])
def lbb_43 : List aLab := []
theorem msb_43 : MSok bT (fun _ => True) MT smb_43 := achk_ok (nm := 297) (sm := []) (labs := lbb_43) (sp := []) (fuel := 10) (rE := [(1000000, (2, 0))]) (maxL := 3) (M := mX12_in1) mt_X12_in1 rfl os_X12_in1 MT_len ( mA.nil) (fun _ _ _ _ => trivial) (by decide +kernel)
def smb_44 : aM := (187, 1, [(0, (-2147483648), (-1))], [], [], [(some (0, 0), [], [])])
def lbb_44 : List aLab := []
theorem msb_44 : MSok bT (fun _ => True) MT smb_44 := achk_ok (nm := 297) (sm := [smb_43]) (labs := lbb_44) (sp := []) (fuel := 10) (rE := [(1000000, (2, 0))]) (maxL := 1) (M := mX12_isDigit) mt_X12_isDigit rfl os_X12_isDigit MT_len ((mA.cons msb_43 mA.nil)) (fun _ _ _ _ => trivial) (by decide +kernel)
def smb_45 : aM := (186, 2, [(1, 67, 0), (0, 1, 5), (0, 0, 99), (0, (-2147483648), (-1)), (0, (-2147483648), 2147483647)], [], [], [(some ((-1), (-1)), [], [])])
def lbb_45 : List aLab := []
theorem msb_45 : MSok bT (fun _ => True) MT smb_45 := achk_ok (nm := 297) (sm := [smb_37, smb_42, smb_44]) (labs := lbb_45) (sp := []) (fuel := 20) (rE := [(1000000, (2, 0))]) (maxL := 6) (M := mX12_key) mt_X12_key rfl os_X12_key MT_len ((mA.cons msb_37 (mA.cons msb_42 (mA.cons msb_44 mA.nil)))) (fun _ _ _ _ => trivial) (by decide +kernel)
def smb_46 : aM := (127, 0, [(0, 10, 2147483647), (0, 0, 0), (0, 9, 9)], [], [], [(some (0, 0), [], [])])
def lbb_46 : List aLab := []
theorem msb_46 : MSok bT (fun _ => True) MT smb_46 := achk_ok (nm := 297) (sm := []) (labs := lbb_46) (sp := []) (fuel := 13) (rE := [(1000000, (2, 0))]) (maxL := 3) (M := mX12_in1) mt_X12_in1 rfl os_X12_in1 MT_len ( mA.nil) (fun _ _ _ _ => trivial) (by decide +kernel)
def smb_47 : aM := (187, 1, [(0, 10, 2147483647)], [], [], [(some (0, 0), [], [])])
def lbb_47 : List aLab := []
theorem msb_47 : MSok bT (fun _ => True) MT smb_47 := achk_ok (nm := 297) (sm := [smb_46]) (labs := lbb_47) (sp := []) (fuel := 10) (rE := [(1000000, (2, 0))]) (maxL := 1) (M := mX12_isDigit) mt_X12_isDigit rfl os_X12_isDigit MT_len ((mA.cons msb_46 mA.nil)) (fun _ _ _ _ => trivial) (by decide +kernel)
def smb_48 : aM := (186, 2, [(1, 67, 0), (0, 1, 5), (0, 0, 99), (0, 10, 2147483647), (0, (-2147483648), 2147483647)], [], [], [(some ((-1), (-1)), [], [])])
def lbb_48 : List aLab := []
theorem msb_48 : MSok bT (fun _ => True) MT smb_48 := achk_ok (nm := 297) (sm := [smb_37, smb_42, smb_47]) (labs := lbb_48) (sp := []) (fuel := 20) (rE := [(1000000, (2, 0))]) (maxL := 6) (M := mX12_key) mt_X12_key rfl os_X12_key MT_len ((mA.cons msb_37 (mA.cons msb_42 (mA.cons msb_47 mA.nil)))) (fun _ _ _ _ => trivial) (by decide +kernel)
def smb_49 : aM := (127, 0, [(0, 0, 9), (0, 0, 0), (0, 9, 9)], [], [], [(some (1, 1), [], [])])
def lbb_49 : List aLab := []
theorem msb_49 : MSok bT (fun _ => True) MT smb_49 := achk_ok (nm := 297) (sm := []) (labs := lbb_49) (sp := []) (fuel := 14) (rE := [(1000000, (2, 0))]) (maxL := 3) (M := mX12_in1) mt_X12_in1 rfl os_X12_in1 MT_len ( mA.nil) (fun _ _ _ _ => trivial) (by decide +kernel)
def smb_50 : aM := (187, 1, [(0, 0, 9)], [], [], [(some (1, 1), [], [])])
def lbb_50 : List aLab := []
theorem msb_50 : MSok bT (fun _ => True) MT smb_50 := achk_ok (nm := 297) (sm := [smb_49]) (labs := lbb_50) (sp := []) (fuel := 10) (rE := [(1000000, (2, 0))]) (maxL := 1) (M := mX12_isDigit) mt_X12_isDigit rfl os_X12_isDigit MT_len ((mA.cons msb_49 mA.nil)) (fun _ _ _ _ => trivial) (by decide +kernel)
def smb_51 : aM := (127, 0, [(0, (-2147483648), (-1)), (0, 0, 0), (0, 5, 5)], [], [], [(some (0, 0), [], [])])
def lbb_51 : List aLab := []
theorem msb_51 : MSok bT (fun _ => True) MT smb_51 := achk_ok (nm := 297) (sm := []) (labs := lbb_51) (sp := []) (fuel := 10) (rE := [(1000000, (2, 0))]) (maxL := 3) (M := mX12_in1) mt_X12_in1 rfl os_X12_in1 MT_len ( mA.nil) (fun _ _ _ _ => trivial) (by decide +kernel)
def smb_52 : aM := (188, 1, [(0, (-2147483648), (-1))], [], [], [(some (0, 0), [], [])])
def lbb_52 : List aLab := []
theorem msb_52 : MSok bT (fun _ => True) MT smb_52 := achk_ok (nm := 297) (sm := [smb_51]) (labs := lbb_52) (sp := []) (fuel := 10) (rE := [(1000000, (2, 0))]) (maxL := 1) (M := mX12_isGate) mt_X12_isGate rfl os_X12_isGate MT_len ((mA.cons msb_51 mA.nil)) (fun _ _ _ _ => trivial) (by decide +kernel)
def smb_53 : aM := (186, 2, [(1, 67, 0), (0, 1, 5), (0, 0, 99), (0, 0, 9), (0, (-2147483648), (-1))], [], [], [(some ((-1), (-1)), [], [])])
def lbb_53 : List aLab := []
theorem msb_53 : MSok bT (fun _ => True) MT smb_53 := achk_ok (nm := 297) (sm := [smb_37, smb_50, smb_42, smb_52]) (labs := lbb_53) (sp := []) (fuel := 23) (rE := [(1000000, (2, 0))]) (maxL := 6) (M := mX12_key) mt_X12_key rfl os_X12_key MT_len ((mA.cons msb_37 (mA.cons msb_50 (mA.cons msb_42 (mA.cons msb_52 mA.nil))))) (fun _ _ _ _ => trivial) (by decide +kernel)
def smb_54 : aM := (127, 0, [(0, 6, 2147483647), (0, 0, 0), (0, 5, 5)], [], [], [(some (0, 0), [], [])])
def lbb_54 : List aLab := []
theorem msb_54 : MSok bT (fun _ => True) MT smb_54 := achk_ok (nm := 297) (sm := []) (labs := lbb_54) (sp := []) (fuel := 13) (rE := [(1000000, (2, 0))]) (maxL := 3) (M := mX12_in1) mt_X12_in1 rfl os_X12_in1 MT_len ( mA.nil) (fun _ _ _ _ => trivial) (by decide +kernel)
def smb_55 : aM := (188, 1, [(0, 6, 2147483647)], [], [], [(some (0, 0), [], [])])
def lbb_55 : List aLab := []
theorem msb_55 : MSok bT (fun _ => True) MT smb_55 := achk_ok (nm := 297) (sm := [smb_54]) (labs := lbb_55) (sp := []) (fuel := 10) (rE := [(1000000, (2, 0))]) (maxL := 1) (M := mX12_isGate) mt_X12_isGate rfl os_X12_isGate MT_len ((mA.cons msb_54 mA.nil)) (fun _ _ _ _ => trivial) (by decide +kernel)
def smb_56 : aM := (186, 2, [(1, 67, 0), (0, 1, 5), (0, 0, 99), (0, 0, 9), (0, 6, 2147483647)], [], [], [(some ((-1), (-1)), [], [])])
def lbb_56 : List aLab := []
theorem msb_56 : MSok bT (fun _ => True) MT smb_56 := achk_ok (nm := 297) (sm := [smb_37, smb_50, smb_42, smb_55]) (labs := lbb_56) (sp := []) (fuel := 23) (rE := [(1000000, (2, 0))]) (maxL := 6) (M := mX12_key) mt_X12_key rfl os_X12_key MT_len ((mA.cons msb_37 (mA.cons msb_50 (mA.cons msb_42 (mA.cons msb_55 mA.nil))))) (fun _ _ _ _ => trivial) (by decide +kernel)
def smb_57 : aM := (127, 0, [(0, 0, 5), (0, 0, 0), (0, 5, 5)], [], [], [(some (1, 1), [], [])])
def lbb_57 : List aLab := []
theorem msb_57 : MSok bT (fun _ => True) MT smb_57 := achk_ok (nm := 297) (sm := []) (labs := lbb_57) (sp := []) (fuel := 14) (rE := [(1000000, (2, 0))]) (maxL := 3) (M := mX12_in1) mt_X12_in1 rfl os_X12_in1 MT_len ( mA.nil) (fun _ _ _ _ => trivial) (by decide +kernel)
def smb_58 : aM := (188, 1, [(0, 0, 5)], [], [], [(some (1, 1), [], [])])
def lbb_58 : List aLab := []
theorem msb_58 : MSok bT (fun _ => True) MT smb_58 := achk_ok (nm := 297) (sm := [smb_57]) (labs := lbb_58) (sp := []) (fuel := 10) (rE := [(1000000, (2, 0))]) (maxL := 1) (M := mX12_isGate) mt_X12_isGate rfl os_X12_isGate MT_len ((mA.cons msb_57 mA.nil)) (fun _ _ _ _ => trivial) (by decide +kernel)
def smb_59 : aM := (141, 0, [(1, 67, 0), (0, 0, 0), (0, 0, 0), (0, 1, 5)], [], [(68, 35, 35)], [(none, [], [])])
def lbb_59 : List aLab := []
theorem msb_59 : MSok bT (fun _ => True) MT smb_59 := achk_ok (nm := 297) (sm := []) (labs := lbb_59) (sp := [(0, 0, 1, [])]) (fuel := 17) (rE := [(1000000, (2, 0))]) (maxL := 4) (M := mX12_puts) mt_X12_puts rfl os_X12_puts MT_len ( mA.nil) (fun _ _ _ _ => trivial) (by decide +kernel)
def smb_60 : aM := (141, 0, [(1, 67, 0), (0, 0, 0), (0, 1, 1), (0, 0, 99)], [], [(68, 36, 36)], [(none, [], [])])
def lbb_60 : List aLab := []
theorem msb_60 : MSok bT (fun _ => True) MT smb_60 := achk_ok (nm := 297) (sm := []) (labs := lbb_60) (sp := [(0, 0, 1, [])]) (fuel := 17) (rE := [(1000000, (2, 0))]) (maxL := 4) (M := mX12_puts) mt_X12_puts rfl os_X12_puts MT_len ( mA.nil) (fun _ _ _ _ => trivial) (by decide +kernel)
def smb_61 : aM := (141, 0, [(1, 67, 0), (0, 0, 0), (0, 2, 2), (0, 0, 9)], [], [(68, 37, 37)], [(none, [], [])])
def lbb_61 : List aLab := []
theorem msb_61 : MSok bT (fun _ => True) MT smb_61 := achk_ok (nm := 297) (sm := []) (labs := lbb_61) (sp := [(0, 0, 1, [])]) (fuel := 17) (rE := [(1000000, (2, 0))]) (maxL := 4) (M := mX12_puts) mt_X12_puts rfl os_X12_puts MT_len ( mA.nil) (fun _ _ _ _ => trivial) (by decide +kernel)
def smb_62 : aM := (141, 0, [(1, 67, 0), (0, 0, 0), (0, 3, 3), (0, 0, 5)], [], [(68, 38, 38)], [(none, [], [])])
def lbb_62 : List aLab := []
theorem msb_62 : MSok bT (fun _ => True) MT smb_62 := achk_ok (nm := 297) (sm := []) (labs := lbb_62) (sp := [(0, 0, 1, [])]) (fuel := 17) (rE := [(1000000, (2, 0))]) (maxL := 4) (M := mX12_puts) mt_X12_puts rfl os_X12_puts MT_len ( mA.nil) (fun _ _ _ _ => trivial) (by decide +kernel)
def smb_63 : aM := (141, 0, [(1, 67, 0), (0, 0, 0), (0, 4, 4), (0, 0, 0)], [], [(68, 39, 39)], [(none, [], [])])
def lbb_63 : List aLab := []
theorem msb_63 : MSok bT (fun _ => True) MT smb_63 := achk_ok (nm := 297) (sm := []) (labs := lbb_63) (sp := [(0, 0, 1, [])]) (fuel := 17) (rE := [(1000000, (2, 0))]) (maxL := 4) (M := mX12_puts) mt_X12_puts rfl os_X12_puts MT_len ( mA.nil) (fun _ _ _ _ => trivial) (by decide +kernel)
def smb_64 : aM := (186, 2, [(1, 67, 0), (0, 1, 5), (0, 0, 99), (0, 0, 9), (0, 0, 5)], [(68, 4, 0, 0)], [(68, 4, 4), (68, 35, 39)], [(some (0, 0), [], [(68, 4, 1, 1)])])
def lbb_64 : List aLab := []
theorem msb_64 : MSok bT (fun _ => True) MT smb_64 := achk_ok (nm := 297) (sm := [smb_63, smb_37, smb_59, smb_58, smb_62, smb_50, smb_61, smb_42, smb_60]) (labs := lbb_64) (sp := []) (fuel := 67) (rE := [(1000000, (2, 0))]) (maxL := 6) (M := mX12_key) mt_X12_key rfl os_X12_key MT_len ((mA.cons msb_63 (mA.cons msb_37 (mA.cons msb_59 (mA.cons msb_58 (mA.cons msb_62 (mA.cons msb_50 (mA.cons msb_61 (mA.cons msb_42 (mA.cons msb_60 mA.nil)))))))))) (fun _ _ _ _ => trivial) (by decide +kernel)
def smb_65 : aM := (141, 0, [(1, 67, 0), (0, 1, 1), (0, 0, 0), (0, 1, 5)], [], [(68, 40, 40)], [(none, [], [])])
def lbb_65 : List aLab := []
theorem msb_65 : MSok bT (fun _ => True) MT smb_65 := achk_ok (nm := 297) (sm := []) (labs := lbb_65) (sp := [(0, 0, 1, [])]) (fuel := 17) (rE := [(1000000, (2, 0))]) (maxL := 4) (M := mX12_puts) mt_X12_puts rfl os_X12_puts MT_len ( mA.nil) (fun _ _ _ _ => trivial) (by decide +kernel)
def smb_66 : aM := (141, 0, [(1, 67, 0), (0, 1, 1), (0, 1, 1), (0, 0, 99)], [], [(68, 41, 41)], [(none, [], [])])
def lbb_66 : List aLab := []
theorem msb_66 : MSok bT (fun _ => True) MT smb_66 := achk_ok (nm := 297) (sm := []) (labs := lbb_66) (sp := [(0, 0, 1, [])]) (fuel := 17) (rE := [(1000000, (2, 0))]) (maxL := 4) (M := mX12_puts) mt_X12_puts rfl os_X12_puts MT_len ( mA.nil) (fun _ _ _ _ => trivial) (by decide +kernel)
def smb_67 : aM := (141, 0, [(1, 67, 0), (0, 1, 1), (0, 2, 2), (0, 0, 9)], [], [(68, 42, 42)], [(none, [], [])])
def lbb_67 : List aLab := []
theorem msb_67 : MSok bT (fun _ => True) MT smb_67 := achk_ok (nm := 297) (sm := []) (labs := lbb_67) (sp := [(0, 0, 1, [])]) (fuel := 17) (rE := [(1000000, (2, 0))]) (maxL := 4) (M := mX12_puts) mt_X12_puts rfl os_X12_puts MT_len ( mA.nil) (fun _ _ _ _ => trivial) (by decide +kernel)
def smb_68 : aM := (141, 0, [(1, 67, 0), (0, 1, 1), (0, 3, 3), (0, 0, 5)], [], [(68, 43, 43)], [(none, [], [])])
def lbb_68 : List aLab := []
theorem msb_68 : MSok bT (fun _ => True) MT smb_68 := achk_ok (nm := 297) (sm := []) (labs := lbb_68) (sp := [(0, 0, 1, [])]) (fuel := 17) (rE := [(1000000, (2, 0))]) (maxL := 4) (M := mX12_puts) mt_X12_puts rfl os_X12_puts MT_len ( mA.nil) (fun _ _ _ _ => trivial) (by decide +kernel)
def smb_69 : aM := (141, 0, [(1, 67, 0), (0, 1, 1), (0, 4, 4), (0, 0, 0)], [], [(68, 44, 44)], [(none, [], [])])
def lbb_69 : List aLab := []
theorem msb_69 : MSok bT (fun _ => True) MT smb_69 := achk_ok (nm := 297) (sm := []) (labs := lbb_69) (sp := [(0, 0, 1, [])]) (fuel := 17) (rE := [(1000000, (2, 0))]) (maxL := 4) (M := mX12_puts) mt_X12_puts rfl os_X12_puts MT_len ( mA.nil) (fun _ _ _ _ => trivial) (by decide +kernel)
def smb_70 : aM := (186, 2, [(1, 67, 0), (0, 1, 5), (0, 0, 99), (0, 0, 9), (0, 0, 5)], [(68, 4, 1, 1)], [(68, 4, 4), (68, 40, 44)], [(some (1, 1), [], [(68, 4, 2, 2)])])
def lbb_70 : List aLab := []
theorem msb_70 : MSok bT (fun _ => True) MT smb_70 := achk_ok (nm := 297) (sm := [smb_69, smb_37, smb_65, smb_58, smb_68, smb_50, smb_67, smb_42, smb_66]) (labs := lbb_70) (sp := []) (fuel := 67) (rE := [(1000000, (2, 0))]) (maxL := 6) (M := mX12_key) mt_X12_key rfl os_X12_key MT_len ((mA.cons msb_69 (mA.cons msb_37 (mA.cons msb_65 (mA.cons msb_58 (mA.cons msb_68 (mA.cons msb_50 (mA.cons msb_67 (mA.cons msb_42 (mA.cons msb_66 mA.nil)))))))))) (fun _ _ _ _ => trivial) (by decide +kernel)
def smb_71 : aM := (141, 0, [(1, 67, 0), (0, 2, 2), (0, 0, 0), (0, 1, 5)], [], [(68, 45, 45)], [(none, [], [])])
def lbb_71 : List aLab := []
theorem msb_71 : MSok bT (fun _ => True) MT smb_71 := achk_ok (nm := 297) (sm := []) (labs := lbb_71) (sp := [(0, 0, 1, [])]) (fuel := 17) (rE := [(1000000, (2, 0))]) (maxL := 4) (M := mX12_puts) mt_X12_puts rfl os_X12_puts MT_len ( mA.nil) (fun _ _ _ _ => trivial) (by decide +kernel)
def smb_72 : aM := (141, 0, [(1, 67, 0), (0, 2, 2), (0, 1, 1), (0, 0, 99)], [], [(68, 46, 46)], [(none, [], [])])
def lbb_72 : List aLab := []
theorem msb_72 : MSok bT (fun _ => True) MT smb_72 := achk_ok (nm := 297) (sm := []) (labs := lbb_72) (sp := [(0, 0, 1, [])]) (fuel := 17) (rE := [(1000000, (2, 0))]) (maxL := 4) (M := mX12_puts) mt_X12_puts rfl os_X12_puts MT_len ( mA.nil) (fun _ _ _ _ => trivial) (by decide +kernel)
def smb_73 : aM := (141, 0, [(1, 67, 0), (0, 2, 2), (0, 2, 2), (0, 0, 9)], [], [(68, 47, 47)], [(none, [], [])])
def lbb_73 : List aLab := []
theorem msb_73 : MSok bT (fun _ => True) MT smb_73 := achk_ok (nm := 297) (sm := []) (labs := lbb_73) (sp := [(0, 0, 1, [])]) (fuel := 17) (rE := [(1000000, (2, 0))]) (maxL := 4) (M := mX12_puts) mt_X12_puts rfl os_X12_puts MT_len ( mA.nil) (fun _ _ _ _ => trivial) (by decide +kernel)
def smb_74 : aM := (141, 0, [(1, 67, 0), (0, 2, 2), (0, 3, 3), (0, 0, 5)], [], [(68, 48, 48)], [(none, [], [])])
def lbb_74 : List aLab := []
theorem msb_74 : MSok bT (fun _ => True) MT smb_74 := achk_ok (nm := 297) (sm := []) (labs := lbb_74) (sp := [(0, 0, 1, [])]) (fuel := 17) (rE := [(1000000, (2, 0))]) (maxL := 4) (M := mX12_puts) mt_X12_puts rfl os_X12_puts MT_len ( mA.nil) (fun _ _ _ _ => trivial) (by decide +kernel)
def smb_75 : aM := (141, 0, [(1, 67, 0), (0, 2, 2), (0, 4, 4), (0, 0, 0)], [], [(68, 49, 49)], [(none, [], [])])
def lbb_75 : List aLab := []
theorem msb_75 : MSok bT (fun _ => True) MT smb_75 := achk_ok (nm := 297) (sm := []) (labs := lbb_75) (sp := [(0, 0, 1, [])]) (fuel := 17) (rE := [(1000000, (2, 0))]) (maxL := 4) (M := mX12_puts) mt_X12_puts rfl os_X12_puts MT_len ( mA.nil) (fun _ _ _ _ => trivial) (by decide +kernel)
def smb_76 : aM := (186, 2, [(1, 67, 0), (0, 1, 5), (0, 0, 99), (0, 0, 9), (0, 0, 5)], [(68, 4, 2, 2)], [(68, 4, 4), (68, 45, 49)], [(some (2, 2), [], [(68, 4, 3, 3)])])
def lbb_76 : List aLab := []
theorem msb_76 : MSok bT (fun _ => True) MT smb_76 := achk_ok (nm := 297) (sm := [smb_75, smb_37, smb_71, smb_58, smb_74, smb_50, smb_73, smb_42, smb_72]) (labs := lbb_76) (sp := []) (fuel := 67) (rE := [(1000000, (2, 0))]) (maxL := 6) (M := mX12_key) mt_X12_key rfl os_X12_key MT_len ((mA.cons msb_75 (mA.cons msb_37 (mA.cons msb_71 (mA.cons msb_58 (mA.cons msb_74 (mA.cons msb_50 (mA.cons msb_73 (mA.cons msb_42 (mA.cons msb_72 mA.nil)))))))))) (fun _ _ _ _ => trivial) (by decide +kernel)
def smb_77 : aM := (141, 0, [(1, 67, 0), (0, 3, 3), (0, 0, 0), (0, 1, 5)], [], [(68, 50, 50)], [(none, [], [])])
def lbb_77 : List aLab := []
theorem msb_77 : MSok bT (fun _ => True) MT smb_77 := achk_ok (nm := 297) (sm := []) (labs := lbb_77) (sp := [(0, 0, 1, [])]) (fuel := 17) (rE := [(1000000, (2, 0))]) (maxL := 4) (M := mX12_puts) mt_X12_puts rfl os_X12_puts MT_len ( mA.nil) (fun _ _ _ _ => trivial) (by decide +kernel)
def smb_78 : aM := (141, 0, [(1, 67, 0), (0, 3, 3), (0, 1, 1), (0, 0, 99)], [], [(68, 51, 51)], [(none, [], [])])
def lbb_78 : List aLab := []
theorem msb_78 : MSok bT (fun _ => True) MT smb_78 := achk_ok (nm := 297) (sm := []) (labs := lbb_78) (sp := [(0, 0, 1, [])]) (fuel := 17) (rE := [(1000000, (2, 0))]) (maxL := 4) (M := mX12_puts) mt_X12_puts rfl os_X12_puts MT_len ( mA.nil) (fun _ _ _ _ => trivial) (by decide +kernel)
def smb_79 : aM := (141, 0, [(1, 67, 0), (0, 3, 3), (0, 2, 2), (0, 0, 9)], [], [(68, 52, 52)], [(none, [], [])])
def lbb_79 : List aLab := []
theorem msb_79 : MSok bT (fun _ => True) MT smb_79 := achk_ok (nm := 297) (sm := []) (labs := lbb_79) (sp := [(0, 0, 1, [])]) (fuel := 17) (rE := [(1000000, (2, 0))]) (maxL := 4) (M := mX12_puts) mt_X12_puts rfl os_X12_puts MT_len ( mA.nil) (fun _ _ _ _ => trivial) (by decide +kernel)
def smb_80 : aM := (141, 0, [(1, 67, 0), (0, 3, 3), (0, 3, 3), (0, 0, 5)], [], [(68, 53, 53)], [(none, [], [])])
def lbb_80 : List aLab := []
theorem msb_80 : MSok bT (fun _ => True) MT smb_80 := achk_ok (nm := 297) (sm := []) (labs := lbb_80) (sp := [(0, 0, 1, [])]) (fuel := 17) (rE := [(1000000, (2, 0))]) (maxL := 4) (M := mX12_puts) mt_X12_puts rfl os_X12_puts MT_len ( mA.nil) (fun _ _ _ _ => trivial) (by decide +kernel)
def smb_81 : aM := (141, 0, [(1, 67, 0), (0, 3, 3), (0, 4, 4), (0, 0, 0)], [], [(68, 54, 54)], [(none, [], [])])
def lbb_81 : List aLab := []
theorem msb_81 : MSok bT (fun _ => True) MT smb_81 := achk_ok (nm := 297) (sm := []) (labs := lbb_81) (sp := [(0, 0, 1, [])]) (fuel := 17) (rE := [(1000000, (2, 0))]) (maxL := 4) (M := mX12_puts) mt_X12_puts rfl os_X12_puts MT_len ( mA.nil) (fun _ _ _ _ => trivial) (by decide +kernel)
def smb_82 : aM := (186, 2, [(1, 67, 0), (0, 1, 5), (0, 0, 99), (0, 0, 9), (0, 0, 5)], [(68, 4, 3, 3)], [(68, 4, 4), (68, 50, 54)], [(some (3, 3), [], [(68, 4, 4, 4)])])
def lbb_82 : List aLab := []
theorem msb_82 : MSok bT (fun _ => True) MT smb_82 := achk_ok (nm := 297) (sm := [smb_81, smb_37, smb_77, smb_58, smb_80, smb_50, smb_79, smb_42, smb_78]) (labs := lbb_82) (sp := []) (fuel := 67) (rE := [(1000000, (2, 0))]) (maxL := 6) (M := mX12_key) mt_X12_key rfl os_X12_key MT_len ((mA.cons msb_81 (mA.cons msb_37 (mA.cons msb_77 (mA.cons msb_58 (mA.cons msb_80 (mA.cons msb_50 (mA.cons msb_79 (mA.cons msb_42 (mA.cons msb_78 mA.nil)))))))))) (fun _ _ _ _ => trivial) (by decide +kernel)
def smb_83 : aM := (141, 0, [(1, 67, 0), (0, 4, 4), (0, 0, 0), (0, 1, 5)], [], [(68, 55, 55)], [(none, [], [])])
def lbb_83 : List aLab := []
theorem msb_83 : MSok bT (fun _ => True) MT smb_83 := achk_ok (nm := 297) (sm := []) (labs := lbb_83) (sp := [(0, 0, 1, [])]) (fuel := 17) (rE := [(1000000, (2, 0))]) (maxL := 4) (M := mX12_puts) mt_X12_puts rfl os_X12_puts MT_len ( mA.nil) (fun _ _ _ _ => trivial) (by decide +kernel)
def smb_84 : aM := (141, 0, [(1, 67, 0), (0, 4, 4), (0, 1, 1), (0, 0, 99)], [], [(68, 56, 56)], [(none, [], [])])
def lbb_84 : List aLab := []
theorem msb_84 : MSok bT (fun _ => True) MT smb_84 := achk_ok (nm := 297) (sm := []) (labs := lbb_84) (sp := [(0, 0, 1, [])]) (fuel := 17) (rE := [(1000000, (2, 0))]) (maxL := 4) (M := mX12_puts) mt_X12_puts rfl os_X12_puts MT_len ( mA.nil) (fun _ _ _ _ => trivial) (by decide +kernel)
def smb_85 : aM := (141, 0, [(1, 67, 0), (0, 4, 4), (0, 2, 2), (0, 0, 9)], [], [(68, 57, 57)], [(none, [], [])])
def lbb_85 : List aLab := []
theorem msb_85 : MSok bT (fun _ => True) MT smb_85 := achk_ok (nm := 297) (sm := []) (labs := lbb_85) (sp := [(0, 0, 1, [])]) (fuel := 17) (rE := [(1000000, (2, 0))]) (maxL := 4) (M := mX12_puts) mt_X12_puts rfl os_X12_puts MT_len ( mA.nil) (fun _ _ _ _ => trivial) (by decide +kernel)
def smb_86 : aM := (141, 0, [(1, 67, 0), (0, 4, 4), (0, 3, 3), (0, 0, 5)], [], [(68, 58, 58)], [(none, [], [])])
def lbb_86 : List aLab := []
theorem msb_86 : MSok bT (fun _ => True) MT smb_86 := achk_ok (nm := 297) (sm := []) (labs := lbb_86) (sp := [(0, 0, 1, [])]) (fuel := 17) (rE := [(1000000, (2, 0))]) (maxL := 4) (M := mX12_puts) mt_X12_puts rfl os_X12_puts MT_len ( mA.nil) (fun _ _ _ _ => trivial) (by decide +kernel)
def smb_87 : aM := (141, 0, [(1, 67, 0), (0, 4, 4), (0, 4, 4), (0, 0, 0)], [], [(68, 59, 59)], [(none, [], [])])
def lbb_87 : List aLab := []
theorem msb_87 : MSok bT (fun _ => True) MT smb_87 := achk_ok (nm := 297) (sm := []) (labs := lbb_87) (sp := [(0, 0, 1, [])]) (fuel := 17) (rE := [(1000000, (2, 0))]) (maxL := 4) (M := mX12_puts) mt_X12_puts rfl os_X12_puts MT_len ( mA.nil) (fun _ _ _ _ => trivial) (by decide +kernel)
def smb_88 : aM := (186, 2, [(1, 67, 0), (0, 1, 5), (0, 0, 99), (0, 0, 9), (0, 0, 5)], [(68, 4, 4, 4)], [(68, 4, 4), (68, 55, 59)], [(some (4, 4), [], [(68, 4, 5, 5)])])
def lbb_88 : List aLab := []
theorem msb_88 : MSok bT (fun _ => True) MT smb_88 := achk_ok (nm := 297) (sm := [smb_87, smb_37, smb_83, smb_58, smb_86, smb_50, smb_85, smb_42, smb_84]) (labs := lbb_88) (sp := []) (fuel := 67) (rE := [(1000000, (2, 0))]) (maxL := 6) (M := mX12_key) mt_X12_key rfl os_X12_key MT_len ((mA.cons msb_87 (mA.cons msb_37 (mA.cons msb_83 (mA.cons msb_58 (mA.cons msb_86 (mA.cons msb_50 (mA.cons msb_85 (mA.cons msb_42 (mA.cons msb_84 mA.nil)))))))))) (fun _ _ _ _ => trivial) (by decide +kernel)
def smb_89 : aM := (141, 0, [(1, 67, 0), (0, 5, 5), (0, 0, 0), (0, 1, 5)], [], [(68, 60, 60)], [(none, [], [])])
def lbb_89 : List aLab := []
theorem msb_89 : MSok bT (fun _ => True) MT smb_89 := achk_ok (nm := 297) (sm := []) (labs := lbb_89) (sp := [(0, 0, 1, [])]) (fuel := 17) (rE := [(1000000, (2, 0))]) (maxL := 4) (M := mX12_puts) mt_X12_puts rfl os_X12_puts MT_len ( mA.nil) (fun _ _ _ _ => trivial) (by decide +kernel)
def smb_90 : aM := (141, 0, [(1, 67, 0), (0, 5, 5), (0, 1, 1), (0, 0, 99)], [], [(68, 61, 61)], [(none, [], [])])
def lbb_90 : List aLab := []
theorem msb_90 : MSok bT (fun _ => True) MT smb_90 := achk_ok (nm := 297) (sm := []) (labs := lbb_90) (sp := [(0, 0, 1, [])]) (fuel := 17) (rE := [(1000000, (2, 0))]) (maxL := 4) (M := mX12_puts) mt_X12_puts rfl os_X12_puts MT_len ( mA.nil) (fun _ _ _ _ => trivial) (by decide +kernel)
def smb_91 : aM := (141, 0, [(1, 67, 0), (0, 5, 5), (0, 2, 2), (0, 0, 9)], [], [(68, 62, 62)], [(none, [], [])])
def lbb_91 : List aLab := []
theorem msb_91 : MSok bT (fun _ => True) MT smb_91 := achk_ok (nm := 297) (sm := []) (labs := lbb_91) (sp := [(0, 0, 1, [])]) (fuel := 17) (rE := [(1000000, (2, 0))]) (maxL := 4) (M := mX12_puts) mt_X12_puts rfl os_X12_puts MT_len ( mA.nil) (fun _ _ _ _ => trivial) (by decide +kernel)
def smb_92 : aM := (141, 0, [(1, 67, 0), (0, 5, 5), (0, 3, 3), (0, 0, 5)], [], [(68, 63, 63)], [(none, [], [])])
def lbb_92 : List aLab := []
theorem msb_92 : MSok bT (fun _ => True) MT smb_92 := achk_ok (nm := 297) (sm := []) (labs := lbb_92) (sp := [(0, 0, 1, [])]) (fuel := 17) (rE := [(1000000, (2, 0))]) (maxL := 4) (M := mX12_puts) mt_X12_puts rfl os_X12_puts MT_len ( mA.nil) (fun _ _ _ _ => trivial) (by decide +kernel)
def smb_93 : aM := (141, 0, [(1, 67, 0), (0, 5, 5), (0, 4, 4), (0, 0, 0)], [], [(68, 64, 64)], [(none, [], [])])
def lbb_93 : List aLab := []
theorem msb_93 : MSok bT (fun _ => True) MT smb_93 := achk_ok (nm := 297) (sm := []) (labs := lbb_93) (sp := [(0, 0, 1, [])]) (fuel := 17) (rE := [(1000000, (2, 0))]) (maxL := 4) (M := mX12_puts) mt_X12_puts rfl os_X12_puts MT_len ( mA.nil) (fun _ _ _ _ => trivial) (by decide +kernel)
def smb_94 : aM := (186, 2, [(1, 67, 0), (0, 1, 5), (0, 0, 99), (0, 0, 9), (0, 0, 5)], [(68, 4, 5, 5)], [(68, 4, 4), (68, 60, 64)], [(some (5, 5), [], [(68, 4, 6, 6)])])
def lbb_94 : List aLab := []
theorem msb_94 : MSok bT (fun _ => True) MT smb_94 := achk_ok (nm := 297) (sm := [smb_93, smb_37, smb_89, smb_58, smb_92, smb_50, smb_91, smb_42, smb_90]) (labs := lbb_94) (sp := []) (fuel := 67) (rE := [(1000000, (2, 0))]) (maxL := 6) (M := mX12_key) mt_X12_key rfl os_X12_key MT_len ((mA.cons msb_93 (mA.cons msb_37 (mA.cons msb_89 (mA.cons msb_58 (mA.cons msb_92 (mA.cons msb_50 (mA.cons msb_91 (mA.cons msb_42 (mA.cons msb_90 mA.nil)))))))))) (fun _ _ _ _ => trivial) (by decide +kernel)
def smb_95 : aM := (186, 2, [(1, 67, 0), (0, 1, 5), (0, 0, 99), (0, 0, 9), (0, 0, 5)], [(68, 4, 6, 6)], [], [(some ((-2), (-2)), [], [(68, 4, 6, 6)])])
def lbb_95 : List aLab := []
theorem msb_95 : MSok bT (fun _ => True) MT smb_95 := achk_ok (nm := 297) (sm := [smb_37, smb_58, smb_50, smb_42]) (labs := lbb_95) (sp := []) (fuel := 29) (rE := [(1000000, (2, 0))]) (maxL := 6) (M := mX12_key) mt_X12_key rfl os_X12_key MT_len ((mA.cons msb_37 (mA.cons msb_58 (mA.cons msb_50 (mA.cons msb_42 mA.nil))))) (fun _ _ _ _ => trivial) (by decide +kernel)
def smb_96 : aM := (0, 1, [(1, 43, 0), (1, 27, 0)], [], [(43, 0, 1), (44, 0, 7), (45, 0, 7), (46, 0, 7), (47, 0, 199)], [(none, [], [])])
def lbb_96 : List aLab := []
theorem msb_96 : MSok bT (fun _ => True) MT smb_96 := achk_ok (nm := 297) (sm := []) (labs := lbb_96) (sp := []) (fuel := 47) (rE := [(1000000, (2, 0))]) (maxL := 2) (M := mX6_copyFrom) mt_X6_copyFrom rfl os_X6_copyFrom MT_len ( mA.nil) (fun _ _ _ _ => trivial) (by decide +kernel)
def smb_97 : aM := (111, 2, [(1, 35, 0), (1, 19, 0)], [(19, 8, 0, 0), (35, 8, 0, 6)], [(35, 1, 4), (35, 8, 9), (35, 16, 16), (36, 0, 15), (37, 0, 5), (38, 0, 5), (39, 0, 5), (40, 0, 5), (41, 0, 5), (42, 0, 5), (43, 0, 1), (44, 0, 7), (45, 0, 7), (46, 0, 7), (47, 0, 199), (48, 0, 23)], [(none, [], [(19, 8, 0, 0), (35, 8, 0, 0)])])
def lbb_97 : List aLab := []
theorem msb_97 : MSok bT (fun _ => True) MT smb_97 := achk_ok (nm := 297) (sm := [smb_96]) (labs := lbb_97) (sp := []) (fuel := 103) (rE := [(1000000, (2, 0))]) (maxL := 2) (M := mX1_copyFrom) mt_X1_copyFrom rfl os_X1_copyFrom MT_len ((mA.cons msb_96 mA.nil)) (fun _ _ _ _ => trivial) (by decide +kernel)
def smb_98 : aM := (292, 3, [(1, 0, 0)], [(19, 8, 0, 0)], [(0, 2, 2), (35, 1, 4), (35, 8, 9), (35, 16, 16), (36, 0, 15), (37, 0, 5), (38, 0, 5), (39, 0, 5), (40, 0, 5), (41, 0, 5), (42, 0, 5), (43, 0, 1), (44, 0, 7), (45, 0, 7), (46, 0, 7), (47, 0, 199), (48, 0, 23)], [(some (1, 1), [], [(0, 2, 1, 1), (19, 8, 0, 0), (35, 8, 0, 0)])])
def lbb_98 : List aLab := []
theorem msb_98 : MSok bT (fun _ => True) MT smb_98 := achk_ok (nm := 297) (sm := [smb_97]) (labs := lbb_98) (sp := []) (fuel := 15) (rE := [(1000000, (2, 0))]) (maxL := 1) (M := mX11_keep) mt_X11_keep rfl os_X11_keep MT_len ((mA.cons msb_97 mA.nil)) (fun _ _ _ _ => trivial) (by decide +kernel)
def smb_99 : aM := (111, 2, [(1, 35, 0), (1, 19, 0)], [(19, 8, 1, 1), (35, 8, 0, 6)], [(35, 1, 4), (35, 8, 9), (35, 16, 16), (36, 0, 15), (37, 0, 5), (38, 0, 5), (39, 0, 5), (40, 0, 5), (41, 0, 5), (42, 0, 5), (43, 0, 1), (44, 0, 7), (45, 0, 7), (46, 0, 7), (47, 0, 199), (48, 0, 23)], [(none, [], [(19, 8, 1, 1), (35, 8, 1, 1)])])
def lbb_99 : List aLab := []
theorem msb_99 : MSok bT (fun _ => True) MT smb_99 := achk_ok (nm := 297) (sm := [smb_96]) (labs := lbb_99) (sp := []) (fuel := 103) (rE := [(1000000, (2, 0))]) (maxL := 2) (M := mX1_copyFrom) mt_X1_copyFrom rfl os_X1_copyFrom MT_len ((mA.cons msb_96 mA.nil)) (fun _ _ _ _ => trivial) (by decide +kernel)
def smb_100 : aM := (292, 3, [(1, 0, 0)], [(19, 8, 1, 1)], [(0, 2, 2), (35, 1, 4), (35, 8, 9), (35, 16, 16), (36, 0, 15), (37, 0, 5), (38, 0, 5), (39, 0, 5), (40, 0, 5), (41, 0, 5), (42, 0, 5), (43, 0, 1), (44, 0, 7), (45, 0, 7), (46, 0, 7), (47, 0, 199), (48, 0, 23)], [(some (1, 1), [], [(0, 2, 1, 1), (19, 8, 1, 1), (35, 8, 1, 1)])])
def lbb_100 : List aLab := []
theorem msb_100 : MSok bT (fun _ => True) MT smb_100 := achk_ok (nm := 297) (sm := [smb_99]) (labs := lbb_100) (sp := []) (fuel := 15) (rE := [(1000000, (2, 0))]) (maxL := 1) (M := mX11_keep) mt_X11_keep rfl os_X11_keep MT_len ((mA.cons msb_99 mA.nil)) (fun _ _ _ _ => trivial) (by decide +kernel)
def smb_101 : aM := (111, 2, [(1, 35, 0), (1, 19, 0)], [(19, 8, 2, 2), (35, 8, 0, 6)], [(35, 1, 4), (35, 8, 9), (35, 16, 16), (36, 0, 15), (37, 0, 5), (38, 0, 5), (39, 0, 5), (40, 0, 5), (41, 0, 5), (42, 0, 5), (43, 0, 1), (44, 0, 7), (45, 0, 7), (46, 0, 7), (47, 0, 199), (48, 0, 23)], [(none, [], [(19, 8, 2, 2), (35, 8, 2, 2)])])
def lbb_101 : List aLab := []
theorem msb_101 : MSok bT (fun _ => True) MT smb_101 := achk_ok (nm := 297) (sm := [smb_96]) (labs := lbb_101) (sp := []) (fuel := 103) (rE := [(1000000, (2, 0))]) (maxL := 2) (M := mX1_copyFrom) mt_X1_copyFrom rfl os_X1_copyFrom MT_len ((mA.cons msb_96 mA.nil)) (fun _ _ _ _ => trivial) (by decide +kernel)
def smb_102 : aM := (292, 3, [(1, 0, 0)], [(19, 8, 2, 2)], [(0, 2, 2), (35, 1, 4), (35, 8, 9), (35, 16, 16), (36, 0, 15), (37, 0, 5), (38, 0, 5), (39, 0, 5), (40, 0, 5), (41, 0, 5), (42, 0, 5), (43, 0, 1), (44, 0, 7), (45, 0, 7), (46, 0, 7), (47, 0, 199), (48, 0, 23)], [(some (1, 1), [], [(0, 2, 1, 1), (19, 8, 2, 2), (35, 8, 2, 2)])])
def lbb_102 : List aLab := []
theorem msb_102 : MSok bT (fun _ => True) MT smb_102 := achk_ok (nm := 297) (sm := [smb_101]) (labs := lbb_102) (sp := []) (fuel := 15) (rE := [(1000000, (2, 0))]) (maxL := 1) (M := mX11_keep) mt_X11_keep rfl os_X11_keep MT_len ((mA.cons msb_101 mA.nil)) (fun _ _ _ _ => trivial) (by decide +kernel)
def smb_103 : aM := (111, 2, [(1, 35, 0), (1, 19, 0)], [(19, 8, 3, 3), (35, 8, 0, 6)], [(35, 1, 4), (35, 8, 9), (35, 16, 16), (36, 0, 15), (37, 0, 5), (38, 0, 5), (39, 0, 5), (40, 0, 5), (41, 0, 5), (42, 0, 5), (43, 0, 1), (44, 0, 7), (45, 0, 7), (46, 0, 7), (47, 0, 199), (48, 0, 23)], [(none, [], [(19, 8, 3, 3), (35, 8, 3, 3)])])
def lbb_103 : List aLab := []
theorem msb_103 : MSok bT (fun _ => True) MT smb_103 := achk_ok (nm := 297) (sm := [smb_96]) (labs := lbb_103) (sp := []) (fuel := 103) (rE := [(1000000, (2, 0))]) (maxL := 2) (M := mX1_copyFrom) mt_X1_copyFrom rfl os_X1_copyFrom MT_len ((mA.cons msb_96 mA.nil)) (fun _ _ _ _ => trivial) (by decide +kernel)
def smb_104 : aM := (292, 3, [(1, 0, 0)], [(19, 8, 3, 3)], [(0, 2, 2), (35, 1, 4), (35, 8, 9), (35, 16, 16), (36, 0, 15), (37, 0, 5), (38, 0, 5), (39, 0, 5), (40, 0, 5), (41, 0, 5), (42, 0, 5), (43, 0, 1), (44, 0, 7), (45, 0, 7), (46, 0, 7), (47, 0, 199), (48, 0, 23)], [(some (1, 1), [], [(0, 2, 1, 1), (19, 8, 3, 3), (35, 8, 3, 3)])])
def lbb_104 : List aLab := []
theorem msb_104 : MSok bT (fun _ => True) MT smb_104 := achk_ok (nm := 297) (sm := [smb_103]) (labs := lbb_104) (sp := []) (fuel := 15) (rE := [(1000000, (2, 0))]) (maxL := 1) (M := mX11_keep) mt_X11_keep rfl os_X11_keep MT_len ((mA.cons msb_103 mA.nil)) (fun _ _ _ _ => trivial) (by decide +kernel)
def smb_105 : aM := (111, 2, [(1, 35, 0), (1, 19, 0)], [(19, 8, 4, 4), (35, 8, 0, 6)], [(35, 1, 4), (35, 8, 9), (35, 16, 16), (36, 0, 15), (37, 0, 5), (38, 0, 5), (39, 0, 5), (40, 0, 5), (41, 0, 5), (42, 0, 5), (43, 0, 1), (44, 0, 7), (45, 0, 7), (46, 0, 7), (47, 0, 199), (48, 0, 23)], [(none, [], [(19, 8, 4, 4), (35, 8, 4, 4)])])
def lbb_105 : List aLab := []
theorem msb_105 : MSok bT (fun _ => True) MT smb_105 := achk_ok (nm := 297) (sm := [smb_96]) (labs := lbb_105) (sp := []) (fuel := 103) (rE := [(1000000, (2, 0))]) (maxL := 2) (M := mX1_copyFrom) mt_X1_copyFrom rfl os_X1_copyFrom MT_len ((mA.cons msb_96 mA.nil)) (fun _ _ _ _ => trivial) (by decide +kernel)
def smb_106 : aM := (292, 3, [(1, 0, 0)], [(19, 8, 4, 4)], [(0, 2, 2), (35, 1, 4), (35, 8, 9), (35, 16, 16), (36, 0, 15), (37, 0, 5), (38, 0, 5), (39, 0, 5), (40, 0, 5), (41, 0, 5), (42, 0, 5), (43, 0, 1), (44, 0, 7), (45, 0, 7), (46, 0, 7), (47, 0, 199), (48, 0, 23)], [(some (1, 1), [], [(0, 2, 1, 1), (19, 8, 4, 4), (35, 8, 4, 4)])])
def lbb_106 : List aLab := []
theorem msb_106 : MSok bT (fun _ => True) MT smb_106 := achk_ok (nm := 297) (sm := [smb_105]) (labs := lbb_106) (sp := []) (fuel := 15) (rE := [(1000000, (2, 0))]) (maxL := 1) (M := mX11_keep) mt_X11_keep rfl os_X11_keep MT_len ((mA.cons msb_105 mA.nil)) (fun _ _ _ _ => trivial) (by decide +kernel)
def smb_107 : aM := (111, 2, [(1, 35, 0), (1, 19, 0)], [(19, 8, 5, 5), (35, 8, 0, 6)], [(35, 1, 4), (35, 8, 9), (35, 16, 16), (36, 0, 15), (37, 0, 5), (38, 0, 5), (39, 0, 5), (40, 0, 5), (41, 0, 5), (42, 0, 5), (43, 0, 1), (44, 0, 7), (45, 0, 7), (46, 0, 7), (47, 0, 199), (48, 0, 23)], [(none, [], [(19, 8, 5, 5), (35, 8, 5, 5)])])
def lbb_107 : List aLab := []
theorem msb_107 : MSok bT (fun _ => True) MT smb_107 := achk_ok (nm := 297) (sm := [smb_96]) (labs := lbb_107) (sp := []) (fuel := 103) (rE := [(1000000, (2, 0))]) (maxL := 2) (M := mX1_copyFrom) mt_X1_copyFrom rfl os_X1_copyFrom MT_len ((mA.cons msb_96 mA.nil)) (fun _ _ _ _ => trivial) (by decide +kernel)
def smb_108 : aM := (292, 3, [(1, 0, 0)], [(19, 8, 5, 5)], [(0, 2, 2), (35, 1, 4), (35, 8, 9), (35, 16, 16), (36, 0, 15), (37, 0, 5), (38, 0, 5), (39, 0, 5), (40, 0, 5), (41, 0, 5), (42, 0, 5), (43, 0, 1), (44, 0, 7), (45, 0, 7), (46, 0, 7), (47, 0, 199), (48, 0, 23)], [(some (1, 1), [], [(0, 2, 1, 1), (19, 8, 5, 5), (35, 8, 5, 5)])])
def lbb_108 : List aLab := []
theorem msb_108 : MSok bT (fun _ => True) MT smb_108 := achk_ok (nm := 297) (sm := [smb_107]) (labs := lbb_108) (sp := []) (fuel := 15) (rE := [(1000000, (2, 0))]) (maxL := 1) (M := mX11_keep) mt_X11_keep rfl os_X11_keep MT_len ((mA.cons msb_107 mA.nil)) (fun _ _ _ _ => trivial) (by decide +kernel)
def smb_109 : aM := (111, 2, [(1, 35, 0), (1, 19, 0)], [(19, 8, 6, 6), (35, 8, 0, 6)], [(35, 1, 4), (35, 8, 9), (35, 16, 16), (36, 0, 15), (37, 0, 5), (38, 0, 5), (39, 0, 5), (40, 0, 5), (41, 0, 5), (42, 0, 5), (43, 0, 1), (44, 0, 7), (45, 0, 7), (46, 0, 7), (47, 0, 199), (48, 0, 23)], [(none, [], [(19, 8, 6, 6), (35, 8, 6, 6)])])
def lbb_109 : List aLab := []
theorem msb_109 : MSok bT (fun _ => True) MT smb_109 := achk_ok (nm := 297) (sm := [smb_96]) (labs := lbb_109) (sp := []) (fuel := 103) (rE := [(1000000, (2, 0))]) (maxL := 2) (M := mX1_copyFrom) mt_X1_copyFrom rfl os_X1_copyFrom MT_len ((mA.cons msb_96 mA.nil)) (fun _ _ _ _ => trivial) (by decide +kernel)
def smb_110 : aM := (292, 3, [(1, 0, 0)], [(19, 8, 6, 6)], [(0, 2, 2), (35, 1, 4), (35, 8, 9), (35, 16, 16), (36, 0, 15), (37, 0, 5), (38, 0, 5), (39, 0, 5), (40, 0, 5), (41, 0, 5), (42, 0, 5), (43, 0, 1), (44, 0, 7), (45, 0, 7), (46, 0, 7), (47, 0, 199), (48, 0, 23)], [(some (1, 1), [], [(0, 2, 1, 1), (19, 8, 6, 6), (35, 8, 6, 6)])])
def lbb_110 : List aLab := []
theorem msb_110 : MSok bT (fun _ => True) MT smb_110 := achk_ok (nm := 297) (sm := [smb_109]) (labs := lbb_110) (sp := []) (fuel := 15) (rE := [(1000000, (2, 0))]) (maxL := 1) (M := mX11_keep) mt_X11_keep rfl os_X11_keep MT_len ((mA.cons msb_109 mA.nil)) (fun _ _ _ _ => trivial) (by decide +kernel)
def smb_111 : aM := (294, 0, [(1, 0, 0)], [(0, 2, 0, 0)], [], [(some ((-3), (-3)), [], [(0, 2, 0, 0)])])
def lbb_111 : List aLab := []
theorem msb_111 : MSok bT (fun _ => True) MT smb_111 := achk_ok (nm := 297) (sm := []) (labs := lbb_111) (sp := []) (fuel := 10) (rE := [(1000000, (2, 0))]) (maxL := 1) (M := mX11_again) mt_X11_again rfl os_X11_again MT_len ( mA.nil) (fun _ _ _ _ => trivial) (by decide +kernel)
def smb_112 : aM := (0, 1, [(1, 27, 0), (1, 43, 0)], [], [(27, 0, 1), (28, 0, 7), (29, 0, 7), (30, 0, 7), (31, 0, 199)], [(none, [], [])])
def lbb_112 : List aLab := []
theorem msb_112 : MSok bT (fun _ => True) MT smb_112 := achk_ok (nm := 297) (sm := []) (labs := lbb_112) (sp := []) (fuel := 47) (rE := [(1000000, (2, 0))]) (maxL := 2) (M := mX6_copyFrom) mt_X6_copyFrom rfl os_X6_copyFrom MT_len ( mA.nil) (fun _ _ _ _ => trivial) (by decide +kernel)
def smb_113 : aM := (111, 2, [(1, 19, 0), (1, 35, 0)], [(19, 8, 0, 6), (35, 8, 0, 0)], [(19, 1, 4), (19, 8, 9), (19, 16, 16), (20, 0, 15), (21, 0, 5), (22, 0, 5), (23, 0, 5), (24, 0, 5), (25, 0, 5), (26, 0, 5), (27, 0, 1), (28, 0, 7), (29, 0, 7), (30, 0, 7), (31, 0, 199), (32, 0, 23)], [(none, [], [(19, 8, 0, 0), (35, 8, 0, 0)])])
def lbb_113 : List aLab := []
theorem msb_113 : MSok bT (fun _ => True) MT smb_113 := achk_ok (nm := 297) (sm := [smb_112]) (labs := lbb_113) (sp := []) (fuel := 103) (rE := [(1000000, (2, 0))]) (maxL := 2) (M := mX1_copyFrom) mt_X1_copyFrom rfl os_X1_copyFrom MT_len ((mA.cons msb_112 mA.nil)) (fun _ _ _ _ => trivial) (by decide +kernel)
def smb_114 : aM := (294, 3, [(1, 0, 0)], [(0, 2, 1, 1), (35, 8, 0, 0)], [(19, 1, 4), (19, 8, 9), (19, 16, 16), (20, 0, 15), (21, 0, 5), (22, 0, 5), (23, 0, 5), (24, 0, 5), (25, 0, 5), (26, 0, 5), (27, 0, 1), (28, 0, 7), (29, 0, 7), (30, 0, 7), (31, 0, 199), (32, 0, 23)], [(some (0, 0), [], [(0, 2, 1, 1), (19, 8, 0, 0), (35, 8, 0, 0)])])
def lbb_114 : List aLab := []
theorem msb_114 : MSok bT (fun _ => True) MT smb_114 := achk_ok (nm := 297) (sm := [smb_113]) (labs := lbb_114) (sp := []) (fuel := 17) (rE := [(1000000, (2, 0))]) (maxL := 1) (M := mX11_again) mt_X11_again rfl os_X11_again MT_len ((mA.cons msb_113 mA.nil)) (fun _ _ _ _ => trivial) (by decide +kernel)
def smb_115 : aM := (111, 2, [(1, 19, 0), (1, 35, 0)], [(19, 8, 0, 6), (35, 8, 1, 1)], [(19, 1, 4), (19, 8, 9), (19, 16, 16), (20, 0, 15), (21, 0, 5), (22, 0, 5), (23, 0, 5), (24, 0, 5), (25, 0, 5), (26, 0, 5), (27, 0, 1), (28, 0, 7), (29, 0, 7), (30, 0, 7), (31, 0, 199), (32, 0, 23)], [(none, [], [(19, 8, 1, 1), (35, 8, 1, 1)])])
def lbb_115 : List aLab := []
theorem msb_115 : MSok bT (fun _ => True) MT smb_115 := achk_ok (nm := 297) (sm := [smb_112]) (labs := lbb_115) (sp := []) (fuel := 103) (rE := [(1000000, (2, 0))]) (maxL := 2) (M := mX1_copyFrom) mt_X1_copyFrom rfl os_X1_copyFrom MT_len ((mA.cons msb_112 mA.nil)) (fun _ _ _ _ => trivial) (by decide +kernel)
def smb_116 : aM := (294, 3, [(1, 0, 0)], [(0, 2, 1, 1), (35, 8, 1, 1)], [(19, 1, 4), (19, 8, 9), (19, 16, 16), (20, 0, 15), (21, 0, 5), (22, 0, 5), (23, 0, 5), (24, 0, 5), (25, 0, 5), (26, 0, 5), (27, 0, 1), (28, 0, 7), (29, 0, 7), (30, 0, 7), (31, 0, 199), (32, 0, 23)], [(some (1, 1), [], [(0, 2, 1, 1), (19, 8, 1, 1), (35, 8, 1, 1)])])
def lbb_116 : List aLab := []
theorem msb_116 : MSok bT (fun _ => True) MT smb_116 := achk_ok (nm := 297) (sm := [smb_115]) (labs := lbb_116) (sp := []) (fuel := 17) (rE := [(1000000, (2, 0))]) (maxL := 1) (M := mX11_again) mt_X11_again rfl os_X11_again MT_len ((mA.cons msb_115 mA.nil)) (fun _ _ _ _ => trivial) (by decide +kernel)
def smb_117 : aM := (111, 2, [(1, 19, 0), (1, 35, 0)], [(19, 8, 0, 6), (35, 8, 2, 2)], [(19, 1, 4), (19, 8, 9), (19, 16, 16), (20, 0, 15), (21, 0, 5), (22, 0, 5), (23, 0, 5), (24, 0, 5), (25, 0, 5), (26, 0, 5), (27, 0, 1), (28, 0, 7), (29, 0, 7), (30, 0, 7), (31, 0, 199), (32, 0, 23)], [(none, [], [(19, 8, 2, 2), (35, 8, 2, 2)])])
def lbb_117 : List aLab := []
theorem msb_117 : MSok bT (fun _ => True) MT smb_117 := achk_ok (nm := 297) (sm := [smb_112]) (labs := lbb_117) (sp := []) (fuel := 103) (rE := [(1000000, (2, 0))]) (maxL := 2) (M := mX1_copyFrom) mt_X1_copyFrom rfl os_X1_copyFrom MT_len ((mA.cons msb_112 mA.nil)) (fun _ _ _ _ => trivial) (by decide +kernel)
def smb_118 : aM := (294, 3, [(1, 0, 0)], [(0, 2, 1, 1), (35, 8, 2, 2)], [(19, 1, 4), (19, 8, 9), (19, 16, 16), (20, 0, 15), (21, 0, 5), (22, 0, 5), (23, 0, 5), (24, 0, 5), (25, 0, 5), (26, 0, 5), (27, 0, 1), (28, 0, 7), (29, 0, 7), (30, 0, 7), (31, 0, 199), (32, 0, 23)], [(some (2, 2), [], [(0, 2, 1, 1), (19, 8, 2, 2), (35, 8, 2, 2)])])
def lbb_118 : List aLab := []
theorem msb_118 : MSok bT (fun _ => True) MT smb_118 := achk_ok (nm := 297) (sm := [smb_117]) (labs := lbb_118) (sp := []) (fuel := 17) (rE := [(1000000, (2, 0))]) (maxL := 1) (M := mX11_again) mt_X11_again rfl os_X11_again MT_len ((mA.cons msb_117 mA.nil)) (fun _ _ _ _ => trivial) (by decide +kernel)
def smb_119 : aM := (111, 2, [(1, 19, 0), (1, 35, 0)], [(19, 8, 0, 6), (35, 8, 3, 3)], [(19, 1, 4), (19, 8, 9), (19, 16, 16), (20, 0, 15), (21, 0, 5), (22, 0, 5), (23, 0, 5), (24, 0, 5), (25, 0, 5), (26, 0, 5), (27, 0, 1), (28, 0, 7), (29, 0, 7), (30, 0, 7), (31, 0, 199), (32, 0, 23)], [(none, [], [(19, 8, 3, 3), (35, 8, 3, 3)])])
def lbb_119 : List aLab := []
theorem msb_119 : MSok bT (fun _ => True) MT smb_119 := achk_ok (nm := 297) (sm := [smb_112]) (labs := lbb_119) (sp := []) (fuel := 103) (rE := [(1000000, (2, 0))]) (maxL := 2) (M := mX1_copyFrom) mt_X1_copyFrom rfl os_X1_copyFrom MT_len ((mA.cons msb_112 mA.nil)) (fun _ _ _ _ => trivial) (by decide +kernel)
def smb_120 : aM := (294, 3, [(1, 0, 0)], [(0, 2, 1, 1), (35, 8, 3, 3)], [(19, 1, 4), (19, 8, 9), (19, 16, 16), (20, 0, 15), (21, 0, 5), (22, 0, 5), (23, 0, 5), (24, 0, 5), (25, 0, 5), (26, 0, 5), (27, 0, 1), (28, 0, 7), (29, 0, 7), (30, 0, 7), (31, 0, 199), (32, 0, 23)], [(some (3, 3), [], [(0, 2, 1, 1), (19, 8, 3, 3), (35, 8, 3, 3)])])
def lbb_120 : List aLab := []
theorem msb_120 : MSok bT (fun _ => True) MT smb_120 := achk_ok (nm := 297) (sm := [smb_119]) (labs := lbb_120) (sp := []) (fuel := 17) (rE := [(1000000, (2, 0))]) (maxL := 1) (M := mX11_again) mt_X11_again rfl os_X11_again MT_len ((mA.cons msb_119 mA.nil)) (fun _ _ _ _ => trivial) (by decide +kernel)
def smb_121 : aM := (111, 2, [(1, 19, 0), (1, 35, 0)], [(19, 8, 0, 6), (35, 8, 4, 4)], [(19, 1, 4), (19, 8, 9), (19, 16, 16), (20, 0, 15), (21, 0, 5), (22, 0, 5), (23, 0, 5), (24, 0, 5), (25, 0, 5), (26, 0, 5), (27, 0, 1), (28, 0, 7), (29, 0, 7), (30, 0, 7), (31, 0, 199), (32, 0, 23)], [(none, [], [(19, 8, 4, 4), (35, 8, 4, 4)])])
def lbb_121 : List aLab := []
theorem msb_121 : MSok bT (fun _ => True) MT smb_121 := achk_ok (nm := 297) (sm := [smb_112]) (labs := lbb_121) (sp := []) (fuel := 103) (rE := [(1000000, (2, 0))]) (maxL := 2) (M := mX1_copyFrom) mt_X1_copyFrom rfl os_X1_copyFrom MT_len ((mA.cons msb_112 mA.nil)) (fun _ _ _ _ => trivial) (by decide +kernel)
def smb_122 : aM := (294, 3, [(1, 0, 0)], [(0, 2, 1, 1), (35, 8, 4, 4)], [(19, 1, 4), (19, 8, 9), (19, 16, 16), (20, 0, 15), (21, 0, 5), (22, 0, 5), (23, 0, 5), (24, 0, 5), (25, 0, 5), (26, 0, 5), (27, 0, 1), (28, 0, 7), (29, 0, 7), (30, 0, 7), (31, 0, 199), (32, 0, 23)], [(some (4, 4), [], [(0, 2, 1, 1), (19, 8, 4, 4), (35, 8, 4, 4)])])
def lbb_122 : List aLab := []
theorem msb_122 : MSok bT (fun _ => True) MT smb_122 := achk_ok (nm := 297) (sm := [smb_121]) (labs := lbb_122) (sp := []) (fuel := 17) (rE := [(1000000, (2, 0))]) (maxL := 1) (M := mX11_again) mt_X11_again rfl os_X11_again MT_len ((mA.cons msb_121 mA.nil)) (fun _ _ _ _ => trivial) (by decide +kernel)
def smb_123 : aM := (111, 2, [(1, 19, 0), (1, 35, 0)], [(19, 8, 0, 6), (35, 8, 5, 5)], [(19, 1, 4), (19, 8, 9), (19, 16, 16), (20, 0, 15), (21, 0, 5), (22, 0, 5), (23, 0, 5), (24, 0, 5), (25, 0, 5), (26, 0, 5), (27, 0, 1), (28, 0, 7), (29, 0, 7), (30, 0, 7), (31, 0, 199), (32, 0, 23)], [(none, [], [(19, 8, 5, 5), (35, 8, 5, 5)])])
def lbb_123 : List aLab := []
theorem msb_123 : MSok bT (fun _ => True) MT smb_123 := achk_ok (nm := 297) (sm := [smb_112]) (labs := lbb_123) (sp := []) (fuel := 103) (rE := [(1000000, (2, 0))]) (maxL := 2) (M := mX1_copyFrom) mt_X1_copyFrom rfl os_X1_copyFrom MT_len ((mA.cons msb_112 mA.nil)) (fun _ _ _ _ => trivial) (by decide +kernel)
def smb_124 : aM := (294, 3, [(1, 0, 0)], [(0, 2, 1, 1), (35, 8, 5, 5)], [(19, 1, 4), (19, 8, 9), (19, 16, 16), (20, 0, 15), (21, 0, 5), (22, 0, 5), (23, 0, 5), (24, 0, 5), (25, 0, 5), (26, 0, 5), (27, 0, 1), (28, 0, 7), (29, 0, 7), (30, 0, 7), (31, 0, 199), (32, 0, 23)], [(some (5, 5), [], [(0, 2, 1, 1), (19, 8, 5, 5), (35, 8, 5, 5)])])
def lbb_124 : List aLab := []
theorem msb_124 : MSok bT (fun _ => True) MT smb_124 := achk_ok (nm := 297) (sm := [smb_123]) (labs := lbb_124) (sp := []) (fuel := 17) (rE := [(1000000, (2, 0))]) (maxL := 1) (M := mX11_again) mt_X11_again rfl os_X11_again MT_len ((mA.cons msb_123 mA.nil)) (fun _ _ _ _ => trivial) (by decide +kernel)
def smb_125 : aM := (111, 2, [(1, 19, 0), (1, 35, 0)], [(19, 8, 0, 6), (35, 8, 6, 6)], [(19, 1, 4), (19, 8, 9), (19, 16, 16), (20, 0, 15), (21, 0, 5), (22, 0, 5), (23, 0, 5), (24, 0, 5), (25, 0, 5), (26, 0, 5), (27, 0, 1), (28, 0, 7), (29, 0, 7), (30, 0, 7), (31, 0, 199), (32, 0, 23)], [(none, [], [(19, 8, 6, 6), (35, 8, 6, 6)])])
def lbb_125 : List aLab := []
theorem msb_125 : MSok bT (fun _ => True) MT smb_125 := achk_ok (nm := 297) (sm := [smb_112]) (labs := lbb_125) (sp := []) (fuel := 103) (rE := [(1000000, (2, 0))]) (maxL := 2) (M := mX1_copyFrom) mt_X1_copyFrom rfl os_X1_copyFrom MT_len ((mA.cons msb_112 mA.nil)) (fun _ _ _ _ => trivial) (by decide +kernel)
def smb_126 : aM := (294, 3, [(1, 0, 0)], [(0, 2, 1, 1), (35, 8, 6, 6)], [(19, 1, 4), (19, 8, 9), (19, 16, 16), (20, 0, 15), (21, 0, 5), (22, 0, 5), (23, 0, 5), (24, 0, 5), (25, 0, 5), (26, 0, 5), (27, 0, 1), (28, 0, 7), (29, 0, 7), (30, 0, 7), (31, 0, 199), (32, 0, 23)], [(some (6, 6), [], [(0, 2, 1, 1), (19, 8, 6, 6), (35, 8, 6, 6)])])
def lbb_126 : List aLab := []
theorem msb_126 : MSok bT (fun _ => True) MT smb_126 := achk_ok (nm := 297) (sm := [smb_125]) (labs := lbb_126) (sp := []) (fuel := 17) (rE := [(1000000, (2, 0))]) (maxL := 1) (M := mX11_again) mt_X11_again rfl os_X11_again MT_len ((mA.cons msb_125 mA.nil)) (fun _ _ _ _ => trivial) (by decide +kernel)
theorem pb_keyX (d : Nat) (a b c e : Int32) (I : gI) (hi : aInv bT I) (hw : WF I) : gg (d + 40) mX11_key 0 (gent mX11_key.2.2.1 (.ref 0 :: [a, b, c, e].map Value.int)) [] I (pbM (fun x J => aInv bT J ∧ WF0 J ∧ (x, J 19 8) = kk a b c e (I 19 8) ∧ J 68 4 = I 19 8 ∧ J 35 8 = J 69 4 ∧ J 0 2 = J 67 3)) := by
  have ra : (-2147483648 : Int) ≤ a.toInt ∧ a.toInt ≤ 2147483647 := a_rng a
  have rb : (-2147483648 : Int) ≤ b.toInt ∧ b.toInt ≤ 2147483647 := a_rng b
  have rc : (-2147483648 : Int) ≤ c.toInt ∧ c.toInt ≤ 2147483647 := a_rng c
  have re : (-2147483648 : Int) ≤ e.toInt ∧ e.toInt ≤ 2147483647 := a_rng e
  have rn := ain_of hi (show bnd bT 19 8 = (0, 6) by decide +kernel)
  dsimp only at rn
  generalize hK : kk a b c e (I 19 8) = q
  unfold kk at hK
  split at hK
  · subst hK
    exact pb_boxM (v := -1) (cell := 0) (xs := [a, b, c, e]) msb_2 mt_X11_key (by decide +kernel) (by decide +kernel) hi (bx4 (cell := 0) (by omega)) (fun s hs => absurd hs List.not_mem_nil) (fun J hJ hf _ => endX hw hJ hf (by decide +kernel) (by decide +kernel) (by decide +kernel) (by decide +kernel) (by decide +kernel) (by decide +kernel) (by rw [hf 19 8 rfl]))
  split at hK
  · subst hK
    exact pb_boxM (v := -1) (cell := 0) (xs := [a, b, c, e]) msb_5 mt_X11_key (by decide +kernel) (by decide +kernel) hi (bx4 (cell := 0) (by omega)) (fun s hs => absurd hs List.not_mem_nil) (fun J hJ hf _ => endX hw hJ hf (by decide +kernel) (by decide +kernel) (by decide +kernel) (by decide +kernel) (by decide +kernel) (by decide +kernel) (by rw [hf 19 8 rfl]))
  split at hK
  · subst hK
    exact pb_boxM (v := -1) (cell := 0) (xs := [a, b, c, e]) msb_9 mt_X11_key (by decide +kernel) (by decide +kernel) hi (bx4 (cell := 0) (by omega)) (fun s hs => absurd hs List.not_mem_nil) (fun J hJ hf _ => endX hw hJ hf (by decide +kernel) (by decide +kernel) (by decide +kernel) (by decide +kernel) (by decide +kernel) (by decide +kernel) (by rw [hf 19 8 rfl]))
  split at hK
  · subst hK
    exact pb_boxM (v := -1) (cell := 0) (xs := [a, b, c, e]) msb_11 mt_X11_key (by decide +kernel) (by decide +kernel) hi (bx4 (cell := 0) (by omega)) (fun s hs => absurd hs List.not_mem_nil) (fun J hJ hf _ => endX hw hJ hf (by decide +kernel) (by decide +kernel) (by decide +kernel) (by decide +kernel) (by decide +kernel) (by decide +kernel) (by rw [hf 19 8 rfl]))
  split at hK
  · subst hK
    exact pb_boxM (v := -1) (cell := 0) (xs := [a, b, c, e]) msb_14 mt_X11_key (by decide +kernel) (by decide +kernel) hi (bx4 (cell := 0) (by omega)) (fun s hs => absurd hs List.not_mem_nil) (fun J hJ hf _ => endX hw hJ hf (by decide +kernel) (by decide +kernel) (by decide +kernel) (by decide +kernel) (by decide +kernel) (by decide +kernel) (by rw [hf 19 8 rfl]))
  split at hK
  · subst hK
    exact pb_boxM (v := -1) (cell := 0) (xs := [a, b, c, e]) msb_16 mt_X11_key (by decide +kernel) (by decide +kernel) hi (bx4 (cell := 0) (by omega)) (fun s hs => absurd hs List.not_mem_nil) (fun J hJ hf _ => endX hw hJ hf (by decide +kernel) (by decide +kernel) (by decide +kernel) (by decide +kernel) (by decide +kernel) (by decide +kernel) (by rw [hf 19 8 rfl]))
  split at hK
  · subst hK
    exact pb_boxM (v := -1) (cell := 0) (xs := [a, b, c, e]) msb_20 mt_X11_key (by decide +kernel) (by decide +kernel) hi (bx4 (cell := 0) (by omega)) (fun s hs => absurd hs List.not_mem_nil) (fun J hJ hf _ => endX hw hJ hf (by decide +kernel) (by decide +kernel) (by decide +kernel) (by decide +kernel) (by decide +kernel) (by decide +kernel) (by rw [hf 19 8 rfl]))
  split at hK
  · subst hK
    exact pb_boxM (v := -1) (cell := 0) (xs := [a, b, c, e]) msb_23 mt_X11_key (by decide +kernel) (by decide +kernel) hi (bx4 (cell := 0) (by omega)) (fun s hs => absurd hs List.not_mem_nil) (fun J hJ hf _ => endX hw hJ hf (by decide +kernel) (by decide +kernel) (by decide +kernel) (by decide +kernel) (by decide +kernel) (by decide +kernel) (by rw [hf 19 8 rfl]))
  rcases lt7 rn with n0 | n0 | n0 | n0 | n0 | n0 | n0
  · rw [n0] at hK
    rw [if_neg (by decide)] at hK
    subst hK
    exact pb_boxM (v := 0) (cell := 0) (xs := [a, b, c, e]) msb_26 mt_X11_key (by decide +kernel) (by decide +kernel) hi (bx4 (cell := 0) (by omega)) (pr1 (sl0 n0 (by decide +kernel) (by decide +kernel))) (fun J hJ hf hs => endX hw hJ hf (by decide +kernel) (by decide +kernel) (by decide +kernel) (by decide +kernel) (by decide +kernel) (by decide +kernel) (by rw [sl1 (x := 1) (hs _ List.mem_cons_self) (by decide +kernel) (by decide +kernel)] <;> first | rfl | decide))
  · rw [n0] at hK
    rw [if_neg (by decide)] at hK
    subst hK
    exact pb_boxM (v := 1) (cell := 0) (xs := [a, b, c, e]) msb_27 mt_X11_key (by decide +kernel) (by decide +kernel) hi (bx4 (cell := 0) (by omega)) (pr1 (sl0 n0 (by decide +kernel) (by decide +kernel))) (fun J hJ hf hs => endX hw hJ hf (by decide +kernel) (by decide +kernel) (by decide +kernel) (by decide +kernel) (by decide +kernel) (by decide +kernel) (by rw [sl1 (x := 2) (hs _ List.mem_cons_self) (by decide +kernel) (by decide +kernel)] <;> first | rfl | decide))
  · rw [n0] at hK
    rw [if_neg (by decide)] at hK
    subst hK
    exact pb_boxM (v := 2) (cell := 0) (xs := [a, b, c, e]) msb_28 mt_X11_key (by decide +kernel) (by decide +kernel) hi (bx4 (cell := 0) (by omega)) (pr1 (sl0 n0 (by decide +kernel) (by decide +kernel))) (fun J hJ hf hs => endX hw hJ hf (by decide +kernel) (by decide +kernel) (by decide +kernel) (by decide +kernel) (by decide +kernel) (by decide +kernel) (by rw [sl1 (x := 3) (hs _ List.mem_cons_self) (by decide +kernel) (by decide +kernel)] <;> first | rfl | decide))
  · rw [n0] at hK
    rw [if_neg (by decide)] at hK
    subst hK
    exact pb_boxM (v := 3) (cell := 0) (xs := [a, b, c, e]) msb_29 mt_X11_key (by decide +kernel) (by decide +kernel) hi (bx4 (cell := 0) (by omega)) (pr1 (sl0 n0 (by decide +kernel) (by decide +kernel))) (fun J hJ hf hs => endX hw hJ hf (by decide +kernel) (by decide +kernel) (by decide +kernel) (by decide +kernel) (by decide +kernel) (by decide +kernel) (by rw [sl1 (x := 4) (hs _ List.mem_cons_self) (by decide +kernel) (by decide +kernel)] <;> first | rfl | decide))
  · rw [n0] at hK
    rw [if_neg (by decide)] at hK
    subst hK
    exact pb_boxM (v := 4) (cell := 0) (xs := [a, b, c, e]) msb_30 mt_X11_key (by decide +kernel) (by decide +kernel) hi (bx4 (cell := 0) (by omega)) (pr1 (sl0 n0 (by decide +kernel) (by decide +kernel))) (fun J hJ hf hs => endX hw hJ hf (by decide +kernel) (by decide +kernel) (by decide +kernel) (by decide +kernel) (by decide +kernel) (by decide +kernel) (by rw [sl1 (x := 5) (hs _ List.mem_cons_self) (by decide +kernel) (by decide +kernel)] <;> first | rfl | decide))
  · rw [n0] at hK
    rw [if_neg (by decide)] at hK
    subst hK
    exact pb_boxM (v := 5) (cell := 0) (xs := [a, b, c, e]) msb_31 mt_X11_key (by decide +kernel) (by decide +kernel) hi (bx4 (cell := 0) (by omega)) (pr1 (sl0 n0 (by decide +kernel) (by decide +kernel))) (fun J hJ hf hs => endX hw hJ hf (by decide +kernel) (by decide +kernel) (by decide +kernel) (by decide +kernel) (by decide +kernel) (by decide +kernel) (by rw [sl1 (x := 6) (hs _ List.mem_cons_self) (by decide +kernel) (by decide +kernel)] <;> first | rfl | decide))
  · rw [n0] at hK
    rw [if_pos rfl] at hK
    subst hK
    exact pb_boxM (v := -2) (cell := 0) (xs := [a, b, c, e]) msb_32 mt_X11_key (by decide +kernel) (by decide +kernel) hi (bx4 (cell := 0) (by omega)) (pr1 (sl0 n0 (by decide +kernel) (by decide +kernel))) (fun J hJ hf hs => endX hw hJ hf (by decide +kernel) (by decide +kernel) (by decide +kernel) (by decide +kernel) (by decide +kernel) (by decide +kernel) (by rw [sl1 (x := 6) (hs _ List.mem_cons_self) (by decide +kernel) (by decide +kernel)] <;> first | rfl | decide))
theorem pb_keyM (d : Nat) (a b c e n x : Int32) (J : gI) (hR : aInv bT J ∧ WF0 J ∧ (x, J 19 8) = kk a b c e n ∧ J 68 4 = n ∧ J 35 8 = J 69 4 ∧ J 0 2 = J 67 3) : gg (d + 40) mX12_key 0 (gent mX12_key.2.2.1 (.ref 67 :: [a, b, c, e].map Value.int)) [] J (pbM (fun y J' => y = x ∧ aInv bT J' ∧ WF J')) := by
  have ra : (-2147483648 : Int) ≤ a.toInt ∧ a.toInt ≤ 2147483647 := a_rng a
  have rb : (-2147483648 : Int) ≤ b.toInt ∧ b.toInt ≤ 2147483647 := a_rng b
  have rc : (-2147483648 : Int) ≤ c.toInt ∧ c.toInt ≤ 2147483647 := a_rng c
  have re : (-2147483648 : Int) ≤ e.toInt ∧ e.toInt ≤ 2147483647 := a_rng e
  obtain ⟨hi, hw, hK, h4, h5, h6⟩ := hR
  have rn := ain_of hi (show bnd bT 68 4 = (0, 6) by decide +kernel)
  dsimp only at rn
  rw [h4] at rn
  unfold kk at hK
  split at hK
  · obtain ⟨hx, hc⟩ := Prod.mk.inj hK
    exact pb_boxM (v := -1) (cell := 67) (xs := [a, b, c, e]) msb_34 mt_X12_key (by decide +kernel) (by decide +kernel) hi (bx4 (cell := 67) (by omega)) (fun s hs => absurd hs List.not_mem_nil) (fun J' hJ hf _ => ⟨hx.symm, hJ, endM hw hf (by decide +kernel) (by decide +kernel) (by decide +kernel) (by decide +kernel) (by decide +kernel) (by decide +kernel) (by rw [hf 68 4 rfl, hc, h4]) h5 h6⟩)
  split at hK
  · obtain ⟨hx, hc⟩ := Prod.mk.inj hK
    exact pb_boxM (v := -1) (cell := 67) (xs := [a, b, c, e]) msb_36 mt_X12_key (by decide +kernel) (by decide +kernel) hi (bx4 (cell := 67) (by omega)) (fun s hs => absurd hs List.not_mem_nil) (fun J' hJ hf _ => ⟨hx.symm, hJ, endM hw hf (by decide +kernel) (by decide +kernel) (by decide +kernel) (by decide +kernel) (by decide +kernel) (by decide +kernel) (by rw [hf 68 4 rfl, hc, h4]) h5 h6⟩)
  split at hK
  · obtain ⟨hx, hc⟩ := Prod.mk.inj hK
    exact pb_boxM (v := -1) (cell := 67) (xs := [a, b, c, e]) msb_39 mt_X12_key (by decide +kernel) (by decide +kernel) hi (bx4 (cell := 67) (by omega)) (fun s hs => absurd hs List.not_mem_nil) (fun J' hJ hf _ => ⟨hx.symm, hJ, endM hw hf (by decide +kernel) (by decide +kernel) (by decide +kernel) (by decide +kernel) (by decide +kernel) (by decide +kernel) (by rw [hf 68 4 rfl, hc, h4]) h5 h6⟩)
  split at hK
  · obtain ⟨hx, hc⟩ := Prod.mk.inj hK
    exact pb_boxM (v := -1) (cell := 67) (xs := [a, b, c, e]) msb_41 mt_X12_key (by decide +kernel) (by decide +kernel) hi (bx4 (cell := 67) (by omega)) (fun s hs => absurd hs List.not_mem_nil) (fun J' hJ hf _ => ⟨hx.symm, hJ, endM hw hf (by decide +kernel) (by decide +kernel) (by decide +kernel) (by decide +kernel) (by decide +kernel) (by decide +kernel) (by rw [hf 68 4 rfl, hc, h4]) h5 h6⟩)
  split at hK
  · obtain ⟨hx, hc⟩ := Prod.mk.inj hK
    exact pb_boxM (v := -1) (cell := 67) (xs := [a, b, c, e]) msb_45 mt_X12_key (by decide +kernel) (by decide +kernel) hi (bx4 (cell := 67) (by omega)) (fun s hs => absurd hs List.not_mem_nil) (fun J' hJ hf _ => ⟨hx.symm, hJ, endM hw hf (by decide +kernel) (by decide +kernel) (by decide +kernel) (by decide +kernel) (by decide +kernel) (by decide +kernel) (by rw [hf 68 4 rfl, hc, h4]) h5 h6⟩)
  split at hK
  · obtain ⟨hx, hc⟩ := Prod.mk.inj hK
    exact pb_boxM (v := -1) (cell := 67) (xs := [a, b, c, e]) msb_48 mt_X12_key (by decide +kernel) (by decide +kernel) hi (bx4 (cell := 67) (by omega)) (fun s hs => absurd hs List.not_mem_nil) (fun J' hJ hf _ => ⟨hx.symm, hJ, endM hw hf (by decide +kernel) (by decide +kernel) (by decide +kernel) (by decide +kernel) (by decide +kernel) (by decide +kernel) (by rw [hf 68 4 rfl, hc, h4]) h5 h6⟩)
  split at hK
  · obtain ⟨hx, hc⟩ := Prod.mk.inj hK
    exact pb_boxM (v := -1) (cell := 67) (xs := [a, b, c, e]) msb_53 mt_X12_key (by decide +kernel) (by decide +kernel) hi (bx4 (cell := 67) (by omega)) (fun s hs => absurd hs List.not_mem_nil) (fun J' hJ hf _ => ⟨hx.symm, hJ, endM hw hf (by decide +kernel) (by decide +kernel) (by decide +kernel) (by decide +kernel) (by decide +kernel) (by decide +kernel) (by rw [hf 68 4 rfl, hc, h4]) h5 h6⟩)
  split at hK
  · obtain ⟨hx, hc⟩ := Prod.mk.inj hK
    exact pb_boxM (v := -1) (cell := 67) (xs := [a, b, c, e]) msb_56 mt_X12_key (by decide +kernel) (by decide +kernel) hi (bx4 (cell := 67) (by omega)) (fun s hs => absurd hs List.not_mem_nil) (fun J' hJ hf _ => ⟨hx.symm, hJ, endM hw hf (by decide +kernel) (by decide +kernel) (by decide +kernel) (by decide +kernel) (by decide +kernel) (by decide +kernel) (by rw [hf 68 4 rfl, hc, h4]) h5 h6⟩)
  rcases lt7 rn with n0 | n0 | n0 | n0 | n0 | n0 | n0
  · rw [n0] at hK h4
    rw [if_neg (by decide)] at hK
    obtain ⟨hx, hc⟩ := Prod.mk.inj hK
    exact pb_boxM (v := 0) (cell := 67) (xs := [a, b, c, e]) msb_64 mt_X12_key (by decide +kernel) (by decide +kernel) hi (bx4 (cell := 67) (by omega)) (pr1 (sl0 h4 (by decide +kernel) (by decide +kernel))) (fun J' hJ hf hs => ⟨hx.symm, hJ, endM hw hf (by decide +kernel) (by decide +kernel) (by decide +kernel) (by decide +kernel) (by decide +kernel) (by decide +kernel) (by rw [sl1 (x := 1) (hs _ List.mem_cons_self) (by decide +kernel) (by decide +kernel), hc] <;> first | rfl | decide) h5 h6⟩)
  · rw [n0] at hK h4
    rw [if_neg (by decide)] at hK
    obtain ⟨hx, hc⟩ := Prod.mk.inj hK
    exact pb_boxM (v := 1) (cell := 67) (xs := [a, b, c, e]) msb_70 mt_X12_key (by decide +kernel) (by decide +kernel) hi (bx4 (cell := 67) (by omega)) (pr1 (sl0 h4 (by decide +kernel) (by decide +kernel))) (fun J' hJ hf hs => ⟨hx.symm, hJ, endM hw hf (by decide +kernel) (by decide +kernel) (by decide +kernel) (by decide +kernel) (by decide +kernel) (by decide +kernel) (by rw [sl1 (x := 2) (hs _ List.mem_cons_self) (by decide +kernel) (by decide +kernel), hc] <;> first | rfl | decide) h5 h6⟩)
  · rw [n0] at hK h4
    rw [if_neg (by decide)] at hK
    obtain ⟨hx, hc⟩ := Prod.mk.inj hK
    exact pb_boxM (v := 2) (cell := 67) (xs := [a, b, c, e]) msb_76 mt_X12_key (by decide +kernel) (by decide +kernel) hi (bx4 (cell := 67) (by omega)) (pr1 (sl0 h4 (by decide +kernel) (by decide +kernel))) (fun J' hJ hf hs => ⟨hx.symm, hJ, endM hw hf (by decide +kernel) (by decide +kernel) (by decide +kernel) (by decide +kernel) (by decide +kernel) (by decide +kernel) (by rw [sl1 (x := 3) (hs _ List.mem_cons_self) (by decide +kernel) (by decide +kernel), hc] <;> first | rfl | decide) h5 h6⟩)
  · rw [n0] at hK h4
    rw [if_neg (by decide)] at hK
    obtain ⟨hx, hc⟩ := Prod.mk.inj hK
    exact pb_boxM (v := 3) (cell := 67) (xs := [a, b, c, e]) msb_82 mt_X12_key (by decide +kernel) (by decide +kernel) hi (bx4 (cell := 67) (by omega)) (pr1 (sl0 h4 (by decide +kernel) (by decide +kernel))) (fun J' hJ hf hs => ⟨hx.symm, hJ, endM hw hf (by decide +kernel) (by decide +kernel) (by decide +kernel) (by decide +kernel) (by decide +kernel) (by decide +kernel) (by rw [sl1 (x := 4) (hs _ List.mem_cons_self) (by decide +kernel) (by decide +kernel), hc] <;> first | rfl | decide) h5 h6⟩)
  · rw [n0] at hK h4
    rw [if_neg (by decide)] at hK
    obtain ⟨hx, hc⟩ := Prod.mk.inj hK
    exact pb_boxM (v := 4) (cell := 67) (xs := [a, b, c, e]) msb_88 mt_X12_key (by decide +kernel) (by decide +kernel) hi (bx4 (cell := 67) (by omega)) (pr1 (sl0 h4 (by decide +kernel) (by decide +kernel))) (fun J' hJ hf hs => ⟨hx.symm, hJ, endM hw hf (by decide +kernel) (by decide +kernel) (by decide +kernel) (by decide +kernel) (by decide +kernel) (by decide +kernel) (by rw [sl1 (x := 5) (hs _ List.mem_cons_self) (by decide +kernel) (by decide +kernel), hc] <;> first | rfl | decide) h5 h6⟩)
  · rw [n0] at hK h4
    rw [if_neg (by decide)] at hK
    obtain ⟨hx, hc⟩ := Prod.mk.inj hK
    exact pb_boxM (v := 5) (cell := 67) (xs := [a, b, c, e]) msb_94 mt_X12_key (by decide +kernel) (by decide +kernel) hi (bx4 (cell := 67) (by omega)) (pr1 (sl0 h4 (by decide +kernel) (by decide +kernel))) (fun J' hJ hf hs => ⟨hx.symm, hJ, endM hw hf (by decide +kernel) (by decide +kernel) (by decide +kernel) (by decide +kernel) (by decide +kernel) (by decide +kernel) (by rw [sl1 (x := 6) (hs _ List.mem_cons_self) (by decide +kernel) (by decide +kernel), hc] <;> first | rfl | decide) h5 h6⟩)
  · rw [n0] at hK h4
    rw [if_pos rfl] at hK
    obtain ⟨hx, hc⟩ := Prod.mk.inj hK
    exact pb_boxM (v := -2) (cell := 67) (xs := [a, b, c, e]) msb_95 mt_X12_key (by decide +kernel) (by decide +kernel) hi (bx4 (cell := 67) (by omega)) (pr1 (sl0 h4 (by decide +kernel) (by decide +kernel))) (fun J' hJ hf hs => ⟨hx.symm, hJ, endM hw hf (by decide +kernel) (by decide +kernel) (by decide +kernel) (by decide +kernel) (by decide +kernel) (by decide +kernel) (by rw [sl1 (x := 6) (hs _ List.mem_cons_self) (by decide +kernel) (by decide +kernel), hc] <;> first | rfl | decide) h5 h6⟩)
theorem pb_keepX (d : Nat) (I : gI) (hi : aInv bT I) (hw : WF I) : gg (d + 40) mX11_keep 0 (gent 1 [.ref 0]) [] I (pbM (fun _ J => aInv bT J ∧ WF0 J ∧ J 19 8 = J 68 4 ∧ J 35 8 = J 68 4 ∧ J 0 2 = 1)) := by
  have rn := ain_of hi (show bnd bT 19 8 = (0, 6) by decide +kernel)
  dsimp only at rn
  have h1 := hw.2.1
  rcases lt7 rn with n0 | n0 | n0 | n0 | n0 | n0 | n0
  · rw [n0] at h1
    exact pb_boxM (v := 1) (cell := 0) (xs := []) msb_98 mt_X11_keep (by decide +kernel) (by decide +kernel) hi ⟨⟨0, rfl, rfl⟩, trivial⟩ (pr1 (sl0 n0 (by decide +kernel) (by decide +kernel))) (fun J hJ hf hs => ⟨hJ, wf0_md (by decide +kernel) hf hw.1, by rw [hf 68 4 (nc_ok (by decide +kernel)), ← h1]; exact sl1 (hs (19, 8, 0, 0) (by decide)) (by decide +kernel) (by decide +kernel), by rw [hf 68 4 (nc_ok (by decide +kernel)), ← h1]; exact sl1 (hs (35, 8, 0, 0) (by decide)) (by decide +kernel) (by decide +kernel), sl1 (hs (0, 2, 1, 1) (by decide)) (by decide +kernel) (by decide +kernel)⟩)
  · rw [n0] at h1
    exact pb_boxM (v := 1) (cell := 0) (xs := []) msb_100 mt_X11_keep (by decide +kernel) (by decide +kernel) hi ⟨⟨0, rfl, rfl⟩, trivial⟩ (pr1 (sl0 n0 (by decide +kernel) (by decide +kernel))) (fun J hJ hf hs => ⟨hJ, wf0_md (by decide +kernel) hf hw.1, by rw [hf 68 4 (nc_ok (by decide +kernel)), ← h1]; exact sl1 (hs (19, 8, 1, 1) (by decide)) (by decide +kernel) (by decide +kernel), by rw [hf 68 4 (nc_ok (by decide +kernel)), ← h1]; exact sl1 (hs (35, 8, 1, 1) (by decide)) (by decide +kernel) (by decide +kernel), sl1 (hs (0, 2, 1, 1) (by decide)) (by decide +kernel) (by decide +kernel)⟩)
  · rw [n0] at h1
    exact pb_boxM (v := 1) (cell := 0) (xs := []) msb_102 mt_X11_keep (by decide +kernel) (by decide +kernel) hi ⟨⟨0, rfl, rfl⟩, trivial⟩ (pr1 (sl0 n0 (by decide +kernel) (by decide +kernel))) (fun J hJ hf hs => ⟨hJ, wf0_md (by decide +kernel) hf hw.1, by rw [hf 68 4 (nc_ok (by decide +kernel)), ← h1]; exact sl1 (hs (19, 8, 2, 2) (by decide)) (by decide +kernel) (by decide +kernel), by rw [hf 68 4 (nc_ok (by decide +kernel)), ← h1]; exact sl1 (hs (35, 8, 2, 2) (by decide)) (by decide +kernel) (by decide +kernel), sl1 (hs (0, 2, 1, 1) (by decide)) (by decide +kernel) (by decide +kernel)⟩)
  · rw [n0] at h1
    exact pb_boxM (v := 1) (cell := 0) (xs := []) msb_104 mt_X11_keep (by decide +kernel) (by decide +kernel) hi ⟨⟨0, rfl, rfl⟩, trivial⟩ (pr1 (sl0 n0 (by decide +kernel) (by decide +kernel))) (fun J hJ hf hs => ⟨hJ, wf0_md (by decide +kernel) hf hw.1, by rw [hf 68 4 (nc_ok (by decide +kernel)), ← h1]; exact sl1 (hs (19, 8, 3, 3) (by decide)) (by decide +kernel) (by decide +kernel), by rw [hf 68 4 (nc_ok (by decide +kernel)), ← h1]; exact sl1 (hs (35, 8, 3, 3) (by decide)) (by decide +kernel) (by decide +kernel), sl1 (hs (0, 2, 1, 1) (by decide)) (by decide +kernel) (by decide +kernel)⟩)
  · rw [n0] at h1
    exact pb_boxM (v := 1) (cell := 0) (xs := []) msb_106 mt_X11_keep (by decide +kernel) (by decide +kernel) hi ⟨⟨0, rfl, rfl⟩, trivial⟩ (pr1 (sl0 n0 (by decide +kernel) (by decide +kernel))) (fun J hJ hf hs => ⟨hJ, wf0_md (by decide +kernel) hf hw.1, by rw [hf 68 4 (nc_ok (by decide +kernel)), ← h1]; exact sl1 (hs (19, 8, 4, 4) (by decide)) (by decide +kernel) (by decide +kernel), by rw [hf 68 4 (nc_ok (by decide +kernel)), ← h1]; exact sl1 (hs (35, 8, 4, 4) (by decide)) (by decide +kernel) (by decide +kernel), sl1 (hs (0, 2, 1, 1) (by decide)) (by decide +kernel) (by decide +kernel)⟩)
  · rw [n0] at h1
    exact pb_boxM (v := 1) (cell := 0) (xs := []) msb_108 mt_X11_keep (by decide +kernel) (by decide +kernel) hi ⟨⟨0, rfl, rfl⟩, trivial⟩ (pr1 (sl0 n0 (by decide +kernel) (by decide +kernel))) (fun J hJ hf hs => ⟨hJ, wf0_md (by decide +kernel) hf hw.1, by rw [hf 68 4 (nc_ok (by decide +kernel)), ← h1]; exact sl1 (hs (19, 8, 5, 5) (by decide)) (by decide +kernel) (by decide +kernel), by rw [hf 68 4 (nc_ok (by decide +kernel)), ← h1]; exact sl1 (hs (35, 8, 5, 5) (by decide)) (by decide +kernel) (by decide +kernel), sl1 (hs (0, 2, 1, 1) (by decide)) (by decide +kernel) (by decide +kernel)⟩)
  · rw [n0] at h1
    exact pb_boxM (v := 1) (cell := 0) (xs := []) msb_110 mt_X11_keep (by decide +kernel) (by decide +kernel) hi ⟨⟨0, rfl, rfl⟩, trivial⟩ (pr1 (sl0 n0 (by decide +kernel) (by decide +kernel))) (fun J hJ hf hs => ⟨hJ, wf0_md (by decide +kernel) hf hw.1, by rw [hf 68 4 (nc_ok (by decide +kernel)), ← h1]; exact sl1 (hs (19, 8, 6, 6) (by decide)) (by decide +kernel) (by decide +kernel), by rw [hf 68 4 (nc_ok (by decide +kernel)), ← h1]; exact sl1 (hs (35, 8, 6, 6) (by decide)) (by decide +kernel) (by decide +kernel), sl1 (hs (0, 2, 1, 1) (by decide)) (by decide +kernel) (by decide +kernel)⟩)
theorem pb_againX (d : Nat) (I : gI) (hi : aInv bT I) (hw : WF I) : gg (d + 40) mX11_again 0 (gent mX11_again.2.2.1 [.ref 0]) [] I (pbM (fun y J => aInv bT J ∧ WF0 J ∧ ((J 67 3 = 0 ∧ rlK J ∧ y = -3) ∨ (¬ J 67 3 = 0 ∧ J 19 8 = J 69 4 ∧ J 35 8 = J 69 4 ∧ J 0 2 = J 67 3 ∧ y = J 69 4)))) := by
  have rn := ain_of hi (show bnd bT 35 8 = (0, 6) by decide +kernel)
  have rk := ain_of hi (show bnd bT 0 2 = (0, 1) by decide +kernel)
  dsimp only at rn rk
  have h1 := hw.2.2.1
  have h2 := hw.2.2.2
  rcases lt7 ⟨rk.1, by omega⟩ with k0 | k0 | k0 | k0 | k0 | k0 | k0
  · exact pb_boxM (v := -3) (cell := 0) (xs := []) msb_111 mt_X11_again (by decide +kernel) (by decide +kernel) hi ⟨⟨0, rfl, rfl⟩, trivial⟩ (pr1 (sl0 k0 (by decide +kernel) (by decide +kernel))) (fun J hJ hf hs => ⟨hJ, wf0_md (by decide +kernel) hf hw.1, Or.inl ⟨by rw [hf 67 3 rfl, ← h2, k0], rlK_eq hw.2 (hf 19 8 rfl) (hf 68 4 rfl) (hf 35 8 rfl) (hf 69 4 rfl) (hf 0 2 rfl) (hf 67 3 rfl), rfl⟩⟩)
  · rw [k0] at h2
    rcases lt7 rn with n0 | n0 | n0 | n0 | n0 | n0 | n0
    · rw [n0] at h1
      exact pb_boxM (v := 0) (cell := 0) (xs := []) msb_114 mt_X11_again (by decide +kernel) (by decide +kernel) hi ⟨⟨0, rfl, rfl⟩, trivial⟩ (pr2 (sl0 k0 (by decide +kernel) (by decide +kernel)) (sl0 n0 (by decide +kernel) (by decide +kernel))) (fun J hJ hf hs => ⟨hJ, wf0_md (by decide +kernel) hf hw.1, Or.inr ⟨by rw [hf 67 3 (nc_ok (by decide +kernel)), ← h2]; decide, by rw [hf 69 4 (nc_ok (by decide +kernel)), ← h1]; exact sl1 (hs (19, 8, 0, 0) (by decide)) (by decide +kernel) (by decide +kernel), by rw [hf 69 4 (nc_ok (by decide +kernel)), ← h1]; exact sl1 (hs (35, 8, 0, 0) (by decide)) (by decide +kernel) (by decide +kernel), by rw [hf 67 3 (nc_ok (by decide +kernel)), ← h2]; exact sl1 (hs (0, 2, 1, 1) (by decide)) (by decide +kernel) (by decide +kernel), by rw [hf 69 4 (nc_ok (by decide +kernel)), ← h1]⟩⟩)
    · rw [n0] at h1
      exact pb_boxM (v := 1) (cell := 0) (xs := []) msb_116 mt_X11_again (by decide +kernel) (by decide +kernel) hi ⟨⟨0, rfl, rfl⟩, trivial⟩ (pr2 (sl0 k0 (by decide +kernel) (by decide +kernel)) (sl0 n0 (by decide +kernel) (by decide +kernel))) (fun J hJ hf hs => ⟨hJ, wf0_md (by decide +kernel) hf hw.1, Or.inr ⟨by rw [hf 67 3 (nc_ok (by decide +kernel)), ← h2]; decide, by rw [hf 69 4 (nc_ok (by decide +kernel)), ← h1]; exact sl1 (hs (19, 8, 1, 1) (by decide)) (by decide +kernel) (by decide +kernel), by rw [hf 69 4 (nc_ok (by decide +kernel)), ← h1]; exact sl1 (hs (35, 8, 1, 1) (by decide)) (by decide +kernel) (by decide +kernel), by rw [hf 67 3 (nc_ok (by decide +kernel)), ← h2]; exact sl1 (hs (0, 2, 1, 1) (by decide)) (by decide +kernel) (by decide +kernel), by rw [hf 69 4 (nc_ok (by decide +kernel)), ← h1]⟩⟩)
    · rw [n0] at h1
      exact pb_boxM (v := 2) (cell := 0) (xs := []) msb_118 mt_X11_again (by decide +kernel) (by decide +kernel) hi ⟨⟨0, rfl, rfl⟩, trivial⟩ (pr2 (sl0 k0 (by decide +kernel) (by decide +kernel)) (sl0 n0 (by decide +kernel) (by decide +kernel))) (fun J hJ hf hs => ⟨hJ, wf0_md (by decide +kernel) hf hw.1, Or.inr ⟨by rw [hf 67 3 (nc_ok (by decide +kernel)), ← h2]; decide, by rw [hf 69 4 (nc_ok (by decide +kernel)), ← h1]; exact sl1 (hs (19, 8, 2, 2) (by decide)) (by decide +kernel) (by decide +kernel), by rw [hf 69 4 (nc_ok (by decide +kernel)), ← h1]; exact sl1 (hs (35, 8, 2, 2) (by decide)) (by decide +kernel) (by decide +kernel), by rw [hf 67 3 (nc_ok (by decide +kernel)), ← h2]; exact sl1 (hs (0, 2, 1, 1) (by decide)) (by decide +kernel) (by decide +kernel), by rw [hf 69 4 (nc_ok (by decide +kernel)), ← h1]⟩⟩)
    · rw [n0] at h1
      exact pb_boxM (v := 3) (cell := 0) (xs := []) msb_120 mt_X11_again (by decide +kernel) (by decide +kernel) hi ⟨⟨0, rfl, rfl⟩, trivial⟩ (pr2 (sl0 k0 (by decide +kernel) (by decide +kernel)) (sl0 n0 (by decide +kernel) (by decide +kernel))) (fun J hJ hf hs => ⟨hJ, wf0_md (by decide +kernel) hf hw.1, Or.inr ⟨by rw [hf 67 3 (nc_ok (by decide +kernel)), ← h2]; decide, by rw [hf 69 4 (nc_ok (by decide +kernel)), ← h1]; exact sl1 (hs (19, 8, 3, 3) (by decide)) (by decide +kernel) (by decide +kernel), by rw [hf 69 4 (nc_ok (by decide +kernel)), ← h1]; exact sl1 (hs (35, 8, 3, 3) (by decide)) (by decide +kernel) (by decide +kernel), by rw [hf 67 3 (nc_ok (by decide +kernel)), ← h2]; exact sl1 (hs (0, 2, 1, 1) (by decide)) (by decide +kernel) (by decide +kernel), by rw [hf 69 4 (nc_ok (by decide +kernel)), ← h1]⟩⟩)
    · rw [n0] at h1
      exact pb_boxM (v := 4) (cell := 0) (xs := []) msb_122 mt_X11_again (by decide +kernel) (by decide +kernel) hi ⟨⟨0, rfl, rfl⟩, trivial⟩ (pr2 (sl0 k0 (by decide +kernel) (by decide +kernel)) (sl0 n0 (by decide +kernel) (by decide +kernel))) (fun J hJ hf hs => ⟨hJ, wf0_md (by decide +kernel) hf hw.1, Or.inr ⟨by rw [hf 67 3 (nc_ok (by decide +kernel)), ← h2]; decide, by rw [hf 69 4 (nc_ok (by decide +kernel)), ← h1]; exact sl1 (hs (19, 8, 4, 4) (by decide)) (by decide +kernel) (by decide +kernel), by rw [hf 69 4 (nc_ok (by decide +kernel)), ← h1]; exact sl1 (hs (35, 8, 4, 4) (by decide)) (by decide +kernel) (by decide +kernel), by rw [hf 67 3 (nc_ok (by decide +kernel)), ← h2]; exact sl1 (hs (0, 2, 1, 1) (by decide)) (by decide +kernel) (by decide +kernel), by rw [hf 69 4 (nc_ok (by decide +kernel)), ← h1]⟩⟩)
    · rw [n0] at h1
      exact pb_boxM (v := 5) (cell := 0) (xs := []) msb_124 mt_X11_again (by decide +kernel) (by decide +kernel) hi ⟨⟨0, rfl, rfl⟩, trivial⟩ (pr2 (sl0 k0 (by decide +kernel) (by decide +kernel)) (sl0 n0 (by decide +kernel) (by decide +kernel))) (fun J hJ hf hs => ⟨hJ, wf0_md (by decide +kernel) hf hw.1, Or.inr ⟨by rw [hf 67 3 (nc_ok (by decide +kernel)), ← h2]; decide, by rw [hf 69 4 (nc_ok (by decide +kernel)), ← h1]; exact sl1 (hs (19, 8, 5, 5) (by decide)) (by decide +kernel) (by decide +kernel), by rw [hf 69 4 (nc_ok (by decide +kernel)), ← h1]; exact sl1 (hs (35, 8, 5, 5) (by decide)) (by decide +kernel) (by decide +kernel), by rw [hf 67 3 (nc_ok (by decide +kernel)), ← h2]; exact sl1 (hs (0, 2, 1, 1) (by decide)) (by decide +kernel) (by decide +kernel), by rw [hf 69 4 (nc_ok (by decide +kernel)), ← h1]⟩⟩)
    · rw [n0] at h1
      exact pb_boxM (v := 6) (cell := 0) (xs := []) msb_126 mt_X11_again (by decide +kernel) (by decide +kernel) hi ⟨⟨0, rfl, rfl⟩, trivial⟩ (pr2 (sl0 k0 (by decide +kernel) (by decide +kernel)) (sl0 n0 (by decide +kernel) (by decide +kernel))) (fun J hJ hf hs => ⟨hJ, wf0_md (by decide +kernel) hf hw.1, Or.inr ⟨by rw [hf 67 3 (nc_ok (by decide +kernel)), ← h2]; decide, by rw [hf 69 4 (nc_ok (by decide +kernel)), ← h1]; exact sl1 (hs (19, 8, 6, 6) (by decide)) (by decide +kernel) (by decide +kernel), by rw [hf 69 4 (nc_ok (by decide +kernel)), ← h1]; exact sl1 (hs (35, 8, 6, 6) (by decide)) (by decide +kernel) (by decide +kernel), by rw [hf 67 3 (nc_ok (by decide +kernel)), ← h2]; exact sl1 (hs (0, 2, 1, 1) (by decide)) (by decide +kernel) (by decide +kernel), by rw [hf 69 4 (nc_ok (by decide +kernel)), ← h1]⟩⟩)
  · rw [k0] at rk; exact absurd rk.2 (by decide)
  · rw [k0] at rk; exact absurd rk.2 (by decide)
  · rw [k0] at rk; exact absurd rk.2 (by decide)
  · rw [k0] at rk; exact absurd rk.2 (by decide)
  · rw [k0] at rk; exact absurd rk.2 (by decide)
