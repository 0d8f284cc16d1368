/-! ===== what a text is read as: its tokens, and the answer ===== -/
set_option maxRecDepth 16384 in
/-- bytes of the reference's tape; -1 behind its end -/
def bN (I : gI) (j : Nat) : Int := if (j : Int) < (I 67 6).toInt then (I 72 j).toInt else -1
set_option maxRecDepth 16384 in
def skp (P : Int → Bool) (B : Nat → Int) : Nat → Nat → Nat
  | 0, a => a
  | g + 1, a => if P (B a) = true then skp P B g (a + 1) else a
set_option maxRecDepth 16384 in
theorem skp_fuel {P : Int → Bool} {B : Nat → Int} (h : ∀ j, 200 ≤ j → P (B j) = false) : ∀ (g g' a : Nat), 200 ≤ a + g → 200 ≤ a + g' → skp P B g a = skp P B g' a
  | 0, 0, _, _, _ => rfl
  | 0, g' + 1, a, h1, _ => by
    show a = if P (B a) = true then _ else a
    rw [h a (by omega)]
    rfl
  | g + 1, 0, a, _, h2 => by
    show (if P (B a) = true then _ else a) = a
    rw [h a (by omega)]
    rfl
  | g + 1, g' + 1, a, h1, h2 => by
    show (if P (B a) = true then skp P B g (a + 1) else a) = if P (B a) = true then skp P B g' (a + 1) else a
    rw [skp_fuel h g g' (a + 1) (by omega) (by omega)]
set_option maxRecDepth 16384 in
def sk (P : Int → Bool) (B : Nat → Int) (a : Nat) : Nat := skp P B 200 a
set_option maxRecDepth 16384 in
theorem sk_go {P : Int → Bool} {B : Nat → Int} (h : ∀ j, 200 ≤ j → P (B j) = false) {a : Nat} (ha : P (B a) = true) : sk P B a = sk P B (a + 1) := by
  have e : a < 200 := by
    by_cases e : 200 ≤ a
    · rw [h a e] at ha
      cases ha
    · omega
  show skp P B 200 a = skp P B 200 (a + 1)
  rw [skp_fuel h 200 201 a (by omega) (by omega)]
  show (if P (B a) = true then skp P B 200 (a + 1) else a) = _
  rw [if_pos ha]
set_option maxRecDepth 16384 in
theorem sk_stop {P : Int → Bool} {B : Nat → Int} {a : Nat} (ha : P (B a) = false) : sk P B a = a := by
  show (if P (B a) = true then skp P B 199 (a + 1) else a) = a
  rw [ha]
  rfl
set_option maxRecDepth 16384 in
theorem skp_ge {P : Int → Bool} {B : Nat → Int} : ∀ (g a : Nat), a ≤ skp P B g a
  | 0, a => Nat.le_refl a
  | g + 1, a => by
    show a ≤ if P (B a) = true then skp P B g (a + 1) else a
    split
    · have := skp_ge (P := P) (B := B) g (a + 1)
      omega
    · exact Nat.le_refl a
set_option maxRecDepth 16384 in
theorem sk_ge {P : Int → Bool} {B : Nat → Int} {a : Nat} : a ≤ sk P B a := skp_ge 200 a
set_option maxRecDepth 16384 in
theorem skp_in {P : Int → Bool} {B : Nat → Int} : ∀ (g a j : Nat), a ≤ j → j < skp P B g a → P (B j) = true
  | 0, a, j, h1, h2 => by
    have h2 : j < a := h2
    omega
  | g + 1, a, j, h1, h2 => by
    by_cases e : P (B a) = true
    · have h2 : j < if P (B a) = true then skp P B g (a + 1) else a := h2
      rw [if_pos e] at h2
      by_cases e2 : j = a
      · rw [e2]
        exact e
      · exact skp_in g (a + 1) j (by omega) h2
    · have h2 : j < if P (B a) = true then skp P B g (a + 1) else a := h2
      rw [if_neg e] at h2
      omega
set_option maxRecDepth 16384 in
theorem sk_in {P : Int → Bool} {B : Nat → Int} {a j : Nat} (h1 : a ≤ j) (h2 : j < sk P B a) : P (B j) = true := skp_in 200 a j h1 h2
set_option maxRecDepth 16384 in
def isSp (c : Int) : Bool := decide (c = 32)
set_option maxRecDepth 16384 in
def isLt (c : Int) : Bool := decide (97 ≤ c) && decide (c ≤ 122)
set_option maxRecDepth 16384 in
def isDg (c : Int) : Bool := decide (48 ≤ c) && decide (c ≤ 57)
set_option maxRecDepth 16384 in
def wordsR : List (List Int) := [[107, 101, 121], [105, 114, 111, 110], [115, 108, 101, 101, 118, 101], [116, 104, 105, 114, 100], [115, 97, 108, 116], [115, 112, 97, 114, 101], [116, 117, 114, 110], [99, 97, 114, 114, 121], [99, 104, 105, 108, 108], [105, 102], [110, 111, 116], [97, 110, 100], [111, 114], [104, 97, 108, 116], [116, 101, 101, 116, 104], [115, 116, 114, 97, 119], [104, 101, 97, 116], [110, 117, 109, 98, 101, 114]]
set_option maxRecDepth 16384 in
def wordsC : List (List Int) := [[107, 101, 121], [105, 114, 111, 110], [115, 108, 101, 101, 118, 101], [116, 104, 105, 114, 100], [115, 97, 108, 116], [115, 112, 97, 114, 101], [116, 117, 114, 110], [99, 97, 114, 114, 121], [99, 104, 105, 108, 108], [104, 97, 108, 116], [116, 101, 101, 116, 104], [115, 116, 114, 97, 119], [104, 101, 97, 116], [110, 117, 109, 98, 101, 114], [105, 102], [97, 110, 100], [111, 114], [110, 111, 116]]
set_option maxRecDepth 16384 in
def eqW (B : Nat → Int) (b e : Nat) (w : List Int) : Bool := decide (e = b + w.length) && (List.range w.length).all (fun k => decide (B (b + k) = w.getD k 0))
set_option maxRecDepth 16384 in
def wdR (B : Nat → Int) (b e : Nat) : Int := (List.range 18).foldl (fun t w => if eqW B b e (wordsR.getD w []) = true then (w : Int) else t) 101
set_option maxRecDepth 16384 in
def wdC (B : Nat → Int) (b e : Nat) : Int := (List.range 18).foldl (fun t w => if t = -1 then (if eqW B b e (wordsC.getD w []) = true then (w : Int) else t) else t) (-1)
set_option maxRecDepth 16384 in
/-- the next token from a on: what it is (as the reference numbers it), where it begins, where it ends -/
def nxB (B : Nat → Int) (a : Nat) : Int × Nat × Nat := if B (sk isSp B a) < 0 then (-1, sk isSp B a, sk isSp B a) else if isLt (B (sk isSp B a)) = true then (wdR B (sk isSp B a) (sk isLt B (sk isSp B a)), sk isSp B a, sk isLt B (sk isSp B a)) else if isDg (B (sk isSp B a)) = true then (if sk isSp B a + 4 < sk isDg B (sk isSp B a) then 101 else 100, sk isSp B a, sk isDg B (sk isSp B a)) else (200 + B (sk isSp B a), sk isSp B a, sk isSp B a + 1)
set_option maxRecDepth 16384 in
/-- the class's number of a token -/
def cmT (m : Int) : Int := if m = -1 then -2 else if m = 100 then 18 else if 0 ≤ m ∧ m ≤ 8 then m else if m = 9 then 14 else if m = 10 then 17 else if m = 11 then 15 else if m = 12 then 16 else if 13 ≤ m ∧ m ≤ 17 then m - 4 else if m = 240 ∨ m = 241 ∨ m = 259 ∨ m = 260 ∨ m = 261 ∨ m = 262 then m - 200 else -1
set_option maxRecDepth 16384 in
theorem eqW_ex {B : Nat → Int} {b e : Nat} {u v : List Int} (hu : eqW B b e u = true) : eqW B b e v = decide (u = v) := by
  unfold eqW at hu
  rw [Bool.and_eq_true, decide_eq_true_eq, List.all_eq_true] at hu
  obtain ⟨h1, h2⟩ := hu
  by_cases e1 : u = v
  · subst e1
    rw [decide_eq_true rfl]
    unfold eqW
    rw [Bool.and_eq_true, decide_eq_true_eq, List.all_eq_true]
    exact ⟨h1, h2⟩
  · rw [decide_eq_false e1]
    cases h3 : eqW B b e v with
    | false => rfl
    | true =>
      unfold eqW at h3
      rw [Bool.and_eq_true, decide_eq_true_eq, List.all_eq_true] at h3
      obtain ⟨h4, h5⟩ := h3
      refine absurd (List.ext_getElem (by omega) (fun i i1 i2 => ?_)) e1
      have g1 := of_decide_eq_true (h2 i (List.mem_range.mpr i1))
      have g2 := of_decide_eq_true (h5 i (List.mem_range.mpr i2))
      rw [g1] at g2
      simpa [List.getD_eq_getElem?_getD, List.getElem?_eq_getElem i1, List.getElem?_eq_getElem i2] using g2
set_option maxRecDepth 16384 in
theorem wd_none {B : Nat → Int} {b e : Nat} (h : ∀ w, w < 18 → eqW B b e (wordsR.getD w []) = false) : wdR B b e = 101 ∧ wdC B b e = -1 := by
  have h0 : eqW B b e [107, 101, 121] = false := h 0 (by decide)
  have h1 : eqW B b e [105, 114, 111, 110] = false := h 1 (by decide)
  have h2 : eqW B b e [115, 108, 101, 101, 118, 101] = false := h 2 (by decide)
  have h3 : eqW B b e [116, 104, 105, 114, 100] = false := h 3 (by decide)
  have h4 : eqW B b e [115, 97, 108, 116] = false := h 4 (by decide)
  have h5 : eqW B b e [115, 112, 97, 114, 101] = false := h 5 (by decide)
  have h6 : eqW B b e [116, 117, 114, 110] = false := h 6 (by decide)
  have h7 : eqW B b e [99, 97, 114, 114, 121] = false := h 7 (by decide)
  have h8 : eqW B b e [99, 104, 105, 108, 108] = false := h 8 (by decide)
  have h9 : eqW B b e [105, 102] = false := h 9 (by decide)
  have h10 : eqW B b e [110, 111, 116] = false := h 10 (by decide)
  have h11 : eqW B b e [97, 110, 100] = false := h 11 (by decide)
  have h12 : eqW B b e [111, 114] = false := h 12 (by decide)
  have h13 : eqW B b e [104, 97, 108, 116] = false := h 13 (by decide)
  have h14 : eqW B b e [116, 101, 101, 116, 104] = false := h 14 (by decide)
  have h15 : eqW B b e [115, 116, 114, 97, 119] = false := h 15 (by decide)
  have h16 : eqW B b e [104, 101, 97, 116] = false := h 16 (by decide)
  have h17 : eqW B b e [110, 117, 109, 98, 101, 114] = false := h 17 (by decide)
  constructor
  · simp [wdR, List.range, List.range.loop, wordsR, h0, h1, h2, h3, h4, h5, h6, h7, h8, h9, h10, h11, h12, h13, h14, h15, h16, h17]
  · simp [wdC, List.range, List.range.loop, wordsC, h0, h1, h2, h3, h4, h5, h6, h7, h8, h9, h10, h11, h12, h13, h14, h15, h16, h17]
set_option maxRecDepth 16384 in
theorem wd_some {B : Nat → Int} {b e w : Nat} (hw : w < 18) (h : eqW B b e (wordsR.getD w []) = true) : wdR B b e = w ∧ wdC B b e = cmT w := by
  have ex := fun v => eqW_ex (v := v) h
  unfold wdR wdC
  simp only [ex]
  have k : (List.range 18).all (fun w => decide ((List.range 18).foldl (fun t v => if decide (wordsR.getD w [] = wordsR.getD v []) = true then (v : Int) else t) 101 = w) && decide ((List.range 18).foldl (fun t v => if t = -1 then (if decide (wordsR.getD w [] = wordsC.getD v []) = true then (v : Int) else t) else t) (-1) = cmT w)) = true := by decide +kernel
  have k1 := List.all_eq_true.mp k w (List.mem_range.mpr hw)
  rw [Bool.and_eq_true, decide_eq_true_eq, decide_eq_true_eq] at k1
  exact k1
set_option maxRecDepth 16384 in
theorem wd_cm {B : Nat → Int} {b e : Nat} : wdC B b e = cmT (wdR B b e) ∧ (wdR B b e = 101 ∨ (0 ≤ wdR B b e ∧ wdR B b e ≤ 17)) := by
  by_cases h : ∃ w, w < 18 ∧ eqW B b e (wordsR.getD w []) = true
  · obtain ⟨w, h1, h2⟩ := h
    obtain ⟨e1, e2⟩ := wd_some h1 h2
    rw [e1, e2]
    exact ⟨rfl, Or.inr ⟨by omega, by omega⟩⟩
  · have h' : ∀ w, w < 18 → eqW B b e (wordsR.getD w []) = false := fun w hw => by
      cases h3 : eqW B b e (wordsR.getD w []) with
      | false => rfl
      | true => exact absurd ⟨w, hw, h3⟩ h
    obtain ⟨e1, e2⟩ := wd_none h'
    rw [e1, e2]
    exact ⟨by decide, Or.inl rfl⟩
set_option maxRecDepth 16384 in
/-- one token more: state, unclosed ones, rules -/
def stp (st op ct : Nat) (m : Int) : Option (Nat × Nat × Nat) :=
  if st = 0 then (if ct < 8 ∧ 0 ≤ m ∧ m ≤ 5 then some (1, 0, ct) else none)
  else if st = 1 then (if m = 9 then some (2, op, ct) else if op = 0 ∧ 6 ≤ m ∧ m ≤ 8 then some (6, 0, ct + 1) else none)
  else if st = 2 then (if m = 10 then some (2, op, ct) else if m = 240 ∧ op < 3 then some (2, op + 1, ct) else if m = 100 ∨ (13 ≤ m ∧ m ≤ 17) then some (3, op, ct) else none)
  else if st = 3 then (if m = 260 ∨ m = 261 ∨ m = 262 then some (4, op, ct) else none)
  else if st = 4 then (if m = 100 ∨ (13 ≤ m ∧ m ≤ 17) then some (5, op, ct) else none)
  else if st = 5 then (if m = 11 ∨ m = 12 then some (2, op, ct) else if m = 241 ∧ 0 < op then some (5, op - 1, ct) else if op = 0 ∧ 6 ≤ m ∧ m ≤ 8 then some (6, 0, ct + 1) else none)
  else (if m = 259 then some (0, op, ct) else none)
set_option maxRecDepth 16384 in
/-- the answer, from a state and a place on -/
def rnF (B : Nat → Int) : Nat → Nat → Nat → Nat → Nat → Int
  | 0, _, _, _, _ => 0
  | g + 1, st, op, ct, a => if (nxB B a).1 = -1 then (if st = 0 then (ct : Int) else -100 - ((nxB B a).2.1 : Int)) else match stp st op ct (nxB B a).1 with
    | none => -100 - ((nxB B a).2.1 : Int)
    | some q => rnF B g q.1 q.2.1 q.2.2 (nxB B a).2.2
set_option maxRecDepth 16384 in
def rnP (B : Nat → Int) (st op ct a : Nat) : Int := rnF B 202 st op ct a
set_option maxRecDepth 16384 in
def anT (B : Nat → Int) (st op ct : Nat) (m : Int) (b a : Nat) : Int := if m = -1 then (if st = 0 then (ct : Int) else -100 - (b : Int)) else match stp st op ct m with
    | none => -100 - (b : Int)
    | some q => rnP B q.1 q.2.1 q.2.2 a
set_option maxRecDepth 16384 in
/-- bytes end at 200, and are bytes -/
def okB (B : Nat → Int) : Prop := (∀ j, 200 ≤ j → B j = -1) ∧ ∀ j, -1 ≤ B j ∧ B j ≤ 255
set_option maxRecDepth 16384 in
theorem okB_sp {B : Nat → Int} (h : okB B) : ∀ j, 200 ≤ j → isSp (B j) = false := fun j hj => by rw [h.1 j hj]; rfl
set_option maxRecDepth 16384 in
theorem okB_lt {B : Nat → Int} (h : okB B) : ∀ j, 200 ≤ j → isLt (B j) = false := fun j hj => by rw [h.1 j hj]; rfl
set_option maxRecDepth 16384 in
theorem okB_dg {B : Nat → Int} (h : okB B) : ∀ j, 200 ≤ j → isDg (B j) = false := fun j hj => by rw [h.1 j hj]; rfl
set_option maxRecDepth 16384 in
/-- a token that isn't the end goes on, and ends by 200 -/
theorem nxB_gt {B : Nat → Int} (h : okB B) {a : Nat} (hn : (nxB B a).1 ≠ -1) : a < (nxB B a).2.2 ∧ (nxB B a).2.2 ≤ 200 := by
  have h1 := sk_ge (P := isSp) (B := B) (a := a)
  have h200 : ∀ P : Int → Bool, (∀ j, 200 ≤ j → P (B j) = false) → ∀ a, a ≤ 200 → sk P B a ≤ 200 := fun P hP a ha => by
    by_cases e : sk P B a ≤ 200
    · exact e
    · have := sk_in (P := P) (B := B) (a := a) (j := 200) ha (by omega)
      rw [hP 200 (Nat.le_refl _)] at this
      cases this
  unfold nxB at hn ⊢
  by_cases c0 : B (sk isSp B a) < 0
  · rw [if_pos c0] at hn
    exact absurd rfl hn
  · have hb : sk isSp B a < 200 := by
      by_cases e : sk isSp B a < 200
      · exact e
      · rw [h.1 _ (by omega)] at c0
        exact absurd (by decide) c0
    rw [if_neg c0]
    by_cases c1 : isLt (B (sk isSp B a)) = true
    · rw [if_pos c1]
      have e1 := sk_go (okB_lt h) c1
      have e2 := sk_ge (P := isLt) (B := B) (a := sk isSp B a + 1)
      have e3 := h200 isLt (okB_lt h) (sk isSp B a) (by omega)
      show a < sk isLt B _ ∧ sk isLt B _ ≤ 200
      omega
    · rw [if_neg c1]
      by_cases c2 : isDg (B (sk isSp B a)) = true
      · rw [if_pos c2]
        have e1 := sk_go (okB_dg h) c2
        have e2 := sk_ge (P := isDg) (B := B) (a := sk isSp B a + 1)
        have e3 := h200 isDg (okB_dg h) (sk isSp B a) (by omega)
        show a < sk isDg B _ ∧ sk isDg B _ ≤ 200
        omega
      · rw [if_neg c2]
        show a < sk isSp B a + 1 ∧ sk isSp B a + 1 ≤ 200
        omega
set_option maxRecDepth 16384 in
theorem rnF_fuel {B : Nat → Int} (h : okB B) : ∀ (g g' st op ct a : Nat), 201 ≤ a + g → 201 ≤ a + g' → a ≤ 200 → rnF B g st op ct a = rnF B g' st op ct a
  | 0, _, _, _, _, _, h1, _, h3 => by omega
  | _ + 1, 0, _, _, _, _, _, h2, h3 => by omega
  | g + 1, g' + 1, st, op, ct, a, h1, h2, h3 => by
    simp only [rnF]
    by_cases e : (nxB B a).1 = -1
    · rw [if_pos e, if_pos e]
    · rw [if_neg e, if_neg e]
      obtain ⟨k1, k2⟩ := nxB_gt h e
      cases stp st op ct (nxB B a).1 with
      | none => rfl
      | some q => exact rnF_fuel h g g' q.1 q.2.1 q.2.2 _ (by omega) (by omega) k2
set_option maxRecDepth 16384 in
theorem rnP_eq {B : Nat → Int} (h : okB B) {st op ct a : Nat} (ha : a ≤ 200) : rnP B st op ct a = anT B st op ct (nxB B a).1 (nxB B a).2.1 (nxB B a).2.2 := by
  show rnF B (201 + 1) st op ct a = _
  simp only [rnF, anT]
  by_cases e : (nxB B a).1 = -1
  · rw [if_pos e, if_pos e]
  · rw [if_neg e, if_neg e]
    obtain ⟨k1, k2⟩ := nxB_gt h e
    cases stp st op ct (nxB B a).1 with
    | none => rfl
    | some q => exact rnF_fuel h 201 202 q.1 q.2.1 q.2.2 _ (by omega) (by omega) k2
set_option maxRecDepth 16384 in
def ltr : List Int := [107, 101, 121, 32, 32, 32, 32, 32, 105, 114, 111, 110, 32, 32, 32, 32, 115, 108, 101, 101, 118, 101, 32, 32, 116, 104, 105, 114, 100, 32, 32, 32, 115, 97, 108, 116, 32, 32, 32, 32, 115, 112, 97, 114, 101, 32, 32, 32, 116, 117, 114, 110, 32, 32, 32, 32, 99, 97, 114, 114, 121, 32, 32, 32, 99, 104, 105, 108, 108, 32, 32, 32, 105, 102, 32, 32, 32, 32, 32, 32, 110, 111, 116, 32, 32, 32, 32, 32, 97, 110, 100, 32, 32, 32, 32, 32, 111, 114, 32, 32, 32, 32, 32, 32, 104, 97, 108, 116, 32, 32, 32, 32, 116, 101, 101, 116, 104, 32, 32, 32, 115, 116, 114, 97, 119, 32, 32, 32, 104, 101, 97, 116, 32, 32, 32, 32, 110, 117, 109, 98, 101, 114, 32, 32]
set_option maxRecDepth 16384 in
/-- a name by its letters padded, as the reference holds them -/
theorem ltr_w : (List.range 18).all (fun w => decide ((wordsR.getD w []).length ≤ 8) && (List.range 8).all (fun k => decide (ltr.getD (8 * w + k) 0 = if k < (wordsR.getD w []).length then (wordsR.getD w []).getD k 0 else 32)) && (wordsR.getD w []).all (fun c => decide (97 ≤ c) && decide (c ≤ 122))) = true := by decide +kernel
set_option maxRecDepth 16384 in
def isW (B : Nat → Int) (b e w : Nat) : Bool := decide (e ≤ b + 8) && (List.range 8).all (fun k => decide (ltr.getD (8 * w + k) 0 = if b + k < e then B (b + k) else 32))
set_option maxRecDepth 16384 in
theorem isW_eq {B : Nat → Int} {b e w : Nat} (hw : w < 18) (hbe : b ≤ e) (hl : ∀ j, b ≤ j → j < e → isLt (B j) = true) : isW B b e w = eqW B b e (wordsR.getD w []) := by
  have k := List.all_eq_true.mp ltr_w w (List.mem_range.mpr hw)
  rw [Bool.and_eq_true, Bool.and_eq_true, decide_eq_true_eq, List.all_eq_true] at k
  obtain ⟨⟨k1, k2⟩, k3⟩ := k
  have k2 : ∀ q, q < 8 → ltr.getD (8 * w + q) 0 = if q < (wordsR.getD w []).length then (wordsR.getD w []).getD q 0 else 32 := fun q hq => of_decide_eq_true (k2 q (List.mem_range.mpr hq))
  have kl : ∀ q, q < (wordsR.getD w []).length → 97 ≤ (wordsR.getD w []).getD q 0 := fun q hq => by
    have h := List.all_eq_true.mp k3 ((wordsR.getD w [])[q]) (List.getElem_mem hq)
    rw [Bool.and_eq_true, decide_eq_true_eq, decide_eq_true_eq] at h
    rw [List.getD_eq_getElem?_getD, List.getElem?_eq_getElem hq]
    exact h.1
  have hB : ∀ j, b ≤ j → j < e → B j ≠ 32 := fun j h1 h2 => by
    have h := hl j h1 h2
    unfold isLt at h
    rw [Bool.and_eq_true, decide_eq_true_eq, decide_eq_true_eq] at h
    omega
  generalize wordsR.getD w [] = u at k1 k2 kl ⊢
  rw [Bool.eq_iff_iff]
  unfold isW eqW
  simp only [Bool.and_eq_true, decide_eq_true_eq, List.all_eq_true, List.mem_range]
  constructor
  · rintro ⟨h1, h2⟩
    have h3 : e = b + u.length := by
      by_cases c : e < b + u.length
      · have g := h2 (e - b) (by omega)
        rw [k2 (e - b) (by omega), if_pos (by omega), if_neg (by omega)] at g
        have := kl (e - b) (by omega)
        omega
      · by_cases c2 : b + u.length < e
        · have g := h2 u.length (by omega)
          rw [k2 u.length (by omega), if_neg (by omega), if_pos (by omega)] at g
          exact absurd g.symm (hB (b + u.length) (by omega) c2)
        · omega
    refine ⟨h3, fun q hq => ?_⟩
    have g := h2 q (by omega)
    rw [k2 q (by omega), if_pos hq, if_pos (by omega)] at g
    exact g.symm
  · rintro ⟨h1, h2⟩
    refine ⟨by omega, fun q hq => ?_⟩
    rw [k2 q hq]
    by_cases c : q < u.length
    · rw [if_pos c, if_pos (by omega)]
      exact (h2 q c).symm
    · rw [if_neg c, if_neg (by omega)]
