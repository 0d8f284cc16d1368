set_option maxRecDepth 16384 in
/-! ===== takes, exact ===== -/
def mdTk : aMd := [(55, 7, 11), (57, 0, 1), (58, 0, 7), (59, 0, 7), (60, 0, 7), (61, 0, 199), (62, 0, 3), (63, 0, 3), (64, 0, 3)]
set_option maxRecDepth 16384 in
def nwv (md : aMd) (c : aC) (cell j : Nat) (old new : Nat) : Bool := (decide (old = new) && !(amodr md cell j j)) || c.2.2.any (fun p => decide (p.1 = cell) && decide (p.2.1 = j) && decide (p.2.2.1 = (new : Int)) && decide (p.2.2.2 = (new : Int)))
set_option maxRecDepth 16384 in
def prv (st op ct : Nat) (t : Int) (p : Nat × Nat × Int × Int) : Bool := decide (p.2.2.1 < aEQ) && ((decide (p.1 = 55) && decide (p.2.1 = 5) && decide (p.2.2.1 ≤ t) && decide (t ≤ p.2.2.2)) || (decide (p.1 = 55) && decide (p.2.1 = 7) && decide (p.2.2.1 ≤ (st : Int)) && decide ((st : Int) ≤ p.2.2.2)) || (decide (p.1 = 55) && decide (p.2.1 = 11) && decide (p.2.2.1 ≤ (op : Int)) && decide ((op : Int) ≤ p.2.2.2)) || (decide (p.1 = 57) && decide (p.2.1 = 0) && decide (p.2.2.1 ≤ (ct : Int)) && decide ((ct : Int) ≤ p.2.2.2)))
set_option maxRecDepth 16384 in
def tkq (md : aMd) (cs : List aC) (st op ct : Nat) (q : Option (Nat × Nat × Nat)) : Bool := match cs, q with
  | [c], none => decide (c.1 = some (0, 0))
  | [c], some p => decide (c.1 = some (1, 1)) && c.2.2.all (fun s => decide (s.2.2.1 < aEQ)) && nwv md c 55 7 st p.1 && nwv md c 55 11 op p.2.1 && nwv md c 57 0 ct p.2.2
  | _, _ => false
set_option maxRecDepth 16384 in
def tkf (s : aM) (st op ct : Nat) (t : Int) (q : Option (Nat × Nat × Nat)) : Bool := s.2.2.2.1.all (prv st op ct t) && decide (s.1 = 76) && decide (s.2.1 ≤ 10) && decide (s.2.2.1 = [(1, 55, 0)]) && amdsub s.2.2.2.2.1 mdTk && tkq s.2.2.2.2.1 s.2.2.2.2.2 st op ct q
set_option maxRecDepth 16384 in
theorem a_lt {x : Int32} {lo hi : Int} (h : ain (lo, hi) x) : lo ≤ x.toInt ∧ x.toInt ≤ hi := h
set_option maxRecDepth 16384 in
theorem nwv_ok {md : aMd} {c : aC} {cell j old new : Nat} {J J' : gI} (h : nwv md c cell j old new = true) (ho : (J cell j).toInt = old) (hf : afr md J J') (hc : ∀ s ∈ c.2.2, slotOK J' s) (hb : ∀ s ∈ c.2.2, s.2.2.1 < aEQ) : (J' cell j).toInt = new := by
  unfold nwv at h
  rw [Bool.or_eq_true] at h
  rcases h with h | h
  · simp only [Bool.and_eq_true, decide_eq_true_eq, Bool.not_eq_true'] at h
    rw [hf cell j h.2, ho, h.1]
  · obtain ⟨p, hp, h⟩ := List.any_eq_true.mp h
    simp only [Bool.and_eq_true, decide_eq_true_eq] at h
    have h2 := a_lt (slotOK_b (s := p) (hb p hp) (hc p hp))
    rw [h.1.1.1, h.1.1.2, h.1.2, h.2] at h2
    omega
set_option maxRecDepth 16384 in
def tkR (q : Option (Nat × Nat × Nat)) (x : Int32) (J' : gI) : Prop := match q with
  | none => x = 0
  | some p => x = 1 ∧ (J' 55 7).toInt = p.1 ∧ (J' 55 11).toInt = p.2.1 ∧ (J' 57 0).toInt = p.2.2
section TKX
variable {d : Nat} {Q : Option Value → gH → Prop}
set_option maxRecDepth 16384 in
theorem takes_s {J : gI} {st op ct : Nat} {t : Int} {q : Option (Nat × Nat × Nat)} {s : aM} (hs : MSok bT (fun _ => True) MT s) (hf : tkf s st op ct t q = true) (hi : aInv bT J) (h5 : (J 55 5).toInt = t) (h7 : (J 55 7).toInt = st) (h11 : (J 55 11).toInt = op) (h0 : (J 57 0).toInt = ct) (hQ : ∀ J' (x : Int32), aInv bT J' → afr mdTk J J' → tkR q x J' → Q (some (.int x)) (SH0, RF0, J')) : gg (d + 10) mX5_takes 0 (gent 1 [.ref 55]) [] J Q := by
  unfold tkf at hf
  simp only [Bool.and_eq_true, decide_eq_true_eq] at hf
  obtain ⟨⟨⟨⟨⟨hp, hm⟩, hh⟩, ha⟩, hmd⟩, hq⟩ := hf
  have go := hs mX5_takes (by rw [hm]; exact mt_X5_takes) (d + (10 - s.2.1)) [.ref 55] J (by rw [ha]; exact ⟨⟨55, rfl, rfl⟩, trivial⟩) hi trivial (fun p hpm => by
    have h := List.all_eq_true.mp hp p hpm
    unfold prv at h
    simp only [Bool.and_eq_true, Bool.or_eq_true, decide_eq_true_eq] at h
    obtain ⟨hl, h⟩ := h
    refine slotOK_m hl ?_
    rcases h with ((h | h) | h) | h <;> (rw [h.1.1.1, h.1.1.2]; exact ⟨by show _ ≤ (J _ _).toInt; omega, by show (J _ _).toInt ≤ _; omega⟩))
  rw [Nat.add_assoc, Nat.sub_add_cancel hh] at go
  refine G_mono go ?_
  rintro r hh2 ⟨J', rfl, i', f', c, hc, e1, -, e3⟩
  have fT : afr mdTk J J' := afr.rf.tr f' hmd
  generalize s.2.2.2.2.2 = cs at hc hq
  generalize s.2.2.2.2.1 = md at f' hq
  unfold tkq at hq
  split at hq
  · have ec := List.mem_singleton.mp hc
    subst ec
    rw [of_decide_eq_true hq] at e1
    obtain ⟨x, rfl, hx⟩ := e1
    have hx := a_lt hx
    exact hQ J' x i' fT (Int32.toInt_inj.mp (by show x.toInt = 0; omega))
  · have ec := List.mem_singleton.mp hc
    subst ec
    simp only [Bool.and_eq_true, decide_eq_true_eq, List.all_eq_true] at hq
    obtain ⟨⟨⟨⟨hq1, hqb⟩, hq2⟩, hq3⟩, hq4⟩ := hq
    rw [hq1] at e1
    obtain ⟨x, rfl, hx⟩ := e1
    have hx := a_lt hx
    exact hQ J' x i' fT ⟨Int32.toInt_inj.mp (by show x.toInt = 1; omega), nwv_ok hq2 h7 f' e3 hqb, nwv_ok hq3 h11 f' e3 hqb, nwv_ok hq4 h0 f' e3 hqb⟩
  · cases hq
set_option maxRecDepth 16384 in
/-- states as they may be -/
def stI (st op ct : Nat) : Prop := st < 7 ∧ op < 4 ∧ ct < 9 ∧ (1 ≤ st → st ≤ 5 → ct < 8)
set_option maxRecDepth 16384 in
def tml : List Int := [0, 1, 2, 3, 4, 5, 6, 7, 8, 9, 10, 11, 12, 13, 14, 15, 16, 17, 100, 101, 240, 241, 259, 260, 261, 262]
set_option maxRecDepth 16384 in
def stB (st op ct : Nat) : Bool := decide (st < 7) && decide (op < 4) && decide (ct < 9) && (decide (ct < 8) || decide (st = 0) || decide (st = 6))
set_option maxRecDepth 16384 in
theorem tk_all : (List.range 7).all (fun st => (List.range 4).all fun op => (List.range 9).all fun ct => !(stB st op ct) || tml.all fun m => (TKS st).any (fun s => tkf s st op ct (cmT m) (stp st op ct m)) && (match stp st op ct m with | none => true | some p => stB p.1 p.2.1 p.2.2)) = true := by decide +kernel
set_option maxRecDepth 16384 in
theorem stB_I {st op ct : Nat} : stB st op ct = true ↔ stI st op ct := by
  unfold stB stI
  simp only [Bool.and_eq_true, Bool.or_eq_true, decide_eq_true_eq]
  omega
set_option maxRecDepth 16384 in
theorem stp_w {st op ct : Nat} {m : Int} (h : m = 101 ∨ (200 ≤ m ∧ ¬ (m = 240 ∨ m = 241 ∨ m = 259 ∨ m = 260 ∨ m = 261 ∨ m = 262))) : stp st op ct m = none := by
  unfold stp
  split
  · rw [if_neg (by omega)]
  · split
    · rw [if_neg (by omega), if_neg (by omega)]
    · split
      · rw [if_neg (by omega), if_neg (by omega), if_neg (by omega)]
      · split
        · rw [if_neg (by omega)]
        · split
          · rw [if_neg (by omega)]
          · split
            · rw [if_neg (by omega), if_neg (by omega), if_neg (by omega)]
            · rw [if_neg (by omega)]
set_option maxRecDepth 16384 in
theorem nxB_rg {B : Nat → Int} (h : okB B) {a : Nat} : (nxB B a).1 = -1 ∨ (nxB B a).1 ∈ tml ∨ (200 ≤ (nxB B a).1 ∧ (nxB B a).1 ≤ 455 ∧ ¬ ((nxB B a).1 = 240 ∨ (nxB B a).1 = 241 ∨ (nxB B a).1 = 259 ∨ (nxB B a).1 = 260 ∨ (nxB B a).1 = 261 ∨ (nxB B a).1 = 262)) := by
  have hs : ∀ m : Int, m = 101 ∨ (0 ≤ m ∧ m ≤ 17) ∨ m = 100 → m ∈ tml := fun m hm => by
    have e : m = 0 ∨ m = 1 ∨ m = 2 ∨ m = 3 ∨ m = 4 ∨ m = 5 ∨ m = 6 ∨ m = 7 ∨ m = 8 ∨ m = 9 ∨ m = 10 ∨ m = 11 ∨ m = 12 ∨ m = 13 ∨ m = 14 ∨ m = 15 ∨ m = 16 ∨ m = 17 ∨ m = 100 ∨ m = 101 := by omega
    unfold tml
    simp only [List.mem_cons, List.not_mem_nil, or_false]
    omega
  have hB := h.2 (sk isSp B a)
  unfold nxB
  split
  · exact Or.inl rfl
  · split
    · refine Or.inr (Or.inl (hs _ ?_))
      rcases (wd_cm (B := B) (b := sk isSp B a) (e := sk isLt B (sk isSp B a))).2 with e | e
      · exact Or.inl e
      · exact Or.inr (Or.inl e)
    · split
      · refine Or.inr (Or.inl (hs _ ?_))
        show (if _ then (101 : Int) else 100) = 101 ∨ _ ∨ (if _ then (101 : Int) else 100) = 100
        split
        · exact Or.inl rfl
        · exact Or.inr (Or.inr rfl)
      · by_cases e : 200 + B (sk isSp B a) = 240 ∨ 200 + B (sk isSp B a) = 241 ∨ 200 + B (sk isSp B a) = 259 ∨ 200 + B (sk isSp B a) = 260 ∨ 200 + B (sk isSp B a) = 261 ∨ 200 + B (sk isSp B a) = 262
        · refine Or.inr (Or.inl ?_)
          show (200 + B (sk isSp B a)) ∈ tml
          rcases e with e | e | e | e | e | e <;> (rw [e]; decide)
        · exact Or.inr (Or.inr ⟨by show 200 ≤ 200 + _; omega, by show 200 + _ ≤ 455; omega, e⟩)
set_option maxRecDepth 16384 in
theorem cmT_w {m : Int} (h : 200 ≤ m ∧ ¬ (m = 240 ∨ m = 241 ∨ m = 259 ∨ m = 260 ∨ m = 261 ∨ m = 262)) : cmT m = -1 := by
  unfold cmT
  rw [if_neg (by omega), if_neg (by omega), if_neg (by omega), if_neg (by omega), if_neg (by omega), if_neg (by omega), if_neg (by omega), if_neg (by omega), if_neg (by omega)]
set_option maxRecDepth 16384 in
/-- a token that isn't the end has a summary -/
theorem tk_has {st op ct : Nat} {m : Int} (hI : stI st op ct) (hm : m ∈ tml ∨ (200 ≤ m ∧ ¬ (m = 240 ∨ m = 241 ∨ m = 259 ∨ m = 260 ∨ m = 261 ∨ m = 262))) : (∃ s ∈ TKS st, tkf s st op ct (cmT m) (stp st op ct m) = true) ∧ ∀ p, stp st op ct m = some p → stI p.1 p.2.1 p.2.2 := by
  have key : ∀ m ∈ tml, (∃ s ∈ TKS st, tkf s st op ct (cmT m) (stp st op ct m) = true) ∧ ∀ p, stp st op ct m = some p → stI p.1 p.2.1 p.2.2 := fun m hm => by
    have k := List.all_eq_true.mp (List.all_eq_true.mp (List.all_eq_true.mp tk_all st (List.mem_range.mpr hI.1)) op (List.mem_range.mpr hI.2.1)) ct (List.mem_range.mpr hI.2.2.1)
    rw [stB_I.mpr hI, Bool.not_true, Bool.false_or] at k
    have k := List.all_eq_true.mp k m hm
    rw [Bool.and_eq_true, List.any_eq_true] at k
    refine ⟨k.1, fun p hp => ?_⟩
    have k2 := k.2
    rw [hp] at k2
    exact stB_I.mp k2
  rcases hm with hm | hm
  · exact key m hm
  · have k := key 101 (by decide)
    rw [stp_w (Or.inl rfl), show cmT 101 = -1 from rfl] at k
    rw [stp_w (Or.inr hm), cmT_w hm]
    exact k
set_option maxRecDepth 16384 in
theorem takes_T {J : gI} {st op ct : Nat} {m : Int} (hI : stI st op ct) (hm : m ∈ tml ∨ (200 ≤ m ∧ ¬ (m = 240 ∨ m = 241 ∨ m = 259 ∨ m = 260 ∨ m = 261 ∨ m = 262))) (hi : aInv bT J) (h5 : (J 55 5).toInt = cmT m) (h7 : (J 55 7).toInt = st) (h11 : (J 55 11).toInt = op) (h0 : (J 57 0).toInt = ct) (hN : ∀ J', stp st op ct m = none → aInv bT J' → afr mdTk J J' → Q (some (.int 0)) (SH0, RF0, J')) (hS : ∀ J' p, stp st op ct m = some p → stI p.1 p.2.1 p.2.2 → aInv bT J' → afr mdTk J J' → (J' 55 7).toInt = p.1 → (J' 55 11).toInt = p.2.1 → (J' 57 0).toInt = p.2.2 → Q (some (.int 1)) (SH0, RF0, J')) : gg (d + 10) mX5_takes 0 (gent 1 [.ref 55]) [] J Q := by
  obtain ⟨⟨s, hs1, hs2⟩, hp⟩ := tk_has hI hm
  refine takes_s (TKS_ok s hs1) hs2 hi h5 h7 h11 h0 (fun J' x i' f' hx => ?_)
  cases e : stp st op ct m with
  | none =>
    rw [e] at hx
    have hx : x = 0 := hx
    rw [hx]
    exact hN J' e i' f'
  | some p =>
    rw [e] at hx
    have hx : x = 1 ∧ (J' 55 7).toInt = p.1 ∧ (J' 55 11).toInt = p.2.1 ∧ (J' 57 0).toInt = p.2.2 := hx
    rw [hx.1]
    exact hS J' p e (hp p e) i' f' hx.2.1 hx.2.2.1 hx.2.2.2
end TKX
