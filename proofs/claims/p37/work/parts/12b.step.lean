section ST
variable {bt : aT} {md : aMd} {I0 : gI} {M : gM} {Q : Option Value → gH → Prop} {D : Nat} {ρ0 : List Int32} {mt : List gM} {pc n a : Nat} {z : Int} {ps : List (Int × Nat)} {L : aL} {S : List aV} {B : aB} {K : aK} {l : List aS}
def s12 (bt : aT) (pc n a : Nat) (z : Int) (L : aL) (S : List aV) (B : aB) (K : aK) : Option (List aS) := match S with
  | (1, c) :: S' => if SH0[c.toNat]? = some (0, z.toNat) then some [(pc + n, L, (aldc bt B K c.toNat a).1 :: S', (aldc bt B K c.toNat a).2.1, (aldc bt B K c.toNat a).2.2)] else none
  | _ => none
theorem s12_ok (ho : opP mt M pc 12 n a z ps) (hs : s12 bt pc n a z L S B K = some l) (hl : ∀ σ ∈ l, aGo bt md I0 M Q D ρ0 σ) : aGo bt md I0 M Q D ρ0 (pc, L, S, B, K) := by
  intro ρ Lc Sc I hρ hL hS hB hK hF
  unfold s12 at hs
  split at hs
  next c S' =>
    split at hs
    next h =>
      cases hs
      obtain ⟨v, Sc1, rfl, h1, h2⟩ := aSt.cons hS
      obtain ⟨k, rfl, rfl⟩ := h1.cell
      rw [Int.toNat_natCast] at h hl
      obtain ⟨ρ', e1, e2, e3, e4⟩ := aldc_ok (c := k) (j := a) hB hK
      exact ho D Lc Sc1 I Q k h (hl _ List.mem_cons_self ρ' Lc _ I (hρ.tr e1) (hL.mono e1) ⟨aev.ofInt e4, h2.mono e1⟩ e2 e3 hF)
    next => cases hs
  next => cases hs
def s13 (pc n a : Nat) (z : Int) (L : aL) (S : List aV) (B : aB) (K : aK) : Option (List aS) := match S with
  | (1, c) :: S' => (match RF0 c.toNat a with
    | some r => if SH0[c.toNat]? = some (0, z.toNat) then some [(pc + n, L, (1, (r : Int)) :: S', B, K)] else none
    | none => none)
  | _ => none
theorem s13_ok (ho : opP mt M pc 13 n a z ps) (hs : s13 pc n a z L S B K = some l) (hl : ∀ σ ∈ l, aGo bt md I0 M Q D ρ0 σ) : aGo bt md I0 M Q D ρ0 (pc, L, S, B, K) := by
  intro ρ Lc Sc I hρ hL hS hB hK hF
  unfold s13 at hs
  split at hs
  next c S' =>
    split at hs
    next r hr =>
      split at hs
      next h =>
        cases hs
        obtain ⟨v, Sc1, rfl, h1, h2⟩ := aSt.cons hS
        obtain ⟨k, rfl, rfl⟩ := h1.cell
        rw [Int.toNat_natCast] at h hr
        exact ho D Lc Sc1 I Q k r h hr (hl _ List.mem_cons_self ρ Lc _ I hρ hL ⟨Or.inr ⟨r, rfl, rfl⟩, h2⟩ hB hK hF)
      next => cases hs
    next => cases hs
  next => cases hs
def s14 (md : aMd) (t pc n a : Nat) (z : Int) (L : aL) (S : List aV) (B : aB) (K : aK) : Option (List aS) := match S with
  | v :: (1, c) :: S' => (match abd B v with
    | some p => if SH0[c.toNat]? = some (0, z.toNat) ∧ amodr md c.toNat a a = true ∧ (t = 14 ∨ (0 ≤ p.1 ∧ p.2 ≤ 1)) then some [(pc + n, L, S', B, astc K c.toNat a v)] else none
    | none => none)
  | _ => none
theorem a_01 {x : Int32} (h1 : 0 ≤ x.toInt) (h2 : x.toInt ≤ 1) : x = 0 ∨ x = 1 := by
  have h : x.toInt = 0 ∨ x.toInt = 1 := by omega
  exact h.imp (fun e => Int32.toInt_inj.mp (e.trans rfl)) (fun e => Int32.toInt_inj.mp (e.trans rfl))
theorem s14_ok {t : Nat} (ht : t = 14 ∨ t = 15) (ho : opP mt M pc t n a z ps) (hs : s14 md t pc n a z L S B K = some l) (hl : ∀ σ ∈ l, aGo bt md I0 M Q D ρ0 σ) : aGo bt md I0 M Q D ρ0 (pc, L, S, B, K) := by
  intro ρ Lc Sc I hρ hL hS hB hK hF
  unfold s14 at hs
  split at hs
  next v c S' =>
    split at hs
    next p hp =>
      split at hs
      next h =>
        cases hs
        obtain ⟨w, Sc1, rfl, h1, h2⟩ := aSt.cons hS
        obtain ⟨u, Sc2, rfl, h3, h4⟩ := aSt.cons h2
        obtain ⟨x, rfl, hx⟩ := h1.bd hp
        obtain ⟨k, rfl, rfl⟩ := h3.cell
        rw [Int.toNat_natCast] at h hl
        have go := hl _ List.mem_cons_self ρ Lc Sc2 (gup I k a x) hρ hL h4 hB (astc_ok hK hx) (hF.put h.2.1)
        rcases ht with rfl | rfl
        · exact ho D Lc Sc2 I Q k x h.1 go
        · have hp1 := abd_ok hB hx hp
          have h01 := h.2.2.resolve_left (by decide)
          exact ho D Lc Sc2 I Q k x h.1 (a_01 (by omega) (by omega)) go
      next => cases hs
    next => cases hs
  next => cases hs
/-- a place of a row: within it -/
def s16 (bt : aT) (pc n a : Nat) (L : aL) (S : List aV) (B : aB) (K : aK) : Option (List aS) := match S with
  | y :: (1, c) :: S' => (match abd B y, SH0[c.toNat]? with
    | some q, some s => if s.1 = a ∧ 0 ≤ q.1 ∧ q.2 < (s.2 : Int) then
        (if q.1 = q.2 then some [(pc + n, L, (aldc bt B K c.toNat q.1.toNat).1 :: S', (aldc bt B K c.toNat q.1.toNat).2.1, (aldc bt B K c.toNat q.1.toNat).2.2)]
        else match khull B K c.toNat q.1.toNat q.2.toNat (bhull (bt.getD c.toNat []) q.1.toNat q.2.toNat) with
          | some g => some [(pc + n, L, (amk B g none).1 :: S', (amk B g none).2, K)]
          | none => none) else none
    | _, _ => none)
  | _ => none
theorem s16_ok (ho : opP mt M pc 16 n a z ps) (hs : s16 bt pc n a L S B K = some l) (hl : ∀ σ ∈ l, aGo bt md I0 M Q D ρ0 σ) : aGo bt md I0 M Q D ρ0 (pc, L, S, B, K) := by
  intro ρ Lc Sc I hρ hL hS hB hK hF
  unfold s16 at hs
  split at hs
  next y c S' =>
    split at hs
    next q s hq hsh =>
      split at hs
      next h =>
        obtain ⟨w, Sc1, rfl, h1, h2⟩ := aSt.cons hS
        obtain ⟨u, Sc2, rfl, h3, h4⟩ := aSt.cons h2
        obtain ⟨yy, rfl, hy⟩ := h1.bd hq
        obtain ⟨k, rfl, rfl⟩ := h3.cell
        have hq1 := abd_ok hB hy hq
        rw [Int.toNat_natCast] at hsh hs
        obtain ⟨rfl, h0, hn⟩ := h
        have hgo := ho D Lc Sc2 I Q k s.2 yy hsh (by omega) (by omega)
        split at hs
        next he =>
          cases hs
          obtain ⟨ρ', e1, e2, e3, e4⟩ := aldc_ok (c := k) (j := q.1.toNat) hB hK
          have ey : yy.toInt.toNat = q.1.toNat := by
            congr 1
            omega
          rw [ey] at hgo
          exact hgo (hl _ List.mem_cons_self ρ' Lc _ I (hρ.tr e1) (hL.mono e1) ⟨aev.ofInt e4, h4.mono e1⟩ e2 e3 hF)
        next he =>
          split at hs
          next g hg =>
            cases hs
            have hin := khull_in (j := yy.toInt.toNat) hB hK hg (by omega) (by omega)
            obtain ⟨ρ', e1, e2, e3⟩ := amk_ok (ex := none) hB hin.1 hin.2 (fun a b h => by cases h)
            exact hgo (hl _ List.mem_cons_self ρ' Lc _ I (hρ.tr e1) (hL.mono e1) ⟨aev.ofInt e3, h4.mono e1⟩ e2 (hK.mono e1) hF)
          next => cases hs
      next => cases hs
    next => cases hs
  next => cases hs
/-- rows of references: each place that can be -/
def s17l (c lo : Nat) (pc : Nat) (L : aL) (y : aV) (S : List aV) (B : aB) (K : aK) : Nat → Option (List aS)
  | 0 => some []
  | i + 1 => match RF0 c (lo + i), s17l c lo pc L y S B K i with
    | some r, some l => some ((match aref B y ((lo + i : Nat) : Int) ((lo + i : Nat) : Int) with
      | some B' => [(pc, L, (1, (r : Int)) :: S, B', K)]
      | none => []) ++ l)
    | _, _ => none
theorem s17l_in {c lo : Nat} {y : aV} {yy : Int32} {ρ : List Int32} {j : Nat} (hB : aok B ρ) (hy : aiv ρ y yy) (hj : yy.toInt = (j : Int)) : ∀ {i : Nat} {l : List aS}, s17l c lo pc L y S B K i = some l → lo ≤ j → j < lo + i → ∃ r B', RF0 c j = some r ∧ (pc, L, (1, (r : Int)) :: S, B', K) ∈ l ∧ aok B' ρ
  | 0, _, _, h1, h2 => absurd h2 (by omega)
  | i + 1, l, hs, h1, h2 => by
    simp only [s17l] at hs
    split at hs
    next r l' hr hl' =>
      cases hs
      by_cases e : j = lo + i
      · subst e
        obtain ⟨B', eb, hb⟩ := aref_ok (lo := ((lo + i : Nat) : Int)) (hi := ((lo + i : Nat) : Int)) hB hy (by omega) (by omega)
        refine ⟨r, B', hr, List.mem_append_left _ ?_, hb⟩
        rw [eb]
        exact List.mem_cons_self
      · obtain ⟨r', B', q1, q2, q3⟩ := s17l_in hB hy hj hl' h1 (by omega)
        exact ⟨r', B', q1, List.mem_append_right _ q2, q3⟩
    next => cases hs
def s17 (pc n : Nat) (L : aL) (S : List aV) (B : aB) (K : aK) : Option (List aS) := match S with
  | y :: (1, c) :: S' => (match abd B y, SH0[c.toNat]? with
    | some q, some s => if (s.1 = 4 ∨ s.1 = 5) ∧ 0 ≤ q.1 ∧ q.2 < (s.2 : Int) then s17l c.toNat q.1.toNat (pc + n) L y S' B K (q.2 + 1 - q.1).toNat else none
    | _, _ => none)
  | _ => none
theorem s17_ok (ho : opP mt M pc 17 n a z ps) (hs : s17 pc n L S B K = some l) (hl : ∀ σ ∈ l, aGo bt md I0 M Q D ρ0 σ) : aGo bt md I0 M Q D ρ0 (pc, L, S, B, K) := by
  intro ρ Lc Sc I hρ hL hS hB hK hF
  unfold s17 at hs
  split at hs
  next y c S' =>
    split at hs
    next q s hq hsh =>
      split at hs
      next h =>
        obtain ⟨w, Sc1, rfl, h1, h2⟩ := aSt.cons hS
        obtain ⟨u, Sc2, rfl, h3, h4⟩ := aSt.cons h2
        obtain ⟨yy, rfl, hy⟩ := h1.bd hq
        obtain ⟨k, rfl, rfl⟩ := h3.cell
        have hq1 := abd_ok hB hy hq
        rw [Int.toNat_natCast] at hsh hs
        obtain ⟨r, B', g1, g2, g3⟩ := s17l_in (j := yy.toInt.toNat) hB hy (by omega) hs (by omega) (by omega)
        refine ho D Lc Sc2 I Q k s.2 r yy ?_ (by omega) (by omega) g1 (hl _ g2 ρ Lc _ I hρ hL ⟨Or.inr ⟨r, rfl, rfl⟩, h4⟩ g3 hK hF)
        exact h.1.imp (fun e => by rw [hsh, ← e]) (fun e => by rw [hsh, ← e])
      next => cases hs
    next => cases hs
  next => cases hs
/-- a store into a row -/
def aput (bt : aT) (md : aMd) (B : aB) (K : aK) (c nn : Nat) (q b : Int × Int) (v : aV) : Option aK :=
  if 0 ≤ q.1 ∧ q.2 < (nn : Int) ∧ amodr md c q.1.toNat q.2.toNat = true then
    (if q.1 = q.2 then some (astc K c q.1.toNat v)
    else if asub b (bmeet (bt.getD c []) q.1.toNat q.2.toNat) = true ∧ K.all (fun k => aout c q.1.toNat q.2.toNat k || k1 bt B k) = true then some (K.filter (aout c q.1.toNat q.2.toNat)) else none)
  else none
theorem aput_ok {c nn : Nat} {q b : Int × Int} {v : aV} {K' : aK} {ρ : List Int32} {I : gI} {y x : Int32} (hs : aput bt md B K c nn q b v = some K') (hB : aok B ρ) (hK : aheap bt K ρ I) (hF : afr md I0 I) (hy : ain q y) (hx : aiv ρ v x) (hb : ain b x) :
    0 ≤ y.toInt ∧ y.toInt < nn ∧ aheap bt K' ρ (gup I c y.toInt.toNat x) ∧ afr md I0 (gup I c y.toInt.toNat x) := by
  have y1 := hy.1
  have y2 := hy.2
  unfold aput at hs
  split at hs
  next h =>
    obtain ⟨h0, hn, hm⟩ := h
    have hm1 : amodr md c y.toInt.toNat y.toInt.toNat = true := amodr_in hm (by omega) (by omega)
    refine ⟨by omega, by omega, ?_, hF.put hm1⟩
    split at hs
    next he =>
      cases hs
      have ey : q.1.toNat = y.toInt.toNat := by
        congr 1
        omega
      rw [ey]
      exact astc_ok hK hx
    next he =>
      split at hs
      next hh =>
        cases hs
        exact astr_ok hB hK hb hh.1 hh.2 (by omega) (by omega)
      next => cases hs
  next => cases hs
def s18 (bt : aT) (md : aMd) (pc n : Nat) (L : aL) (S : List aV) (B : aB) (K : aK) : Option (List aS) := match S with
  | v :: y :: (1, c) :: S' => (match abd B v, abd B y, SH0[c.toNat]? with
    | some b, some q, some s => if s.1 = 1 then (match aput bt md B K c.toNat s.2 q b v with
      | some K' => some [(pc + n, L, S', B, K')]
      | none => none) else none
    | _, _, _ => none)
  | _ => none
theorem s18_ok (ho : opP mt M pc 18 n a z ps) (hs : s18 bt md pc n L S B K = some l) (hl : ∀ σ ∈ l, aGo bt md I0 M Q D ρ0 σ) : aGo bt md I0 M Q D ρ0 (pc, L, S, B, K) := by
  intro ρ Lc Sc I hρ hL hS hB hK hF
  unfold s18 at hs
  split at hs
  next v y c S' =>
    split at hs
    next b q s hb hq hsh =>
      split at hs
      next h1 =>
        split at hs
        next K' hK' =>
          cases hs
          obtain ⟨w, Sc1, rfl, g1, g2⟩ := aSt.cons hS
          obtain ⟨u, Sc2, rfl, g3, g4⟩ := aSt.cons g2
          obtain ⟨t, Sc3, rfl, g5, g6⟩ := aSt.cons g4
          obtain ⟨x, rfl, hx⟩ := g1.bd hb
          obtain ⟨yy, rfl, hy⟩ := g3.bd hq
          obtain ⟨k, rfl, rfl⟩ := g5.cell
          rw [Int.toNat_natCast] at hsh hK'
          obtain ⟨r1, r2, r3, r4⟩ := aput_ok hK' hB hK hF (abd_ok hB hy hq) hx (abd_ok hB hx hb)
          exact ho D Lc Sc3 I Q k s.2 yy x (by rw [hsh, ← h1]) r1 r2 (hl _ List.mem_cons_self ρ Lc _ _ hρ hL g6 hB r3 r4)
        next => cases hs
      next => cases hs
    next => cases hs
  next => cases hs
theorem a_nar (x : Int32) : 0 ≤ (vp_nar .boolean x).toInt ∧ (vp_nar .boolean x).toInt ≤ 1 := by
  have h : vp_nar .boolean x = x &&& 1 := rfl
  rw [h]
  have := b_and (x := x) (y := 1) (by decide)
  have e : (1 : Int32).toInt = 1 := rfl
  rw [e] at this
  exact this
def s19 (bt : aT) (md : aMd) (pc n : Nat) (L : aL) (S : List aV) (B : aB) (K : aK) : Option (List aS) := match S with
  | v :: y :: (1, c) :: S' => (match abd B v, abd B y, SH0[c.toNat]? with
    | some _, some q, some s => if s.1 = 2 then (match aput bt md (amk B (0, 1) none).2 K c.toNat s.2 q (0, 1) (amk B (0, 1) none).1 with
      | some K' => some [(pc + n, L, S', (amk B (0, 1) none).2, K')]
      | none => none) else none
    | _, _, _ => none)
  | _ => none
theorem s19_ok (ho : opP mt M pc 19 n a z ps) (hs : s19 bt md pc n L S B K = some l) (hl : ∀ σ ∈ l, aGo bt md I0 M Q D ρ0 σ) : aGo bt md I0 M Q D ρ0 (pc, L, S, B, K) := by
  intro ρ Lc Sc I hρ hL hS hB hK hF
  unfold s19 at hs
  split at hs
  next v y c S' =>
    split at hs
    next b q s hb hq hsh =>
      split at hs
      next h1 =>
        split at hs
        next K' hK' =>
          cases hs
          obtain ⟨w, Sc1, rfl, g1, g2⟩ := aSt.cons hS
          obtain ⟨u, Sc2, rfl, g3, g4⟩ := aSt.cons g2
          obtain ⟨t, Sc3, rfl, g5, g6⟩ := aSt.cons g4
          obtain ⟨x, rfl, hx⟩ := g1.bd hb
          obtain ⟨yy, rfl, hy⟩ := g3.bd hq
          obtain ⟨k, rfl, rfl⟩ := g5.cell
          rw [Int.toNat_natCast] at hsh hK'
          have hn := a_nar x
          obtain ⟨ρ', e1, e2, e3⟩ := amk_ok (b := (0, 1)) (ex := none) hB hn.1 hn.2 (fun a b h => by cases h)
          obtain ⟨r1, r2, r3, r4⟩ := aput_ok hK' e2 (hK.mono e1) hF (abd_ok hB hy hq) e3 hn
          exact ho D Lc Sc3 I Q k s.2 yy x (by rw [hsh, ← h1]) r1 r2 (hl _ List.mem_cons_self ρ' Lc _ _ (hρ.tr e1) (hL.mono e1) (g6.mono e1) e2 r3 r4)
        next => cases hs
      next => cases hs
    next => cases hs
  next => cases hs
def s20 (pc n : Nat) (L : aL) (S : List aV) (B : aB) (K : aK) : Option (List aS) := match S with
  | (1, c) :: S' => (match SH0[c.toNat]? with
    | some s => if s.1 = 1 ∧ s.2 < 1000 then some [(pc + n, L, (2, (s.2 : Int)) :: S', B, K)] else none
    | none => none)
  | _ => none
theorem s20_ok (ho : opP mt M pc 20 n a z ps) (hs : s20 pc n L S B K = some l) (hl : ∀ σ ∈ l, aGo bt md I0 M Q D ρ0 σ) : aGo bt md I0 M Q D ρ0 (pc, L, S, B, K) := by
  intro ρ Lc Sc I hρ hL hS hB hK hF
  unfold s20 at hs
  split at hs
  next c S' =>
    split at hs
    next s hsh =>
      split at hs
      next h =>
        cases hs
        obtain ⟨v, Sc1, rfl, h1, h2⟩ := aSt.cons hS
        obtain ⟨k, rfl, rfl⟩ := h1.cell
        rw [Int.toNat_natCast] at hsh
        exact ho D Lc Sc1 I Q k s.2 (by rw [hsh, ← h.1]) (hl _ List.mem_cons_self ρ Lc _ I hρ hL ⟨aev.ofInt (aiv.of (Int32.toInt_ofNat_of_lt (by omega))), h2⟩ hB hK hF)
      next => cases hs
    next => cases hs
  next => cases hs
/-- a switch: each row that can be, and the other way -/
def s24l (L : aL) (x : aV) (S : List aV) (B : aB) (K : aK) (ps : List (Int × Nat)) : List aS := ps.flatMap (fun q => aopt (aref B x q.1 q.1) q.2 L S K)
def acov (p : Int × Int) (ps : List (Int × Nat)) : Bool := decide (p.2 - p.1 < 64) && (List.range (p.2 - p.1 + 1).toNat).all (fun i => ps.any (fun q => decide (q.1 = p.1 + i)))
def s24 (a : Nat) (ps : List (Int × Nat)) (L : aL) (S : List aV) (B : aB) (K : aK) : Option (List aS) := match S with
  | x :: S' => (match abd B x with
    | some p => some (s24l L x S' B K ps ++ if acov p ps = true then [] else [(a, L, S', B, K)])
    | none => none)
  | _ => none
theorem s24_ok (ho : opP mt M pc 24 n a z ps) (hs : s24 a ps L S B K = some l) (hl : ∀ σ ∈ l, aGo bt md I0 M Q D ρ0 σ) : aGo bt md I0 M Q D ρ0 (pc, L, S, B, K) := by
  intro ρ Lc Sc I hρ hL hS hB hK hF
  unfold s24 at hs
  split at hs
  next x S' =>
    split at hs
    next p hp =>
      cases hs
      obtain ⟨v, Sc1, rfl, h1, h2⟩ := aSt.cons hS
      obtain ⟨xx, rfl, hx⟩ := h1.bd hp
      have hp1 := abd_ok hB hx hp
      refine ho D Lc Sc1 I Q xx (fun q hq he => ?_) (fun hn => ?_)
      · obtain ⟨B', eb, hb⟩ := aref_ok (lo := q.1) (hi := q.1) hB hx (by omega) (by omega)
        refine hl (q.2, L, S', B', K) (List.mem_append_left _ (List.mem_flatMap.mpr ⟨q, hq, ?_⟩)) ρ Lc Sc1 I hρ hL h2 hb hK hF
        rw [eb]
        exact List.mem_cons_self
      · by_cases hc : acov p ps = true
        · simp only [acov, Bool.and_eq_true, List.all_eq_true, List.any_eq_true, decide_eq_true_eq] at hc
          obtain ⟨q, hq, e⟩ := hc.2 (xx.toInt - p.1).toNat (List.mem_range.mpr (by omega))
          exact absurd (show xx.toInt = q.1 by omega) (hn q hq)
        · refine hl (a, L, S', B, K) (List.mem_append_right _ ?_) ρ Lc Sc1 I hρ hL h2 hB hK hF
          rw [if_neg hc]
          exact List.mem_cons_self
    next => cases hs
  next => cases hs
end ST
