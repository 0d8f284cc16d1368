section ST
variable {bt : aT} {md : aMd} {I0 : gI} {M : gM} {Q : Option Value → gH → Prop} {D h : Nat} {ρ0 : List Int32} {mt : List gM} {pc n a : Nat} {z : Int} {ps : List (Int × Nat)} {L : aL} {S : List aV} {B : aB} {K : aK} {l : List aS}
def mbd (a : Nat) (p q : Int × Int) : Int × Int := if a = 0 then (max p.1 q.1, max p.2 q.2) else (min p.1 q.1, min p.2 q.2)
theorem mbd_ok {p q : Int × Int} {x y : Int32} (hx : ain p x) (hy : ain q y) : ain (mbd a p q) (if a = 0 then (if x < y then y else x) else (if y < x then y else x)) := by
  obtain ⟨x1, x2⟩ := hx
  obtain ⟨y1, y2⟩ := hy
  unfold mbd
  by_cases h : a = 0
  · rw [if_pos h, if_pos h]
    by_cases c : x < y
    · rw [if_pos c]
      rw [Int32.lt_iff_toInt_lt] at c
      exact ⟨by show max _ _ ≤ _; omega, by show _ ≤ max _ _; omega⟩
    · rw [if_neg c]
      rw [Int32.lt_iff_toInt_lt] at c
      exact ⟨by show max _ _ ≤ _; omega, by show _ ≤ max _ _; omega⟩
  · rw [if_neg h, if_neg h]
    by_cases c : y < x
    · rw [if_pos c]
      rw [Int32.lt_iff_toInt_lt] at c
      exact ⟨by show min _ _ ≤ _; omega, by show _ ≤ min _ _; omega⟩
    · rw [if_neg c]
      rw [Int32.lt_iff_toInt_lt] at c
      exact ⟨by show min _ _ ≤ _; omega, by show _ ≤ min _ _; omega⟩
def s27 (h pc n a : Nat) (L : aL) (S : List aV) (B : aB) (K : aK) : Option (List aS) := match S with
  | y :: x :: S' => (match abd B x, abd B y with
    | some p, some q => if 1 ≤ h ∧ S'.length ≤ 8 then some [(pc + n, L, (amk B (mbd a p q) none).1 :: S', (amk B (mbd a p q) none).2, K)] else none
    | _, _ => none)
  | _ => none
theorem s27_ok {d : Nat} (ho : opP mt M pc 27 n a z ps) (hs : s27 h pc n a L S B K = some l) (hl : ∀ σ ∈ l, aGo bt md I0 M Q (d + h) ρ0 σ) : aGo bt md I0 M Q (d + h) ρ0 (pc, L, S, B, K) := by
  intro ρ Lc Sc I hρ hL hS hB hK hF
  unfold s27 at hs
  split at hs
  next y x S' =>
    split at hs
    next p q hp hq =>
      split at hs
      next hh =>
        cases hs
        obtain ⟨h', rfl⟩ : ∃ h', h = h' + 1 := ⟨h - 1, by omega⟩
        obtain ⟨v, Sc1, rfl, h1, h2⟩ := aSt.cons hS
        obtain ⟨w, Sc2, rfl, h3, h4⟩ := aSt.cons h2
        obtain ⟨yy, rfl, hy⟩ := h1.bd hq
        obtain ⟨xx, rfl, hx⟩ := h3.bd hp
        have hb := mbd_ok (a := a) (abd_ok hB hx hp) (abd_ok hB hy hq)
        obtain ⟨ρ', e1, e2, e3⟩ := amk_ok (ex := none) hB hb.1 hb.2 (fun a b h => by cases h)
        exact ho (d + h') Lc Sc2 I Q xx yy h4.good (by rw [h4.len]; exact hh.2) (hl _ List.mem_cons_self ρ' Lc _ I (hρ.tr e1) (hL.mono e1) ⟨aev.ofInt e3, h4.mono e1⟩ e2 (hK.mono e1) hF)
      next => cases hs
    next => cases hs
  next => cases hs
def absB (p : Int × Int) : Int × Int := if aLo < p.1 then (0, max p.2 (-p.1)) else (aLo, aHi)
def s28 (h pc n : Nat) (L : aL) (S : List aV) (B : aB) (K : aK) : Option (List aS) := match S with
  | x :: S' => (match abd B x with
    | some p => if 1 ≤ h ∧ S'.length ≤ 8 then some [(pc + n, L, (amk B (absB p) none).1 :: S', (amk B (absB p) none).2, K)] else none
    | none => none)
  | _ => none
theorem s28_ok {d : Nat} (ho : opP mt M pc 28 n a z ps) (hs : s28 h pc n L S B K = some l) (hl : ∀ σ ∈ l, aGo bt md I0 M Q (d + h) ρ0 σ) : aGo bt md I0 M Q (d + h) ρ0 (pc, L, S, B, K) := by
  intro ρ Lc Sc I hρ hL hS hB hK hF
  unfold s28 at hs
  split at hs
  next x S' =>
    split at hs
    next p hp =>
      split at hs
      next hh =>
        cases hs
        obtain ⟨h', rfl⟩ : ∃ h', h = h' + 1 := ⟨h - 1, by omega⟩
        obtain ⟨v, Sc1, rfl, h1, h2⟩ := aSt.cons hS
        obtain ⟨xx, rfl, hx⟩ := h1.bd hp
        have hp1 := abd_ok hB hx hp
        have hr := a_rng xx
        have hb : ain (absB p) (if 0 ≤ xx then xx else 0 - xx) := by
          unfold absB
          by_cases hlo : aLo < p.1
          case neg =>
            rw [if_neg hlo]
            exact a_rng _
          rw [if_pos hlo]
          by_cases c : 0 ≤ xx
          · rw [if_pos c]
            rw [Int32.le_iff_toInt_le, Int32.toInt_zero] at c
            exact ⟨by show (0 : Int) ≤ _; omega, by show _ ≤ max _ _; omega⟩
          · rw [if_neg c]
            rw [Int32.le_iff_toInt_le, Int32.toInt_zero] at c
            have e : (0 - xx).toInt = -xx.toInt := by
              rw [Int32.toInt_sub, Int32.toInt_zero, a_bm (by unfold aLo aHi at *; omega) (by unfold aLo aHi at *; omega)]
              omega
            unfold ain
            rw [e]
            exact ⟨by show (0 : Int) ≤ _; omega, by show _ ≤ max _ _; omega⟩
        obtain ⟨ρ', e1, e2, e3⟩ := amk_ok (ex := none) hB hb.1 hb.2 (fun a b h => by cases h)
        exact ho (d + h') Lc Sc1 I Q xx h2.good (by rw [h2.len]; exact hh.2) (hl _ List.mem_cons_self ρ' Lc _ I (hρ.tr e1) (hL.mono e1) ⟨aev.ofInt e3, h2.mono e1⟩ e2 (hK.mono e1) hF)
      next => cases hs
    next => cases hs
  next => cases hs
theorem gcp_at {I : gI} {x y sp dp nn a j : Nat} : gcp I x y sp dp nn a j = if a = y ∧ dp ≤ j ∧ j < dp + nn then I x (sp + (j - dp)) else I a j := by
  unfold gcp
  by_cases ha : a = y
  · subst ha
    simp only [if_true, va_cpy, true_and]
  · simp only [ha, if_false, false_and]
/-- a copy from row x to row y -/
def acpy (bt : aT) (md : aMd) (B : aB) (K : aK) (x y : Nat) (p q r : Int × Int) : Option aK := match SH0[x]?, SH0[y]? with
  | some s, some t => if s.1 = 1 ∧ t.1 = 1 ∧ 0 ≤ p.1 ∧ 0 ≤ q.1 ∧ 0 ≤ r.1 ∧ 1 ≤ r.2 ∧ p.2 + r.2 ≤ s.2 ∧ q.2 + r.2 ≤ t.2 ∧ p.1 ≤ p.2 ∧ q.1 ≤ q.2 then
      (match khull B K x p.1.toNat (p.2 + r.2 - 1).toNat (bhull (bt.getD x []) p.1.toNat (p.2 + r.2 - 1).toNat) with
      | some g => if asub g (bmeet (bt.getD y []) q.1.toNat (q.2 + r.2 - 1).toNat) = true ∧ amodr md y q.1.toNat (q.2 + r.2 - 1).toNat = true ∧ K.all (fun k => aout y q.1.toNat (q.2 + r.2 - 1).toNat k || k1 bt B k) = true then some (K.filter (aout y q.1.toNat (q.2 + r.2 - 1).toNat)) else none
      | none => none) else none
  | _, _ => none
theorem acpy_ok {x y : Nat} {p q r : Int × Int} {K' : aK} {ρ : List Int32} {I : gI} {sp dp nn : Int32} (hs : acpy bt md B K x y p q r = some K') (hB : aok B ρ) (hK : aheap bt K ρ I) (hF : afr md I0 I) (hp : ain p sp) (hq : ain q dp) (hr : ain r nn) :
    ∃ n0 n1, SH0[x]? = some (1, n0) ∧ SH0[y]? = some (1, n1) ∧ 0 ≤ sp.toInt ∧ 0 ≤ dp.toInt ∧ 0 ≤ nn.toInt ∧ sp.toInt + nn.toInt ≤ n0 ∧ dp.toInt + nn.toInt ≤ n1 ∧ aheap bt K' ρ (gcp I x y sp.toInt.toNat dp.toInt.toNat nn.toInt.toNat) ∧ afr md I0 (gcp I x y sp.toInt.toNat dp.toInt.toNat nn.toInt.toNat) := by
  obtain ⟨p1, p2⟩ := hp
  obtain ⟨q1, q2⟩ := hq
  obtain ⟨r1, r2⟩ := hr
  unfold acpy at hs
  split at hs
  next s t hsx hsy =>
    split at hs
    next hh =>
      split at hs
      next g hg =>
        split at hs
        next hc =>
          cases hs
          obtain ⟨a1, a2, a3, a4, a5, a6, a7, a8, a9, a10⟩ := hh
          have hin : ∀ j, amodr md y j j = false → ¬ (dp.toInt.toNat ≤ j ∧ j < dp.toInt.toNat + nn.toInt.toNat) := fun j hj hd => by
            have := amodr_in (j := j) hc.2.1 (by omega) (by omega)
            rw [hj] at this
            cases this
          have hF1 := kfil_ok hB hK hc.2.2
          refine ⟨s.2, t.2, by rw [hsx, ← a1], by rw [hsy, ← a2], by omega, by omega, by omega, by omega, by omega, ⟨fun k hk => ?_, fun c j hn => ?_⟩, fun c j hj => ?_⟩
          · have e : gcp I x y sp.toInt.toNat dp.toInt.toNat nn.toInt.toNat k.1 k.2.1 = I k.1 k.2.1 := by
              rw [gcp_at, if_neg]
              rintro ⟨e1, e2, e3⟩
              have hm := (List.mem_filter.mp hk).2
              simp only [aout, Bool.not_eq_true', Bool.and_eq_false_iff, decide_eq_false_iff_not] at hm
              rcases hm with (hm | hm) | hm
              · exact hm e1
              · omega
              · omega
            rw [e]
            exact hF1.1 k hk
          · rw [gcp_at]
            by_cases hd : c = y ∧ dp.toInt.toNat ≤ j ∧ j < dp.toInt.toNat + nn.toInt.toNat
            · rw [if_pos hd]
              obtain ⟨rfl, d1, d2⟩ := hd
              have h1 := khull_in (j := sp.toInt.toNat + (j - dp.toInt.toNat)) hB hK hg (by omega) (by omega)
              have h2 := asub_ok hc.1 h1
              have h3 := bmeet_ok (bt.getD c []) (p := q.1.toNat) (q := (q.2 + r.2 - 1).toNat) (j := j) (by omega) (by omega)
              exact ⟨Int.le_trans h3.1 h2.1, Int.le_trans h2.2 h3.2⟩
            · rw [if_neg hd]
              exact hF1.2 c j hn
          · rw [gcp_at, if_neg]
            · exact hF c j hj
            · rintro ⟨rfl, e2, e3⟩
              exact hin j hj ⟨e2, e3⟩
        next => cases hs
      next => cases hs
    next => cases hs
  next => cases hs
def s29 (bt : aT) (md : aMd) (h pc n : Nat) (L : aL) (S : List aV) (B : aB) (K : aK) : Option (List aS) := match S with
  | nn :: dp :: (1, y) :: sp :: (1, x) :: S' => (match abd B sp, abd B dp, abd B nn with
    | some p, some q, some r => if 1 ≤ h ∧ S'.length ≤ 8 then (match acpy bt md B K x.toNat y.toNat p q r with
      | some K' => some [(pc + n, L, S', B, K')]
      | none => none) else none
    | _, _, _ => none)
  | _ => none
theorem s29_ok {d : Nat} (ho : opP mt M pc 29 n a z ps) (hs : s29 bt md h pc n L S B K = some l) (hl : ∀ σ ∈ l, aGo bt md I0 M Q (d + h) ρ0 σ) : aGo bt md I0 M Q (d + h) ρ0 (pc, L, S, B, K) := by
  intro ρ Lc Sc I hρ hL hS hB hK hF
  unfold s29 at hs
  split at hs
  next nn dp y sp x S' =>
    split at hs
    next p q r hp hq hr =>
      split at hs
      next hh =>
        split at hs
        next K' hK' =>
          cases hs
          obtain ⟨h', rfl⟩ : ∃ h', h = h' + 1 := ⟨h - 1, by omega⟩
          obtain ⟨v1, Sc1, rfl, g1, hS1⟩ := aSt.cons hS
          obtain ⟨v2, Sc2, rfl, g2, hS2⟩ := aSt.cons hS1
          obtain ⟨v3, Sc3, rfl, g3, hS3⟩ := aSt.cons hS2
          obtain ⟨v4, Sc4, rfl, g4, hS4⟩ := aSt.cons hS3
          obtain ⟨v5, Sc5, rfl, g5, hS5⟩ := aSt.cons hS4
          obtain ⟨n1, rfl, hn⟩ := g1.bd hr
          obtain ⟨d1, rfl, hd⟩ := g2.bd hq
          obtain ⟨ky, rfl, rfl⟩ := g3.cell
          obtain ⟨s1, rfl, hsp⟩ := g4.bd hp
          obtain ⟨kx, rfl, rfl⟩ := g5.cell
          rw [Int.toNat_natCast, Int.toNat_natCast] at hK'
          obtain ⟨m0, m1, w1, w2, w3, w4, w5, w6, w7, w8, w9⟩ := acpy_ok hK' hB hK hF (abd_ok hB hsp hp) (abd_ok hB hd hq) (abd_ok hB hn hr)
          exact ho (d + h') Lc Sc5 I Q kx ky m0 m1 s1 d1 n1 w1 w2 w3 w4 w5 w6 w7 hS5.good (by rw [hS5.len]; exact hh.2) (hl _ List.mem_cons_self ρ Lc _ _ hρ hL hS5 hB w8 w9)
        next => cases hs
      next => cases hs
    next => cases hs
  next => cases hs
def ahl : List (Int × Nat) → Int × Int
  | [] => (aHi, aLo)
  | q :: r => (min q.1 (ahl r).1, max q.1 (ahl r).2)
theorem ahl_ok : ∀ {ps : List (Int × Nat)} {i : Nat}, i < ps.length → (ahl ps).1 ≤ (ps.getD i (0, 0)).1 ∧ (ps.getD i (0, 0)).1 ≤ (ahl ps).2
  | [], _, h => absurd h (Nat.not_lt_zero _)
  | q :: r, 0, _ => ⟨by show min _ _ ≤ q.1; omega, by show q.1 ≤ max _ _; omega⟩
  | q :: r, i + 1, h => by
    have ih := ahl_ok (ps := r) (i := i) (by simpa using h)
    have e : ((q :: r).getD (i + 1) (0, 0)) = r.getD i (0, 0) := rfl
    rw [e]
    exact ⟨by show min _ _ ≤ _; omega, by show _ ≤ max _ _; omega⟩
def s30 (pc n a : Nat) (ps : List (Int × Nat)) (L : aL) (S : List aV) (B : aB) (K : aK) : Option (List aS) := match L[a]? with
  | some (some v) => (match abd B v with
    | some p => if 0 ≤ p.1 ∧ p.2 < (ps.length : Int) then some [(pc + n, L, (amk B (ahl ps) none).1 :: S, (amk B (ahl ps) none).2, K)] else none
    | none => none)
  | _ => none
theorem s30_ok (ho : opP mt M pc 30 n a z ps) (hs : s30 pc n a ps L S B K = some l) (hl : ∀ σ ∈ l, aGo bt md I0 M Q D ρ0 σ) : aGo bt md I0 M Q D ρ0 (pc, L, S, B, K) := by
  intro ρ Lc Sc I hρ hL hS hB hK hF
  unfold s30 at hs
  split at hs
  next v hv =>
    split at hs
    next p hp =>
      split at hs
      next hh =>
        cases hs
        obtain ⟨w, h1, h2⟩ := hL.2.2 a v hv
        obtain ⟨x, rfl, hx⟩ := h2.bd hp
        have hp1 := abd_ok hB hx hp
        refine ho D Lc Sc I Q x h1 (by omega) (by omega) (fun y hy => ?_)
        have hb := ahl_ok (ps := ps) (i := x.toInt.toNat) (by omega)
        rw [hy] at hb
        obtain ⟨ρ', e1, e2, e3⟩ := amk_ok (ex := none) hB hb.1 hb.2 (fun a b h => by cases h)
        exact hl _ List.mem_cons_self ρ' Lc _ I (hρ.tr e1) (hL.mono e1) ⟨aev.ofInt e3, hS.mono e1⟩ e2 (hK.mono e1) hF
      next => cases hs
    next => cases hs
  next => cases hs
/-- every instruction but returns and calls -/
def ast1 (bt : aT) (md : aMd) (h : Nat) (o : aO) (pc : Nat) (L : aL) (S : List aV) (B : aB) (K : aK) : Option (List aS) := match o with
  | (0, n, _, z, _) => s0 pc n z L S B K
  | (1, n, a, z, _) => s1 pc n a z L S B K
  | (2, n, a, z, _) => s2 pc n a z L S B K
  | (3, n, a, z, _) => s3 pc n a z L S B K
  | (4, n, a, _, _) => s4 pc n a L S B K
  | (5, n, a, _, _) => s5 pc n a L S B K
  | (6, n, _, _, _) => s6 pc n 6 L S B K
  | (7, n, _, _, _) => s6 pc n 7 L S B K
  | (8, n, _, _, _) => s6 pc n 8 L S B K
  | (9, _, a, _, _) => some [(a, L, S, B, K)]
  | (10, n, a, z, _) => s10 10 pc n a z L S B K
  | (11, n, a, z, _) => s10 11 pc n a z L S B K
  | (12, n, a, z, _) => s12 bt pc n a z L S B K
  | (13, n, a, z, _) => s13 pc n a z L S B K
  | (14, n, a, z, _) => s14 md 14 pc n a z L S B K
  | (15, n, a, z, _) => s14 md 15 pc n a z L S B K
  | (16, n, a, _, _) => s16 bt pc n a L S B K
  | (17, n, _, _, _) => s17 pc n L S B K
  | (18, n, _, _, _) => s18 bt md pc n L S B K
  | (19, n, _, _, _) => s19 bt md pc n L S B K
  | (20, n, _, _, _) => s20 pc n L S B K
  | (24, _, a, _, ps) => s24 a ps L S B K
  | (27, n, a, _, _) => s27 h pc n a L S B K
  | (28, n, _, _, _) => s28 h pc n L S B K
  | (29, n, _, _, _) => s29 bt md h pc n L S B K
  | (30, n, a, _, ps) => s30 pc n a ps L S B K
  | _ => none
theorem ast1_ok {d : Nat} {o : aO} (ho : oP mt M pc o) (hs : ast1 bt md h o pc L S B K = some l) (hl : ∀ σ ∈ l, aGo bt md I0 M Q (d + h) ρ0 σ) : aGo bt md I0 M Q (d + h) ρ0 (pc, L, S, B, K) := by
  unfold ast1 at hs
  split at hs
  · exact s0_ok ho hs hl
  · exact s1_ok ho hs hl
  · exact s2_ok ho hs hl
  · exact s3_ok ho hs hl
  · exact s4_ok ho hs hl
  · exact s5_ok ho hs hl
  · exact s6_ok ho hs hl
  · exact s6_ok ho hs hl
  · exact s6_ok ho hs hl
  · cases hs
    exact s9_ok ho (hl _ List.mem_cons_self)
  · exact s10_ok ho hs hl
  · exact s10_ok ho hs hl
  · exact s12_ok ho hs hl
  · exact s13_ok ho hs hl
  · exact s14_ok (Or.inl rfl) ho hs hl
  · exact s14_ok (Or.inr rfl) ho hs hl
  · exact s16_ok ho hs hl
  · exact s17_ok ho hs hl
  · exact s18_ok ho hs hl
  · exact s19_ok ho hs hl
  · exact s20_ok ho hs hl
  · exact s24_ok ho hs hl
  · exact s27_ok ho hs hl
  · exact s28_ok ho hs hl
  · exact s29_ok ho hs hl
  · exact s30_ok ho hs hl
  · cases hs
end ST
