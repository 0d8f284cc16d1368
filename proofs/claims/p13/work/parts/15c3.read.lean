set_option maxRecDepth 16384 in
/-! ===== the class's read and rules, exact ===== -/
def mdRe : aMd := [(55, 3, 11), (57, 0, 1), (58, 0, 7), (59, 0, 7), (60, 0, 7), (61, 0, 199), (62, 0, 3), (63, 0, 3), (64, 0, 3)]
set_option maxRecDepth 16384 in
def mdRd : aMd := [(55, 1, 1), (55, 3, 11), (57, 0, 1), (58, 0, 7), (59, 0, 7), (60, 0, 7), (61, 0, 199), (62, 0, 3), (63, 0, 3), (64, 0, 3)]
set_option maxRecDepth 16384 in
def mdRx : aMd := [(55, 1, 1), (55, 3, 11), (57, 0, 1), (58, 0, 7), (59, 0, 7), (60, 0, 7), (61, 0, 199), (62, 0, 3), (63, 0, 3), (64, 0, 3), (27, 0, 1), (28, 0, 7), (29, 0, 7), (30, 0, 7), (31, 0, 199)]
set_option maxRecDepth 16384 in
theorem am_nc {c j : Nat} {md : aMd} (h : md.all (fun r => decide (r.1 ≠ c)) = true) : amodr md c j j = false := by
  cases hm : amodr md c j j with
  | false => rfl
  | true =>
    obtain ⟨r, hr, h3⟩ := List.any_eq_true.mp hm
    have h4 := of_decide_eq_true (List.all_eq_true.mp h r hr)
    simp only [Bool.and_eq_true, decide_eq_true_eq] at h3
    exact absurd h3.1.1 h4
set_option maxRecDepth 16384 in
theorem tpB.fr {H H' : gI} {B : Nat → Int} {md : aMd} (h : tpB H B) (hf : afr md H H') (h1 : amodr md 55 1 1 = false) (h2 : md.all (fun r => decide (r.1 ≠ 56)) = true) : tpB H' B := h.eq (hf 55 1 h1) (fun j => hf 56 j (am_nc h2))
set_option maxRecDepth 16384 in
theorem cm_2 {m : Int} (h : m = -1 ∨ m ∈ tml ∨ (200 ≤ m ∧ ¬ (m = 240 ∨ m = 241 ∨ m = 259 ∨ m = 260 ∨ m = 261 ∨ m = 262))) (h2 : cmT m = -2) : m = -1 := by
  rcases h with h | h | h
  · exact h
  · exact absurd h2 (of_decide_eq_true (List.all_eq_true.mp (show tml.all (fun m => decide (cmT m ≠ -2)) = true by decide +kernel) m h))
  · rw [cmT_w h] at h2
    exact absurd h2 (by decide)
set_option maxRecDepth 16384 in
theorem an_0 {B : Nat → Int} {op ct : Nat} {m : Int} {b e : Nat} : anT B 0 op ct m b e = anT B 0 0 ct m b e := by
  unfold anT
  rw [show stp 0 op ct m = stp 0 0 ct m by unfold stp; rw [if_pos rfl, if_pos rfl]]
section RR
variable {d : Nat} {Q : Option Value → gH → Prop}
set_option maxRecDepth 16384 in
theorem begin_C {I : gI} (hi : aInv bT I) (hQ : ∀ J, aInv bT J → afr mdRe I J → J 55 3 = 0 → (J 55 7).toInt = 0 → (J 57 0).toInt = 0 → Q none (SH0, RF0, J)) : gg (d + 1) mX5_begin 0 (gent 2 [.ref 55]) [] I Q := by
  refine G_mono (ms_bg mX5_begin mt_X5_begin d [.ref 55] I ⟨⟨55, rfl, rfl⟩, trivial⟩ hi trivial (fun s hs => absurd hs List.not_mem_nil)) ?_
  rintro r hh ⟨J, rfl, i', f', c, hc, e1, -, e3⟩
  have ec := List.mem_singleton.mp hc
  subst ec
  have e1 : r = none := e1
  subst e1
  have a3 := a_lt (slotOK_b (s := (55, 3, 0, 0)) (by decide) (e3 (55, 3, 0, 0) (by decide)))
  have a7 := a_lt (slotOK_b (s := (55, 7, 0, 0)) (by decide) (e3 (55, 7, 0, 0) (by decide)))
  have a0 := a_lt (slotOK_b (s := (57, 0, 0, 0)) (by decide) (e3 (57, 0, 0, 0) (by decide)))
  dsimp only at a3 a7 a0
  exact hQ J i' (afr.rf.tr f' (by decide +kernel)) (Int32.toInt_inj.mp (by show (J 55 3).toInt = 0; omega)) (by omega) (by omega)
set_option maxRecDepth 16384 in
def cpf (s : aM) (ct : Nat) : Bool := decide (s.1 = 0) && decide (s.2.1 ≤ 1) && decide (s.2.2.1 = [(1, 27, 0), (1, 57, 0)]) && decide (s.2.2.2.1 = [(57, 0, (ct : Int), (ct : Int))]) && amdsub s.2.2.2.2.1 [(27, 0, 1), (28, 0, 7), (29, 0, 7), (30, 0, 7), (31, 0, 199)] && (match s.2.2.2.2.2 with
  | [c] => decide (c.1 = none) && c.2.2.any (fun p => decide (p = (27, 0, (ct : Int), (ct : Int))))
  | _ => false)
set_option maxRecDepth 16384 in
theorem cp_all : (List.range 9).all (fun ct => TKC.any (fun s => cpf s ct)) = true := by decide +kernel
set_option maxRecDepth 16384 in
theorem copy_C {I : gI} {ct : Nat} (hi : aInv bT I) (hc : ct < 9) (h0 : (I 57 0).toInt = ct) (hQ : ∀ J, aInv bT J → afr [(27, 0, 1), (28, 0, 7), (29, 0, 7), (30, 0, 7), (31, 0, 199)] I J → (J 27 0).toInt = ct → Q none (SH0, RF0, J)) : gg (d + 1) mX6_copyFrom 0 (gent 2 [.ref 27, .ref 57]) [] I Q := by
  obtain ⟨s, hs, hf⟩ := List.any_eq_true.mp (List.all_eq_true.mp cp_all ct (List.mem_range.mpr hc))
  unfold cpf at hf
  simp only [Bool.and_eq_true, decide_eq_true_eq] at hf
  obtain ⟨⟨⟨⟨⟨hm, hh⟩, ha⟩, hp⟩, hmd⟩, hq⟩ := hf
  have go := TKC_ok s hs mX6_copyFrom (by rw [hm]; exact mt_X6_copyFrom) (d + (1 - s.2.1)) [.ref 27, .ref 57] I (by rw [ha]; exact ⟨⟨27, rfl, rfl⟩, ⟨57, rfl, rfl⟩, trivial⟩) hi trivial (fun p hpm => by
    rw [hp] at hpm
    rw [List.mem_singleton.mp hpm]
    exact slotOK_m (by show (ct : Int) < aEQ; unfold aEQ; omega) ⟨by show (ct : Int) ≤ (I 57 0).toInt; omega, by show (I 57 0).toInt ≤ (ct : Int); omega⟩)
  rw [Nat.add_assoc, Nat.sub_add_cancel hh] at go
  refine G_mono go ?_
  rintro r hh2 ⟨J', rfl, i', f', c, hc2, e1, -, e3⟩
  have fT := (afr.rf (md := [(27, 0, 1), (28, 0, 7), (29, 0, 7), (30, 0, 7), (31, 0, 199)]) (I := I)).tr f' hmd
  generalize s.2.2.2.2.2 = cs at hc2 hq
  split at hq
  · have ec := List.mem_singleton.mp hc2
    subst ec
    simp only [Bool.and_eq_true, decide_eq_true_eq] at hq
    rw [hq.1] at e1
    have e1 : r = none := e1
    subst e1
    obtain ⟨p, hp1, hp2⟩ := List.any_eq_true.mp hq.2
    have hp2 := of_decide_eq_true hp2
    have h3 := e3 p hp1
    rw [hp2] at h3
    have h4 := a_lt (slotOK_b (by show (ct : Int) < aEQ; unfold aEQ; omega) h3)
    dsimp only at h4
    exact hQ J' i' fT (by omega)
  · cases hq
set_option maxRecDepth 100000 in
set_option maxHeartbeats 8000000 in
theorem rd_out {J : gI} {f : Int32} {i : Nat} {l4 : Option Value} (hq : Q (some (.int f)) (SH0, RF0, gup J 55 1 0)) : gg (d + 11) mX5_read 10 [some (.ref 55), some (.int f), some (.int 1), some (.int (Int32.ofNat i)), l4] [] J Q := by
  refine G_iload_n (pc := 10) rfl dX5_read_10 ?_
  refine G_aload_n (pc := 11) rfl dX5_read_11 ?_
  refine G_getI (pc := 12) (ci := 5) (j := 1) rfl rfl lq_RX5_32 rfl rfl dX5_read_12 ?_
  refine oX5_read_15 _ _ _ _ _ _ _ (fun c15 => ?_) (fun c15 => ?_)
  · simp only [crel, ne_eq, Classical.not_not] at c15
    refine G_aload_n (pc := 96) rfl dX5_read_96 ?_
    refine G_iconst (pc := 97) (v := 0) (by decide) dX5_read_97 ?_
    refine G_putI (pc := 98) (ci := 5) (j := 1) rfl lq_RX5_32 rfl rfl rfl trivial dX5_read_98 ?_
    refine G_iload_n (pc := 101) rfl dX5_read_101 ?_
    exact oX5_read_102 _ _ _ _ _ hq
  · simp only [crel, ne_eq, Classical.not_not] at c15
    refine G_iload_n (pc := 18) rfl dX5_read_18 ?_
    refine oX5_read_19 _ _ _ _ _ _ (fun c19 => ?_) (fun c19 => absurd ((nez (by decide))) c19)
    refine G_aload_n (pc := 96) rfl dX5_read_96 ?_
    refine G_iconst (pc := 97) (v := 0) (by decide) dX5_read_97 ?_
    refine G_putI (pc := 98) (ci := 5) (j := 1) rfl lq_RX5_32 rfl rfl rfl trivial dX5_read_98 ?_
    refine G_iload_n (pc := 101) rfl dX5_read_101 ?_
    exact oX5_read_102 _ _ _ _ _ hq
set_option maxRecDepth 100000 in
set_option maxHeartbeats 8000000 in
theorem rd_loop {I : gI} {B : Nat → Int} {R : Int} (hT0 : tpB I B) (hQ : ∀ (f : Int32) (J : gI), aInv bT J → afr mdRd I J → J 55 1 = 0 → ((f = -1 ∧ (J 57 0).toInt = R) ∨ (0 ≤ f.toInt ∧ f.toInt ≤ 200 ∧ R = -100 - f.toInt)) → Q (some (.int f)) (SH0, RF0, J)) : ∀ (g st op ct a i : Nat) (l4 : Option Value) (J : gI), 201 ≤ a + g → i ≤ a → (a : Int) ≤ (I 55 1).toInt → stI st op ct → aInv bT J → afr mdRe I J → J 55 3 = Int32.ofNat a → (J 55 7).toInt = st → (J 55 11).toInt = op → (J 57 0).toInt = ct → rnP B st op ct a = R → gg (d + 11) mX5_read 10 [some (.ref 55), some (.int (-1)), some (.int 0), some (.int (Int32.ofNat i)), l4] [] J Q := by
  intro g
  have hz := hT0.2.2.2
  have okI := hT0.1
  induction g with
  | zero =>
    intro st op ct a i l4 J hg hia ha
    omega
  | succ g ih =>
    intro st op ct a i l4 J hg hia ha hI hJ hf h3 h7 h11 h0 hR
    have e1 : J 55 1 = I 55 1 := hf 55 1 (by decide)
    have hTJ : tpB J B := hT0.fr hf (by decide) (by decide)
    have h3n : (J 55 3).toInt.toNat = a := by rw [h3, n_int (by omega)]; rfl
    refine G_iload_n (pc := 10) rfl dX5_read_10 ?_
    refine G_aload_n (pc := 11) rfl dX5_read_11 ?_
    refine G_getI (pc := 12) (ci := 5) (j := 1) e1 rfl lq_RX5_32 rfl rfl dX5_read_12 ?_
    refine oX5_read_15 _ _ _ _ _ _ _ (fun c15 => absurd c15 (by show ¬ ((I 55 1).toInt < (Int32.ofNat i).toInt); rw [n_int (by omega)]; omega)) (fun c15 => ?_)
    refine G_iload_n (pc := 18) rfl dX5_read_18 ?_
    refine oX5_read_19 _ _ _ _ _ _ (fun c19 => absurd c19 ((fun z => z rfl))) (fun c19 => ?_)
    refine G_aload_n (pc := 22) rfl dX5_read_22 ?_
    refine oX5_read_23 (d + 10) _ [] [] J _ _ 55 5 75 mX5_next rfl List.mem_cons_self mt_X5_next rfl ls0 ls0 (by simp) (next_C (d := d + 4) hJ hTJ (by rw [e1, h3, n_int (by omega)]; exact ha) (fun K hK => ?_)) (fun _ _ h => h)
    dsimp only [Option.toList, List.cons_append, List.nil_append]
    obtain ⟨k1, k2, k3, k4, k5, k6, k7⟩ := hK
    rw [h3n] at k3 k4 k5 k6 k7
    rw [e1] at k6 k7
    have hx := rnP_eq okI (st := st) (op := op) (ct := ct) (a := a) (by omega)
    have hgt := nxB_gt okI (a := a)
    have hrg := nxB_rg okI (a := a)
    generalize nxB B a = nn at hx hgt hrg k3 k4 k5 k6 k7
    obtain ⟨mm, b, e⟩ := nn
    dsimp only at hx hgt hrg k3 k4 k5 k6 k7
    have hmr : mm = -1 ∨ mm ∈ tml ∨ (200 ≤ mm ∧ ¬ (mm = 240 ∨ mm = 241 ∨ mm = 259 ∨ mm = 260 ∨ mm = 261 ∨ mm = 262)) := by
      rcases hrg with h | h | h
      · exact Or.inl h
      · exact Or.inr (Or.inl h)
      · exact Or.inr (Or.inr ⟨h.1, h.2.2⟩)
    have fK : afr mdRe I K := hf.tr k1 (by decide)
    refine G_aload_n (pc := 26) rfl dX5_read_26 ?_
    refine G_getI (pc := 27) (ci := 5) (j := 5) rfl rfl lq_RX5_42 rfl rfl dX5_read_27 ?_
    refine G_bipush (pc := 30) (v := (-2)) (by decide) dX5_read_30 ?_
    refine oX5_read_32 _ _ _ _ _ _ _ (fun c32 => ?_) (fun c32 => ?_)
    · simp only [crel, ne_eq, Classical.not_not] at c32
      have hm : mm ≠ -1 := fun z => c32 (by rw [k3, z]; decide)
      refine G_aload_n (pc := 50) rfl dX5_read_50 ?_
      refine oX5_read_51 (d + 10) _ [] [] K _ _ 55 5 76 mX5_takes rfl List.mem_cons_self mt_X5_takes rfl ls0 ls0 (by simp) (takes_T (m := mm) hI (Or.resolve_left hmr hm) k2 k3 (by rw [k1 55 7 (by decide)]; exact h7) (by rw [k1 55 11 (by decide)]; exact h11) (by rw [k1 57 0 (by decide)]; exact h0) (fun J' ep i' f' => ?_) (fun J' p ep hI' i' f' g7 g11 g0 => ?_)) (fun _ _ h => h)
      · dsimp only [Option.toList, List.cons_append, List.nil_append]
        obtain ⟨u1, u2⟩ := hgt hm
        refine G_istore (pc := 54) rfl rfl (by decide) dX5_read_54 ?_
        refine G_iload (pc := 56) rfl dX5_read_56 ?_
        refine oX5_read_58 _ _ _ _ _ _ (fun c58 => ?_) (fun c58 => absurd ((show (0 : Int32).toInt = 0 from rfl)) c58)
        refine G_aload_n (pc := 65) rfl dX5_read_65 ?_
        refine G_getI (pc := 66) (ci := 5) (j := 4) ((f' 55 4 (by decide)).trans k4) rfl lq_RX5_52 rfl rfl dX5_read_66 ?_
        refine G_istore_n (pc := 69) rfl rfl (by decide) dX5_read_69 ?_
        refine G_iload (pc := 70) rfl dX5_read_70 ?_
        refine oX5_read_72 _ _ _ _ _ _ (fun c72 => ?_) (fun c72 => absurd ((show (0 : Int32).toInt = 0 from rfl)) c72)
        refine G_iconst (pc := 84) (v := 1) (by decide) dX5_read_84 ?_
        refine G_goto (pc := 85) (tgt := 89) (by decide) dX5_read_85 ?_
        refine G_istore_n (pc := 89) rfl rfl (by decide) dX5_read_89 ?_
        refine G_iinc (pc := 90) (v := Int32.ofNat 1) n_add rfl rfl (by decide) rfl (by decide) dX5_read_90 ?_
        refine G_goto (pc := 93) (tgt := 10) (by decide) dX5_read_93 ?_
        refine rd_out (hQ (Int32.ofNat b) (gup J' 55 1 0) (inv_put i' (by rw [show bnd bT 55 1 = (0, 200) by decide +kernel]; exact ⟨by decide, by decide⟩)) ((afr.tr (md := mdRd) (md1 := mdRe) afr.rf (fK.tr f' (by decide)) (by decide)).put (by decide)) gup_at ?_)
        refine Or.inr ⟨by rw [n_int (by omega)]; omega, by rw [n_int (by omega)]; omega, ?_⟩
        rw [← hR, hx, n_int (by omega)]
        unfold anT
        rw [if_neg hm, ep]
      · dsimp only [Option.toList, List.cons_append, List.nil_append]
        obtain ⟨u1, u2⟩ := hgt hm
        refine G_istore (pc := 54) rfl rfl (by decide) dX5_read_54 ?_
        refine G_iload (pc := 56) rfl dX5_read_56 ?_
        refine oX5_read_58 _ _ _ _ _ _ (fun c58 => absurd c58 ((eqz (by decide)))) (fun c58 => ?_)
        refine G_iconst (pc := 61) (v := (-1)) (by decide) dX5_read_61 ?_
        refine G_goto (pc := 62) (tgt := 69) (by decide) dX5_read_62 ?_
        refine G_istore_n (pc := 69) rfl rfl (by decide) dX5_read_69 ?_
        refine G_iload (pc := 70) rfl dX5_read_70 ?_
        refine oX5_read_72 _ _ _ _ _ _ (fun c72 => absurd c72 ((eqz (by decide)))) (fun c72 => ?_)
        refine G_aload_n (pc := 75) rfl dX5_read_75 ?_
        refine G_getI (pc := 76) (ci := 5) (j := 5) rfl rfl lq_RX5_42 rfl rfl dX5_read_76 ?_
        refine G_bipush (pc := 79) (v := (-2)) (by decide) dX5_read_79 ?_
        refine oX5_read_81 _ _ _ _ _ _ _ (fun c81 => ?_) (fun c81 => absurd (by show (J' 55 5).toInt ≠ (-2 : Int32).toInt; rw [f' 55 5 (by decide), k3]; exact fun z => hm (cm_2 hmr z)) c81)
        refine G_iconst (pc := 88) (v := 0) (by decide) dX5_read_88 ?_
        refine G_istore_n (pc := 89) rfl rfl (by decide) dX5_read_89 ?_
        refine G_iinc (pc := 90) (v := Int32.ofNat 1) n_add rfl rfl (by decide) rfl (by decide) dX5_read_90 ?_
        refine G_goto (pc := 93) (tgt := 10) (by decide) dX5_read_93 ?_
        exact ih p.1 p.2.1 p.2.2 e (i + 1) _ J' (by omega) (by omega) (by omega) hI' i' (fK.tr f' (by decide)) (by rw [f' 55 3 (by decide), k5]) g7 g11 g0 (by rw [← hR, hx]; unfold anT; rw [if_neg hm, ep])
    · simp only [crel, ne_eq, Classical.not_not] at c32
      have hm : mm = -1 := cm_2 hmr (by rw [← k3, c32]; decide)
      refine G_aload_n (pc := 35) rfl dX5_read_35 ?_
      refine G_getI (pc := 36) (ci := 5) (j := 7) (k1 55 7 (by decide)) rfl lq_RX5_45 rfl rfl dX5_read_36 ?_
      refine oX5_read_39 _ _ _ _ _ _ (fun c39 => ?_) (fun c39 => ?_)
      · simp only [crel, ne_eq, Classical.not_not] at c39
        have hst : ¬ st = 0 := fun z => c39 (by rw [h7, z]; rfl)
        refine G_iconst (pc := 46) (v := 0) (by decide) dX5_read_46 ?_
        refine G_goto (pc := 47) (tgt := 54) (by decide) dX5_read_47 ?_
        refine G_istore (pc := 54) rfl rfl (by decide) dX5_read_54 ?_
        refine G_iload (pc := 56) rfl dX5_read_56 ?_
        refine oX5_read_58 _ _ _ _ _ _ (fun c58 => ?_) (fun c58 => absurd ((show (0 : Int32).toInt = 0 from rfl)) c58)
        refine G_aload_n (pc := 65) rfl dX5_read_65 ?_
        refine G_getI (pc := 66) (ci := 5) (j := 4) k4 rfl lq_RX5_52 rfl rfl dX5_read_66 ?_
        refine G_istore_n (pc := 69) rfl rfl (by decide) dX5_read_69 ?_
        refine G_iload (pc := 70) rfl dX5_read_70 ?_
        refine oX5_read_72 _ _ _ _ _ _ (fun c72 => ?_) (fun c72 => absurd ((show (0 : Int32).toInt = 0 from rfl)) c72)
        refine G_iconst (pc := 84) (v := 1) (by decide) dX5_read_84 ?_
        refine G_goto (pc := 85) (tgt := 89) (by decide) dX5_read_85 ?_
        refine G_istore_n (pc := 89) rfl rfl (by decide) dX5_read_89 ?_
        refine G_iinc (pc := 90) (v := Int32.ofNat 1) n_add rfl rfl (by decide) rfl (by decide) dX5_read_90 ?_
        refine G_goto (pc := 93) (tgt := 10) (by decide) dX5_read_93 ?_
        refine rd_out (hQ (Int32.ofNat b) (gup K 55 1 0) (inv_put k2 (by rw [show bnd bT 55 1 = (0, 200) by decide +kernel]; exact ⟨by decide, by decide⟩)) ((afr.tr (md := mdRd) (md1 := mdRe) afr.rf (fK) (by decide)).put (by decide)) gup_at ?_)
        refine Or.inr ⟨by rw [n_int (by omega)]; omega, by rw [n_int (by omega)]; omega, ?_⟩
        rw [← hR, hx, n_int (by omega)]
        unfold anT
        rw [if_pos hm, if_neg hst]
      · simp only [crel, ne_eq, Classical.not_not] at c39
        have hst : st = 0 := by
          rw [h7] at c39
          omega
        refine G_iconst (pc := 42) (v := 1) (by decide) dX5_read_42 ?_
        refine G_goto (pc := 43) (tgt := 54) (by decide) dX5_read_43 ?_
        refine G_istore (pc := 54) rfl rfl (by decide) dX5_read_54 ?_
        refine G_iload (pc := 56) rfl dX5_read_56 ?_
        refine oX5_read_58 _ _ _ _ _ _ (fun c58 => absurd c58 ((eqz (by decide)))) (fun c58 => ?_)
        refine G_iconst (pc := 61) (v := (-1)) (by decide) dX5_read_61 ?_
        refine G_goto (pc := 62) (tgt := 69) (by decide) dX5_read_62 ?_
        refine G_istore_n (pc := 69) rfl rfl (by decide) dX5_read_69 ?_
        refine G_iload (pc := 70) rfl dX5_read_70 ?_
        refine oX5_read_72 _ _ _ _ _ _ (fun c72 => absurd c72 ((eqz (by decide)))) (fun c72 => ?_)
        refine G_aload_n (pc := 75) rfl dX5_read_75 ?_
        refine G_getI (pc := 76) (ci := 5) (j := 5) rfl rfl lq_RX5_42 rfl rfl dX5_read_76 ?_
        refine G_bipush (pc := 79) (v := (-2)) (by decide) dX5_read_79 ?_
        refine oX5_read_81 _ _ _ _ _ _ _ (fun c81 => absurd c81 (by show ¬ ((K 55 5).toInt ≠ (-2 : Int32).toInt); rw [k3, hm]; decide)) (fun c81 => ?_)
        refine G_iconst (pc := 84) (v := 1) (by decide) dX5_read_84 ?_
        refine G_goto (pc := 85) (tgt := 89) (by decide) dX5_read_85 ?_
        refine G_istore_n (pc := 89) rfl rfl (by decide) dX5_read_89 ?_
        refine G_iinc (pc := 90) (v := Int32.ofNat 1) n_add rfl rfl (by decide) rfl (by decide) dX5_read_90 ?_
        refine G_goto (pc := 93) (tgt := 10) (by decide) dX5_read_93 ?_
        refine rd_out (hQ (-1) (gup K 55 1 0) (inv_put k2 (by rw [show bnd bT 55 1 = (0, 200) by decide +kernel]; exact ⟨by decide, by decide⟩)) ((afr.tr (md := mdRd) (md1 := mdRe) afr.rf (fK) (by decide)).put (by decide)) gup_at ?_)
        refine Or.inl ⟨rfl, ?_⟩
        rw [gup_ne (Or.inl (by decide)), k1 57 0 (by decide), h0, ← hR, hx]
        unfold anT
        rw [if_pos hm, if_pos hst]
set_option maxRecDepth 100000 in
set_option maxHeartbeats 8000000 in
theorem read_C {I : gI} {B : Nat → Int} (hi : aInv bT I) (hT0 : tpB I B) (hQ : ∀ (f : Int32) (J : gI), aInv bT J → afr mdRd I J → J 55 1 = 0 → ((f = -1 ∧ (J 57 0).toInt = rnP B 0 0 0 0) ∨ (0 ≤ f.toInt ∧ f.toInt ≤ 200 ∧ rnP B 0 0 0 0 = -100 - f.toInt)) → Q (some (.int f)) (SH0, RF0, J)) : gg (d + 11) mX5_read 0 (gent 5 [.ref 55]) [] I Q := by
  have hz := hT0.2.2.2
  refine G_aload_n (pc := 0) rfl dX5_read_0 ?_
  refine oX5_read_1 (d + 10) _ [] [] I _ _ 55 5 73 mX5_begin rfl List.mem_cons_self mt_X5_begin rfl ls0 ls0 (by simp) (begin_C (d := d + 9) hi (fun J hJ hf j3 j7 j0 => ?_)) (fun _ _ h => h)
  dsimp only [Option.toList, List.cons_append, List.nil_append]
  refine G_iconst (pc := 4) (v := -1) (by decide) dX5_read_4 ?_
  refine G_istore_n (pc := 5) rfl rfl (by decide) dX5_read_5 ?_
  refine G_iconst (pc := 6) (v := 0) (by decide) dX5_read_6 ?_
  refine G_istore_n (pc := 7) rfl rfl (by decide) dX5_read_7 ?_
  refine G_iconst (pc := 8) (v := Int32.ofNat 0) (by decide) dX5_read_8 ?_
  refine G_istore_n (pc := 9) rfl rfl (by decide) dX5_read_9 ?_
  have j11 := ain_of hJ (show bnd bT 55 11 = (0, 3) by decide +kernel)
  dsimp only at j11
  have hTJ : tpB J B := hT0.fr hf (by decide) (by decide)
  exact rd_loop (I := J) hTJ (fun f K i2 f2 g1 hc => hQ f K i2 ((afr.tr (md := mdRd) (md1 := mdRe) afr.rf (hf) (by decide)).tr f2 (by decide)) g1 hc) 201 0 (J 55 11).toInt.toNat 0 0 0 none J (by omega) (Nat.le_refl 0) (by rw [hf 55 1 (by decide)]; omega) ⟨by omega, by omega, by omega, fun z => absurd z (by decide)⟩ hJ afr.rf j3 j7 (by omega) j0 (by rw [rnP_eq hT0.1 (by omega), rnP_eq hT0.1 (by omega)]; exact an_0)
set_option maxRecDepth 100000 in
set_option maxHeartbeats 8000000 in
theorem rules_X {I : gI} {B : Nat → Int} (hi : aInv bT I) (hT0 : tpB I B) (hQ : ∀ (v : Int32) (J : gI), aInv bT J → afr mdRx I J → J 55 1 = 0 → v.toInt = rnP B 0 0 0 0 → Q (some (.int v)) (SH0, RF0, J)) : gg (d + 12) mX11_rules 0 (gent 2 [.ref 0]) [] I Q := by
  refine G_aload_n (pc := 0) rfl dX11_rules_0 ?_
  refine G_getR (pc := 1) (ci := 11) (j := 4) rfl lq_RX11_75 rfl rfl rfl dX11_rules_1 ?_
  refine oX11_rules_4 (d + 11) _ [] [] I _ _ 55 5 80 mX5_read rfl List.mem_cons_self mt_X5_read rfl ls0 ls0 (by simp) (read_C hi hT0 (fun f J hJ hf j1 hc => ?_)) (fun _ _ h => h)
  dsimp only [Option.toList, List.cons_append, List.nil_append]
  refine G_istore_n (pc := 7) rfl rfl (by decide) dX11_rules_7 ?_
  refine G_iload_n (pc := 8) rfl dX11_rules_8 ?_
  refine oX11_rules_9 _ _ _ _ _ _ (fun c9 => ?_) (fun c9 => ?_)
  · simp only [crel, ne_eq, Classical.not_not] at c9
    have hc := hc.resolve_right (fun z => by have := z.1; have c9 : f.toInt < 0 := c9; omega)
    have k8 := ain_of hJ (show bnd bT 57 0 = (0, 8) by decide +kernel)
    dsimp only at k8
    refine G_aload_n (pc := 17) rfl dX11_rules_17 ?_
    refine G_getR (pc := 18) (ci := 11) (j := 0) rfl lq_RX11_56 rfl rfl rfl dX11_rules_18 ?_
    refine G_getR (pc := 21) (ci := 1) (j := 14) rfl lq_RX11_189 rfl rfl rfl dX11_rules_21 ?_
    refine G_aload_n (pc := 24) rfl dX11_rules_24 ?_
    refine G_getR (pc := 25) (ci := 11) (j := 4) rfl lq_RX11_75 rfl rfl rfl dX11_rules_25 ?_
    refine G_getR (pc := 28) (ci := 5) (j := 2) rfl lq_RX11_193 rfl rfl rfl dX11_rules_28 ?_
    refine oX11_rules_31 (d + 11) _ [.ref 57] [] J _ _ 27 6 0 mX6_copyFrom rfl List.mem_cons_self mt_X6_copyFrom rfl (lsr ls0) ls0 (by simp) (copy_C (d := d + 10) (ct := (J 57 0).toInt.toNat) hJ (by omega) (by omega) (fun K hK fK k0 => ?_)) (fun _ _ h => h)
    dsimp only [Option.toList, List.cons_append, List.nil_append]
    refine G_aload_n (pc := 34) rfl dX11_rules_34 ?_
    refine G_getR (pc := 35) (ci := 11) (j := 0) rfl lq_RX11_56 rfl rfl rfl dX11_rules_35 ?_
    refine G_getR (pc := 38) (ci := 1) (j := 14) rfl lq_RX11_189 rfl rfl rfl dX11_rules_38 ?_
    refine G_getI (pc := 41) (ci := 6) (j := 0) rfl rfl lq_RX11_202 rfl rfl dX11_rules_41 ?_
    exact oX11_rules_44 _ _ _ _ _ (hQ _ K hK ((afr.tr (md := mdRx) (md1 := mdRd) afr.rf hf (by decide)).tr fK (by decide)) (by rw [fK 55 1 (by decide)]; exact j1) (by rw [← hc.2]; omega))
  · simp only [crel, ne_eq, Classical.not_not] at c9
    have hc := hc.resolve_left (fun z => c9 (by rw [z.1]; decide))
    have e9 : (-100 - f).toInt = -100 - f.toInt := by
      rw [Int32.toInt_sub, show (-100 : Int32).toInt = -100 from rfl, a_bm (by unfold aLo; omega) (by unfold aHi; omega)]
    refine G_bipush (pc := 12) (v := (-100)) (by decide) dX11_rules_12 ?_
    refine G_iload_n (pc := 14) rfl dX11_rules_14 ?_
    refine G_isub (pc := 15) rfl dX11_rules_15 ?_
    exact oX11_rules_16 _ _ _ _ _ (hQ _ J hJ (afr.tr (md := mdRx) (md1 := mdRd) afr.rf hf (by decide)) j1 (by rw [e9]; omega))
end RR
