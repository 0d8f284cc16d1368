/-! ===== feed, of both ===== -/
theorem G_ldc2w {d : Nat} {M : gM} {mc ms k n pc : Nat} {L : gL} {S : List Value} {sh : List (Nat × Nat)} {R : gR} {I : gI} {Q : Option Value → gH → Prop} {v : Int64} {i : Nat} (hw : Cond.constantLong M.1.cls i v ∈ gBIG) (hd : decode M.2.1 pc = .ok (.ldc2_w i, 3)) (kk : G d M mc ms k n (pc + 3) L (.long v :: S) sh R I Q) : G d M mc ms k n pc L S sh R I Q := by
  intro p l e s m args below meth c H locs ls b D cy hC hF hS hW hl
  exact lv_ldc2 hC.1 hC.2.1 hC.2.2.2.2.2.1 (hC.2.2.2.2.2.2.2 _ hw) hd (kk p l e s m args below meth c H locs ls b D cy hC hF hS hW hl)
theorem cl_RX12_190 : Cond.constantLong RX12 190 (255) ∈ gBIG := gm_at (l := tables_1_6) 54 (by decide +kernel) gs6
theorem a_and255 (y : Int64) : ain (0, 255) (y &&& 255).toInt32 := by
  rw [Int64.toInt32_and]
  obtain ⟨j, hj, e⟩ := pk_andE y.toInt32 (m := Int64.toInt32 255) 8 (by decide)
  rw [e]
  have hj : j < 256 := hj
  have e2 : (nI j).toInt = (j : Int) := n_int (by omega)
  exact ⟨by show (0 : Int) ≤ _; omega, by show _ ≤ (255 : Int); omega⟩
theorem n_le {k n : Nat} (hk : k < 1000) (hn : n < 1000) : Int32.ofNat n ≤ Int32.ofNat k ↔ n ≤ k := by
  rw [Int32.le_iff_toInt_le, n_int hk, n_int hn]
  omega
theorem ls3 {a b c : Value} (ha : ∃ x, a = .int x) (hb : ∃ x, b = .int x) (hc : ∃ x, c = .int x) : aSG [a, b, c] := fun v hv => by
  simp only [List.mem_cons, List.not_mem_nil, or_false] at hv
  rcases hv with rfl | rfl | rfl
  · exact Or.inl ha
  · exact Or.inl hb
  · exact Or.inl hc
theorem ls0 : aSG [] := fun v hv => absurd hv List.not_mem_nil
theorem ls1 {x : Int32} : aSG [.int x] := fun v hv => by
  simp only [List.mem_cons, List.not_mem_nil, or_false] at hv
  rcases hv with rfl
  exact Or.inl ⟨_, rfl⟩
/-- as I but for what a writer may write, and in order -/
def keeps (md : aMd) (I J : gI) : Prop := afr md I J ∧ aInv bT J
theorem keeps.wf {md : aMd} {I J : gI} (h : keeps md I J) (hp : pOK md = true) (hw : WP I) : WP J := pE WF_st hp I J hw h.1

/-- an end that leaves all but some slots as they were -/
def pbF (md : aMd) (I : gI) : Option Value → gH → Prop := fun r h => ∃ (x : Int32) (J : gI), r = some (.int x) ∧ h = (SH0, RF0, J) ∧ aInv bT J ∧ afr md I J
section FD
variable {d : Nat} {I : gI} {e : Int64}
set_option maxRecDepth 100000 in
set_option maxHeartbeats 4000000 in
theorem feedX_loop {n : Nat} (hn : n ≤ 8) (hw : WP I) (hA : MSok bT WP MT (209, 0, [(1, 55, 0), (0, (-2147483648), 2147483647)], [], [(55, 1, 1), (56, 0, 199)], [(none, [], [])])) : ∀ (g i : Nat) (J : gI), i + g = n → keeps [(55, 1, 1), (56, 0, 199)] I J → gg (d + 40) mX11_feed 33 [some (.ref 0), some (.long e), none, some (.int (Int32.ofNat n)), some (.int (Int32.ofNat i))] [] J (pbF [(55, 1, 1), (56, 0, 199)] I)
  | 0, i, J, hg, hJ => by
    have e : i = n := by omega
    subst e
    refine G_iload (pc := 33) rfl dX11_feed_33 ?_
    refine G_iload_n (pc := 35) rfl dX11_feed_35 ?_
    refine G_icmp_ge (pc := 36) (tgt := 64) (by decide) dX11_feed_36 (fun _ => ?_) (fun c => absurd (Int32.le_refl _) c)
    refine G_aload_n (pc := 64) rfl dX11_feed_64 ?_
    refine G_getR (pc := 65) (ci := 11) (j := 4) rfl lq_RX11_75 rfl rfl rfl dX11_feed_65 ?_
    refine G_getI (pc := 68) (ci := 5) (j := 1) rfl rfl lq_RX11_179 rfl rfl dX11_feed_68 ?_
    exact G_iret (pc := 71) (Nat.le_refl _) (Nat.le_refl _) rfl dX11_feed_71 ⟨_, _, rfl, rfl, hJ.2, hJ.1⟩
  | g + 1, i, J, hg, hJ => by
    have hi : i < n := by omega
    refine G_iload (pc := 33) rfl dX11_feed_33 ?_
    refine G_iload_n (pc := 35) rfl dX11_feed_35 ?_
    refine G_icmp_ge (pc := 36) (tgt := 64) (by decide) dX11_feed_36 (fun c => absurd c (by rw [n_le (by omega) (by omega)]; omega)) (fun _ => ?_)
    refine G_aload_n (pc := 39) rfl dX11_feed_39 ?_
    refine G_getR (pc := 40) (ci := 11) (j := 4) rfl lq_RX11_75 rfl rfl rfl dX11_feed_40 ?_
    refine G_lload_n (pc := 43) rfl dX11_feed_43 ?_
    refine G_bipush (pc := 44) (v := 8) (by decide) dX11_feed_44 ?_
    refine G_iload (pc := 46) rfl dX11_feed_46 ?_
    refine G_imul (pc := 48) rfl dX11_feed_48 ?_
    refine G_lushr (pc := 49) rfl dX11_feed_49 ?_
    refine G_l2i (pc := 50) rfl dX11_feed_50 ?_
    refine G_sipush (pc := 51) (v := 255) (by decide) dX11_feed_51 ?_
    refine G_iand (pc := 54) rfl dX11_feed_54 ?_
    refine oX11_feed_55 (d + 39) _ [.int _] [] J _ _ 55 5 209 mX5_add rfl List.mem_cons_self mt_X5_add rfl ls1 ls0 (by simp) (hA mX5_add mt_X5_add (d + 39) [.ref 55, .int _] J ⟨⟨55, rfl, rfl⟩, ⟨_, rfl, a_rng _⟩, trivial⟩ hJ.2 (hJ.wf (by decide +kernel) hw) (fun s hs => absurd hs List.not_mem_nil)) ?_
    rintro _ _ ⟨J', rfl, hi', hf', c', hc', hcase⟩
    have ec : c' = (none, [], []) := by simpa using hc'
    subst ec
    obtain ⟨rfl, -, -⟩ := hcase
    dsimp only [Option.toList, List.nil_append]
    refine G_iinc (pc := 58) (v := Int32.ofNat 1) n_add rfl rfl (by decide) rfl (by decide) dX11_feed_58 ?_
    refine G_goto (pc := 61) (tgt := 33) (by decide) dX11_feed_61 ?_
    exact feedX_loop hn hw hA g (i + 1) J' (by omega) ⟨hJ.1.tr hf' (by decide +kernel), hi'⟩
set_option maxRecDepth 100000 in
set_option maxHeartbeats 4000000 in
theorem pb_feedX (hI : MSok bT WP MT (37, 0, [(0, (-2147483648), 2147483647), (0, 1, 1), (0, 8, 8)], [], [], [(some (1, 1), [(0, 1, 8)], []), (some (0, 0), [], [])])) (hA : MSok bT WP MT (209, 0, [(1, 55, 0), (0, (-2147483648), 2147483647)], [], [(55, 1, 1), (56, 0, 199)], [(none, [], [])])) (n : Int32) (hi : aInv bT I) (hw : WP I) : gg (d + 40) mX11_feed 0 (gent 5 [.ref 0, .long e, .int n]) [] I (pbF [(55, 1, 1), (56, 0, 199)] I) := by
  refine G_iload_n (pc := 0) rfl dX11_feed_0 ?_
  refine G_iconst (pc := 1) (v := 1) (by decide) dX11_feed_1 ?_
  refine G_bipush (pc := 2) (v := 8) (by decide) dX11_feed_2 ?_
  refine oX11_feed_4 (d + 39) _ [.int n, .int 1, .int 8] [] I _ _ mX11_isIn mt_X11_isIn rfl (ls3 ⟨_, rfl⟩ ⟨_, rfl⟩ ⟨_, rfl⟩) ls0 (by simp) (hI mX11_isIn mt_X11_isIn (d + 39) _ I ⟨⟨_, rfl, a_rng _⟩, ⟨_, rfl, by decide, by decide⟩, ⟨_, rfl, by decide, by decide⟩, trivial⟩ hi hw (fun s hs => absurd hs List.not_mem_nil)) ?_
  rintro _ _ ⟨J', rfl, -, hf', c', hc', hcase⟩
  rw [afr_nil hf']
  simp only [List.mem_cons, List.not_mem_nil, or_false] at hc'
  rcases hc' with rfl | rfl
  · obtain ⟨⟨y, rfl, hy⟩, hx, -⟩ := hcase
    obtain ⟨x, hx1, hx2⟩ := hx _ List.mem_cons_self
    have ex : n = x := by simpa using hx1
    subst ex
    have hx3 : 1 ≤ n.toInt := hx2.1
    have hx4 : n.toInt ≤ 8 := hx2.2
    dsimp only [Option.toList, List.cons_append, List.nil_append]
    refine G_if_ne (pc := 7) (tgt := 12) (by decide) dX11_feed_7 (fun _ => ?_) (fun c => absurd hy.1 (by rw [c]; decide))
    refine G_aload_n (pc := 12) rfl dX11_feed_12 ?_
    refine G_getR (pc := 13) (ci := 11) (j := 4) rfl lq_RX11_75 rfl rfl rfl dX11_feed_13 ?_
    refine G_getI (pc := 16) (ci := 5) (j := 1) rfl rfl lq_RX11_179 rfl rfl dX11_feed_16 ?_
    refine G_iload_n (pc := 19) rfl dX11_feed_19 ?_
    refine G_iadd (pc := 20) rfl dX11_feed_20 ?_
    refine G_sipush (pc := 21) (v := 200) (by decide) dX11_feed_21 ?_
    refine G_icmp_le (pc := 24) (tgt := 30) (by decide) dX11_feed_24 (fun _ => ?_) (fun _ => ?_)
    · refine G_iconst (pc := 30) (v := Int32.ofNat 0) (by decide) dX11_feed_30 ?_
      refine G_istore (pc := 31) rfl rfl (by decide) dX11_feed_31 ?_
      have en : n = Int32.ofNat n.toInt.toNat := to_nat (by omega) (by omega)
      have h := feedX_loop (d := d) (I := I) (e := e) (n := n.toInt.toNat) (by omega) hw hA n.toInt.toNat 0 I (by omega) ⟨afr.rf, hi⟩
      rw [← en] at h
      exact h
    · refine G_bipush (pc := 27) (v := -2) (by decide) dX11_feed_27 ?_
      exact G_iret (pc := 29) (Nat.le_refl _) (Nat.le_refl _) rfl dX11_feed_29 ⟨_, _, rfl, rfl, hi, afr.rf⟩
  · obtain ⟨⟨y, rfl, hy⟩, -, -⟩ := hcase
    have ey : y = 0 := Int32.toInt_inj.mp (by
      have h1 : (0 : Int) ≤ y.toInt := hy.1
      have h2 : y.toInt ≤ 0 := hy.2
      show y.toInt = 0
      omega)
    subst ey
    dsimp only [Option.toList, List.cons_append, List.nil_append]
    refine G_if_ne (pc := 7) (tgt := 12) (by decide) dX11_feed_7 (fun c => absurd rfl c) (fun _ => ?_)
    refine G_iconst (pc := 10) (v := -1) (by decide) dX11_feed_10 ?_
    exact G_iret (pc := 11) (Nat.le_refl _) (Nat.le_refl _) rfl dX11_feed_11 ⟨_, _, rfl, rfl, hi, afr.rf⟩
set_option maxRecDepth 100000 in
set_option maxHeartbeats 4000000 in
theorem feedM_loop {n : Nat} (hn : n ≤ 8) (hw : WP I) : ∀ (g i : Nat) (J : gI), i + g = n → (J 67 6).toInt + g ≤ 200 → keeps [(67, 6, 6), (72, 0, 199)] I J → gg (d + 40) mX12_feed 30 [some (.ref 67), some (.long e), none, some (.int (Int32.ofNat n)), some (.int (Int32.ofNat i))] [] J (pbF [(67, 6, 6), (72, 0, 199)] I)
  | 0, i, J, hg, ht, hJ => by
    have e : i = n := by omega
    subst e
    refine G_iload (pc := 30) rfl dX12_feed_30 ?_
    refine G_iload_n (pc := 32) rfl dX12_feed_32 ?_
    refine G_icmp_ge (pc := 33) (tgt := 73) (by decide) dX12_feed_33 (fun _ => ?_) (fun c => absurd (Int32.le_refl _) c)
    refine G_aload_n (pc := 73) rfl dX12_feed_73 ?_
    refine G_getI (pc := 74) (ci := 12) (j := 6) rfl rfl lq_RX12_126 rfl rfl dX12_feed_74 ?_
    exact G_iret (pc := 77) (Nat.le_refl _) (Nat.le_refl _) rfl dX12_feed_77 ⟨_, _, rfl, rfl, hJ.2, hJ.1⟩
  | g + 1, i, J, hg, ht, hJ => by
    have hi : i < n := by omega
    have hz := ain_of hJ.2 (show bnd bT 67 6 = (0, 200) by decide +kernel)
    dsimp only at hz
    refine G_iload (pc := 30) rfl dX12_feed_30 ?_
    refine G_iload_n (pc := 32) rfl dX12_feed_32 ?_
    refine G_icmp_ge (pc := 33) (tgt := 73) (by decide) dX12_feed_33 (fun c => absurd c (by rw [n_le (by omega) (by omega)]; omega)) (fun _ => ?_)
    refine G_aload_n (pc := 36) rfl dX12_feed_36 ?_
    refine G_getR (pc := 37) (ci := 12) (j := 5) rfl lq_RX12_22 rfl rfl rfl dX12_feed_37 ?_
    refine G_aload_n (pc := 40) rfl dX12_feed_40 ?_
    refine G_getI (pc := 41) (ci := 12) (j := 6) rfl rfl lq_RX12_126 rfl rfl dX12_feed_41 ?_
    refine G_lload_n (pc := 44) rfl dX12_feed_44 ?_
    refine G_bipush (pc := 45) (v := 8) (by decide) dX12_feed_45 ?_
    refine G_iload (pc := 47) rfl dX12_feed_47 ?_
    refine G_imul (pc := 49) rfl dX12_feed_49 ?_
    refine G_lshr (pc := 50) rfl dX12_feed_50 ?_
    refine G_ldc2w (pc := 51) (v := 255) cl_RX12_190 dX12_feed_51 ?_
    refine G_land (pc := 54) rfl dX12_feed_54 ?_
    refine G_l2i (pc := 55) rfl dX12_feed_55 ?_
    refine G_iast (pc := 56) a_nc rfl (a_vin hz.1 (by omega)) dX12_feed_56 ?_
    refine G_aload_n (pc := 57) rfl dX12_feed_57 ?_
    refine G_dup (pc := 58) rfl dX12_feed_58 ?_
    refine G_getI (pc := 59) (ci := 12) (j := 6) rfl rfl lq_RX12_126 rfl rfl dX12_feed_59 ?_
    refine G_iconst (pc := 62) (v := 1) (by decide) dX12_feed_62 ?_
    refine G_iadd (pc := 63) rfl dX12_feed_63 ?_
    refine G_putI (pc := 64) (ci := 12) (j := 6) rfl lq_RX12_126 rfl rfl rfl trivial dX12_feed_64 ?_
    refine G_iinc (pc := 67) (v := Int32.ofNat 1) n_add rfl rfl (by decide) rfl (by decide) dX12_feed_67 ?_
    refine G_goto (pc := 70) (tgt := 30) (by decide) dX12_feed_70 ?_
    have e0 : ∀ v : Int32, gup J 72 (J 67 6).toInt.toNat v 67 6 = J 67 6 := fun v => gup_ne (Or.inl (by decide))
    have e1 : (J 67 6 + 1).toInt = (J 67 6).toInt + 1 := by
      rw [Int32.toInt_add, show (1 : Int32).toInt = 1 from rfl, a_bm (by unfold aLo; omega) (by unfold aHi; omega)]
    have hin : ∀ v : Int32, ain (0, 255) v → aInv bT (gup J 72 (J 67 6).toInt.toNat v) := fun v hv => by
      refine inv_put hJ.2 ?_
      have e2 : bnd bT 72 (J 67 6).toInt.toNat = (0, 255) := by
        show bseg (bT.getD 72 []) _ = _
        rw [show bT.getD 72 [] = [(199, 0, 255)] by decide +kernel]
        show (if _ ≤ 199 then _ else _) = _
        rw [if_pos (by omega)]
      rw [e2]
      exact hv
    refine feedM_loop hn hw g (i + 1) _ (by omega) (by rw [gup_at, e0, e1]; omega) ⟨(hJ.1.put (amodr_i (a := 0) (b := 199) (by decide) (Nat.zero_le _) (by omega))).put (by decide), inv_put (hin _ (a_and255 _)) ?_⟩
    rw [show bnd bT 67 6 = (0, 200) by decide +kernel, e0]
    exact ⟨by show (0 : Int) ≤ _; omega, by show _ ≤ (200 : Int); omega⟩
set_option maxRecDepth 100000 in
set_option maxHeartbeats 4000000 in
theorem pb_feedM (hI : MSok bT WP MT (127, 0, [(0, (-2147483648), 2147483647), (0, 1, 1), (0, 8, 8)], [], [], [(some (1, 1), [(0, 1, 8)], []), (some (0, 0), [], [])])) (n : Int32) (hi : aInv bT I) (hw : WP I) : gg (d + 40) mX12_feed 0 (gent 5 [.ref 67, .long e, .int n]) [] I (pbF [(67, 6, 6), (72, 0, 199)] I) := by
  have hz := ain_of hi (show bnd bT 67 6 = (0, 200) by decide +kernel)
  dsimp only at hz
  refine G_iload_n (pc := 0) rfl dX12_feed_0 ?_
  refine G_iconst (pc := 1) (v := 1) (by decide) dX12_feed_1 ?_
  refine G_bipush (pc := 2) (v := 8) (by decide) dX12_feed_2 ?_
  refine oX12_feed_4 (d + 39) _ [.int n, .int 1, .int 8] [] I _ _ mX12_in1 mt_X12_in1 rfl (ls3 ⟨_, rfl⟩ ⟨_, rfl⟩ ⟨_, rfl⟩) ls0 (by simp) (hI mX12_in1 mt_X12_in1 (d + 39) _ I ⟨⟨_, rfl, a_rng _⟩, ⟨_, rfl, by decide, by decide⟩, ⟨_, rfl, by decide, by decide⟩, trivial⟩ hi hw (fun s hs => absurd hs List.not_mem_nil)) ?_
  rintro _ _ ⟨J', rfl, -, hf', c', hc', hcase⟩
  rw [afr_nil hf']
  simp only [List.mem_cons, List.not_mem_nil, or_false] at hc'
  rcases hc' with rfl | rfl
  · obtain ⟨⟨y, rfl, hy⟩, hx, -⟩ := hcase
    obtain ⟨x, hx1, hx2⟩ := hx _ List.mem_cons_self
    have ex : n = x := by simpa using hx1
    subst ex
    have hx3 : 1 ≤ n.toInt := hx2.1
    have hx4 : n.toInt ≤ 8 := hx2.2
    dsimp only [Option.toList, List.cons_append, List.nil_append]
    refine G_if_ne (pc := 7) (tgt := 12) (by decide) dX12_feed_7 (fun _ => ?_) (fun c => absurd hy.1 (by rw [c]; decide))
    refine G_aload_n (pc := 12) rfl dX12_feed_12 ?_
    refine G_getI (pc := 13) (ci := 12) (j := 6) rfl rfl lq_RX12_126 rfl rfl dX12_feed_13 ?_
    refine G_iload_n (pc := 16) rfl dX12_feed_16 ?_
    refine G_iadd (pc := 17) rfl dX12_feed_17 ?_
    refine G_sipush (pc := 18) (v := 200) (by decide) dX12_feed_18 ?_
    refine G_icmp_le (pc := 21) (tgt := 27) (by decide) dX12_feed_21 (fun c => ?_) (fun _ => ?_)
    · refine G_iconst (pc := 27) (v := Int32.ofNat 0) (by decide) dX12_feed_27 ?_
      refine G_istore (pc := 28) rfl rfl (by decide) dX12_feed_28 ?_
      have en : n = Int32.ofNat n.toInt.toNat := to_nat (by omega) (by omega)
      have h200 : (I 67 6).toInt + n.toInt ≤ 200 := by
        rw [Int32.le_iff_toInt_le, Int32.toInt_add, a_bm (by unfold aLo; omega) (by unfold aHi; omega)] at c
        exact c
      have h := feedM_loop (d := d) (I := I) (e := e) (n := n.toInt.toNat) (by omega) hw n.toInt.toNat 0 I (by omega) (by omega) ⟨afr.rf, hi⟩
      rw [← en] at h
      exact h
    · refine G_bipush (pc := 24) (v := -2) (by decide) dX12_feed_24 ?_
      exact G_iret (pc := 26) (Nat.le_refl _) (Nat.le_refl _) rfl dX12_feed_26 ⟨_, _, rfl, rfl, hi, afr.rf⟩
  · obtain ⟨⟨y, rfl, hy⟩, -, -⟩ := hcase
    have ey : y = 0 := Int32.toInt_inj.mp (by
      have h1 : (0 : Int) ≤ y.toInt := hy.1
      have h2 : y.toInt ≤ 0 := hy.2
      show y.toInt = 0
      omega)
    subst ey
    dsimp only [Option.toList, List.cons_append, List.nil_append]
    refine G_if_ne (pc := 7) (tgt := 12) (by decide) dX12_feed_7 (fun c => absurd rfl c) (fun _ => ?_)
    refine G_iconst (pc := 10) (v := -1) (by decide) dX12_feed_10 ?_
    exact G_iret (pc := 11) (Nat.le_refl _) (Nat.le_refl _) rfl dX12_feed_11 ⟨_, _, rfl, rfl, hi, afr.rf⟩
end FD
