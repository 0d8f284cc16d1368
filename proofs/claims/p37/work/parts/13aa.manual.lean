/-! ===== summaries of copies, by hand ===== -/
theorem m_arg1 {vs : List Value} (h : argsOK [(1, 67, 0)] vs) : vs = [.ref 67] := by
  match vs, h with
  | [v], h =>
    obtain ⟨c, rfl, hc⟩ : ∃ c : Nat, v = .ref c ∧ (67 : Int) = (c : Int) := h.1
    have e : c = 67 := by omega
    subst e
    rfl
theorem m_arg2 {vs : List Value} {x : Int32} {z : Int} (hz : x.toInt = z) (h : argsOK [(1, 67, 0), (0, z, z)] vs) : vs = [.ref 67, .int x] := by
  match vs, h with
  | [v, w], h =>
    obtain ⟨c, rfl, hc⟩ : ∃ c : Nat, v = .ref c ∧ (67 : Int) = (c : Int) := h.1
    obtain ⟨y, rfl, hy⟩ : ∃ y, w = .int y ∧ ain (z, z) y := h.2.1
    have e : c = 67 := by omega
    subst e
    have e : y = x := Int32.toInt_inj.mp (by
      have h1 : z ≤ y.toInt := hy.1
      have h2 : y.toInt ≤ z := hy.2
      omega)
    subst e
    rfl
def cpB (x y sp dp N : Nat) : Bool := (List.range N).all (fun t => asub (bnd bT x (sp + t)) (bnd bT y (dp + t)))
def cpM (x y sp dp N : Nat) (md : aMd) (pre : List (Nat × Nat × Int × Int)) : Bool := decide (x ≠ y) && (List.range N).all (fun t => amodr md y (dp + t) (dp + t) || pre.any (fun p => decide (p = (y, dp + t, aEQ + (x : Int), ((sp + t : Nat) : Int)))))
def cpP (x y sp dp N : Nat) (pre post : List (Nat × Nat × Int × Int)) : Bool := post.all (fun s => decide (s.1 = y) && decide (dp ≤ s.2.1) && decide (s.2.1 < dp + N) && (decide (s.2.2 = (aEQ + (x : Int), ((sp + (s.2.1 - dp) : Nat) : Int))) || (decide (s.2.2.1 < aEQ) && pre.any (fun q => decide (q.1 = x) && decide (q.2.1 = sp + (s.2.1 - dp)) && decide (q.2.2 = s.2.2)))))
theorem ms_cp {Ext : gI → Prop} {mi : Nat} {args : List (Nat × Int × Int)} {pre post : List (Nat × Nat × Int × Int)} {md : aMd} {M : gM} {x y sp dp N : Nat} (hM : MT[mi]? = some M) (hG : ∀ (d : Nat) (vs : List Value) (I : gI) (Q : Option Value → gH → Prop), argsOK args vs → Q none (SH0, RF0, gcp I x y sp dp N) → gg d M 0 (gent M.2.2.1 vs) [] I Q)
    (hb : cpB x y sp dp N = true) (hm : cpM x y sp dp N md pre = true) (hp : cpP x y sp dp N pre post = true) : MSok bT Ext MT (mi, 0, args, pre, md, [(none, [], post)]) := by
  intro mj hmj d vs I hargs hinv _ hpre
  simp only [cpM, Bool.and_eq_true, decide_eq_true_eq] at hm
  obtain ⟨hxy, hmN⟩ := hm
  have e : M = mj := Option.some.inj (hM.symm.trans hmj)
  subst e
  refine hG _ vs I _ hargs ⟨_, rfl, fun c j => ?_, fun c j hn => ?_, (none, [], post), List.mem_cons_self, rfl, fun q hq => absurd hq List.not_mem_nil, fun s hs => ?_⟩
  · rw [gcp_at]
    split
    next h =>
      obtain ⟨rfl, h1, h2⟩ := h
      have hb1 := List.all_eq_true.mp hb (j - dp) (List.mem_range.mpr (by omega))
      rw [show dp + (j - dp) = j by omega] at hb1
      exact asub_ok hb1 (hinv x (sp + (j - dp)))
    next => exact hinv c j
  · rw [gcp_at]
    split
    next h =>
      obtain ⟨rfl, h1, h2⟩ := h
      have hm1 := List.all_eq_true.mp hmN (j - dp) (List.mem_range.mpr (by omega))
      rw [show dp + (j - dp) = j by omega] at hm1
      rw [Bool.or_eq_true] at hm1
      rcases hm1 with hm1 | hm1
      · have hn : amodr md c j j = false := hn
        rw [hn] at hm1
        cases hm1
      · obtain ⟨p, hp1, hp2⟩ := List.any_eq_true.mp hm1
        have hp2 := of_decide_eq_true hp2
        subst hp2
        exact (slotOK_e (hpre _ hp1)).symm
    next => rfl
  · have hp1 := List.all_eq_true.mp hp s hs
    simp only [Bool.and_eq_true, Bool.or_eq_true, decide_eq_true_eq] at hp1
    obtain ⟨⟨⟨a1, a2⟩, a3⟩, a4⟩ := hp1
    rcases a4 with a4 | ⟨a4, a5⟩
    · obtain ⟨sc, sj, slo, shi⟩ := s
      have a1 : sc = y := a1
      have a2 : dp ≤ sj := a2
      have a3 : sj < dp + N := a3
      have a4 : (slo, shi) = (aEQ + (x : Int), ((sp + (sj - dp) : Nat) : Int)) := a4
      subst a1
      cases a4
      refine slotOK_q ?_
      rw [gcp_at, if_pos ⟨rfl, a2, a3⟩, gcp_at, if_neg (fun q => hxy q.1)]
    refine slotOK_m a4 ?_
    obtain ⟨q, hq1, hq2⟩ := List.any_eq_true.mp a5
    simp only [Bool.and_eq_true, decide_eq_true_eq] at hq2
    obtain ⟨⟨b1, b2⟩, b3⟩ := hq2
    have s2 : ain q.2.2 (I q.1 q.2.1) := slotOK_b (by rw [b3]; exact a4) (hpre q hq1)
    show ain s.2.2 (gcp I x y sp dp N s.1 s.2.1)
    rw [gcp_at, if_pos ⟨a1, a2, a3⟩, ← b3, ← b1, ← b2]
    exact s2
theorem g_layDown (d : Nat) (vs : List Value) (I : gI) (Q : Option Value → gH → Prop) (h : argsOK [(1, 67, 0)] vs) (hq : Q none (SH0, RF0, gcp I 68 70 0 0 65)) : gg d mX12_layDown 0 (gent 2 vs) [] I Q := by
  rw [m_arg1 h]
  exact layDown_G d I Q hq
theorem g_layBack (d : Nat) (vs : List Value) (I : gI) (Q : Option Value → gH → Prop) (h : argsOK [(1, 67, 0)] vs) (hq : Q none (SH0, RF0, gcp I 70 68 0 0 65)) : gg d mX12_layBack 0 (gent 2 vs) [] I Q := by
  rw [m_arg1 h]
  exact layBack_G d I Q hq
theorem g_saves0 (d : Nat) (vs : List Value) (I : gI) (Q : Option Value → gH → Prop) (h : argsOK [(1, 67, 0), (0, 0, 0)] vs) (hq : Q none (SH0, RF0, gcp I 68 76 0 0 65)) : gg d mX12_saves 0 (gent 3 vs) [] I Q := by
  rw [m_arg2 (x := 0) rfl h]
  exact saves0_G d I Q hq
theorem g_restores0 (d : Nat) (vs : List Value) (I : gI) (Q : Option Value → gH → Prop) (h : argsOK [(1, 67, 0), (0, 0, 0)] vs) (hq : Q none (SH0, RF0, gcp I 76 68 0 0 65)) : gg d mX12_restores 0 (gent 3 vs) [] I Q := by
  rw [m_arg2 (x := 0) rfl h]
  exact restores0_G d I Q hq
theorem g_saves1 (d : Nat) (vs : List Value) (I : gI) (Q : Option Value → gH → Prop) (h : argsOK [(1, 67, 0), (0, 1, 1)] vs) (hq : Q none (SH0, RF0, gcp I 68 76 0 65 65)) : gg d mX12_saves 0 (gent 3 vs) [] I Q := by
  rw [m_arg2 (x := 1) rfl h]
  exact saves1_G d I Q hq
theorem g_restores1 (d : Nat) (vs : List Value) (I : gI) (Q : Option Value → gH → Prop) (h : argsOK [(1, 67, 0), (0, 1, 1)] vs) (hq : Q none (SH0, RF0, gcp I 76 68 65 0 65)) : gg d mX12_restores 0 (gent 3 vs) [] I Q := by
  rw [m_arg2 (x := 1) rfl h]
  exact restores1_G d I Q hq
theorem g_saves2 (d : Nat) (vs : List Value) (I : gI) (Q : Option Value → gH → Prop) (h : argsOK [(1, 67, 0), (0, 2, 2)] vs) (hq : Q none (SH0, RF0, gcp I 68 76 0 130 65)) : gg d mX12_saves 0 (gent 3 vs) [] I Q := by
  rw [m_arg2 (x := 2) rfl h]
  exact saves2_G d I Q hq
theorem g_restores2 (d : Nat) (vs : List Value) (I : gI) (Q : Option Value → gH → Prop) (h : argsOK [(1, 67, 0), (0, 2, 2)] vs) (hq : Q none (SH0, RF0, gcp I 76 68 130 0 65)) : gg d mX12_restores 0 (gent 3 vs) [] I Q := by
  rw [m_arg2 (x := 2) rfl h]
  exact restores2_G d I Q hq
theorem g_saves3 (d : Nat) (vs : List Value) (I : gI) (Q : Option Value → gH → Prop) (h : argsOK [(1, 67, 0), (0, 3, 3)] vs) (hq : Q none (SH0, RF0, gcp I 68 76 0 195 65)) : gg d mX12_saves 0 (gent 3 vs) [] I Q := by
  rw [m_arg2 (x := 3) rfl h]
  exact saves3_G d I Q hq
theorem g_restores3 (d : Nat) (vs : List Value) (I : gI) (Q : Option Value → gH → Prop) (h : argsOK [(1, 67, 0), (0, 3, 3)] vs) (hq : Q none (SH0, RF0, gcp I 76 68 195 0 65)) : gg d mX12_restores 0 (gent 3 vs) [] I Q := by
  rw [m_arg2 (x := 3) rfl h]
  exact restores3_G d I Q hq
theorem g_saves4 (d : Nat) (vs : List Value) (I : gI) (Q : Option Value → gH → Prop) (h : argsOK [(1, 67, 0), (0, 4, 4)] vs) (hq : Q none (SH0, RF0, gcp I 68 76 0 260 65)) : gg d mX12_saves 0 (gent 3 vs) [] I Q := by
  rw [m_arg2 (x := 4) rfl h]
  exact saves4_G d I Q hq
theorem g_restores4 (d : Nat) (vs : List Value) (I : gI) (Q : Option Value → gH → Prop) (h : argsOK [(1, 67, 0), (0, 4, 4)] vs) (hq : Q none (SH0, RF0, gcp I 76 68 260 0 65)) : gg d mX12_restores 0 (gent 3 vs) [] I Q := by
  rw [m_arg2 (x := 4) rfl h]
  exact restores4_G d I Q hq
/-! ===== how many bits: it ends ===== -/
theorem b_less {x : Int32} (h : ¬ x = 0) : (x &&& (x - 1)).toBitVec.toNat < x.toBitVec.toNat := by
  have h0 : x.toBitVec.toNat ≠ 0 := fun e => h (Int32.toInt_inj.mp (by
    have : x.toInt = x.toBitVec.toInt := rfl
    rw [this, BitVec.toInt_eq_toNat_cond, e]
    rfl))
  have hl := x.toBitVec.isLt
  have e1 : (x - 1).toBitVec.toNat = x.toBitVec.toNat - 1 := by
    show (x.toBitVec - (1 : Int32).toBitVec).toNat = _
    rw [BitVec.toNat_sub]
    have e2 : (1 : Int32).toBitVec.toNat = 1 := rfl
    rw [e2]
    omega
  have e3 : (x &&& (x - 1)).toBitVec.toNat = x.toBitVec.toNat &&& (x - 1).toBitVec.toNat := rfl
  have e4 : x.toBitVec.toNat &&& (x - 1).toBitVec.toNat ≤ (x - 1).toBitVec.toNat := Nat.and_le_right
  omega
theorem ones_loop (d : Nat) (I : gI) (Q : Option Value → gH → Prop) (y : Int32) (hQ : ∀ r : Int32, Q (some (.int r)) (SH0, RF0, I)) : ∀ (N : Nat) (x n : Int32), x.toBitVec.toNat < N → gg d mX12_ones 4 [some (.int y), some (.int n), some (.int x)] [] I Q
  | 0, _, _, h => absurd h (Nat.not_lt_zero _)
  | N + 1, x, n, h => by
    refine G_iload_n (pc := 4) rfl dX12_ones_4 ?_
    refine G_if_eq (pc := 5) (tgt := 20) (by decide) dX12_ones_5 (fun _ => ?_) (fun c => ?_)
    · refine G_iload_n (pc := 20) rfl dX12_ones_20 ?_
      exact G_iret (pc := 21) (Nat.le_refl _) (Nat.le_refl _) rfl dX12_ones_21 (hQ n)
    · refine G_iinc (pc := 8) (v := 1) rfl rfl rfl (by decide) rfl (by decide) dX12_ones_8 ?_
      refine G_iload_n (pc := 11) rfl dX12_ones_11 ?_
      refine G_iload_n (pc := 12) rfl dX12_ones_12 ?_
      refine G_iconst (pc := 13) (v := 1) (by decide) dX12_ones_13 ?_
      refine G_isub (pc := 14) rfl dX12_ones_14 ?_
      refine G_iand (pc := 15) rfl dX12_ones_15 ?_
      refine G_istore_n (pc := 16) rfl rfl (by decide) dX12_ones_16 ?_
      refine G_goto (pc := 17) (tgt := 4) (by decide) dX12_ones_17 ?_
      exact ones_loop d I Q y hQ N _ _ (Nat.lt_of_lt_of_le (b_less c) (by omega))
theorem ms_ones {Ext : gI → Prop} {mi : Nat} (hM : MT[mi]? = some mX12_ones) : MSok bT Ext MT (mi, 0, [(0, -2147483648, 2147483647)], [], [], [(some (-2147483648, 2147483647), [], [])]) := by
  intro mj hmj d vs I hargs hinv _ _
  have e : mX12_ones = mj := Option.some.inj (hM.symm.trans hmj)
  subst e
  match vs, hargs with
  | [v], hargs =>
    obtain ⟨x, rfl, hx⟩ : ∃ x, v = .int x ∧ ain (-2147483648, 2147483647) x := hargs.1
    refine G_iconst (pc := 0) (v := 0) (by decide) dX12_ones_0 ?_
    refine G_istore_n (pc := 1) rfl rfl (by decide) dX12_ones_1 ?_
    refine G_iload_n (pc := 2) rfl dX12_ones_2 ?_
    refine G_istore_n (pc := 3) rfl rfl (by decide) dX12_ones_3 ?_
    exact ones_loop _ I _ _ (fun r => ⟨I, rfl, hinv, afr.rf, _, List.mem_cons_self, ⟨r, rfl, a_rng r⟩, fun q hq => absurd hq List.not_mem_nil, fun s hs => absurd hs List.not_mem_nil⟩) _ x 0 (Nat.lt_succ_self _)
