/-! ===== rows of sheets: what is written, what is read ===== -/
theorem ls2 {a b : Value} (ha : ∃ x, a = .int x) (hb : ∃ x, b = .int x) : aSG [a, b] := fun v hv => by
  simp only [List.mem_cons, List.not_mem_nil, or_false] at hv
  rcases hv with rfl | rfl
  · exact Or.inl ha
  · exact Or.inl hb
theorem nez {v : Int32} (h : v.toInt ≠ 0) : crel 1 v.toInt 0 := h
theorem eqz {v : Int32} (h : v.toInt ≠ 0) : ¬ crel 0 v.toInt 0 := h
def nar (v t : Int32) : Int32 := if t.toInt = 0 then v.toInt8.toInt32 else if t.toInt = 1 then v.toInt16.toInt32 else if t.toInt = 4 then (if v.toInt = 0 then 0 else 1) else v
theorem lsr {c : Nat} {S : List Value} (h : aSG S) : aSG (.ref c :: S) := fun v hv => by
  rcases List.mem_cons.mp hv with rfl | hv
  · exact Or.inr ⟨c, rfl⟩
  · exact h v hv
theorem lsi {x : Int32} {S : List Value} (h : aSG S) : aSG (.int x :: S) := fun v hv => by
  rcases List.mem_cons.mp hv with rfl | hv
  · exact Or.inl ⟨x, rfl⟩
  · exact h v hv
theorem t_sub1 {x : Int32} (h0 : 0 ≤ x.toInt) : (x - 1).toInt = x.toInt - 1 := by
  rw [Int32.toInt_sub, show (1 : Int32).toInt = 1 from rfl]
  have := a_rng x
  unfold aLo aHi at this
  exact a_bm (by unfold aLo; omega) (by unfold aHi; omega)
theorem isIn_G {d : Nat} {x lo hi : Int32} {I : gI} {Q : Option Value → gH → Prop} (h1 : lo.toInt ≤ x.toInt → x.toInt ≤ hi.toInt → Q (some (.int 1)) (SH0, RF0, I)) (h0 : (x.toInt < lo.toInt ∨ hi.toInt < x.toInt) → Q (some (.int 0)) (SH0, RF0, I)) : gg d mX11_isIn 0 (gent 3 [.int x, .int lo, .int hi]) [] I Q := by
  refine G_iload_n (pc := 0) rfl dX11_isIn_0 ?_
  refine G_iload_n (pc := 1) rfl dX11_isIn_1 ?_
  refine oX11_isIn_2 _ _ _ _ _ _ _ (fun c => ?_) (fun c => ?_)
  · have c : x.toInt < lo.toInt := c
    refine G_iconst (pc := 14) (v := 0) (by decide) dX11_isIn_14 ?_
    exact oX11_isIn_15 _ _ _ _ _ (Or.inl rfl) (h0 (Or.inl c))
  · have c : ¬ x.toInt < lo.toInt := c
    refine G_iload_n (pc := 5) rfl dX11_isIn_5 ?_
    refine G_iload_n (pc := 6) rfl dX11_isIn_6 ?_
    refine oX11_isIn_7 _ _ _ _ _ _ _ (fun c2 => ?_) (fun c2 => ?_)
    · have c2 : hi.toInt < x.toInt := c2
      refine G_iconst (pc := 14) (v := 0) (by decide) dX11_isIn_14 ?_
      exact oX11_isIn_15 _ _ _ _ _ (Or.inl rfl) (h0 (Or.inr c2))
    · have c2 : ¬ hi.toInt < x.toInt := c2
      refine G_iconst (pc := 10) (v := 1) (by decide) dX11_isIn_10 ?_
      refine G_goto (pc := 11) (tgt := 15) (by decide) dX11_isIn_11 ?_
      exact oX11_isIn_15 _ _ _ _ _ (Or.inr rfl) (h1 (by omega) (by omega))
theorem in1b_G {d : Nat} {x lo hi : Int32} {I : gI} {Q : Option Value → gH → Prop} (h1 : lo.toInt ≤ x.toInt → x.toInt ≤ hi.toInt → Q (some (.int 1)) (SH0, RF0, I)) (h0 : (x.toInt < lo.toInt ∨ hi.toInt < x.toInt) → Q (some (.int 0)) (SH0, RF0, I)) : gg d mX12_in1 0 (gent 3 [.int x, .int lo, .int hi]) [] I Q := by
  refine G_iload_n (pc := 0) rfl dX12_in1_0 ?_
  refine G_iload_n (pc := 1) rfl dX12_in1_1 ?_
  refine oX12_in1_2 _ _ _ _ _ _ _ (fun c => ?_) (fun c => ?_)
  · have c : x.toInt < lo.toInt := c
    refine G_iconst (pc := 14) (v := 0) (by decide) dX12_in1_14 ?_
    exact oX12_in1_15 _ _ _ _ _ (Or.inl rfl) (h0 (Or.inl c))
  · have c : ¬ x.toInt < lo.toInt := c
    refine G_iload_n (pc := 5) rfl dX12_in1_5 ?_
    refine G_iload_n (pc := 6) rfl dX12_in1_6 ?_
    refine oX12_in1_7 _ _ _ _ _ _ _ (fun c2 => ?_) (fun c2 => ?_)
    · have c2 : hi.toInt < x.toInt := c2
      refine G_iconst (pc := 14) (v := 0) (by decide) dX12_in1_14 ?_
      exact oX12_in1_15 _ _ _ _ _ (Or.inl rfl) (h0 (Or.inr c2))
    · have c2 : ¬ hi.toInt < x.toInt := c2
      refine G_iconst (pc := 10) (v := 1) (by decide) dX12_in1_10 ?_
      refine G_goto (pc := 11) (tgt := 15) (by decide) dX12_in1_11 ?_
      exact oX12_in1_15 _ _ _ _ _ (Or.inr rfl) (h1 (by omega) (by omega))
theorem isPlace_G {d : Nat} {x : Int32} {I : gI} {Q : Option Value → gH → Prop} (hx : 0 ≤ x.toInt ∧ x.toInt ≤ 3) (h1 : Q (some (.int 1)) (SH0, RF0, I)) : gg (d + 1) mX11_isPlace 0 (gent 1 [.int x]) [] I Q := by
  refine G_iload_n (pc := 0) rfl dX11_isPlace_0 ?_
  refine G_iconst (pc := 1) (v := 0) (by decide) dX11_isPlace_1 ?_
  refine G_iconst (pc := 2) (v := 3) (by decide) dX11_isPlace_2 ?_
  refine oX11_isPlace_3 d _ [.int x, .int 0, .int 3] [] I _ _ mX11_isIn mt_X11_isIn rfl (lsi (lsi (lsi ls0))) ls0 (by simp) (isIn_G (fun _ _ => ?_) (fun h => ?_)) (fun _ _ h => h)
  · dsimp only [Option.toList, List.cons_append, List.nil_append]
    exact oX11_isPlace_6 _ _ _ _ _ (Or.inr rfl) h1
  · have k0 : (0 : Int32).toInt = 0 := rfl
    have k3 : (3 : Int32).toInt = 3 := rfl
    omega
theorem isSheet_G {d : Nat} {x : Int32} {I : gI} {Q : Option Value → gH → Prop} (hx : 0 ≤ x.toInt ∧ x.toInt ≤ 3) (h1 : Q (some (.int 1)) (SH0, RF0, I)) : gg (d + 1) mX12_isSheet 0 (gent 1 [.int x]) [] I Q := by
  refine G_iload_n (pc := 0) rfl dX12_isSheet_0 ?_
  refine G_iconst (pc := 1) (v := 0) (by decide) dX12_isSheet_1 ?_
  refine G_iconst (pc := 2) (v := 3) (by decide) dX12_isSheet_2 ?_
  refine oX12_isSheet_3 d _ [.int x, .int 0, .int 3] [] I _ _ mX12_in1 mt_X12_in1 rfl (lsi (lsi (lsi ls0))) ls0 (by simp) (in1b_G (fun _ _ => ?_) (fun h => ?_)) (fun _ _ h => h)
  · dsimp only [Option.toList, List.cons_append, List.nil_append]
    exact oX12_isSheet_6 _ _ _ _ _ (Or.inr rfl) h1
  · have k0 : (0 : Int32).toInt = 0 := rfl
    have k3 : (3 : Int32).toInt = 3 := rfl
    omega
theorem narX_G {d : Nat} {v t : Int32} {I : gI} {Q : Option Value → gH → Prop} (ht : 0 ≤ t.toInt ∧ t.toInt ≤ 4) (h1 : Q (some (.int (nar v t))) (SH0, RF0, I)) : gg d mX11_narrowed 0 (gent 2 [.int v, .int t]) [] I Q := by
  refine G_iload_n (pc := 0) rfl dX11_narrowed_0 ?_
  refine oX11_narrowed_1 _ _ _ _ _ _ (fun q hq hx => ?_) (fun h => ?_)
  · simp only [List.mem_cons, List.not_mem_nil, or_false] at hq
    unfold nar at h1
    rcases hq with rfl | rfl | rfl | rfl | rfl
    · have hx : t.toInt = 0 := hx
      rw [if_pos hx] at h1
      refine G_iload_n (pc := 36) rfl dX11_narrowed_36 ?_
      refine G_i2b (pc := 37) rfl dX11_narrowed_37 ?_
      exact oX11_narrowed_38 _ _ _ _ _ h1
    · have hx : t.toInt = 1 := hx
      rw [if_neg (by omega), if_pos hx] at h1
      refine G_iload_n (pc := 39) rfl dX11_narrowed_39 ?_
      refine G_i2s (pc := 40) rfl dX11_narrowed_40 ?_
      exact oX11_narrowed_41 _ _ _ _ _ h1
    · have hx : t.toInt = 2 := hx
      rw [if_neg (by omega), if_neg (by omega), if_neg (by omega)] at h1
      refine G_iload_n (pc := 52) rfl dX11_narrowed_52 ?_
      exact oX11_narrowed_53 _ _ _ _ _ h1
    · have hx : t.toInt = 3 := hx
      rw [if_neg (by omega), if_neg (by omega), if_neg (by omega)] at h1
      refine G_iload_n (pc := 52) rfl dX11_narrowed_52 ?_
      exact oX11_narrowed_53 _ _ _ _ _ h1
    · have hx : t.toInt = 4 := hx
      rw [if_neg (by omega), if_neg (by omega), if_pos hx] at h1
      refine G_iload_n (pc := 42) rfl dX11_narrowed_42 ?_
      refine oX11_narrowed_43 _ _ _ _ _ _ (fun c => ?_) (fun c => ?_)
      · have c : v.toInt = 0 := c
        rw [if_pos c] at h1
        refine G_iconst (pc := 50) (v := 0) (by decide) dX11_narrowed_50 ?_
        exact oX11_narrowed_51 _ _ _ _ _ h1
      · have c : ¬ v.toInt = 0 := c
        rw [if_neg c] at h1
        refine G_iconst (pc := 46) (v := 1) (by decide) dX11_narrowed_46 ?_
        refine G_goto (pc := 47) (tgt := 51) (by decide) dX11_narrowed_47 ?_
        exact oX11_narrowed_51 _ _ _ _ _ h1
  · have := h (0, 36) (by decide)
    have := h (1, 39) (by decide)
    have := h (2, 52) (by decide)
    have := h (3, 52) (by decide)
    have := h (4, 42) (by decide)
    simp only at *
    omega
theorem narM_G {d : Nat} {v t : Int32} {I : gI} {Q : Option Value → gH → Prop} (h1 : Q (some (.int (nar v t))) (SH0, RF0, I)) : gg d mX12_narrowed 0 (gent 2 [.int v, .int t]) [] I Q := by
  unfold nar at h1
  have k1 : (1 : Int32).toInt = 1 := rfl
  have k4 : (4 : Int32).toInt = 4 := rfl
  refine G_iload_n (pc := 0) rfl dX12_narrowed_0 ?_
  refine oX12_narrowed_1 _ _ _ _ _ _ (fun c => ?_) (fun c => ?_)
  · have c : t.toInt ≠ 0 := c
    rw [if_neg c] at h1
    refine G_iload_n (pc := 9) rfl dX12_narrowed_9 ?_
    refine G_iconst (pc := 10) (v := 1) (by decide) dX12_narrowed_10 ?_
    refine oX12_narrowed_11 _ _ _ _ _ _ _ (fun c => ?_) (fun c => ?_)
    · have c : t.toInt ≠ (1 : Int32).toInt := c
      rw [if_neg (by omega)] at h1
      refine G_iload_n (pc := 19) rfl dX12_narrowed_19 ?_
      refine G_iconst (pc := 20) (v := 4) (by decide) dX12_narrowed_20 ?_
      refine oX12_narrowed_21 _ _ _ _ _ _ _ (fun c => ?_) (fun c => ?_)
      · have c : t.toInt ≠ (4 : Int32).toInt := c
        rw [if_neg (by omega)] at h1
        refine G_iload_n (pc := 36) rfl dX12_narrowed_36 ?_
        exact oX12_narrowed_37 _ _ _ _ _ h1
      · have c : ¬ t.toInt ≠ (4 : Int32).toInt := c
        rw [if_pos (by omega)] at h1
        refine G_iload_n (pc := 24) rfl dX12_narrowed_24 ?_
        refine oX12_narrowed_25 _ _ _ _ _ _ (fun c => ?_) (fun c => ?_)
        · have c : v.toInt = 0 := c
          rw [if_pos c] at h1
          refine G_iconst (pc := 32) (v := 0) (by decide) dX12_narrowed_32 ?_
          refine G_goto (pc := 33) (tgt := 37) (by decide) dX12_narrowed_33 ?_
          exact oX12_narrowed_37 _ _ _ _ _ h1
        · have c : ¬ v.toInt = 0 := c
          rw [if_neg c] at h1
          refine G_iconst (pc := 28) (v := 1) (by decide) dX12_narrowed_28 ?_
          refine G_goto (pc := 29) (tgt := 37) (by decide) dX12_narrowed_29 ?_
          exact oX12_narrowed_37 _ _ _ _ _ h1
    · have c : ¬ t.toInt ≠ (1 : Int32).toInt := c
      rw [if_pos (by omega)] at h1
      refine G_iload_n (pc := 14) rfl dX12_narrowed_14 ?_
      refine G_i2s (pc := 15) rfl dX12_narrowed_15 ?_
      refine G_goto (pc := 16) (tgt := 37) (by decide) dX12_narrowed_16 ?_
      exact oX12_narrowed_37 _ _ _ _ _ h1
  · have c : ¬ t.toInt ≠ 0 := c
    rw [if_pos (by omega)] at h1
    refine G_iload_n (pc := 4) rfl dX12_narrowed_4 ?_
    refine G_i2b (pc := 5) rfl dX12_narrowed_5 ?_
    refine G_goto (pc := 6) (tgt := 37) (by decide) dX12_narrowed_6 ?_
    exact oX12_narrowed_37 _ _ _ _ _ h1
theorem isItem_0 {d : Nat} {i : Int32} {I : gI} {Q : Option Value → gH → Prop} (hz : 0 ≤ (I 3 0).toInt) (h1 : 0 ≤ i.toInt → i.toInt < (I 3 0).toInt → Q (some (.int 1)) (SH0, RF0, I)) (h0 : (i.toInt < 0 ∨ (I 3 0).toInt ≤ i.toInt) → Q (some (.int 0)) (SH0, RF0, I)) : gg (d + 1) mX11_isItem 0 (gent 3 [.ref 0, .int 0, .int i]) [] I Q := by
  have k0 : (0 : Int32).toInt = 0 := rfl
  have kz := t_sub1 hz
  refine G_iload_n (pc := 0) rfl dX11_isItem_0 ?_
  refine G_iconst (pc := 1) (v := 0) (by decide) dX11_isItem_1 ?_
  refine G_aload_n (pc := 2) rfl dX11_isItem_2 ?_
  refine G_getR (pc := 3) (ci := 11) (j := 9) rfl lq_RX11_16 rfl rfl rfl dX11_isItem_3 ?_
  refine G_iload_n (pc := 6) rfl dX11_isItem_6 ?_
  refine G_iald (pc := 7) (jj := 0) rfl rfl rfl (a_vin (by decide) (by decide)) dX11_isItem_7 ?_
  refine G_iconst (pc := 8) (v := 1) (by decide) dX11_isItem_8 ?_
  refine G_isub (pc := 9) rfl dX11_isItem_9 ?_
  refine oX11_isItem_10 d _ [.int i, .int 0, .int (I 3 0 - 1)] [] I _ _ mX11_isIn mt_X11_isIn rfl (lsi (lsi (lsi ls0))) ls0 (by simp) (isIn_G (fun a b => ?_) (fun a => ?_)) (fun _ _ h => h)
  · dsimp only [Option.toList, List.cons_append, List.nil_append]
    exact oX11_isItem_13 _ _ _ _ _ (Or.inr rfl) (h1 (by omega) (by omega))
  · dsimp only [Option.toList, List.cons_append, List.nil_append]
    exact oX11_isItem_13 _ _ _ _ _ (Or.inl rfl) (h0 (by omega))
set_option maxRecDepth 100000 in
set_option maxHeartbeats 4000000 in
theorem writeX_0 {d : Nat} {i v : Int32} {I : gI} {Q : Option Value → gH → Prop} (ht : 0 ≤ (I 2 0).toInt ∧ (I 2 0).toInt ≤ 4) (hz : 0 ≤ (I 3 0).toInt ∧ (I 3 0).toInt ≤ 40) (h1 : 0 ≤ i.toInt → i.toInt < (I 3 0).toInt → Q (some (.int 1)) (SH0, RF0, gup I 5 i.toInt.toNat (nar v (I 2 0)))) (h0 : (i.toInt < 0 ∨ (I 3 0).toInt ≤ i.toInt) → Q (some (.int (-12))) (SH0, RF0, I)) : gg (d + 2 + 1) mX11_write 0 (gent 4 [.ref 0, .int 0, .int i, .int v]) [] I Q := by
  have km : (-1 : Int32).toInt = -1 := rfl
  refine G_iload_n (pc := 0) rfl dX11_write_0 ?_
  refine oX11_write_1 (d + 2) _ [.int 0] [] I _ _ mX11_isPlace mt_X11_isPlace rfl (lsi ls0) ls0 (by simp) (isPlace_G (d := d + 1) (by decide) ?_) (fun _ _ h => h)
  dsimp only [Option.toList, List.cons_append, List.nil_append]
  refine oX11_write_4 _ _ _ _ _ _ (fun _ => ?_) (fun c => absurd (nez (by decide)) c)
  refine G_aload_n (pc := 9) rfl dX11_write_9 ?_
  refine G_getR (pc := 10) (ci := 11) (j := 8) rfl lq_RX11_13 rfl rfl rfl dX11_write_10 ?_
  refine G_iload_n (pc := 13) rfl dX11_write_13 ?_
  refine G_iald (pc := 14) (jj := 0) rfl rfl rfl (a_vin (by decide) (by decide)) dX11_write_14 ?_
  refine G_iconst (pc := 15) (v := (-1)) (by decide) dX11_write_15 ?_
  refine oX11_write_16 _ _ _ _ _ _ _ (fun _ => ?_) (fun c => absurd (by show (I 2 0).toInt ≠ (-1 : Int32).toInt; omega) c)
  refine G_aload_n (pc := 22) rfl dX11_write_22 ?_
  refine G_iload_n (pc := 23) rfl dX11_write_23 ?_
  refine G_iload_n (pc := 24) rfl dX11_write_24 ?_
  refine oX11_write_25 (d + 2) _ [.int 0, .int i] [] I _ _ 0 11 105 mX11_isItem rfl List.mem_cons_self mt_X11_isItem rfl (lsi (lsi ls0)) ls0 (by simp) (isItem_0 (d := d + 1) hz.1 (fun a b => ?_) (fun a => ?_)) (fun _ _ h => h)
  · dsimp only [Option.toList, List.cons_append, List.nil_append]
    refine oX11_write_28 _ _ _ _ _ _ (fun _ => ?_) (fun c => absurd (nez (by decide)) c)
    refine G_aload_n (pc := 34) rfl dX11_write_34 ?_
    refine G_getR (pc := 35) (ci := 11) (j := 10) rfl lq_RX11_21 rfl rfl rfl dX11_write_35 ?_
    refine G_iload_n (pc := 38) rfl dX11_write_38 ?_
    refine G_rald (pc := 39) (jj := 0) rfl rfl (a_vin (by decide) (by decide)) rfl dX11_write_39 ?_
    refine G_iload_n (pc := 40) rfl dX11_write_40 ?_
    refine G_iload_n (pc := 41) rfl dX11_write_41 ?_
    refine G_aload_n (pc := 42) rfl dX11_write_42 ?_
    refine G_getR (pc := 43) (ci := 11) (j := 8) rfl lq_RX11_13 rfl rfl rfl dX11_write_43 ?_
    refine G_iload_n (pc := 46) rfl dX11_write_46 ?_
    refine G_iald (pc := 47) (jj := 0) rfl rfl rfl (a_vin (by decide) (by decide)) dX11_write_47 ?_
    refine oX11_write_48 (d + 2) _ [.int v, .int (I 2 0)] [.int i, .ref 5] I _ _ mX11_narrowed mt_X11_narrowed rfl (lsi (lsi ls0)) (lsi (lsr ls0)) (by simp) (narX_G ht ?_) (fun _ _ h => h)
    dsimp only [Option.toList, List.cons_append, List.nil_append]
    refine G_iast (pc := 51) a_nc rfl (a_vin a (by omega)) dX11_write_51 ?_
    refine G_iconst (pc := 52) (v := 1) (by decide) dX11_write_52 ?_
    exact oX11_write_53 _ _ _ _ _ (h1 a b)
  · dsimp only [Option.toList, List.cons_append, List.nil_append]
    refine oX11_write_28 _ _ _ _ _ _ (fun c => absurd rfl c) (fun _ => ?_)
    refine G_bipush (pc := 31) (v := (-12)) (by decide) dX11_write_31 ?_
    exact oX11_write_33 _ _ _ _ _ (h0 a)
set_option maxRecDepth 100000 in
set_option maxHeartbeats 4000000 in
theorem writeM_0 {d : Nat} {i v : Int32} {I : gI} {Q : Option Value → gH → Prop} (ht : 0 ≤ (I 82 0).toInt) (hz : 0 ≤ (I 83 0).toInt ∧ (I 83 0).toInt ≤ 40) (h1 : 0 ≤ i.toInt → i.toInt < (I 83 0).toInt → Q (some (.int 1)) (SH0, RF0, gup I 84 (0 + i.toInt.toNat) (nar v (I 82 0)))) (h0 : (i.toInt < 0 ∨ (I 83 0).toInt ≤ i.toInt) → Q (some (.int (-12))) (SH0, RF0, I)) : gg (d + 2 + 1) mX12_write 0 (gent 4 [.ref 67, .int 0, .int i, .int v]) [] I Q := by
  have k0 : (0 : Int32).toInt = 0 := rfl
  have kz := t_sub1 hz.1
  refine G_iload_n (pc := 0) rfl dX12_write_0 ?_
  refine oX12_write_1 (d + 2) _ [.int 0] [] I _ _ mX12_isSheet mt_X12_isSheet rfl (lsi ls0) ls0 (by simp) (isSheet_G (d := d + 1) (by decide) ?_) (fun _ _ h => h)
  dsimp only [Option.toList, List.cons_append, List.nil_append]
  refine oX12_write_4 _ _ _ _ _ _ (fun _ => ?_) (fun c => absurd (nez (by decide)) c)
  refine G_aload_n (pc := 9) rfl dX12_write_9 ?_
  refine G_getR (pc := 10) (ci := 12) (j := 28) rfl lq_RX12_53 rfl rfl rfl dX12_write_10 ?_
  refine G_iload_n (pc := 13) rfl dX12_write_13 ?_
  refine G_iald (pc := 14) (jj := 0) rfl rfl rfl (a_vin (by decide) (by decide)) dX12_write_14 ?_
  refine oX12_write_15 _ _ _ _ _ _ (fun _ => ?_) (fun c => absurd (by show (0 : Int) ≤ (I 82 0).toInt; omega) c)
  refine G_iload_n (pc := 21) rfl dX12_write_21 ?_
  refine G_iconst (pc := 22) (v := 0) (by decide) dX12_write_22 ?_
  refine G_aload_n (pc := 23) rfl dX12_write_23 ?_
  refine G_getR (pc := 24) (ci := 12) (j := 29) rfl lq_RX12_56 rfl rfl rfl dX12_write_24 ?_
  refine G_iload_n (pc := 27) rfl dX12_write_27 ?_
  refine G_iald (pc := 28) (jj := 0) rfl rfl rfl (a_vin (by decide) (by decide)) dX12_write_28 ?_
  refine G_iconst (pc := 29) (v := 1) (by decide) dX12_write_29 ?_
  refine G_isub (pc := 30) rfl dX12_write_30 ?_
  refine oX12_write_31 (d + 2) _ [.int i, .int 0, .int (I 83 0 - 1)] [] I _ _ mX12_in1 mt_X12_in1 rfl (lsi (lsi (lsi ls0))) ls0 (by simp) (in1b_G (fun a b => ?_) (fun a => ?_)) (fun _ _ h => h)
  · dsimp only [Option.toList, List.cons_append, List.nil_append]
    have a : 0 ≤ i.toInt := by omega
    have b : i.toInt < (I 83 0).toInt := by omega
    have ki : ((40 : Int32) * 0 + i).toInt = 0 + i.toInt := by
      rw [show (40 : Int32) * 0 = 0 by decide, Int32.toInt_add, show (0 : Int32).toInt = 0 from rfl]
      exact a_bm (by unfold aLo; omega) (by unfold aHi; omega)
    refine oX12_write_34 _ _ _ _ _ _ (fun _ => ?_) (fun c => absurd (nez (by decide)) c)
    refine G_aload_n (pc := 40) rfl dX12_write_40 ?_
    refine G_getR (pc := 41) (ci := 12) (j := 30) rfl lq_RX12_59 rfl rfl rfl dX12_write_41 ?_
    refine G_bipush (pc := 44) (v := 40) (by decide) dX12_write_44 ?_
    refine G_iload_n (pc := 46) rfl dX12_write_46 ?_
    refine G_imul (pc := 47) rfl dX12_write_47 ?_
    refine G_iload_n (pc := 48) rfl dX12_write_48 ?_
    refine G_iadd (pc := 49) rfl dX12_write_49 ?_
    refine G_iload_n (pc := 50) rfl dX12_write_50 ?_
    refine G_aload_n (pc := 51) rfl dX12_write_51 ?_
    refine G_getR (pc := 52) (ci := 12) (j := 28) rfl lq_RX12_53 rfl rfl rfl dX12_write_52 ?_
    refine G_iload_n (pc := 55) rfl dX12_write_55 ?_
    refine G_iald (pc := 56) (jj := 0) rfl rfl rfl (a_vin (by decide) (by decide)) dX12_write_56 ?_
    refine oX12_write_57 (d + 2) _ [.int v, .int (I 82 0)] [.int (40 * 0 + i), .ref 84] I _ _ mX12_narrowed mt_X12_narrowed rfl (lsi (lsi ls0)) (lsi (lsr ls0)) (by simp) (narM_G ?_) (fun _ _ h => h)
    dsimp only [Option.toList, List.cons_append, List.nil_append]
    refine G_iast (pc := 60) (jj := 0 + i.toInt.toNat) (by rw [a_nc, ki]; omega) rfl (a_vin (by omega) (by omega)) dX12_write_60 ?_
    refine G_iconst (pc := 61) (v := 1) (by decide) dX12_write_61 ?_
    exact oX12_write_62 _ _ _ _ _ (h1 a b)
  · dsimp only [Option.toList, List.cons_append, List.nil_append]
    refine oX12_write_34 _ _ _ _ _ _ (fun c => absurd rfl c) (fun _ => ?_)
    refine G_bipush (pc := 37) (v := (-12)) (by decide) dX12_write_37 ?_
    exact oX12_write_39 _ _ _ _ _ (h0 (by omega))
theorem refX_0 {d : Nat} {t : Int32} {I : gI} {Q : Option Value → gH → Prop} (h1 : (I 2 0).toInt = -1 → Q (some (.int (-11))) (SH0, RF0, I)) (h2 : (I 2 0).toInt ≠ -1 → (I 2 0).toInt = t.toInt → Q (some (.int 0)) (SH0, RF0, I)) (h3 : (I 2 0).toInt ≠ -1 → (I 2 0).toInt ≠ t.toInt → Q (some (.int (-13))) (SH0, RF0, I)) : gg d mX11_refusalOf 0 (gent 3 [.ref 0, .int 0, .int t]) [] I Q := by
  have km : (-1 : Int32).toInt = -1 := rfl
  refine G_aload_n (pc := 0) rfl dX11_refusalOf_0 ?_
  refine G_getR (pc := 1) (ci := 11) (j := 8) rfl lq_RX11_13 rfl rfl rfl dX11_refusalOf_1 ?_
  refine G_iload_n (pc := 4) rfl dX11_refusalOf_4 ?_
  refine G_iald (pc := 5) (jj := 0) rfl rfl rfl (a_vin (by decide) (by decide)) dX11_refusalOf_5 ?_
  refine G_iconst (pc := 6) (v := (-1)) (by decide) dX11_refusalOf_6 ?_
  refine oX11_refusalOf_7 _ _ _ _ _ _ _ (fun c => ?_) (fun c => ?_)
  · have c : (I 2 0).toInt ≠ (-1 : Int32).toInt := c
    refine G_aload_n (pc := 13) rfl dX11_refusalOf_13 ?_
    refine G_getR (pc := 14) (ci := 11) (j := 8) rfl lq_RX11_13 rfl rfl rfl dX11_refusalOf_14 ?_
    refine G_iload_n (pc := 17) rfl dX11_refusalOf_17 ?_
    refine G_iald (pc := 18) (jj := 0) rfl rfl rfl (a_vin (by decide) (by decide)) dX11_refusalOf_18 ?_
    refine G_iload_n (pc := 19) rfl dX11_refusalOf_19 ?_
    refine oX11_refusalOf_20 _ _ _ _ _ _ _ (fun c2 => ?_) (fun c2 => ?_)
    · have c2 : (I 2 0).toInt ≠ t.toInt := c2
      refine G_bipush (pc := 27) (v := (-13)) (by decide) dX11_refusalOf_27 ?_
      exact oX11_refusalOf_29 _ _ _ _ _ (h3 (by omega) c2)
    · have c2 : ¬ (I 2 0).toInt ≠ t.toInt := c2
      refine G_iconst (pc := 23) (v := 0) (by decide) dX11_refusalOf_23 ?_
      refine G_goto (pc := 24) (tgt := 29) (by decide) dX11_refusalOf_24 ?_
      exact oX11_refusalOf_29 _ _ _ _ _ (h2 (by omega) (by omega))
  · have c : ¬ (I 2 0).toInt ≠ (-1 : Int32).toInt := c
    refine G_bipush (pc := 10) (v := (-11)) (by decide) dX11_refusalOf_10 ?_
    exact oX11_refusalOf_12 _ _ _ _ _ (h1 (by omega))
theorem lacksM_0 {d : Nat} {t : Int32} {I : gI} {Q : Option Value → gH → Prop} (h1 : (I 82 0).toInt < 0 → Q (some (.int (-11))) (SH0, RF0, I)) (h2 : 0 ≤ (I 82 0).toInt → (I 82 0).toInt = t.toInt → Q (some (.int 0)) (SH0, RF0, I)) (h3 : 0 ≤ (I 82 0).toInt → (I 82 0).toInt ≠ t.toInt → Q (some (.int (-13))) (SH0, RF0, I)) : gg d mX12_lacks 0 (gent 3 [.ref 67, .int 0, .int t]) [] I Q := by
  refine G_aload_n (pc := 0) rfl dX12_lacks_0 ?_
  refine G_getR (pc := 1) (ci := 12) (j := 28) rfl lq_RX12_53 rfl rfl rfl dX12_lacks_1 ?_
  refine G_iload_n (pc := 4) rfl dX12_lacks_4 ?_
  refine G_iald (pc := 5) (jj := 0) rfl rfl rfl (a_vin (by decide) (by decide)) dX12_lacks_5 ?_
  refine oX12_lacks_6 _ _ _ _ _ _ (fun c => ?_) (fun c => ?_)
  · have c : (0 : Int) ≤ (I 82 0).toInt := c
    refine G_aload_n (pc := 14) rfl dX12_lacks_14 ?_
    refine G_getR (pc := 15) (ci := 12) (j := 28) rfl lq_RX12_53 rfl rfl rfl dX12_lacks_15 ?_
    refine G_iload_n (pc := 18) rfl dX12_lacks_18 ?_
    refine G_iald (pc := 19) (jj := 0) rfl rfl rfl (a_vin (by decide) (by decide)) dX12_lacks_19 ?_
    refine G_iload_n (pc := 20) rfl dX12_lacks_20 ?_
    refine oX12_lacks_21 _ _ _ _ _ _ _ (fun c2 => ?_) (fun c2 => ?_)
    · have c2 : (I 82 0).toInt = t.toInt := c2
      refine G_iconst (pc := 29) (v := 0) (by decide) dX12_lacks_29 ?_
      exact oX12_lacks_30 _ _ _ _ _ (h2 c c2)
    · have c2 : ¬ (I 82 0).toInt = t.toInt := c2
      refine G_bipush (pc := 24) (v := (-13)) (by decide) dX12_lacks_24 ?_
      refine G_goto (pc := 26) (tgt := 30) (by decide) dX12_lacks_26 ?_
      exact oX12_lacks_30 _ _ _ _ _ (h3 c c2)
  · have c : ¬ (0 : Int) ≤ (I 82 0).toInt := c
    refine G_bipush (pc := 9) (v := (-11)) (by decide) dX12_lacks_9 ?_
    refine G_goto (pc := 11) (tgt := 30) (by decide) dX12_lacks_11 ?_
    exact oX12_lacks_30 _ _ _ _ _ (h1 (by omega))
set_option maxRecDepth 100000 in
set_option maxHeartbeats 4000000 in
theorem itemX_0 {d : Nat} {t i : Int32} {I : gI} {Q : Option Value → gH → Prop} (ht : 0 ≤ t.toInt ∧ t.toInt ≤ 4) (hz : 0 ≤ (I 3 0).toInt ∧ (I 3 0).toInt ≤ 40) (h1 : (I 2 0).toInt = -1 → Q (some (.int (-11))) (SH0, RF0, I)) (h2 : (I 2 0).toInt ≠ -1 → (I 2 0).toInt ≠ t.toInt → Q (some (.int (-13))) (SH0, RF0, I)) (h3 : (I 2 0).toInt ≠ -1 → (I 2 0).toInt = t.toInt → (i.toInt < 0 ∨ (I 3 0).toInt ≤ i.toInt) → Q (some (.int (-12))) (SH0, RF0, I)) (h4 : (I 2 0).toInt ≠ -1 → (I 2 0).toInt = t.toInt → 0 ≤ i.toInt → i.toInt < (I 3 0).toInt → Q (some (.int (I 5 i.toInt.toNat))) (SH0, RF0, I)) : gg (d + 2 + 1) mX11_item 0 (gent 5 [.ref 0, .int 0, .int t, .int i]) [] I Q := by
  have k0 : (0 : Int32).toInt = 0 := rfl
  have k4 : (4 : Int32).toInt = 4 := rfl
  refine G_iload_n (pc := 0) rfl dX11_item_0 ?_
  refine oX11_item_1 (d + 2) _ [.int 0] [] I _ _ mX11_isPlace mt_X11_isPlace rfl (lsi ls0) ls0 (by simp) (isPlace_G (d := d + 1) (by decide) ?_) (fun _ _ h => h)
  dsimp only [Option.toList, List.cons_append, List.nil_append]
  refine oX11_item_4 _ _ _ _ _ _ (fun c => absurd c (eqz (by decide))) (fun _ => ?_)
  refine G_iload_n (pc := 7) rfl dX11_item_7 ?_
  refine G_iconst (pc := 8) (v := 0) (by decide) dX11_item_8 ?_
  refine G_iconst (pc := 9) (v := 4) (by decide) dX11_item_9 ?_
  refine oX11_item_10 (d + 2) _ [.int t, .int 0, .int 4] [] I _ _ mX11_isIn mt_X11_isIn rfl (lsi (lsi (lsi ls0))) ls0 (by simp) (isIn_G (fun _ _ => ?_) (fun a => by omega)) (fun _ _ h => h)
  dsimp only [Option.toList, List.cons_append, List.nil_append]
  refine oX11_item_13 _ _ _ _ _ _ (fun _ => ?_) (fun c => absurd (nez (by decide)) c)
  refine G_aload_n (pc := 18) rfl dX11_item_18 ?_
  refine G_iload_n (pc := 19) rfl dX11_item_19 ?_
  refine G_iload_n (pc := 20) rfl dX11_item_20 ?_
  refine oX11_item_21 (d + 2) _ [.int 0, .int t] [] I _ _ 0 11 104 mX11_refusalOf rfl List.mem_cons_self mt_X11_refusalOf rfl (lsi (lsi ls0)) ls0 (by simp) (refX_0 (fun a => ?_) (fun a b => ?_) (fun a b => ?_)) (fun _ _ h => h)
  · dsimp only [Option.toList, List.cons_append, List.nil_append]
    refine G_istore (pc := 24) rfl rfl (by decide) dX11_item_24 ?_
    refine G_iload (pc := 26) rfl dX11_item_26 ?_
    refine oX11_item_28 _ _ _ _ _ _ (fun c => absurd c (eqz (by decide))) (fun _ => ?_)
    refine G_iload (pc := 31) rfl dX11_item_31 ?_
    exact oX11_item_33 _ _ _ _ _ (h1 a)
  · dsimp only [Option.toList, List.cons_append, List.nil_append]
    refine G_istore (pc := 24) rfl rfl (by decide) dX11_item_24 ?_
    refine G_iload (pc := 26) rfl dX11_item_26 ?_
    refine oX11_item_28 _ _ _ _ _ _ (fun _ => ?_) (fun c => absurd rfl c)
    refine G_aload_n (pc := 34) rfl dX11_item_34 ?_
    refine G_iload_n (pc := 35) rfl dX11_item_35 ?_
    refine G_iload_n (pc := 36) rfl dX11_item_36 ?_
    refine oX11_item_37 (d + 2) _ [.int 0, .int i] [] I _ _ 0 11 105 mX11_isItem rfl List.mem_cons_self mt_X11_isItem rfl (lsi (lsi ls0)) ls0 (by simp) (isItem_0 (d := d + 1) hz.1 (fun e f => ?_) (fun e => ?_)) (fun _ _ h => h)
    · dsimp only [Option.toList, List.cons_append, List.nil_append]
      refine oX11_item_40 _ _ _ _ _ _ (fun c => absurd c (eqz (by decide))) (fun _ => ?_)
      refine G_aload_n (pc := 43) rfl dX11_item_43 ?_
      refine G_getR (pc := 44) (ci := 11) (j := 10) rfl lq_RX11_21 rfl rfl rfl dX11_item_44 ?_
      refine G_iload_n (pc := 47) rfl dX11_item_47 ?_
      refine G_rald (pc := 48) (jj := 0) rfl rfl (a_vin (by decide) (by decide)) rfl dX11_item_48 ?_
      refine G_iload_n (pc := 49) rfl dX11_item_49 ?_
      refine G_iald (pc := 50) a_nc rfl rfl (a_vin e (by omega)) dX11_item_50 ?_
      refine G_goto (pc := 51) (tgt := 56) (by decide) dX11_item_51 ?_
      exact oX11_item_56 _ _ _ _ _ (h4 a b e f)
    · dsimp only [Option.toList, List.cons_append, List.nil_append]
      refine oX11_item_40 _ _ _ _ _ _ (fun _ => ?_) (fun c => absurd rfl c)
      refine G_bipush (pc := 54) (v := (-12)) (by decide) dX11_item_54 ?_
      exact oX11_item_56 _ _ _ _ _ (h3 a b e)
  · dsimp only [Option.toList, List.cons_append, List.nil_append]
    refine G_istore (pc := 24) rfl rfl (by decide) dX11_item_24 ?_
    refine G_iload (pc := 26) rfl dX11_item_26 ?_
    refine oX11_item_28 _ _ _ _ _ _ (fun c => absurd c (eqz (by decide))) (fun _ => ?_)
    refine G_iload (pc := 31) rfl dX11_item_31 ?_
    exact oX11_item_33 _ _ _ _ _ (h2 a b)
set_option maxRecDepth 100000 in
set_option maxHeartbeats 4000000 in
theorem itemM_0 {d : Nat} {t i : Int32} {I : gI} {Q : Option Value → gH → Prop} (ht : 0 ≤ t.toInt ∧ t.toInt ≤ 4) (hz : 0 ≤ (I 83 0).toInt ∧ (I 83 0).toInt ≤ 40) (h1 : (I 82 0).toInt < 0 → Q (some (.int (-11))) (SH0, RF0, I)) (h2 : 0 ≤ (I 82 0).toInt → (I 82 0).toInt ≠ t.toInt → Q (some (.int (-13))) (SH0, RF0, I)) (h3 : 0 ≤ (I 82 0).toInt → (I 82 0).toInt = t.toInt → (i.toInt < 0 ∨ (I 83 0).toInt ≤ i.toInt) → Q (some (.int (-12))) (SH0, RF0, I)) (h4 : 0 ≤ (I 82 0).toInt → (I 82 0).toInt = t.toInt → 0 ≤ i.toInt → i.toInt < (I 83 0).toInt → Q (some (.int (I 84 (0 + i.toInt.toNat)))) (SH0, RF0, I)) : gg (d + 2 + 1) mX12_item 0 (gent 5 [.ref 67, .int 0, .int t, .int i]) [] I Q := by
  have k0 : (0 : Int32).toInt = 0 := rfl
  have k4 : (4 : Int32).toInt = 4 := rfl
  have kz := t_sub1 hz.1
  refine G_iload_n (pc := 0) rfl dX12_item_0 ?_
  refine oX12_item_1 (d + 2) _ [.int 0] [] I _ _ mX12_isSheet mt_X12_isSheet rfl (lsi ls0) ls0 (by simp) (isSheet_G (d := d + 1) (by decide) ?_) (fun _ _ h => h)
  dsimp only [Option.toList, List.cons_append, List.nil_append]
  refine oX12_item_4 _ _ _ _ _ _ (fun c => absurd c (eqz (by decide))) (fun _ => ?_)
  refine G_iload_n (pc := 7) rfl dX12_item_7 ?_
  refine G_iconst (pc := 8) (v := 0) (by decide) dX12_item_8 ?_
  refine G_iconst (pc := 9) (v := 4) (by decide) dX12_item_9 ?_
  refine oX12_item_10 (d + 2) _ [.int t, .int 0, .int 4] [] I _ _ mX12_in1 mt_X12_in1 rfl (lsi (lsi (lsi ls0))) ls0 (by simp) (in1b_G (fun _ _ => ?_) (fun a => by omega)) (fun _ _ h => h)
  dsimp only [Option.toList, List.cons_append, List.nil_append]
  refine oX12_item_13 _ _ _ _ _ _ (fun _ => ?_) (fun c => absurd (nez (by decide)) c)
  refine G_aload_n (pc := 18) rfl dX12_item_18 ?_
  refine G_iload_n (pc := 19) rfl dX12_item_19 ?_
  refine G_iload_n (pc := 20) rfl dX12_item_20 ?_
  refine oX12_item_21 (d + 2) _ [.int 0, .int t] [] I _ _ 67 12 175 mX12_lacks rfl List.mem_cons_self mt_X12_lacks rfl (lsi (lsi ls0)) ls0 (by simp) (lacksM_0 (fun a => ?_) (fun a b => ?_) (fun a b => ?_)) (fun _ _ h => h)
  · dsimp only [Option.toList, List.cons_append, List.nil_append]
    refine G_istore (pc := 24) rfl rfl (by decide) dX12_item_24 ?_
    refine G_iload (pc := 26) rfl dX12_item_26 ?_
    refine oX12_item_28 _ _ _ _ _ _ (fun c => absurd c (eqz (by decide))) (fun _ => ?_)
    refine G_iload (pc := 31) rfl dX12_item_31 ?_
    refine G_goto (pc := 33) (tgt := 68) (by decide) dX12_item_33 ?_
    exact oX12_item_68 _ _ _ _ _ (h1 a)
  · dsimp only [Option.toList, List.cons_append, List.nil_append]
    refine G_istore (pc := 24) rfl rfl (by decide) dX12_item_24 ?_
    refine G_iload (pc := 26) rfl dX12_item_26 ?_
    refine oX12_item_28 _ _ _ _ _ _ (fun _ => ?_) (fun c => absurd rfl c)
    refine G_iload_n (pc := 36) rfl dX12_item_36 ?_
    refine G_iconst (pc := 37) (v := 0) (by decide) dX12_item_37 ?_
    refine G_aload_n (pc := 38) rfl dX12_item_38 ?_
    refine G_getR (pc := 39) (ci := 12) (j := 29) rfl lq_RX12_56 rfl rfl rfl dX12_item_39 ?_
    refine G_iload_n (pc := 42) rfl dX12_item_42 ?_
    refine G_iald (pc := 43) (jj := 0) rfl rfl rfl (a_vin (by decide) (by decide)) dX12_item_43 ?_
    refine G_iconst (pc := 44) (v := 1) (by decide) dX12_item_44 ?_
    refine G_isub (pc := 45) rfl dX12_item_45 ?_
    refine oX12_item_46 (d + 2) _ [.int i, .int 0, .int (I 83 0 - 1)] [] I _ _ mX12_in1 mt_X12_in1 rfl (lsi (lsi (lsi ls0))) ls0 (by simp) (in1b_G (fun e f => ?_) (fun e => ?_)) (fun _ _ h => h)
    · dsimp only [Option.toList, List.cons_append, List.nil_append]
      have e : 0 ≤ i.toInt := by omega
      have f : i.toInt < (I 83 0).toInt := by omega
      have ki : ((40 : Int32) * 0 + i).toInt = 0 + i.toInt := by
        rw [show (40 : Int32) * 0 = 0 by decide, Int32.toInt_add, show (0 : Int32).toInt = 0 from rfl]
        exact a_bm (by unfold aLo; omega) (by unfold aHi; omega)
      refine oX12_item_49 _ _ _ _ _ _ (fun c => absurd c (eqz (by decide))) (fun _ => ?_)
      refine G_aload_n (pc := 52) rfl dX12_item_52 ?_
      refine G_getR (pc := 53) (ci := 12) (j := 30) rfl lq_RX12_59 rfl rfl rfl dX12_item_53 ?_
      refine G_bipush (pc := 56) (v := 40) (by decide) dX12_item_56 ?_
      refine G_iload_n (pc := 58) rfl dX12_item_58 ?_
      refine G_imul (pc := 59) rfl dX12_item_59 ?_
      refine G_iload_n (pc := 60) rfl dX12_item_60 ?_
      refine G_iadd (pc := 61) rfl dX12_item_61 ?_
      refine G_iald (pc := 62) (jj := 0 + i.toInt.toNat) (by rw [a_nc, ki]; omega) rfl rfl (a_vin (by omega) (by omega)) dX12_item_62 ?_
      refine G_goto (pc := 63) (tgt := 68) (by decide) dX12_item_63 ?_
      exact oX12_item_68 _ _ _ _ _ (h4 a b e f)
    · dsimp only [Option.toList, List.cons_append, List.nil_append]
      refine oX12_item_49 _ _ _ _ _ _ (fun _ => ?_) (fun c => absurd rfl c)
      refine G_bipush (pc := 66) (v := (-12)) (by decide) dX12_item_66 ?_
      exact oX12_item_68 _ _ _ _ _ (h3 a b (by omega))
  · dsimp only [Option.toList, List.cons_append, List.nil_append]
    refine G_istore (pc := 24) rfl rfl (by decide) dX12_item_24 ?_
    refine G_iload (pc := 26) rfl dX12_item_26 ?_
    refine oX12_item_28 _ _ _ _ _ _ (fun c => absurd c (eqz (by decide))) (fun _ => ?_)
    refine G_iload (pc := 31) rfl dX12_item_31 ?_
    refine G_goto (pc := 33) (tgt := 68) (by decide) dX12_item_33 ?_
    exact oX12_item_68 _ _ _ _ _ (h2 a b)
theorem isItem_1 {d : Nat} {i : Int32} {I : gI} {Q : Option Value → gH → Prop} (hz : 0 ≤ (I 3 1).toInt) (h1 : 0 ≤ i.toInt → i.toInt < (I 3 1).toInt → Q (some (.int 1)) (SH0, RF0, I)) (h0 : (i.toInt < 0 ∨ (I 3 1).toInt ≤ i.toInt) → Q (some (.int 0)) (SH0, RF0, I)) : gg (d + 1) mX11_isItem 0 (gent 3 [.ref 0, .int 1, .int i]) [] I Q := by
  have k0 : (0 : Int32).toInt = 0 := rfl
  have kz := t_sub1 hz
  refine G_iload_n (pc := 0) rfl dX11_isItem_0 ?_
  refine G_iconst (pc := 1) (v := 0) (by decide) dX11_isItem_1 ?_
  refine G_aload_n (pc := 2) rfl dX11_isItem_2 ?_
  refine G_getR (pc := 3) (ci := 11) (j := 9) rfl lq_RX11_16 rfl rfl rfl dX11_isItem_3 ?_
  refine G_iload_n (pc := 6) rfl dX11_isItem_6 ?_
  refine G_iald (pc := 7) (jj := 1) rfl rfl rfl (a_vin (by decide) (by decide)) dX11_isItem_7 ?_
  refine G_iconst (pc := 8) (v := 1) (by decide) dX11_isItem_8 ?_
  refine G_isub (pc := 9) rfl dX11_isItem_9 ?_
  refine oX11_isItem_10 d _ [.int i, .int 0, .int (I 3 1 - 1)] [] I _ _ mX11_isIn mt_X11_isIn rfl (lsi (lsi (lsi ls0))) ls0 (by simp) (isIn_G (fun a b => ?_) (fun a => ?_)) (fun _ _ h => h)
  · dsimp only [Option.toList, List.cons_append, List.nil_append]
    exact oX11_isItem_13 _ _ _ _ _ (Or.inr rfl) (h1 (by omega) (by omega))
  · dsimp only [Option.toList, List.cons_append, List.nil_append]
    exact oX11_isItem_13 _ _ _ _ _ (Or.inl rfl) (h0 (by omega))
set_option maxRecDepth 100000 in
set_option maxHeartbeats 4000000 in
theorem writeX_1 {d : Nat} {i v : Int32} {I : gI} {Q : Option Value → gH → Prop} (ht : 0 ≤ (I 2 1).toInt ∧ (I 2 1).toInt ≤ 4) (hz : 0 ≤ (I 3 1).toInt ∧ (I 3 1).toInt ≤ 40) (h1 : 0 ≤ i.toInt → i.toInt < (I 3 1).toInt → Q (some (.int 1)) (SH0, RF0, gup I 6 i.toInt.toNat (nar v (I 2 1)))) (h0 : (i.toInt < 0 ∨ (I 3 1).toInt ≤ i.toInt) → Q (some (.int (-12))) (SH0, RF0, I)) : gg (d + 2 + 1) mX11_write 0 (gent 4 [.ref 0, .int 1, .int i, .int v]) [] I Q := by
  have km : (-1 : Int32).toInt = -1 := rfl
  refine G_iload_n (pc := 0) rfl dX11_write_0 ?_
  refine oX11_write_1 (d + 2) _ [.int 1] [] I _ _ mX11_isPlace mt_X11_isPlace rfl (lsi ls0) ls0 (by simp) (isPlace_G (d := d + 1) (by decide) ?_) (fun _ _ h => h)
  dsimp only [Option.toList, List.cons_append, List.nil_append]
  refine oX11_write_4 _ _ _ _ _ _ (fun _ => ?_) (fun c => absurd (nez (by decide)) c)
  refine G_aload_n (pc := 9) rfl dX11_write_9 ?_
  refine G_getR (pc := 10) (ci := 11) (j := 8) rfl lq_RX11_13 rfl rfl rfl dX11_write_10 ?_
  refine G_iload_n (pc := 13) rfl dX11_write_13 ?_
  refine G_iald (pc := 14) (jj := 1) rfl rfl rfl (a_vin (by decide) (by decide)) dX11_write_14 ?_
  refine G_iconst (pc := 15) (v := (-1)) (by decide) dX11_write_15 ?_
  refine oX11_write_16 _ _ _ _ _ _ _ (fun _ => ?_) (fun c => absurd (by show (I 2 1).toInt ≠ (-1 : Int32).toInt; omega) c)
  refine G_aload_n (pc := 22) rfl dX11_write_22 ?_
  refine G_iload_n (pc := 23) rfl dX11_write_23 ?_
  refine G_iload_n (pc := 24) rfl dX11_write_24 ?_
  refine oX11_write_25 (d + 2) _ [.int 1, .int i] [] I _ _ 0 11 105 mX11_isItem rfl List.mem_cons_self mt_X11_isItem rfl (lsi (lsi ls0)) ls0 (by simp) (isItem_1 (d := d + 1) hz.1 (fun a b => ?_) (fun a => ?_)) (fun _ _ h => h)
  · dsimp only [Option.toList, List.cons_append, List.nil_append]
    refine oX11_write_28 _ _ _ _ _ _ (fun _ => ?_) (fun c => absurd (nez (by decide)) c)
    refine G_aload_n (pc := 34) rfl dX11_write_34 ?_
    refine G_getR (pc := 35) (ci := 11) (j := 10) rfl lq_RX11_21 rfl rfl rfl dX11_write_35 ?_
    refine G_iload_n (pc := 38) rfl dX11_write_38 ?_
    refine G_rald (pc := 39) (jj := 1) rfl rfl (a_vin (by decide) (by decide)) rfl dX11_write_39 ?_
    refine G_iload_n (pc := 40) rfl dX11_write_40 ?_
    refine G_iload_n (pc := 41) rfl dX11_write_41 ?_
    refine G_aload_n (pc := 42) rfl dX11_write_42 ?_
    refine G_getR (pc := 43) (ci := 11) (j := 8) rfl lq_RX11_13 rfl rfl rfl dX11_write_43 ?_
    refine G_iload_n (pc := 46) rfl dX11_write_46 ?_
    refine G_iald (pc := 47) (jj := 1) rfl rfl rfl (a_vin (by decide) (by decide)) dX11_write_47 ?_
    refine oX11_write_48 (d + 2) _ [.int v, .int (I 2 1)] [.int i, .ref 6] I _ _ mX11_narrowed mt_X11_narrowed rfl (lsi (lsi ls0)) (lsi (lsr ls0)) (by simp) (narX_G ht ?_) (fun _ _ h => h)
    dsimp only [Option.toList, List.cons_append, List.nil_append]
    refine G_iast (pc := 51) a_nc rfl (a_vin a (by omega)) dX11_write_51 ?_
    refine G_iconst (pc := 52) (v := 1) (by decide) dX11_write_52 ?_
    exact oX11_write_53 _ _ _ _ _ (h1 a b)
  · dsimp only [Option.toList, List.cons_append, List.nil_append]
    refine oX11_write_28 _ _ _ _ _ _ (fun c => absurd rfl c) (fun _ => ?_)
    refine G_bipush (pc := 31) (v := (-12)) (by decide) dX11_write_31 ?_
    exact oX11_write_33 _ _ _ _ _ (h0 a)
set_option maxRecDepth 100000 in
set_option maxHeartbeats 4000000 in
theorem writeM_1 {d : Nat} {i v : Int32} {I : gI} {Q : Option Value → gH → Prop} (ht : 0 ≤ (I 82 1).toInt) (hz : 0 ≤ (I 83 1).toInt ∧ (I 83 1).toInt ≤ 40) (h1 : 0 ≤ i.toInt → i.toInt < (I 83 1).toInt → Q (some (.int 1)) (SH0, RF0, gup I 84 (40 + i.toInt.toNat) (nar v (I 82 1)))) (h0 : (i.toInt < 0 ∨ (I 83 1).toInt ≤ i.toInt) → Q (some (.int (-12))) (SH0, RF0, I)) : gg (d + 2 + 1) mX12_write 0 (gent 4 [.ref 67, .int 1, .int i, .int v]) [] I Q := by
  have k0 : (0 : Int32).toInt = 0 := rfl
  have kz := t_sub1 hz.1
  refine G_iload_n (pc := 0) rfl dX12_write_0 ?_
  refine oX12_write_1 (d + 2) _ [.int 1] [] I _ _ mX12_isSheet mt_X12_isSheet rfl (lsi ls0) ls0 (by simp) (isSheet_G (d := d + 1) (by decide) ?_) (fun _ _ h => h)
  dsimp only [Option.toList, List.cons_append, List.nil_append]
  refine oX12_write_4 _ _ _ _ _ _ (fun _ => ?_) (fun c => absurd (nez (by decide)) c)
  refine G_aload_n (pc := 9) rfl dX12_write_9 ?_
  refine G_getR (pc := 10) (ci := 12) (j := 28) rfl lq_RX12_53 rfl rfl rfl dX12_write_10 ?_
  refine G_iload_n (pc := 13) rfl dX12_write_13 ?_
  refine G_iald (pc := 14) (jj := 1) rfl rfl rfl (a_vin (by decide) (by decide)) dX12_write_14 ?_
  refine oX12_write_15 _ _ _ _ _ _ (fun _ => ?_) (fun c => absurd (by show (0 : Int) ≤ (I 82 1).toInt; omega) c)
  refine G_iload_n (pc := 21) rfl dX12_write_21 ?_
  refine G_iconst (pc := 22) (v := 0) (by decide) dX12_write_22 ?_
  refine G_aload_n (pc := 23) rfl dX12_write_23 ?_
  refine G_getR (pc := 24) (ci := 12) (j := 29) rfl lq_RX12_56 rfl rfl rfl dX12_write_24 ?_
  refine G_iload_n (pc := 27) rfl dX12_write_27 ?_
  refine G_iald (pc := 28) (jj := 1) rfl rfl rfl (a_vin (by decide) (by decide)) dX12_write_28 ?_
  refine G_iconst (pc := 29) (v := 1) (by decide) dX12_write_29 ?_
  refine G_isub (pc := 30) rfl dX12_write_30 ?_
  refine oX12_write_31 (d + 2) _ [.int i, .int 0, .int (I 83 1 - 1)] [] I _ _ mX12_in1 mt_X12_in1 rfl (lsi (lsi (lsi ls0))) ls0 (by simp) (in1b_G (fun a b => ?_) (fun a => ?_)) (fun _ _ h => h)
  · dsimp only [Option.toList, List.cons_append, List.nil_append]
    have a : 0 ≤ i.toInt := by omega
    have b : i.toInt < (I 83 1).toInt := by omega
    have ki : ((40 : Int32) * 1 + i).toInt = 40 + i.toInt := by
      rw [show (40 : Int32) * 1 = 40 by decide, Int32.toInt_add, show (40 : Int32).toInt = 40 from rfl]
      exact a_bm (by unfold aLo; omega) (by unfold aHi; omega)
    refine oX12_write_34 _ _ _ _ _ _ (fun _ => ?_) (fun c => absurd (nez (by decide)) c)
    refine G_aload_n (pc := 40) rfl dX12_write_40 ?_
    refine G_getR (pc := 41) (ci := 12) (j := 30) rfl lq_RX12_59 rfl rfl rfl dX12_write_41 ?_
    refine G_bipush (pc := 44) (v := 40) (by decide) dX12_write_44 ?_
    refine G_iload_n (pc := 46) rfl dX12_write_46 ?_
    refine G_imul (pc := 47) rfl dX12_write_47 ?_
    refine G_iload_n (pc := 48) rfl dX12_write_48 ?_
    refine G_iadd (pc := 49) rfl dX12_write_49 ?_
    refine G_iload_n (pc := 50) rfl dX12_write_50 ?_
    refine G_aload_n (pc := 51) rfl dX12_write_51 ?_
    refine G_getR (pc := 52) (ci := 12) (j := 28) rfl lq_RX12_53 rfl rfl rfl dX12_write_52 ?_
    refine G_iload_n (pc := 55) rfl dX12_write_55 ?_
    refine G_iald (pc := 56) (jj := 1) rfl rfl rfl (a_vin (by decide) (by decide)) dX12_write_56 ?_
    refine oX12_write_57 (d + 2) _ [.int v, .int (I 82 1)] [.int (40 * 1 + i), .ref 84] I _ _ mX12_narrowed mt_X12_narrowed rfl (lsi (lsi ls0)) (lsi (lsr ls0)) (by simp) (narM_G ?_) (fun _ _ h => h)
    dsimp only [Option.toList, List.cons_append, List.nil_append]
    refine G_iast (pc := 60) (jj := 40 + i.toInt.toNat) (by rw [a_nc, ki]; omega) rfl (a_vin (by omega) (by omega)) dX12_write_60 ?_
    refine G_iconst (pc := 61) (v := 1) (by decide) dX12_write_61 ?_
    exact oX12_write_62 _ _ _ _ _ (h1 a b)
  · dsimp only [Option.toList, List.cons_append, List.nil_append]
    refine oX12_write_34 _ _ _ _ _ _ (fun c => absurd rfl c) (fun _ => ?_)
    refine G_bipush (pc := 37) (v := (-12)) (by decide) dX12_write_37 ?_
    exact oX12_write_39 _ _ _ _ _ (h0 (by omega))
theorem refX_1 {d : Nat} {t : Int32} {I : gI} {Q : Option Value → gH → Prop} (h1 : (I 2 1).toInt = -1 → Q (some (.int (-11))) (SH0, RF0, I)) (h2 : (I 2 1).toInt ≠ -1 → (I 2 1).toInt = t.toInt → Q (some (.int 0)) (SH0, RF0, I)) (h3 : (I 2 1).toInt ≠ -1 → (I 2 1).toInt ≠ t.toInt → Q (some (.int (-13))) (SH0, RF0, I)) : gg d mX11_refusalOf 0 (gent 3 [.ref 0, .int 1, .int t]) [] I Q := by
  have km : (-1 : Int32).toInt = -1 := rfl
  refine G_aload_n (pc := 0) rfl dX11_refusalOf_0 ?_
  refine G_getR (pc := 1) (ci := 11) (j := 8) rfl lq_RX11_13 rfl rfl rfl dX11_refusalOf_1 ?_
  refine G_iload_n (pc := 4) rfl dX11_refusalOf_4 ?_
  refine G_iald (pc := 5) (jj := 1) rfl rfl rfl (a_vin (by decide) (by decide)) dX11_refusalOf_5 ?_
  refine G_iconst (pc := 6) (v := (-1)) (by decide) dX11_refusalOf_6 ?_
  refine oX11_refusalOf_7 _ _ _ _ _ _ _ (fun c => ?_) (fun c => ?_)
  · have c : (I 2 1).toInt ≠ (-1 : Int32).toInt := c
    refine G_aload_n (pc := 13) rfl dX11_refusalOf_13 ?_
    refine G_getR (pc := 14) (ci := 11) (j := 8) rfl lq_RX11_13 rfl rfl rfl dX11_refusalOf_14 ?_
    refine G_iload_n (pc := 17) rfl dX11_refusalOf_17 ?_
    refine G_iald (pc := 18) (jj := 1) rfl rfl rfl (a_vin (by decide) (by decide)) dX11_refusalOf_18 ?_
    refine G_iload_n (pc := 19) rfl dX11_refusalOf_19 ?_
    refine oX11_refusalOf_20 _ _ _ _ _ _ _ (fun c2 => ?_) (fun c2 => ?_)
    · have c2 : (I 2 1).toInt ≠ t.toInt := c2
      refine G_bipush (pc := 27) (v := (-13)) (by decide) dX11_refusalOf_27 ?_
      exact oX11_refusalOf_29 _ _ _ _ _ (h3 (by omega) c2)
    · have c2 : ¬ (I 2 1).toInt ≠ t.toInt := c2
      refine G_iconst (pc := 23) (v := 0) (by decide) dX11_refusalOf_23 ?_
      refine G_goto (pc := 24) (tgt := 29) (by decide) dX11_refusalOf_24 ?_
      exact oX11_refusalOf_29 _ _ _ _ _ (h2 (by omega) (by omega))
  · have c : ¬ (I 2 1).toInt ≠ (-1 : Int32).toInt := c
    refine G_bipush (pc := 10) (v := (-11)) (by decide) dX11_refusalOf_10 ?_
    exact oX11_refusalOf_12 _ _ _ _ _ (h1 (by omega))
theorem lacksM_1 {d : Nat} {t : Int32} {I : gI} {Q : Option Value → gH → Prop} (h1 : (I 82 1).toInt < 0 → Q (some (.int (-11))) (SH0, RF0, I)) (h2 : 0 ≤ (I 82 1).toInt → (I 82 1).toInt = t.toInt → Q (some (.int 0)) (SH0, RF0, I)) (h3 : 0 ≤ (I 82 1).toInt → (I 82 1).toInt ≠ t.toInt → Q (some (.int (-13))) (SH0, RF0, I)) : gg d mX12_lacks 0 (gent 3 [.ref 67, .int 1, .int t]) [] I Q := by
  refine G_aload_n (pc := 0) rfl dX12_lacks_0 ?_
  refine G_getR (pc := 1) (ci := 12) (j := 28) rfl lq_RX12_53 rfl rfl rfl dX12_lacks_1 ?_
  refine G_iload_n (pc := 4) rfl dX12_lacks_4 ?_
  refine G_iald (pc := 5) (jj := 1) rfl rfl rfl (a_vin (by decide) (by decide)) dX12_lacks_5 ?_
  refine oX12_lacks_6 _ _ _ _ _ _ (fun c => ?_) (fun c => ?_)
  · have c : (0 : Int) ≤ (I 82 1).toInt := c
    refine G_aload_n (pc := 14) rfl dX12_lacks_14 ?_
    refine G_getR (pc := 15) (ci := 12) (j := 28) rfl lq_RX12_53 rfl rfl rfl dX12_lacks_15 ?_
    refine G_iload_n (pc := 18) rfl dX12_lacks_18 ?_
    refine G_iald (pc := 19) (jj := 1) rfl rfl rfl (a_vin (by decide) (by decide)) dX12_lacks_19 ?_
    refine G_iload_n (pc := 20) rfl dX12_lacks_20 ?_
    refine oX12_lacks_21 _ _ _ _ _ _ _ (fun c2 => ?_) (fun c2 => ?_)
    · have c2 : (I 82 1).toInt = t.toInt := c2
      refine G_iconst (pc := 29) (v := 0) (by decide) dX12_lacks_29 ?_
      exact oX12_lacks_30 _ _ _ _ _ (h2 c c2)
    · have c2 : ¬ (I 82 1).toInt = t.toInt := c2
      refine G_bipush (pc := 24) (v := (-13)) (by decide) dX12_lacks_24 ?_
      refine G_goto (pc := 26) (tgt := 30) (by decide) dX12_lacks_26 ?_
      exact oX12_lacks_30 _ _ _ _ _ (h3 c c2)
  · have c : ¬ (0 : Int) ≤ (I 82 1).toInt := c
    refine G_bipush (pc := 9) (v := (-11)) (by decide) dX12_lacks_9 ?_
    refine G_goto (pc := 11) (tgt := 30) (by decide) dX12_lacks_11 ?_
    exact oX12_lacks_30 _ _ _ _ _ (h1 (by omega))
set_option maxRecDepth 100000 in
set_option maxHeartbeats 4000000 in
theorem itemX_1 {d : Nat} {t i : Int32} {I : gI} {Q : Option Value → gH → Prop} (ht : 0 ≤ t.toInt ∧ t.toInt ≤ 4) (hz : 0 ≤ (I 3 1).toInt ∧ (I 3 1).toInt ≤ 40) (h1 : (I 2 1).toInt = -1 → Q (some (.int (-11))) (SH0, RF0, I)) (h2 : (I 2 1).toInt ≠ -1 → (I 2 1).toInt ≠ t.toInt → Q (some (.int (-13))) (SH0, RF0, I)) (h3 : (I 2 1).toInt ≠ -1 → (I 2 1).toInt = t.toInt → (i.toInt < 0 ∨ (I 3 1).toInt ≤ i.toInt) → Q (some (.int (-12))) (SH0, RF0, I)) (h4 : (I 2 1).toInt ≠ -1 → (I 2 1).toInt = t.toInt → 0 ≤ i.toInt → i.toInt < (I 3 1).toInt → Q (some (.int (I 6 i.toInt.toNat))) (SH0, RF0, I)) : gg (d + 2 + 1) mX11_item 0 (gent 5 [.ref 0, .int 1, .int t, .int i]) [] I Q := by
  have k0 : (0 : Int32).toInt = 0 := rfl
  have k4 : (4 : Int32).toInt = 4 := rfl
  refine G_iload_n (pc := 0) rfl dX11_item_0 ?_
  refine oX11_item_1 (d + 2) _ [.int 1] [] I _ _ mX11_isPlace mt_X11_isPlace rfl (lsi ls0) ls0 (by simp) (isPlace_G (d := d + 1) (by decide) ?_) (fun _ _ h => h)
  dsimp only [Option.toList, List.cons_append, List.nil_append]
  refine oX11_item_4 _ _ _ _ _ _ (fun c => absurd c (eqz (by decide))) (fun _ => ?_)
  refine G_iload_n (pc := 7) rfl dX11_item_7 ?_
  refine G_iconst (pc := 8) (v := 0) (by decide) dX11_item_8 ?_
  refine G_iconst (pc := 9) (v := 4) (by decide) dX11_item_9 ?_
  refine oX11_item_10 (d + 2) _ [.int t, .int 0, .int 4] [] I _ _ mX11_isIn mt_X11_isIn rfl (lsi (lsi (lsi ls0))) ls0 (by simp) (isIn_G (fun _ _ => ?_) (fun a => by omega)) (fun _ _ h => h)
  dsimp only [Option.toList, List.cons_append, List.nil_append]
  refine oX11_item_13 _ _ _ _ _ _ (fun _ => ?_) (fun c => absurd (nez (by decide)) c)
  refine G_aload_n (pc := 18) rfl dX11_item_18 ?_
  refine G_iload_n (pc := 19) rfl dX11_item_19 ?_
  refine G_iload_n (pc := 20) rfl dX11_item_20 ?_
  refine oX11_item_21 (d + 2) _ [.int 1, .int t] [] I _ _ 0 11 104 mX11_refusalOf rfl List.mem_cons_self mt_X11_refusalOf rfl (lsi (lsi ls0)) ls0 (by simp) (refX_1 (fun a => ?_) (fun a b => ?_) (fun a b => ?_)) (fun _ _ h => h)
  · dsimp only [Option.toList, List.cons_append, List.nil_append]
    refine G_istore (pc := 24) rfl rfl (by decide) dX11_item_24 ?_
    refine G_iload (pc := 26) rfl dX11_item_26 ?_
    refine oX11_item_28 _ _ _ _ _ _ (fun c => absurd c (eqz (by decide))) (fun _ => ?_)
    refine G_iload (pc := 31) rfl dX11_item_31 ?_
    exact oX11_item_33 _ _ _ _ _ (h1 a)
  · dsimp only [Option.toList, List.cons_append, List.nil_append]
    refine G_istore (pc := 24) rfl rfl (by decide) dX11_item_24 ?_
    refine G_iload (pc := 26) rfl dX11_item_26 ?_
    refine oX11_item_28 _ _ _ _ _ _ (fun _ => ?_) (fun c => absurd rfl c)
    refine G_aload_n (pc := 34) rfl dX11_item_34 ?_
    refine G_iload_n (pc := 35) rfl dX11_item_35 ?_
    refine G_iload_n (pc := 36) rfl dX11_item_36 ?_
    refine oX11_item_37 (d + 2) _ [.int 1, .int i] [] I _ _ 0 11 105 mX11_isItem rfl List.mem_cons_self mt_X11_isItem rfl (lsi (lsi ls0)) ls0 (by simp) (isItem_1 (d := d + 1) hz.1 (fun e f => ?_) (fun e => ?_)) (fun _ _ h => h)
    · dsimp only [Option.toList, List.cons_append, List.nil_append]
      refine oX11_item_40 _ _ _ _ _ _ (fun c => absurd c (eqz (by decide))) (fun _ => ?_)
      refine G_aload_n (pc := 43) rfl dX11_item_43 ?_
      refine G_getR (pc := 44) (ci := 11) (j := 10) rfl lq_RX11_21 rfl rfl rfl dX11_item_44 ?_
      refine G_iload_n (pc := 47) rfl dX11_item_47 ?_
      refine G_rald (pc := 48) (jj := 1) rfl rfl (a_vin (by decide) (by decide)) rfl dX11_item_48 ?_
      refine G_iload_n (pc := 49) rfl dX11_item_49 ?_
      refine G_iald (pc := 50) a_nc rfl rfl (a_vin e (by omega)) dX11_item_50 ?_
      refine G_goto (pc := 51) (tgt := 56) (by decide) dX11_item_51 ?_
      exact oX11_item_56 _ _ _ _ _ (h4 a b e f)
    · dsimp only [Option.toList, List.cons_append, List.nil_append]
      refine oX11_item_40 _ _ _ _ _ _ (fun _ => ?_) (fun c => absurd rfl c)
      refine G_bipush (pc := 54) (v := (-12)) (by decide) dX11_item_54 ?_
      exact oX11_item_56 _ _ _ _ _ (h3 a b e)
  · dsimp only [Option.toList, List.cons_append, List.nil_append]
    refine G_istore (pc := 24) rfl rfl (by decide) dX11_item_24 ?_
    refine G_iload (pc := 26) rfl dX11_item_26 ?_
    refine oX11_item_28 _ _ _ _ _ _ (fun c => absurd c (eqz (by decide))) (fun _ => ?_)
    refine G_iload (pc := 31) rfl dX11_item_31 ?_
    exact oX11_item_33 _ _ _ _ _ (h2 a b)
set_option maxRecDepth 100000 in
set_option maxHeartbeats 4000000 in
theorem itemM_1 {d : Nat} {t i : Int32} {I : gI} {Q : Option Value → gH → Prop} (ht : 0 ≤ t.toInt ∧ t.toInt ≤ 4) (hz : 0 ≤ (I 83 1).toInt ∧ (I 83 1).toInt ≤ 40) (h1 : (I 82 1).toInt < 0 → Q (some (.int (-11))) (SH0, RF0, I)) (h2 : 0 ≤ (I 82 1).toInt → (I 82 1).toInt ≠ t.toInt → Q (some (.int (-13))) (SH0, RF0, I)) (h3 : 0 ≤ (I 82 1).toInt → (I 82 1).toInt = t.toInt → (i.toInt < 0 ∨ (I 83 1).toInt ≤ i.toInt) → Q (some (.int (-12))) (SH0, RF0, I)) (h4 : 0 ≤ (I 82 1).toInt → (I 82 1).toInt = t.toInt → 0 ≤ i.toInt → i.toInt < (I 83 1).toInt → Q (some (.int (I 84 (40 + i.toInt.toNat)))) (SH0, RF0, I)) : gg (d + 2 + 1) mX12_item 0 (gent 5 [.ref 67, .int 1, .int t, .int i]) [] I Q := by
  have k0 : (0 : Int32).toInt = 0 := rfl
  have k4 : (4 : Int32).toInt = 4 := rfl
  have kz := t_sub1 hz.1
  refine G_iload_n (pc := 0) rfl dX12_item_0 ?_
  refine oX12_item_1 (d + 2) _ [.int 1] [] I _ _ mX12_isSheet mt_X12_isSheet rfl (lsi ls0) ls0 (by simp) (isSheet_G (d := d + 1) (by decide) ?_) (fun _ _ h => h)
  dsimp only [Option.toList, List.cons_append, List.nil_append]
  refine oX12_item_4 _ _ _ _ _ _ (fun c => absurd c (eqz (by decide))) (fun _ => ?_)
  refine G_iload_n (pc := 7) rfl dX12_item_7 ?_
  refine G_iconst (pc := 8) (v := 0) (by decide) dX12_item_8 ?_
  refine G_iconst (pc := 9) (v := 4) (by decide) dX12_item_9 ?_
  refine oX12_item_10 (d + 2) _ [.int t, .int 0, .int 4] [] I _ _ mX12_in1 mt_X12_in1 rfl (lsi (lsi (lsi ls0))) ls0 (by simp) (in1b_G (fun _ _ => ?_) (fun a => by omega)) (fun _ _ h => h)
  dsimp only [Option.toList, List.cons_append, List.nil_append]
  refine oX12_item_13 _ _ _ _ _ _ (fun _ => ?_) (fun c => absurd (nez (by decide)) c)
  refine G_aload_n (pc := 18) rfl dX12_item_18 ?_
  refine G_iload_n (pc := 19) rfl dX12_item_19 ?_
  refine G_iload_n (pc := 20) rfl dX12_item_20 ?_
  refine oX12_item_21 (d + 2) _ [.int 1, .int t] [] I _ _ 67 12 175 mX12_lacks rfl List.mem_cons_self mt_X12_lacks rfl (lsi (lsi ls0)) ls0 (by simp) (lacksM_1 (fun a => ?_) (fun a b => ?_) (fun a b => ?_)) (fun _ _ h => h)
  · dsimp only [Option.toList, List.cons_append, List.nil_append]
    refine G_istore (pc := 24) rfl rfl (by decide) dX12_item_24 ?_
    refine G_iload (pc := 26) rfl dX12_item_26 ?_
    refine oX12_item_28 _ _ _ _ _ _ (fun c => absurd c (eqz (by decide))) (fun _ => ?_)
    refine G_iload (pc := 31) rfl dX12_item_31 ?_
    refine G_goto (pc := 33) (tgt := 68) (by decide) dX12_item_33 ?_
    exact oX12_item_68 _ _ _ _ _ (h1 a)
  · dsimp only [Option.toList, List.cons_append, List.nil_append]
    refine G_istore (pc := 24) rfl rfl (by decide) dX12_item_24 ?_
    refine G_iload (pc := 26) rfl dX12_item_26 ?_
    refine oX12_item_28 _ _ _ _ _ _ (fun _ => ?_) (fun c => absurd rfl c)
    refine G_iload_n (pc := 36) rfl dX12_item_36 ?_
    refine G_iconst (pc := 37) (v := 0) (by decide) dX12_item_37 ?_
    refine G_aload_n (pc := 38) rfl dX12_item_38 ?_
    refine G_getR (pc := 39) (ci := 12) (j := 29) rfl lq_RX12_56 rfl rfl rfl dX12_item_39 ?_
    refine G_iload_n (pc := 42) rfl dX12_item_42 ?_
    refine G_iald (pc := 43) (jj := 1) rfl rfl rfl (a_vin (by decide) (by decide)) dX12_item_43 ?_
    refine G_iconst (pc := 44) (v := 1) (by decide) dX12_item_44 ?_
    refine G_isub (pc := 45) rfl dX12_item_45 ?_
    refine oX12_item_46 (d + 2) _ [.int i, .int 0, .int (I 83 1 - 1)] [] I _ _ mX12_in1 mt_X12_in1 rfl (lsi (lsi (lsi ls0))) ls0 (by simp) (in1b_G (fun e f => ?_) (fun e => ?_)) (fun _ _ h => h)
    · dsimp only [Option.toList, List.cons_append, List.nil_append]
      have e : 0 ≤ i.toInt := by omega
      have f : i.toInt < (I 83 1).toInt := by omega
      have ki : ((40 : Int32) * 1 + i).toInt = 40 + i.toInt := by
        rw [show (40 : Int32) * 1 = 40 by decide, Int32.toInt_add, show (40 : Int32).toInt = 40 from rfl]
        exact a_bm (by unfold aLo; omega) (by unfold aHi; omega)
      refine oX12_item_49 _ _ _ _ _ _ (fun c => absurd c (eqz (by decide))) (fun _ => ?_)
      refine G_aload_n (pc := 52) rfl dX12_item_52 ?_
      refine G_getR (pc := 53) (ci := 12) (j := 30) rfl lq_RX12_59 rfl rfl rfl dX12_item_53 ?_
      refine G_bipush (pc := 56) (v := 40) (by decide) dX12_item_56 ?_
      refine G_iload_n (pc := 58) rfl dX12_item_58 ?_
      refine G_imul (pc := 59) rfl dX12_item_59 ?_
      refine G_iload_n (pc := 60) rfl dX12_item_60 ?_
      refine G_iadd (pc := 61) rfl dX12_item_61 ?_
      refine G_iald (pc := 62) (jj := 40 + i.toInt.toNat) (by rw [a_nc, ki]; omega) rfl rfl (a_vin (by omega) (by omega)) dX12_item_62 ?_
      refine G_goto (pc := 63) (tgt := 68) (by decide) dX12_item_63 ?_
      exact oX12_item_68 _ _ _ _ _ (h4 a b e f)
    · dsimp only [Option.toList, List.cons_append, List.nil_append]
      refine oX12_item_49 _ _ _ _ _ _ (fun _ => ?_) (fun c => absurd rfl c)
      refine G_bipush (pc := 66) (v := (-12)) (by decide) dX12_item_66 ?_
      exact oX12_item_68 _ _ _ _ _ (h3 a b (by omega))
  · dsimp only [Option.toList, List.cons_append, List.nil_append]
    refine G_istore (pc := 24) rfl rfl (by decide) dX12_item_24 ?_
    refine G_iload (pc := 26) rfl dX12_item_26 ?_
    refine oX12_item_28 _ _ _ _ _ _ (fun c => absurd c (eqz (by decide))) (fun _ => ?_)
    refine G_iload (pc := 31) rfl dX12_item_31 ?_
    refine G_goto (pc := 33) (tgt := 68) (by decide) dX12_item_33 ?_
    exact oX12_item_68 _ _ _ _ _ (h2 a b)
theorem isItem_2 {d : Nat} {i : Int32} {I : gI} {Q : Option Value → gH → Prop} (hz : 0 ≤ (I 3 2).toInt) (h1 : 0 ≤ i.toInt → i.toInt < (I 3 2).toInt → Q (some (.int 1)) (SH0, RF0, I)) (h0 : (i.toInt < 0 ∨ (I 3 2).toInt ≤ i.toInt) → Q (some (.int 0)) (SH0, RF0, I)) : gg (d + 1) mX11_isItem 0 (gent 3 [.ref 0, .int 2, .int i]) [] I Q := by
  have k0 : (0 : Int32).toInt = 0 := rfl
  have kz := t_sub1 hz
  refine G_iload_n (pc := 0) rfl dX11_isItem_0 ?_
  refine G_iconst (pc := 1) (v := 0) (by decide) dX11_isItem_1 ?_
  refine G_aload_n (pc := 2) rfl dX11_isItem_2 ?_
  refine G_getR (pc := 3) (ci := 11) (j := 9) rfl lq_RX11_16 rfl rfl rfl dX11_isItem_3 ?_
  refine G_iload_n (pc := 6) rfl dX11_isItem_6 ?_
  refine G_iald (pc := 7) (jj := 2) rfl rfl rfl (a_vin (by decide) (by decide)) dX11_isItem_7 ?_
  refine G_iconst (pc := 8) (v := 1) (by decide) dX11_isItem_8 ?_
  refine G_isub (pc := 9) rfl dX11_isItem_9 ?_
  refine oX11_isItem_10 d _ [.int i, .int 0, .int (I 3 2 - 1)] [] I _ _ mX11_isIn mt_X11_isIn rfl (lsi (lsi (lsi ls0))) ls0 (by simp) (isIn_G (fun a b => ?_) (fun a => ?_)) (fun _ _ h => h)
  · dsimp only [Option.toList, List.cons_append, List.nil_append]
    exact oX11_isItem_13 _ _ _ _ _ (Or.inr rfl) (h1 (by omega) (by omega))
  · dsimp only [Option.toList, List.cons_append, List.nil_append]
    exact oX11_isItem_13 _ _ _ _ _ (Or.inl rfl) (h0 (by omega))
set_option maxRecDepth 100000 in
set_option maxHeartbeats 4000000 in
theorem writeX_2 {d : Nat} {i v : Int32} {I : gI} {Q : Option Value → gH → Prop} (ht : 0 ≤ (I 2 2).toInt ∧ (I 2 2).toInt ≤ 4) (hz : 0 ≤ (I 3 2).toInt ∧ (I 3 2).toInt ≤ 40) (h1 : 0 ≤ i.toInt → i.toInt < (I 3 2).toInt → Q (some (.int 1)) (SH0, RF0, gup I 7 i.toInt.toNat (nar v (I 2 2)))) (h0 : (i.toInt < 0 ∨ (I 3 2).toInt ≤ i.toInt) → Q (some (.int (-12))) (SH0, RF0, I)) : gg (d + 2 + 1) mX11_write 0 (gent 4 [.ref 0, .int 2, .int i, .int v]) [] I Q := by
  have km : (-1 : Int32).toInt = -1 := rfl
  refine G_iload_n (pc := 0) rfl dX11_write_0 ?_
  refine oX11_write_1 (d + 2) _ [.int 2] [] I _ _ mX11_isPlace mt_X11_isPlace rfl (lsi ls0) ls0 (by simp) (isPlace_G (d := d + 1) (by decide) ?_) (fun _ _ h => h)
  dsimp only [Option.toList, List.cons_append, List.nil_append]
  refine oX11_write_4 _ _ _ _ _ _ (fun _ => ?_) (fun c => absurd (nez (by decide)) c)
  refine G_aload_n (pc := 9) rfl dX11_write_9 ?_
  refine G_getR (pc := 10) (ci := 11) (j := 8) rfl lq_RX11_13 rfl rfl rfl dX11_write_10 ?_
  refine G_iload_n (pc := 13) rfl dX11_write_13 ?_
  refine G_iald (pc := 14) (jj := 2) rfl rfl rfl (a_vin (by decide) (by decide)) dX11_write_14 ?_
  refine G_iconst (pc := 15) (v := (-1)) (by decide) dX11_write_15 ?_
  refine oX11_write_16 _ _ _ _ _ _ _ (fun _ => ?_) (fun c => absurd (by show (I 2 2).toInt ≠ (-1 : Int32).toInt; omega) c)
  refine G_aload_n (pc := 22) rfl dX11_write_22 ?_
  refine G_iload_n (pc := 23) rfl dX11_write_23 ?_
  refine G_iload_n (pc := 24) rfl dX11_write_24 ?_
  refine oX11_write_25 (d + 2) _ [.int 2, .int i] [] I _ _ 0 11 105 mX11_isItem rfl List.mem_cons_self mt_X11_isItem rfl (lsi (lsi ls0)) ls0 (by simp) (isItem_2 (d := d + 1) hz.1 (fun a b => ?_) (fun a => ?_)) (fun _ _ h => h)
  · dsimp only [Option.toList, List.cons_append, List.nil_append]
    refine oX11_write_28 _ _ _ _ _ _ (fun _ => ?_) (fun c => absurd (nez (by decide)) c)
    refine G_aload_n (pc := 34) rfl dX11_write_34 ?_
    refine G_getR (pc := 35) (ci := 11) (j := 10) rfl lq_RX11_21 rfl rfl rfl dX11_write_35 ?_
    refine G_iload_n (pc := 38) rfl dX11_write_38 ?_
    refine G_rald (pc := 39) (jj := 2) rfl rfl (a_vin (by decide) (by decide)) rfl dX11_write_39 ?_
    refine G_iload_n (pc := 40) rfl dX11_write_40 ?_
    refine G_iload_n (pc := 41) rfl dX11_write_41 ?_
    refine G_aload_n (pc := 42) rfl dX11_write_42 ?_
    refine G_getR (pc := 43) (ci := 11) (j := 8) rfl lq_RX11_13 rfl rfl rfl dX11_write_43 ?_
    refine G_iload_n (pc := 46) rfl dX11_write_46 ?_
    refine G_iald (pc := 47) (jj := 2) rfl rfl rfl (a_vin (by decide) (by decide)) dX11_write_47 ?_
    refine oX11_write_48 (d + 2) _ [.int v, .int (I 2 2)] [.int i, .ref 7] I _ _ mX11_narrowed mt_X11_narrowed rfl (lsi (lsi ls0)) (lsi (lsr ls0)) (by simp) (narX_G ht ?_) (fun _ _ h => h)
    dsimp only [Option.toList, List.cons_append, List.nil_append]
    refine G_iast (pc := 51) a_nc rfl (a_vin a (by omega)) dX11_write_51 ?_
    refine G_iconst (pc := 52) (v := 1) (by decide) dX11_write_52 ?_
    exact oX11_write_53 _ _ _ _ _ (h1 a b)
  · dsimp only [Option.toList, List.cons_append, List.nil_append]
    refine oX11_write_28 _ _ _ _ _ _ (fun c => absurd rfl c) (fun _ => ?_)
    refine G_bipush (pc := 31) (v := (-12)) (by decide) dX11_write_31 ?_
    exact oX11_write_33 _ _ _ _ _ (h0 a)
set_option maxRecDepth 100000 in
set_option maxHeartbeats 4000000 in
theorem writeM_2 {d : Nat} {i v : Int32} {I : gI} {Q : Option Value → gH → Prop} (ht : 0 ≤ (I 82 2).toInt) (hz : 0 ≤ (I 83 2).toInt ∧ (I 83 2).toInt ≤ 40) (h1 : 0 ≤ i.toInt → i.toInt < (I 83 2).toInt → Q (some (.int 1)) (SH0, RF0, gup I 84 (80 + i.toInt.toNat) (nar v (I 82 2)))) (h0 : (i.toInt < 0 ∨ (I 83 2).toInt ≤ i.toInt) → Q (some (.int (-12))) (SH0, RF0, I)) : gg (d + 2 + 1) mX12_write 0 (gent 4 [.ref 67, .int 2, .int i, .int v]) [] I Q := by
  have k0 : (0 : Int32).toInt = 0 := rfl
  have kz := t_sub1 hz.1
  refine G_iload_n (pc := 0) rfl dX12_write_0 ?_
  refine oX12_write_1 (d + 2) _ [.int 2] [] I _ _ mX12_isSheet mt_X12_isSheet rfl (lsi ls0) ls0 (by simp) (isSheet_G (d := d + 1) (by decide) ?_) (fun _ _ h => h)
  dsimp only [Option.toList, List.cons_append, List.nil_append]
  refine oX12_write_4 _ _ _ _ _ _ (fun _ => ?_) (fun c => absurd (nez (by decide)) c)
  refine G_aload_n (pc := 9) rfl dX12_write_9 ?_
  refine G_getR (pc := 10) (ci := 12) (j := 28) rfl lq_RX12_53 rfl rfl rfl dX12_write_10 ?_
  refine G_iload_n (pc := 13) rfl dX12_write_13 ?_
  refine G_iald (pc := 14) (jj := 2) rfl rfl rfl (a_vin (by decide) (by decide)) dX12_write_14 ?_
  refine oX12_write_15 _ _ _ _ _ _ (fun _ => ?_) (fun c => absurd (by show (0 : Int) ≤ (I 82 2).toInt; omega) c)
  refine G_iload_n (pc := 21) rfl dX12_write_21 ?_
  refine G_iconst (pc := 22) (v := 0) (by decide) dX12_write_22 ?_
  refine G_aload_n (pc := 23) rfl dX12_write_23 ?_
  refine G_getR (pc := 24) (ci := 12) (j := 29) rfl lq_RX12_56 rfl rfl rfl dX12_write_24 ?_
  refine G_iload_n (pc := 27) rfl dX12_write_27 ?_
  refine G_iald (pc := 28) (jj := 2) rfl rfl rfl (a_vin (by decide) (by decide)) dX12_write_28 ?_
  refine G_iconst (pc := 29) (v := 1) (by decide) dX12_write_29 ?_
  refine G_isub (pc := 30) rfl dX12_write_30 ?_
  refine oX12_write_31 (d + 2) _ [.int i, .int 0, .int (I 83 2 - 1)] [] I _ _ mX12_in1 mt_X12_in1 rfl (lsi (lsi (lsi ls0))) ls0 (by simp) (in1b_G (fun a b => ?_) (fun a => ?_)) (fun _ _ h => h)
  · dsimp only [Option.toList, List.cons_append, List.nil_append]
    have a : 0 ≤ i.toInt := by omega
    have b : i.toInt < (I 83 2).toInt := by omega
    have ki : ((40 : Int32) * 2 + i).toInt = 80 + i.toInt := by
      rw [show (40 : Int32) * 2 = 80 by decide, Int32.toInt_add, show (80 : Int32).toInt = 80 from rfl]
      exact a_bm (by unfold aLo; omega) (by unfold aHi; omega)
    refine oX12_write_34 _ _ _ _ _ _ (fun _ => ?_) (fun c => absurd (nez (by decide)) c)
    refine G_aload_n (pc := 40) rfl dX12_write_40 ?_
    refine G_getR (pc := 41) (ci := 12) (j := 30) rfl lq_RX12_59 rfl rfl rfl dX12_write_41 ?_
    refine G_bipush (pc := 44) (v := 40) (by decide) dX12_write_44 ?_
    refine G_iload_n (pc := 46) rfl dX12_write_46 ?_
    refine G_imul (pc := 47) rfl dX12_write_47 ?_
    refine G_iload_n (pc := 48) rfl dX12_write_48 ?_
    refine G_iadd (pc := 49) rfl dX12_write_49 ?_
    refine G_iload_n (pc := 50) rfl dX12_write_50 ?_
    refine G_aload_n (pc := 51) rfl dX12_write_51 ?_
    refine G_getR (pc := 52) (ci := 12) (j := 28) rfl lq_RX12_53 rfl rfl rfl dX12_write_52 ?_
    refine G_iload_n (pc := 55) rfl dX12_write_55 ?_
    refine G_iald (pc := 56) (jj := 2) rfl rfl rfl (a_vin (by decide) (by decide)) dX12_write_56 ?_
    refine oX12_write_57 (d + 2) _ [.int v, .int (I 82 2)] [.int (40 * 2 + i), .ref 84] I _ _ mX12_narrowed mt_X12_narrowed rfl (lsi (lsi ls0)) (lsi (lsr ls0)) (by simp) (narM_G ?_) (fun _ _ h => h)
    dsimp only [Option.toList, List.cons_append, List.nil_append]
    refine G_iast (pc := 60) (jj := 80 + i.toInt.toNat) (by rw [a_nc, ki]; omega) rfl (a_vin (by omega) (by omega)) dX12_write_60 ?_
    refine G_iconst (pc := 61) (v := 1) (by decide) dX12_write_61 ?_
    exact oX12_write_62 _ _ _ _ _ (h1 a b)
  · dsimp only [Option.toList, List.cons_append, List.nil_append]
    refine oX12_write_34 _ _ _ _ _ _ (fun c => absurd rfl c) (fun _ => ?_)
    refine G_bipush (pc := 37) (v := (-12)) (by decide) dX12_write_37 ?_
    exact oX12_write_39 _ _ _ _ _ (h0 (by omega))
theorem refX_2 {d : Nat} {t : Int32} {I : gI} {Q : Option Value → gH → Prop} (h1 : (I 2 2).toInt = -1 → Q (some (.int (-11))) (SH0, RF0, I)) (h2 : (I 2 2).toInt ≠ -1 → (I 2 2).toInt = t.toInt → Q (some (.int 0)) (SH0, RF0, I)) (h3 : (I 2 2).toInt ≠ -1 → (I 2 2).toInt ≠ t.toInt → Q (some (.int (-13))) (SH0, RF0, I)) : gg d mX11_refusalOf 0 (gent 3 [.ref 0, .int 2, .int t]) [] I Q := by
  have km : (-1 : Int32).toInt = -1 := rfl
  refine G_aload_n (pc := 0) rfl dX11_refusalOf_0 ?_
  refine G_getR (pc := 1) (ci := 11) (j := 8) rfl lq_RX11_13 rfl rfl rfl dX11_refusalOf_1 ?_
  refine G_iload_n (pc := 4) rfl dX11_refusalOf_4 ?_
  refine G_iald (pc := 5) (jj := 2) rfl rfl rfl (a_vin (by decide) (by decide)) dX11_refusalOf_5 ?_
  refine G_iconst (pc := 6) (v := (-1)) (by decide) dX11_refusalOf_6 ?_
  refine oX11_refusalOf_7 _ _ _ _ _ _ _ (fun c => ?_) (fun c => ?_)
  · have c : (I 2 2).toInt ≠ (-1 : Int32).toInt := c
    refine G_aload_n (pc := 13) rfl dX11_refusalOf_13 ?_
    refine G_getR (pc := 14) (ci := 11) (j := 8) rfl lq_RX11_13 rfl rfl rfl dX11_refusalOf_14 ?_
    refine G_iload_n (pc := 17) rfl dX11_refusalOf_17 ?_
    refine G_iald (pc := 18) (jj := 2) rfl rfl rfl (a_vin (by decide) (by decide)) dX11_refusalOf_18 ?_
    refine G_iload_n (pc := 19) rfl dX11_refusalOf_19 ?_
    refine oX11_refusalOf_20 _ _ _ _ _ _ _ (fun c2 => ?_) (fun c2 => ?_)
    · have c2 : (I 2 2).toInt ≠ t.toInt := c2
      refine G_bipush (pc := 27) (v := (-13)) (by decide) dX11_refusalOf_27 ?_
      exact oX11_refusalOf_29 _ _ _ _ _ (h3 (by omega) c2)
    · have c2 : ¬ (I 2 2).toInt ≠ t.toInt := c2
      refine G_iconst (pc := 23) (v := 0) (by decide) dX11_refusalOf_23 ?_
      refine G_goto (pc := 24) (tgt := 29) (by decide) dX11_refusalOf_24 ?_
      exact oX11_refusalOf_29 _ _ _ _ _ (h2 (by omega) (by omega))
  · have c : ¬ (I 2 2).toInt ≠ (-1 : Int32).toInt := c
    refine G_bipush (pc := 10) (v := (-11)) (by decide) dX11_refusalOf_10 ?_
    exact oX11_refusalOf_12 _ _ _ _ _ (h1 (by omega))
theorem lacksM_2 {d : Nat} {t : Int32} {I : gI} {Q : Option Value → gH → Prop} (h1 : (I 82 2).toInt < 0 → Q (some (.int (-11))) (SH0, RF0, I)) (h2 : 0 ≤ (I 82 2).toInt → (I 82 2).toInt = t.toInt → Q (some (.int 0)) (SH0, RF0, I)) (h3 : 0 ≤ (I 82 2).toInt → (I 82 2).toInt ≠ t.toInt → Q (some (.int (-13))) (SH0, RF0, I)) : gg d mX12_lacks 0 (gent 3 [.ref 67, .int 2, .int t]) [] I Q := by
  refine G_aload_n (pc := 0) rfl dX12_lacks_0 ?_
  refine G_getR (pc := 1) (ci := 12) (j := 28) rfl lq_RX12_53 rfl rfl rfl dX12_lacks_1 ?_
  refine G_iload_n (pc := 4) rfl dX12_lacks_4 ?_
  refine G_iald (pc := 5) (jj := 2) rfl rfl rfl (a_vin (by decide) (by decide)) dX12_lacks_5 ?_
  refine oX12_lacks_6 _ _ _ _ _ _ (fun c => ?_) (fun c => ?_)
  · have c : (0 : Int) ≤ (I 82 2).toInt := c
    refine G_aload_n (pc := 14) rfl dX12_lacks_14 ?_
    refine G_getR (pc := 15) (ci := 12) (j := 28) rfl lq_RX12_53 rfl rfl rfl dX12_lacks_15 ?_
    refine G_iload_n (pc := 18) rfl dX12_lacks_18 ?_
    refine G_iald (pc := 19) (jj := 2) rfl rfl rfl (a_vin (by decide) (by decide)) dX12_lacks_19 ?_
    refine G_iload_n (pc := 20) rfl dX12_lacks_20 ?_
    refine oX12_lacks_21 _ _ _ _ _ _ _ (fun c2 => ?_) (fun c2 => ?_)
    · have c2 : (I 82 2).toInt = t.toInt := c2
      refine G_iconst (pc := 29) (v := 0) (by decide) dX12_lacks_29 ?_
      exact oX12_lacks_30 _ _ _ _ _ (h2 c c2)
    · have c2 : ¬ (I 82 2).toInt = t.toInt := c2
      refine G_bipush (pc := 24) (v := (-13)) (by decide) dX12_lacks_24 ?_
      refine G_goto (pc := 26) (tgt := 30) (by decide) dX12_lacks_26 ?_
      exact oX12_lacks_30 _ _ _ _ _ (h3 c c2)
  · have c : ¬ (0 : Int) ≤ (I 82 2).toInt := c
    refine G_bipush (pc := 9) (v := (-11)) (by decide) dX12_lacks_9 ?_
    refine G_goto (pc := 11) (tgt := 30) (by decide) dX12_lacks_11 ?_
    exact oX12_lacks_30 _ _ _ _ _ (h1 (by omega))
set_option maxRecDepth 100000 in
set_option maxHeartbeats 4000000 in
theorem itemX_2 {d : Nat} {t i : Int32} {I : gI} {Q : Option Value → gH → Prop} (ht : 0 ≤ t.toInt ∧ t.toInt ≤ 4) (hz : 0 ≤ (I 3 2).toInt ∧ (I 3 2).toInt ≤ 40) (h1 : (I 2 2).toInt = -1 → Q (some (.int (-11))) (SH0, RF0, I)) (h2 : (I 2 2).toInt ≠ -1 → (I 2 2).toInt ≠ t.toInt → Q (some (.int (-13))) (SH0, RF0, I)) (h3 : (I 2 2).toInt ≠ -1 → (I 2 2).toInt = t.toInt → (i.toInt < 0 ∨ (I 3 2).toInt ≤ i.toInt) → Q (some (.int (-12))) (SH0, RF0, I)) (h4 : (I 2 2).toInt ≠ -1 → (I 2 2).toInt = t.toInt → 0 ≤ i.toInt → i.toInt < (I 3 2).toInt → Q (some (.int (I 7 i.toInt.toNat))) (SH0, RF0, I)) : gg (d + 2 + 1) mX11_item 0 (gent 5 [.ref 0, .int 2, .int t, .int i]) [] I Q := by
  have k0 : (0 : Int32).toInt = 0 := rfl
  have k4 : (4 : Int32).toInt = 4 := rfl
  refine G_iload_n (pc := 0) rfl dX11_item_0 ?_
  refine oX11_item_1 (d + 2) _ [.int 2] [] I _ _ mX11_isPlace mt_X11_isPlace rfl (lsi ls0) ls0 (by simp) (isPlace_G (d := d + 1) (by decide) ?_) (fun _ _ h => h)
  dsimp only [Option.toList, List.cons_append, List.nil_append]
  refine oX11_item_4 _ _ _ _ _ _ (fun c => absurd c (eqz (by decide))) (fun _ => ?_)
  refine G_iload_n (pc := 7) rfl dX11_item_7 ?_
  refine G_iconst (pc := 8) (v := 0) (by decide) dX11_item_8 ?_
  refine G_iconst (pc := 9) (v := 4) (by decide) dX11_item_9 ?_
  refine oX11_item_10 (d + 2) _ [.int t, .int 0, .int 4] [] I _ _ mX11_isIn mt_X11_isIn rfl (lsi (lsi (lsi ls0))) ls0 (by simp) (isIn_G (fun _ _ => ?_) (fun a => by omega)) (fun _ _ h => h)
  dsimp only [Option.toList, List.cons_append, List.nil_append]
  refine oX11_item_13 _ _ _ _ _ _ (fun _ => ?_) (fun c => absurd (nez (by decide)) c)
  refine G_aload_n (pc := 18) rfl dX11_item_18 ?_
  refine G_iload_n (pc := 19) rfl dX11_item_19 ?_
  refine G_iload_n (pc := 20) rfl dX11_item_20 ?_
  refine oX11_item_21 (d + 2) _ [.int 2, .int t] [] I _ _ 0 11 104 mX11_refusalOf rfl List.mem_cons_self mt_X11_refusalOf rfl (lsi (lsi ls0)) ls0 (by simp) (refX_2 (fun a => ?_) (fun a b => ?_) (fun a b => ?_)) (fun _ _ h => h)
  · dsimp only [Option.toList, List.cons_append, List.nil_append]
    refine G_istore (pc := 24) rfl rfl (by decide) dX11_item_24 ?_
    refine G_iload (pc := 26) rfl dX11_item_26 ?_
    refine oX11_item_28 _ _ _ _ _ _ (fun c => absurd c (eqz (by decide))) (fun _ => ?_)
    refine G_iload (pc := 31) rfl dX11_item_31 ?_
    exact oX11_item_33 _ _ _ _ _ (h1 a)
  · dsimp only [Option.toList, List.cons_append, List.nil_append]
    refine G_istore (pc := 24) rfl rfl (by decide) dX11_item_24 ?_
    refine G_iload (pc := 26) rfl dX11_item_26 ?_
    refine oX11_item_28 _ _ _ _ _ _ (fun _ => ?_) (fun c => absurd rfl c)
    refine G_aload_n (pc := 34) rfl dX11_item_34 ?_
    refine G_iload_n (pc := 35) rfl dX11_item_35 ?_
    refine G_iload_n (pc := 36) rfl dX11_item_36 ?_
    refine oX11_item_37 (d + 2) _ [.int 2, .int i] [] I _ _ 0 11 105 mX11_isItem rfl List.mem_cons_self mt_X11_isItem rfl (lsi (lsi ls0)) ls0 (by simp) (isItem_2 (d := d + 1) hz.1 (fun e f => ?_) (fun e => ?_)) (fun _ _ h => h)
    · dsimp only [Option.toList, List.cons_append, List.nil_append]
      refine oX11_item_40 _ _ _ _ _ _ (fun c => absurd c (eqz (by decide))) (fun _ => ?_)
      refine G_aload_n (pc := 43) rfl dX11_item_43 ?_
      refine G_getR (pc := 44) (ci := 11) (j := 10) rfl lq_RX11_21 rfl rfl rfl dX11_item_44 ?_
      refine G_iload_n (pc := 47) rfl dX11_item_47 ?_
      refine G_rald (pc := 48) (jj := 2) rfl rfl (a_vin (by decide) (by decide)) rfl dX11_item_48 ?_
      refine G_iload_n (pc := 49) rfl dX11_item_49 ?_
      refine G_iald (pc := 50) a_nc rfl rfl (a_vin e (by omega)) dX11_item_50 ?_
      refine G_goto (pc := 51) (tgt := 56) (by decide) dX11_item_51 ?_
      exact oX11_item_56 _ _ _ _ _ (h4 a b e f)
    · dsimp only [Option.toList, List.cons_append, List.nil_append]
      refine oX11_item_40 _ _ _ _ _ _ (fun _ => ?_) (fun c => absurd rfl c)
      refine G_bipush (pc := 54) (v := (-12)) (by decide) dX11_item_54 ?_
      exact oX11_item_56 _ _ _ _ _ (h3 a b e)
  · dsimp only [Option.toList, List.cons_append, List.nil_append]
    refine G_istore (pc := 24) rfl rfl (by decide) dX11_item_24 ?_
    refine G_iload (pc := 26) rfl dX11_item_26 ?_
    refine oX11_item_28 _ _ _ _ _ _ (fun c => absurd c (eqz (by decide))) (fun _ => ?_)
    refine G_iload (pc := 31) rfl dX11_item_31 ?_
    exact oX11_item_33 _ _ _ _ _ (h2 a b)
set_option maxRecDepth 100000 in
set_option maxHeartbeats 4000000 in
theorem itemM_2 {d : Nat} {t i : Int32} {I : gI} {Q : Option Value → gH → Prop} (ht : 0 ≤ t.toInt ∧ t.toInt ≤ 4) (hz : 0 ≤ (I 83 2).toInt ∧ (I 83 2).toInt ≤ 40) (h1 : (I 82 2).toInt < 0 → Q (some (.int (-11))) (SH0, RF0, I)) (h2 : 0 ≤ (I 82 2).toInt → (I 82 2).toInt ≠ t.toInt → Q (some (.int (-13))) (SH0, RF0, I)) (h3 : 0 ≤ (I 82 2).toInt → (I 82 2).toInt = t.toInt → (i.toInt < 0 ∨ (I 83 2).toInt ≤ i.toInt) → Q (some (.int (-12))) (SH0, RF0, I)) (h4 : 0 ≤ (I 82 2).toInt → (I 82 2).toInt = t.toInt → 0 ≤ i.toInt → i.toInt < (I 83 2).toInt → Q (some (.int (I 84 (80 + i.toInt.toNat)))) (SH0, RF0, I)) : gg (d + 2 + 1) mX12_item 0 (gent 5 [.ref 67, .int 2, .int t, .int i]) [] I Q := by
  have k0 : (0 : Int32).toInt = 0 := rfl
  have k4 : (4 : Int32).toInt = 4 := rfl
  have kz := t_sub1 hz.1
  refine G_iload_n (pc := 0) rfl dX12_item_0 ?_
  refine oX12_item_1 (d + 2) _ [.int 2] [] I _ _ mX12_isSheet mt_X12_isSheet rfl (lsi ls0) ls0 (by simp) (isSheet_G (d := d + 1) (by decide) ?_) (fun _ _ h => h)
  dsimp only [Option.toList, List.cons_append, List.nil_append]
  refine oX12_item_4 _ _ _ _ _ _ (fun c => absurd c (eqz (by decide))) (fun _ => ?_)
  refine G_iload_n (pc := 7) rfl dX12_item_7 ?_
  refine G_iconst (pc := 8) (v := 0) (by decide) dX12_item_8 ?_
  refine G_iconst (pc := 9) (v := 4) (by decide) dX12_item_9 ?_
  refine oX12_item_10 (d + 2) _ [.int t, .int 0, .int 4] [] I _ _ mX12_in1 mt_X12_in1 rfl (lsi (lsi (lsi ls0))) ls0 (by simp) (in1b_G (fun _ _ => ?_) (fun a => by omega)) (fun _ _ h => h)
  dsimp only [Option.toList, List.cons_append, List.nil_append]
  refine oX12_item_13 _ _ _ _ _ _ (fun _ => ?_) (fun c => absurd (nez (by decide)) c)
  refine G_aload_n (pc := 18) rfl dX12_item_18 ?_
  refine G_iload_n (pc := 19) rfl dX12_item_19 ?_
  refine G_iload_n (pc := 20) rfl dX12_item_20 ?_
  refine oX12_item_21 (d + 2) _ [.int 2, .int t] [] I _ _ 67 12 175 mX12_lacks rfl List.mem_cons_self mt_X12_lacks rfl (lsi (lsi ls0)) ls0 (by simp) (lacksM_2 (fun a => ?_) (fun a b => ?_) (fun a b => ?_)) (fun _ _ h => h)
  · dsimp only [Option.toList, List.cons_append, List.nil_append]
    refine G_istore (pc := 24) rfl rfl (by decide) dX12_item_24 ?_
    refine G_iload (pc := 26) rfl dX12_item_26 ?_
    refine oX12_item_28 _ _ _ _ _ _ (fun c => absurd c (eqz (by decide))) (fun _ => ?_)
    refine G_iload (pc := 31) rfl dX12_item_31 ?_
    refine G_goto (pc := 33) (tgt := 68) (by decide) dX12_item_33 ?_
    exact oX12_item_68 _ _ _ _ _ (h1 a)
  · dsimp only [Option.toList, List.cons_append, List.nil_append]
    refine G_istore (pc := 24) rfl rfl (by decide) dX12_item_24 ?_
    refine G_iload (pc := 26) rfl dX12_item_26 ?_
    refine oX12_item_28 _ _ _ _ _ _ (fun _ => ?_) (fun c => absurd rfl c)
    refine G_iload_n (pc := 36) rfl dX12_item_36 ?_
    refine G_iconst (pc := 37) (v := 0) (by decide) dX12_item_37 ?_
    refine G_aload_n (pc := 38) rfl dX12_item_38 ?_
    refine G_getR (pc := 39) (ci := 12) (j := 29) rfl lq_RX12_56 rfl rfl rfl dX12_item_39 ?_
    refine G_iload_n (pc := 42) rfl dX12_item_42 ?_
    refine G_iald (pc := 43) (jj := 2) rfl rfl rfl (a_vin (by decide) (by decide)) dX12_item_43 ?_
    refine G_iconst (pc := 44) (v := 1) (by decide) dX12_item_44 ?_
    refine G_isub (pc := 45) rfl dX12_item_45 ?_
    refine oX12_item_46 (d + 2) _ [.int i, .int 0, .int (I 83 2 - 1)] [] I _ _ mX12_in1 mt_X12_in1 rfl (lsi (lsi (lsi ls0))) ls0 (by simp) (in1b_G (fun e f => ?_) (fun e => ?_)) (fun _ _ h => h)
    · dsimp only [Option.toList, List.cons_append, List.nil_append]
      have e : 0 ≤ i.toInt := by omega
      have f : i.toInt < (I 83 2).toInt := by omega
      have ki : ((40 : Int32) * 2 + i).toInt = 80 + i.toInt := by
        rw [show (40 : Int32) * 2 = 80 by decide, Int32.toInt_add, show (80 : Int32).toInt = 80 from rfl]
        exact a_bm (by unfold aLo; omega) (by unfold aHi; omega)
      refine oX12_item_49 _ _ _ _ _ _ (fun c => absurd c (eqz (by decide))) (fun _ => ?_)
      refine G_aload_n (pc := 52) rfl dX12_item_52 ?_
      refine G_getR (pc := 53) (ci := 12) (j := 30) rfl lq_RX12_59 rfl rfl rfl dX12_item_53 ?_
      refine G_bipush (pc := 56) (v := 40) (by decide) dX12_item_56 ?_
      refine G_iload_n (pc := 58) rfl dX12_item_58 ?_
      refine G_imul (pc := 59) rfl dX12_item_59 ?_
      refine G_iload_n (pc := 60) rfl dX12_item_60 ?_
      refine G_iadd (pc := 61) rfl dX12_item_61 ?_
      refine G_iald (pc := 62) (jj := 80 + i.toInt.toNat) (by rw [a_nc, ki]; omega) rfl rfl (a_vin (by omega) (by omega)) dX12_item_62 ?_
      refine G_goto (pc := 63) (tgt := 68) (by decide) dX12_item_63 ?_
      exact oX12_item_68 _ _ _ _ _ (h4 a b e f)
    · dsimp only [Option.toList, List.cons_append, List.nil_append]
      refine oX12_item_49 _ _ _ _ _ _ (fun _ => ?_) (fun c => absurd rfl c)
      refine G_bipush (pc := 66) (v := (-12)) (by decide) dX12_item_66 ?_
      exact oX12_item_68 _ _ _ _ _ (h3 a b (by omega))
  · dsimp only [Option.toList, List.cons_append, List.nil_append]
    refine G_istore (pc := 24) rfl rfl (by decide) dX12_item_24 ?_
    refine G_iload (pc := 26) rfl dX12_item_26 ?_
    refine oX12_item_28 _ _ _ _ _ _ (fun c => absurd c (eqz (by decide))) (fun _ => ?_)
    refine G_iload (pc := 31) rfl dX12_item_31 ?_
    refine G_goto (pc := 33) (tgt := 68) (by decide) dX12_item_33 ?_
    exact oX12_item_68 _ _ _ _ _ (h2 a b)
theorem isItem_3 {d : Nat} {i : Int32} {I : gI} {Q : Option Value → gH → Prop} (hz : 0 ≤ (I 3 3).toInt) (h1 : 0 ≤ i.toInt → i.toInt < (I 3 3).toInt → Q (some (.int 1)) (SH0, RF0, I)) (h0 : (i.toInt < 0 ∨ (I 3 3).toInt ≤ i.toInt) → Q (some (.int 0)) (SH0, RF0, I)) : gg (d + 1) mX11_isItem 0 (gent 3 [.ref 0, .int 3, .int i]) [] I Q := by
  have k0 : (0 : Int32).toInt = 0 := rfl
  have kz := t_sub1 hz
  refine G_iload_n (pc := 0) rfl dX11_isItem_0 ?_
  refine G_iconst (pc := 1) (v := 0) (by decide) dX11_isItem_1 ?_
  refine G_aload_n (pc := 2) rfl dX11_isItem_2 ?_
  refine G_getR (pc := 3) (ci := 11) (j := 9) rfl lq_RX11_16 rfl rfl rfl dX11_isItem_3 ?_
  refine G_iload_n (pc := 6) rfl dX11_isItem_6 ?_
  refine G_iald (pc := 7) (jj := 3) rfl rfl rfl (a_vin (by decide) (by decide)) dX11_isItem_7 ?_
  refine G_iconst (pc := 8) (v := 1) (by decide) dX11_isItem_8 ?_
  refine G_isub (pc := 9) rfl dX11_isItem_9 ?_
  refine oX11_isItem_10 d _ [.int i, .int 0, .int (I 3 3 - 1)] [] I _ _ mX11_isIn mt_X11_isIn rfl (lsi (lsi (lsi ls0))) ls0 (by simp) (isIn_G (fun a b => ?_) (fun a => ?_)) (fun _ _ h => h)
  · dsimp only [Option.toList, List.cons_append, List.nil_append]
    exact oX11_isItem_13 _ _ _ _ _ (Or.inr rfl) (h1 (by omega) (by omega))
  · dsimp only [Option.toList, List.cons_append, List.nil_append]
    exact oX11_isItem_13 _ _ _ _ _ (Or.inl rfl) (h0 (by omega))
set_option maxRecDepth 100000 in
set_option maxHeartbeats 4000000 in
theorem writeX_3 {d : Nat} {i v : Int32} {I : gI} {Q : Option Value → gH → Prop} (ht : 0 ≤ (I 2 3).toInt ∧ (I 2 3).toInt ≤ 4) (hz : 0 ≤ (I 3 3).toInt ∧ (I 3 3).toInt ≤ 40) (h1 : 0 ≤ i.toInt → i.toInt < (I 3 3).toInt → Q (some (.int 1)) (SH0, RF0, gup I 8 i.toInt.toNat (nar v (I 2 3)))) (h0 : (i.toInt < 0 ∨ (I 3 3).toInt ≤ i.toInt) → Q (some (.int (-12))) (SH0, RF0, I)) : gg (d + 2 + 1) mX11_write 0 (gent 4 [.ref 0, .int 3, .int i, .int v]) [] I Q := by
  have km : (-1 : Int32).toInt = -1 := rfl
  refine G_iload_n (pc := 0) rfl dX11_write_0 ?_
  refine oX11_write_1 (d + 2) _ [.int 3] [] I _ _ mX11_isPlace mt_X11_isPlace rfl (lsi ls0) ls0 (by simp) (isPlace_G (d := d + 1) (by decide) ?_) (fun _ _ h => h)
  dsimp only [Option.toList, List.cons_append, List.nil_append]
  refine oX11_write_4 _ _ _ _ _ _ (fun _ => ?_) (fun c => absurd (nez (by decide)) c)
  refine G_aload_n (pc := 9) rfl dX11_write_9 ?_
  refine G_getR (pc := 10) (ci := 11) (j := 8) rfl lq_RX11_13 rfl rfl rfl dX11_write_10 ?_
  refine G_iload_n (pc := 13) rfl dX11_write_13 ?_
  refine G_iald (pc := 14) (jj := 3) rfl rfl rfl (a_vin (by decide) (by decide)) dX11_write_14 ?_
  refine G_iconst (pc := 15) (v := (-1)) (by decide) dX11_write_15 ?_
  refine oX11_write_16 _ _ _ _ _ _ _ (fun _ => ?_) (fun c => absurd (by show (I 2 3).toInt ≠ (-1 : Int32).toInt; omega) c)
  refine G_aload_n (pc := 22) rfl dX11_write_22 ?_
  refine G_iload_n (pc := 23) rfl dX11_write_23 ?_
  refine G_iload_n (pc := 24) rfl dX11_write_24 ?_
  refine oX11_write_25 (d + 2) _ [.int 3, .int i] [] I _ _ 0 11 105 mX11_isItem rfl List.mem_cons_self mt_X11_isItem rfl (lsi (lsi ls0)) ls0 (by simp) (isItem_3 (d := d + 1) hz.1 (fun a b => ?_) (fun a => ?_)) (fun _ _ h => h)
  · dsimp only [Option.toList, List.cons_append, List.nil_append]
    refine oX11_write_28 _ _ _ _ _ _ (fun _ => ?_) (fun c => absurd (nez (by decide)) c)
    refine G_aload_n (pc := 34) rfl dX11_write_34 ?_
    refine G_getR (pc := 35) (ci := 11) (j := 10) rfl lq_RX11_21 rfl rfl rfl dX11_write_35 ?_
    refine G_iload_n (pc := 38) rfl dX11_write_38 ?_
    refine G_rald (pc := 39) (jj := 3) rfl rfl (a_vin (by decide) (by decide)) rfl dX11_write_39 ?_
    refine G_iload_n (pc := 40) rfl dX11_write_40 ?_
    refine G_iload_n (pc := 41) rfl dX11_write_41 ?_
    refine G_aload_n (pc := 42) rfl dX11_write_42 ?_
    refine G_getR (pc := 43) (ci := 11) (j := 8) rfl lq_RX11_13 rfl rfl rfl dX11_write_43 ?_
    refine G_iload_n (pc := 46) rfl dX11_write_46 ?_
    refine G_iald (pc := 47) (jj := 3) rfl rfl rfl (a_vin (by decide) (by decide)) dX11_write_47 ?_
    refine oX11_write_48 (d + 2) _ [.int v, .int (I 2 3)] [.int i, .ref 8] I _ _ mX11_narrowed mt_X11_narrowed rfl (lsi (lsi ls0)) (lsi (lsr ls0)) (by simp) (narX_G ht ?_) (fun _ _ h => h)
    dsimp only [Option.toList, List.cons_append, List.nil_append]
    refine G_iast (pc := 51) a_nc rfl (a_vin a (by omega)) dX11_write_51 ?_
    refine G_iconst (pc := 52) (v := 1) (by decide) dX11_write_52 ?_
    exact oX11_write_53 _ _ _ _ _ (h1 a b)
  · dsimp only [Option.toList, List.cons_append, List.nil_append]
    refine oX11_write_28 _ _ _ _ _ _ (fun c => absurd rfl c) (fun _ => ?_)
    refine G_bipush (pc := 31) (v := (-12)) (by decide) dX11_write_31 ?_
    exact oX11_write_33 _ _ _ _ _ (h0 a)
set_option maxRecDepth 100000 in
set_option maxHeartbeats 4000000 in
theorem writeM_3 {d : Nat} {i v : Int32} {I : gI} {Q : Option Value → gH → Prop} (ht : 0 ≤ (I 82 3).toInt) (hz : 0 ≤ (I 83 3).toInt ∧ (I 83 3).toInt ≤ 40) (h1 : 0 ≤ i.toInt → i.toInt < (I 83 3).toInt → Q (some (.int 1)) (SH0, RF0, gup I 84 (120 + i.toInt.toNat) (nar v (I 82 3)))) (h0 : (i.toInt < 0 ∨ (I 83 3).toInt ≤ i.toInt) → Q (some (.int (-12))) (SH0, RF0, I)) : gg (d + 2 + 1) mX12_write 0 (gent 4 [.ref 67, .int 3, .int i, .int v]) [] I Q := by
  have k0 : (0 : Int32).toInt = 0 := rfl
  have kz := t_sub1 hz.1
  refine G_iload_n (pc := 0) rfl dX12_write_0 ?_
  refine oX12_write_1 (d + 2) _ [.int 3] [] I _ _ mX12_isSheet mt_X12_isSheet rfl (lsi ls0) ls0 (by simp) (isSheet_G (d := d + 1) (by decide) ?_) (fun _ _ h => h)
  dsimp only [Option.toList, List.cons_append, List.nil_append]
  refine oX12_write_4 _ _ _ _ _ _ (fun _ => ?_) (fun c => absurd (nez (by decide)) c)
  refine G_aload_n (pc := 9) rfl dX12_write_9 ?_
  refine G_getR (pc := 10) (ci := 12) (j := 28) rfl lq_RX12_53 rfl rfl rfl dX12_write_10 ?_
  refine G_iload_n (pc := 13) rfl dX12_write_13 ?_
  refine G_iald (pc := 14) (jj := 3) rfl rfl rfl (a_vin (by decide) (by decide)) dX12_write_14 ?_
  refine oX12_write_15 _ _ _ _ _ _ (fun _ => ?_) (fun c => absurd (by show (0 : Int) ≤ (I 82 3).toInt; omega) c)
  refine G_iload_n (pc := 21) rfl dX12_write_21 ?_
  refine G_iconst (pc := 22) (v := 0) (by decide) dX12_write_22 ?_
  refine G_aload_n (pc := 23) rfl dX12_write_23 ?_
  refine G_getR (pc := 24) (ci := 12) (j := 29) rfl lq_RX12_56 rfl rfl rfl dX12_write_24 ?_
  refine G_iload_n (pc := 27) rfl dX12_write_27 ?_
  refine G_iald (pc := 28) (jj := 3) rfl rfl rfl (a_vin (by decide) (by decide)) dX12_write_28 ?_
  refine G_iconst (pc := 29) (v := 1) (by decide) dX12_write_29 ?_
  refine G_isub (pc := 30) rfl dX12_write_30 ?_
  refine oX12_write_31 (d + 2) _ [.int i, .int 0, .int (I 83 3 - 1)] [] I _ _ mX12_in1 mt_X12_in1 rfl (lsi (lsi (lsi ls0))) ls0 (by simp) (in1b_G (fun a b => ?_) (fun a => ?_)) (fun _ _ h => h)
  · dsimp only [Option.toList, List.cons_append, List.nil_append]
    have a : 0 ≤ i.toInt := by omega
    have b : i.toInt < (I 83 3).toInt := by omega
    have ki : ((40 : Int32) * 3 + i).toInt = 120 + i.toInt := by
      rw [show (40 : Int32) * 3 = 120 by decide, Int32.toInt_add, show (120 : Int32).toInt = 120 from rfl]
      exact a_bm (by unfold aLo; omega) (by unfold aHi; omega)
    refine oX12_write_34 _ _ _ _ _ _ (fun _ => ?_) (fun c => absurd (nez (by decide)) c)
    refine G_aload_n (pc := 40) rfl dX12_write_40 ?_
    refine G_getR (pc := 41) (ci := 12) (j := 30) rfl lq_RX12_59 rfl rfl rfl dX12_write_41 ?_
    refine G_bipush (pc := 44) (v := 40) (by decide) dX12_write_44 ?_
    refine G_iload_n (pc := 46) rfl dX12_write_46 ?_
    refine G_imul (pc := 47) rfl dX12_write_47 ?_
    refine G_iload_n (pc := 48) rfl dX12_write_48 ?_
    refine G_iadd (pc := 49) rfl dX12_write_49 ?_
    refine G_iload_n (pc := 50) rfl dX12_write_50 ?_
    refine G_aload_n (pc := 51) rfl dX12_write_51 ?_
    refine G_getR (pc := 52) (ci := 12) (j := 28) rfl lq_RX12_53 rfl rfl rfl dX12_write_52 ?_
    refine G_iload_n (pc := 55) rfl dX12_write_55 ?_
    refine G_iald (pc := 56) (jj := 3) rfl rfl rfl (a_vin (by decide) (by decide)) dX12_write_56 ?_
    refine oX12_write_57 (d + 2) _ [.int v, .int (I 82 3)] [.int (40 * 3 + i), .ref 84] I _ _ mX12_narrowed mt_X12_narrowed rfl (lsi (lsi ls0)) (lsi (lsr ls0)) (by simp) (narM_G ?_) (fun _ _ h => h)
    dsimp only [Option.toList, List.cons_append, List.nil_append]
    refine G_iast (pc := 60) (jj := 120 + i.toInt.toNat) (by rw [a_nc, ki]; omega) rfl (a_vin (by omega) (by omega)) dX12_write_60 ?_
    refine G_iconst (pc := 61) (v := 1) (by decide) dX12_write_61 ?_
    exact oX12_write_62 _ _ _ _ _ (h1 a b)
  · dsimp only [Option.toList, List.cons_append, List.nil_append]
    refine oX12_write_34 _ _ _ _ _ _ (fun c => absurd rfl c) (fun _ => ?_)
    refine G_bipush (pc := 37) (v := (-12)) (by decide) dX12_write_37 ?_
    exact oX12_write_39 _ _ _ _ _ (h0 (by omega))
theorem refX_3 {d : Nat} {t : Int32} {I : gI} {Q : Option Value → gH → Prop} (h1 : (I 2 3).toInt = -1 → Q (some (.int (-11))) (SH0, RF0, I)) (h2 : (I 2 3).toInt ≠ -1 → (I 2 3).toInt = t.toInt → Q (some (.int 0)) (SH0, RF0, I)) (h3 : (I 2 3).toInt ≠ -1 → (I 2 3).toInt ≠ t.toInt → Q (some (.int (-13))) (SH0, RF0, I)) : gg d mX11_refusalOf 0 (gent 3 [.ref 0, .int 3, .int t]) [] I Q := by
  have km : (-1 : Int32).toInt = -1 := rfl
  refine G_aload_n (pc := 0) rfl dX11_refusalOf_0 ?_
  refine G_getR (pc := 1) (ci := 11) (j := 8) rfl lq_RX11_13 rfl rfl rfl dX11_refusalOf_1 ?_
  refine G_iload_n (pc := 4) rfl dX11_refusalOf_4 ?_
  refine G_iald (pc := 5) (jj := 3) rfl rfl rfl (a_vin (by decide) (by decide)) dX11_refusalOf_5 ?_
  refine G_iconst (pc := 6) (v := (-1)) (by decide) dX11_refusalOf_6 ?_
  refine oX11_refusalOf_7 _ _ _ _ _ _ _ (fun c => ?_) (fun c => ?_)
  · have c : (I 2 3).toInt ≠ (-1 : Int32).toInt := c
    refine G_aload_n (pc := 13) rfl dX11_refusalOf_13 ?_
    refine G_getR (pc := 14) (ci := 11) (j := 8) rfl lq_RX11_13 rfl rfl rfl dX11_refusalOf_14 ?_
    refine G_iload_n (pc := 17) rfl dX11_refusalOf_17 ?_
    refine G_iald (pc := 18) (jj := 3) rfl rfl rfl (a_vin (by decide) (by decide)) dX11_refusalOf_18 ?_
    refine G_iload_n (pc := 19) rfl dX11_refusalOf_19 ?_
    refine oX11_refusalOf_20 _ _ _ _ _ _ _ (fun c2 => ?_) (fun c2 => ?_)
    · have c2 : (I 2 3).toInt ≠ t.toInt := c2
      refine G_bipush (pc := 27) (v := (-13)) (by decide) dX11_refusalOf_27 ?_
      exact oX11_refusalOf_29 _ _ _ _ _ (h3 (by omega) c2)
    · have c2 : ¬ (I 2 3).toInt ≠ t.toInt := c2
      refine G_iconst (pc := 23) (v := 0) (by decide) dX11_refusalOf_23 ?_
      refine G_goto (pc := 24) (tgt := 29) (by decide) dX11_refusalOf_24 ?_
      exact oX11_refusalOf_29 _ _ _ _ _ (h2 (by omega) (by omega))
  · have c : ¬ (I 2 3).toInt ≠ (-1 : Int32).toInt := c
    refine G_bipush (pc := 10) (v := (-11)) (by decide) dX11_refusalOf_10 ?_
    exact oX11_refusalOf_12 _ _ _ _ _ (h1 (by omega))
theorem lacksM_3 {d : Nat} {t : Int32} {I : gI} {Q : Option Value → gH → Prop} (h1 : (I 82 3).toInt < 0 → Q (some (.int (-11))) (SH0, RF0, I)) (h2 : 0 ≤ (I 82 3).toInt → (I 82 3).toInt = t.toInt → Q (some (.int 0)) (SH0, RF0, I)) (h3 : 0 ≤ (I 82 3).toInt → (I 82 3).toInt ≠ t.toInt → Q (some (.int (-13))) (SH0, RF0, I)) : gg d mX12_lacks 0 (gent 3 [.ref 67, .int 3, .int t]) [] I Q := by
  refine G_aload_n (pc := 0) rfl dX12_lacks_0 ?_
  refine G_getR (pc := 1) (ci := 12) (j := 28) rfl lq_RX12_53 rfl rfl rfl dX12_lacks_1 ?_
  refine G_iload_n (pc := 4) rfl dX12_lacks_4 ?_
  refine G_iald (pc := 5) (jj := 3) rfl rfl rfl (a_vin (by decide) (by decide)) dX12_lacks_5 ?_
  refine oX12_lacks_6 _ _ _ _ _ _ (fun c => ?_) (fun c => ?_)
  · have c : (0 : Int) ≤ (I 82 3).toInt := c
    refine G_aload_n (pc := 14) rfl dX12_lacks_14 ?_
    refine G_getR (pc := 15) (ci := 12) (j := 28) rfl lq_RX12_53 rfl rfl rfl dX12_lacks_15 ?_
    refine G_iload_n (pc := 18) rfl dX12_lacks_18 ?_
    refine G_iald (pc := 19) (jj := 3) rfl rfl rfl (a_vin (by decide) (by decide)) dX12_lacks_19 ?_
    refine G_iload_n (pc := 20) rfl dX12_lacks_20 ?_
    refine oX12_lacks_21 _ _ _ _ _ _ _ (fun c2 => ?_) (fun c2 => ?_)
    · have c2 : (I 82 3).toInt = t.toInt := c2
      refine G_iconst (pc := 29) (v := 0) (by decide) dX12_lacks_29 ?_
      exact oX12_lacks_30 _ _ _ _ _ (h2 c c2)
    · have c2 : ¬ (I 82 3).toInt = t.toInt := c2
      refine G_bipush (pc := 24) (v := (-13)) (by decide) dX12_lacks_24 ?_
      refine G_goto (pc := 26) (tgt := 30) (by decide) dX12_lacks_26 ?_
      exact oX12_lacks_30 _ _ _ _ _ (h3 c c2)
  · have c : ¬ (0 : Int) ≤ (I 82 3).toInt := c
    refine G_bipush (pc := 9) (v := (-11)) (by decide) dX12_lacks_9 ?_
    refine G_goto (pc := 11) (tgt := 30) (by decide) dX12_lacks_11 ?_
    exact oX12_lacks_30 _ _ _ _ _ (h1 (by omega))
set_option maxRecDepth 100000 in
set_option maxHeartbeats 4000000 in
theorem itemX_3 {d : Nat} {t i : Int32} {I : gI} {Q : Option Value → gH → Prop} (ht : 0 ≤ t.toInt ∧ t.toInt ≤ 4) (hz : 0 ≤ (I 3 3).toInt ∧ (I 3 3).toInt ≤ 40) (h1 : (I 2 3).toInt = -1 → Q (some (.int (-11))) (SH0, RF0, I)) (h2 : (I 2 3).toInt ≠ -1 → (I 2 3).toInt ≠ t.toInt → Q (some (.int (-13))) (SH0, RF0, I)) (h3 : (I 2 3).toInt ≠ -1 → (I 2 3).toInt = t.toInt → (i.toInt < 0 ∨ (I 3 3).toInt ≤ i.toInt) → Q (some (.int (-12))) (SH0, RF0, I)) (h4 : (I 2 3).toInt ≠ -1 → (I 2 3).toInt = t.toInt → 0 ≤ i.toInt → i.toInt < (I 3 3).toInt → Q (some (.int (I 8 i.toInt.toNat))) (SH0, RF0, I)) : gg (d + 2 + 1) mX11_item 0 (gent 5 [.ref 0, .int 3, .int t, .int i]) [] I Q := by
  have k0 : (0 : Int32).toInt = 0 := rfl
  have k4 : (4 : Int32).toInt = 4 := rfl
  refine G_iload_n (pc := 0) rfl dX11_item_0 ?_
  refine oX11_item_1 (d + 2) _ [.int 3] [] I _ _ mX11_isPlace mt_X11_isPlace rfl (lsi ls0) ls0 (by simp) (isPlace_G (d := d + 1) (by decide) ?_) (fun _ _ h => h)
  dsimp only [Option.toList, List.cons_append, List.nil_append]
  refine oX11_item_4 _ _ _ _ _ _ (fun c => absurd c (eqz (by decide))) (fun _ => ?_)
  refine G_iload_n (pc := 7) rfl dX11_item_7 ?_
  refine G_iconst (pc := 8) (v := 0) (by decide) dX11_item_8 ?_
  refine G_iconst (pc := 9) (v := 4) (by decide) dX11_item_9 ?_
  refine oX11_item_10 (d + 2) _ [.int t, .int 0, .int 4] [] I _ _ mX11_isIn mt_X11_isIn rfl (lsi (lsi (lsi ls0))) ls0 (by simp) (isIn_G (fun _ _ => ?_) (fun a => by omega)) (fun _ _ h => h)
  dsimp only [Option.toList, List.cons_append, List.nil_append]
  refine oX11_item_13 _ _ _ _ _ _ (fun _ => ?_) (fun c => absurd (nez (by decide)) c)
  refine G_aload_n (pc := 18) rfl dX11_item_18 ?_
  refine G_iload_n (pc := 19) rfl dX11_item_19 ?_
  refine G_iload_n (pc := 20) rfl dX11_item_20 ?_
  refine oX11_item_21 (d + 2) _ [.int 3, .int t] [] I _ _ 0 11 104 mX11_refusalOf rfl List.mem_cons_self mt_X11_refusalOf rfl (lsi (lsi ls0)) ls0 (by simp) (refX_3 (fun a => ?_) (fun a b => ?_) (fun a b => ?_)) (fun _ _ h => h)
  · dsimp only [Option.toList, List.cons_append, List.nil_append]
    refine G_istore (pc := 24) rfl rfl (by decide) dX11_item_24 ?_
    refine G_iload (pc := 26) rfl dX11_item_26 ?_
    refine oX11_item_28 _ _ _ _ _ _ (fun c => absurd c (eqz (by decide))) (fun _ => ?_)
    refine G_iload (pc := 31) rfl dX11_item_31 ?_
    exact oX11_item_33 _ _ _ _ _ (h1 a)
  · dsimp only [Option.toList, List.cons_append, List.nil_append]
    refine G_istore (pc := 24) rfl rfl (by decide) dX11_item_24 ?_
    refine G_iload (pc := 26) rfl dX11_item_26 ?_
    refine oX11_item_28 _ _ _ _ _ _ (fun _ => ?_) (fun c => absurd rfl c)
    refine G_aload_n (pc := 34) rfl dX11_item_34 ?_
    refine G_iload_n (pc := 35) rfl dX11_item_35 ?_
    refine G_iload_n (pc := 36) rfl dX11_item_36 ?_
    refine oX11_item_37 (d + 2) _ [.int 3, .int i] [] I _ _ 0 11 105 mX11_isItem rfl List.mem_cons_self mt_X11_isItem rfl (lsi (lsi ls0)) ls0 (by simp) (isItem_3 (d := d + 1) hz.1 (fun e f => ?_) (fun e => ?_)) (fun _ _ h => h)
    · dsimp only [Option.toList, List.cons_append, List.nil_append]
      refine oX11_item_40 _ _ _ _ _ _ (fun c => absurd c (eqz (by decide))) (fun _ => ?_)
      refine G_aload_n (pc := 43) rfl dX11_item_43 ?_
      refine G_getR (pc := 44) (ci := 11) (j := 10) rfl lq_RX11_21 rfl rfl rfl dX11_item_44 ?_
      refine G_iload_n (pc := 47) rfl dX11_item_47 ?_
      refine G_rald (pc := 48) (jj := 3) rfl rfl (a_vin (by decide) (by decide)) rfl dX11_item_48 ?_
      refine G_iload_n (pc := 49) rfl dX11_item_49 ?_
      refine G_iald (pc := 50) a_nc rfl rfl (a_vin e (by omega)) dX11_item_50 ?_
      refine G_goto (pc := 51) (tgt := 56) (by decide) dX11_item_51 ?_
      exact oX11_item_56 _ _ _ _ _ (h4 a b e f)
    · dsimp only [Option.toList, List.cons_append, List.nil_append]
      refine oX11_item_40 _ _ _ _ _ _ (fun _ => ?_) (fun c => absurd rfl c)
      refine G_bipush (pc := 54) (v := (-12)) (by decide) dX11_item_54 ?_
      exact oX11_item_56 _ _ _ _ _ (h3 a b e)
  · dsimp only [Option.toList, List.cons_append, List.nil_append]
    refine G_istore (pc := 24) rfl rfl (by decide) dX11_item_24 ?_
    refine G_iload (pc := 26) rfl dX11_item_26 ?_
    refine oX11_item_28 _ _ _ _ _ _ (fun c => absurd c (eqz (by decide))) (fun _ => ?_)
    refine G_iload (pc := 31) rfl dX11_item_31 ?_
    exact oX11_item_33 _ _ _ _ _ (h2 a b)
set_option maxRecDepth 100000 in
set_option maxHeartbeats 4000000 in
theorem itemM_3 {d : Nat} {t i : Int32} {I : gI} {Q : Option Value → gH → Prop} (ht : 0 ≤ t.toInt ∧ t.toInt ≤ 4) (hz : 0 ≤ (I 83 3).toInt ∧ (I 83 3).toInt ≤ 40) (h1 : (I 82 3).toInt < 0 → Q (some (.int (-11))) (SH0, RF0, I)) (h2 : 0 ≤ (I 82 3).toInt → (I 82 3).toInt ≠ t.toInt → Q (some (.int (-13))) (SH0, RF0, I)) (h3 : 0 ≤ (I 82 3).toInt → (I 82 3).toInt = t.toInt → (i.toInt < 0 ∨ (I 83 3).toInt ≤ i.toInt) → Q (some (.int (-12))) (SH0, RF0, I)) (h4 : 0 ≤ (I 82 3).toInt → (I 82 3).toInt = t.toInt → 0 ≤ i.toInt → i.toInt < (I 83 3).toInt → Q (some (.int (I 84 (120 + i.toInt.toNat)))) (SH0, RF0, I)) : gg (d + 2 + 1) mX12_item 0 (gent 5 [.ref 67, .int 3, .int t, .int i]) [] I Q := by
  have k0 : (0 : Int32).toInt = 0 := rfl
  have k4 : (4 : Int32).toInt = 4 := rfl
  have kz := t_sub1 hz.1
  refine G_iload_n (pc := 0) rfl dX12_item_0 ?_
  refine oX12_item_1 (d + 2) _ [.int 3] [] I _ _ mX12_isSheet mt_X12_isSheet rfl (lsi ls0) ls0 (by simp) (isSheet_G (d := d + 1) (by decide) ?_) (fun _ _ h => h)
  dsimp only [Option.toList, List.cons_append, List.nil_append]
  refine oX12_item_4 _ _ _ _ _ _ (fun c => absurd c (eqz (by decide))) (fun _ => ?_)
  refine G_iload_n (pc := 7) rfl dX12_item_7 ?_
  refine G_iconst (pc := 8) (v := 0) (by decide) dX12_item_8 ?_
  refine G_iconst (pc := 9) (v := 4) (by decide) dX12_item_9 ?_
  refine oX12_item_10 (d + 2) _ [.int t, .int 0, .int 4] [] I _ _ mX12_in1 mt_X12_in1 rfl (lsi (lsi (lsi ls0))) ls0 (by simp) (in1b_G (fun _ _ => ?_) (fun a => by omega)) (fun _ _ h => h)
  dsimp only [Option.toList, List.cons_append, List.nil_append]
  refine oX12_item_13 _ _ _ _ _ _ (fun _ => ?_) (fun c => absurd (nez (by decide)) c)
  refine G_aload_n (pc := 18) rfl dX12_item_18 ?_
  refine G_iload_n (pc := 19) rfl dX12_item_19 ?_
  refine G_iload_n (pc := 20) rfl dX12_item_20 ?_
  refine oX12_item_21 (d + 2) _ [.int 3, .int t] [] I _ _ 67 12 175 mX12_lacks rfl List.mem_cons_self mt_X12_lacks rfl (lsi (lsi ls0)) ls0 (by simp) (lacksM_3 (fun a => ?_) (fun a b => ?_) (fun a b => ?_)) (fun _ _ h => h)
  · dsimp only [Option.toList, List.cons_append, List.nil_append]
    refine G_istore (pc := 24) rfl rfl (by decide) dX12_item_24 ?_
    refine G_iload (pc := 26) rfl dX12_item_26 ?_
    refine oX12_item_28 _ _ _ _ _ _ (fun c => absurd c (eqz (by decide))) (fun _ => ?_)
    refine G_iload (pc := 31) rfl dX12_item_31 ?_
    refine G_goto (pc := 33) (tgt := 68) (by decide) dX12_item_33 ?_
    exact oX12_item_68 _ _ _ _ _ (h1 a)
  · dsimp only [Option.toList, List.cons_append, List.nil_append]
    refine G_istore (pc := 24) rfl rfl (by decide) dX12_item_24 ?_
    refine G_iload (pc := 26) rfl dX12_item_26 ?_
    refine oX12_item_28 _ _ _ _ _ _ (fun _ => ?_) (fun c => absurd rfl c)
    refine G_iload_n (pc := 36) rfl dX12_item_36 ?_
    refine G_iconst (pc := 37) (v := 0) (by decide) dX12_item_37 ?_
    refine G_aload_n (pc := 38) rfl dX12_item_38 ?_
    refine G_getR (pc := 39) (ci := 12) (j := 29) rfl lq_RX12_56 rfl rfl rfl dX12_item_39 ?_
    refine G_iload_n (pc := 42) rfl dX12_item_42 ?_
    refine G_iald (pc := 43) (jj := 3) rfl rfl rfl (a_vin (by decide) (by decide)) dX12_item_43 ?_
    refine G_iconst (pc := 44) (v := 1) (by decide) dX12_item_44 ?_
    refine G_isub (pc := 45) rfl dX12_item_45 ?_
    refine oX12_item_46 (d + 2) _ [.int i, .int 0, .int (I 83 3 - 1)] [] I _ _ mX12_in1 mt_X12_in1 rfl (lsi (lsi (lsi ls0))) ls0 (by simp) (in1b_G (fun e f => ?_) (fun e => ?_)) (fun _ _ h => h)
    · dsimp only [Option.toList, List.cons_append, List.nil_append]
      have e : 0 ≤ i.toInt := by omega
      have f : i.toInt < (I 83 3).toInt := by omega
      have ki : ((40 : Int32) * 3 + i).toInt = 120 + i.toInt := by
        rw [show (40 : Int32) * 3 = 120 by decide, Int32.toInt_add, show (120 : Int32).toInt = 120 from rfl]
        exact a_bm (by unfold aLo; omega) (by unfold aHi; omega)
      refine oX12_item_49 _ _ _ _ _ _ (fun c => absurd c (eqz (by decide))) (fun _ => ?_)
      refine G_aload_n (pc := 52) rfl dX12_item_52 ?_
      refine G_getR (pc := 53) (ci := 12) (j := 30) rfl lq_RX12_59 rfl rfl rfl dX12_item_53 ?_
      refine G_bipush (pc := 56) (v := 40) (by decide) dX12_item_56 ?_
      refine G_iload_n (pc := 58) rfl dX12_item_58 ?_
      refine G_imul (pc := 59) rfl dX12_item_59 ?_
      refine G_iload_n (pc := 60) rfl dX12_item_60 ?_
      refine G_iadd (pc := 61) rfl dX12_item_61 ?_
      refine G_iald (pc := 62) (jj := 120 + i.toInt.toNat) (by rw [a_nc, ki]; omega) rfl rfl (a_vin (by omega) (by omega)) dX12_item_62 ?_
      refine G_goto (pc := 63) (tgt := 68) (by decide) dX12_item_63 ?_
      exact oX12_item_68 _ _ _ _ _ (h4 a b e f)
    · dsimp only [Option.toList, List.cons_append, List.nil_append]
      refine oX12_item_49 _ _ _ _ _ _ (fun _ => ?_) (fun c => absurd rfl c)
      refine G_bipush (pc := 66) (v := (-12)) (by decide) dX12_item_66 ?_
      exact oX12_item_68 _ _ _ _ _ (h3 a b (by omega))
  · dsimp only [Option.toList, List.cons_append, List.nil_append]
    refine G_istore (pc := 24) rfl rfl (by decide) dX12_item_24 ?_
    refine G_iload (pc := 26) rfl dX12_item_26 ?_
    refine oX12_item_28 _ _ _ _ _ _ (fun c => absurd c (eqz (by decide))) (fun _ => ?_)
    refine G_iload (pc := 31) rfl dX12_item_31 ?_
    refine G_goto (pc := 33) (tgt := 68) (by decide) dX12_item_33 ?_
    exact oX12_item_68 _ _ _ _ _ (h2 a b)
