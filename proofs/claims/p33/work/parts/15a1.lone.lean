/-! ===== lone, liar: what each side answers ===== -/
theorem nez {v : Int32} (h : v.toInt ≠ 0) : crel 1 v.toInt 0 := h
theorem eqz {v : Int32} (h : v.toInt ≠ 0) : ¬ crel 0 v.toInt 0 := h
theorem lsr {c : Nat} {S : List Value} (h : aSG S) : aSG (.ref c :: S) := fun v hv => by
  rcases List.mem_cons.mp hv with rfl | hv
  · exact Or.inr ⟨c, rfl⟩
  · exact h v hv
theorem lsi {x : Int32} {S : List Value} (h : aSG S) : aSG (.int x :: S) := fun v hv => by
  rcases List.mem_cons.mp hv with rfl | hv
  · exact Or.inl ⟨x, rfl⟩
  · exact h v hv
theorem isIn_G {d : Nat} {x lo hi : Int32} {I : gI} {Q : Option Value → gH → Prop} (h1 : lo.toInt ≤ x.toInt → x.toInt ≤ hi.toInt → Q (some (.int 1)) (SH0, RF0, I)) (h0 : (x.toInt < lo.toInt ∨ hi.toInt < x.toInt) → Q (some (.int 0)) (SH0, RF0, I)) : gg d mX11_isIn 0 (gent 3 [.int x, .int lo, .int hi]) [] I Q := by
  refine G_iload_n (pc := 0) rfl dX11_isIn_0 ?_
  refine G_iload_n (pc := 1) rfl dX11_isIn_1 ?_
  refine oX11_isIn_2 _ _ _ _ _ _ _ (fun c => ?_) (fun c => ?_)
  · have c : x.toInt < lo.toInt := c
    refine G_iconst (pc := 14) (v := 0) (by decide) dX11_isIn_14 ?_
    exact oX11_isIn_15 _ _ _ _ _ (Or.inl rfl) (h0 (Or.inl c))
  · have c : ¬ x.toInt < lo.toInt := c
    refine G_iload_n (pc := 5) rfl dX11_isIn_5 ?_
    refine G_iload_n (pc := 6) rfl dX11_isIn_6 ?_
    refine oX11_isIn_7 _ _ _ _ _ _ _ (fun c2 => ?_) (fun c2 => ?_)
    · have c2 : hi.toInt < x.toInt := c2
      refine G_iconst (pc := 14) (v := 0) (by decide) dX11_isIn_14 ?_
      exact oX11_isIn_15 _ _ _ _ _ (Or.inl rfl) (h0 (Or.inr c2))
    · have c2 : ¬ hi.toInt < x.toInt := c2
      refine G_iconst (pc := 10) (v := 1) (by decide) dX11_isIn_10 ?_
      refine G_goto (pc := 11) (tgt := 15) (by decide) dX11_isIn_11 ?_
      exact oX11_isIn_15 _ _ _ _ _ (Or.inr rfl) (h1 (by omega) (by omega))
theorem in1b_G {d : Nat} {x lo hi : Int32} {I : gI} {Q : Option Value → gH → Prop} (h1 : lo.toInt ≤ x.toInt → x.toInt ≤ hi.toInt → Q (some (.int 1)) (SH0, RF0, I)) (h0 : (x.toInt < lo.toInt ∨ hi.toInt < x.toInt) → Q (some (.int 0)) (SH0, RF0, I)) : gg d mX12_in1 0 (gent 3 [.int x, .int lo, .int hi]) [] I Q := by
  refine G_iload_n (pc := 0) rfl dX12_in1_0 ?_
  refine G_iload_n (pc := 1) rfl dX12_in1_1 ?_
  refine oX12_in1_2 _ _ _ _ _ _ _ (fun c => ?_) (fun c => ?_)
  · have c : x.toInt < lo.toInt := c
    refine G_iconst (pc := 14) (v := 0) (by decide) dX12_in1_14 ?_
    exact oX12_in1_15 _ _ _ _ _ (Or.inl rfl) (h0 (Or.inl c))
  · have c : ¬ x.toInt < lo.toInt := c
    refine G_iload_n (pc := 5) rfl dX12_in1_5 ?_
    refine G_iload_n (pc := 6) rfl dX12_in1_6 ?_
    refine oX12_in1_7 _ _ _ _ _ _ _ (fun c2 => ?_) (fun c2 => ?_)
    · have c2 : hi.toInt < x.toInt := c2
      refine G_iconst (pc := 14) (v := 0) (by decide) dX12_in1_14 ?_
      exact oX12_in1_15 _ _ _ _ _ (Or.inl rfl) (h0 (Or.inr c2))
    · have c2 : ¬ hi.toInt < x.toInt := c2
      refine G_iconst (pc := 10) (v := 1) (by decide) dX12_in1_10 ?_
      refine G_goto (pc := 11) (tgt := 15) (by decide) dX12_in1_11 ?_
      exact oX12_in1_15 _ _ _ _ _ (Or.inr rfl) (h1 (by omega) (by omega))
theorem max_G {M : gM} {pc n d : Nat} {z : Int} {ps : List (Int × Nat)} {L : gL} {S : List Value} {I : gI} {Q : Option Value → gH → Prop} {x y w : Int32} (ho : oP MT M pc (27, n, 0, z, ps)) (hS : aSG S) (hl : S.length ≤ 8) (e : (if x < y then y else x) = w) (k : gg (d + 1) M (pc + n) L (.int w :: S) I Q) : gg (d + 1) M pc L (.int y :: .int x :: S) I Q := by
  have h := ho d L S I Q x y hS hl
  rw [if_pos (rfl : (0 : Nat) = 0), e] at h
  exact h k
theorem min_G {M : gM} {pc n d : Nat} {z : Int} {ps : List (Int × Nat)} {L : gL} {S : List Value} {I : gI} {Q : Option Value → gH → Prop} {x y w : Int32} (ho : oP MT M pc (27, n, 1, z, ps)) (hS : aSG S) (hl : S.length ≤ 8) (e : (if y < x then y else x) = w) (k : gg (d + 1) M (pc + n) L (.int w :: S) I Q) : gg (d + 1) M pc L (.int y :: .int x :: S) I Q := by
  have h := ho d L S I Q x y hS hl
  rw [if_neg (by decide : ¬ (1 : Nat) = 0), e] at h
  exact h k
theorem Qe {Q : Option Value → gH → Prop} {x y : Int32} {h : gH} (e : x = y) (hq : Q (some (.int y)) h) : Q (some (.int x)) h := e ▸ hq
/-- what a key melts, how it is shaped, teeth a halt later, by kind -/
def mlt (kd s h : Nat) : Nat := match kd with
  | 1 => 0
  | 2 => 2 * (3 + 2 * (s / 4)) - s % 4
  | 3 => (2 * (3 + 2 * (s / 4)) - s % 4) / 2
  | 4 => (s / 4) * (s / 4)
  | 5 => (s / 4) * (s / 4) + h / 3
  | _ => 3 + 2 * (s / 4)
def shp (kd t st : Nat) : Nat := match kd with
  | 1 => 5
  | 2 => t / 10 + t / 50
  | 3 => (t / 10 + t / 50) - st / 4
  | 4 => t / 12
  | 5 => if 9 < t / 12 then 9 else t / 12
  | _ => t / 10
def tN (sun : Nat → Nat) (kd st t0 : Nat) : Nat → Nat
  | 0 => t0
  | h + 1 => tN sun kd st t0 h - (mlt kd (sun h) h - st / 3)
theorem tN_le {sun : Nat → Nat} {kd st t0 : Nat} (h0 : t0 < 100) : ∀ h, tN sun kd st t0 h < 100
  | 0 => h0
  | h + 1 => by
    have := tN_le (sun := sun) (kd := kd) (st := st) h0 h
    show tN sun kd st t0 h - _ < 100
    omega
def inr (a b w : Int) : Bool := decide (a ≤ w) && decide (w ≤ b)
/-- whether a report is so of a lone key -/
def okN (sun : Nat → Nat) (rp : Nat → Nat → Int) (kd st t0 r : Nat) : Bool := inr (rp r 2) (rp r 3) (if rp r 1 = 0 then (tN sun kd st t0 (rp r 0).toNat : Int) else (shp kd (tN sun kd st t0 (rp r 0).toNat) st : Int))
def lnK (i : Nat) : Nat := 1 + i / 100
def lnS (i : Nat) : Nat := i / 10 % 10
def lnT (i : Nat) : Nat := 9 + 10 * (i % 10)
def okI (sun : Nat → Nat) (rp : Nat → Nat → Int) (i r : Nat) : Bool := okN sun rp (lnK i) (lnS i) (lnT i) r
theorem e_q4 : ∀ s, s < 16 → Int32.ofNat s / 4 = Int32.ofNat (s / 4) := by decide +kernel
theorem e_r4 : ∀ s, s < 16 → Int32.ofNat s - Int32.ofNat s / 4 * 4 = Int32.ofNat (s % 4) := by decide +kernel
theorem e_k : ∀ s, s < 16 → 3 + 2 * Int32.ofNat (s / 4) = Int32.ofNat (3 + 2 * (s / 4)) := by decide +kernel
theorem e_s1 : ∀ s, s < 16 → 2 * Int32.ofNat (3 + 2 * (s / 4)) - Int32.ofNat (s % 4) = Int32.ofNat (2 * (3 + 2 * (s / 4)) - s % 4) := by decide +kernel
theorem e_s0 : ∀ v, v < 50 → (if (0 : Int32) < Int32.ofNat v then Int32.ofNat v else 0) = Int32.ofNat v := by decide +kernel
theorem e_h2 : ∀ v, v < 50 → Int32.ofNat v / 2 = Int32.ofNat (v / 2) := by decide +kernel
theorem e_sq : ∀ v, v < 4 → Int32.ofNat v * Int32.ofNat v = Int32.ofNat (v * v) := by decide +kernel
theorem e_h3 : ∀ v, v < 16 → Int32.ofNat v / 3 = Int32.ofNat (v / 3) := by decide +kernel
theorem e_st : ∀ m, m < 25 → ∀ st, st < 10 → (if (0 : Int32) < Int32.ofNat m - Int32.ofNat st / 3 then Int32.ofNat m - Int32.ofNat st / 3 else 0) = Int32.ofNat (m - st / 3) := by decide +kernel
theorem e_tt : ∀ t, t < 100 → ∀ x, x < 25 → (if (0 : Int32) < Int32.ofNat t - Int32.ofNat x then Int32.ofNat t - Int32.ofNat x else 0) = Int32.ofNat (t - x) := by decide +kernel
theorem e_t10 : ∀ t, t < 100 → Int32.ofNat t / 10 = Int32.ofNat (t / 10) := by decide +kernel
theorem e_t50 : ∀ t, t < 100 → Int32.ofNat (t / 10) + Int32.ofNat t / 50 = Int32.ofNat (t / 10 + t / 50) := by decide +kernel
theorem e_t12 : ∀ t, t < 100 → Int32.ofNat t / 12 = Int32.ofNat (t / 12) := by decide +kernel
theorem e_s4 : ∀ v, v < 12 → ∀ st, st < 10 → (if (0 : Int32) < Int32.ofNat v - Int32.ofNat st / 4 then Int32.ofNat v - Int32.ofNat st / 4 else 0) = Int32.ofNat (v - st / 4) := by decide +kernel
theorem e_m9 : ∀ v, v < 12 → (if Int32.ofNat v + 0 < (9 : Int32) then Int32.ofNat v + 0 else 9) = Int32.ofNat (if 9 < v then 9 else v) := by decide +kernel
theorem mlt_le : ∀ kd, kd < 6 → ∀ s, s < 16 → ∀ h, h < 16 → mlt kd s h < 25 := by decide +kernel
theorem shp_le : ∀ kd, kd < 6 → ∀ t, t < 100 → ∀ st, st < 10 → shp kd t st < 12 := by decide +kernel
set_option maxRecDepth 100000 in
set_option maxHeartbeats 4000000 in
theorem sunAt_G {d h sn : Nat} {I : gI} {Q : Option Value → gH → Prop} (hh : h < 16) (hs : I 20 h = Int32.ofNat sn) (hQ : Q (some (.int (Int32.ofNat sn))) (SH0, RF0, I)) : gg d mX1_sunAt 0 (gent 2 [.ref 19, .int (Int32.ofNat h)]) [] I Q := by
  have kh : (Int32.ofNat h).toInt = h := n_int (by omega)
  have k16 : (16 : Int32).toInt = 16 := rfl
  refine G_iload_n (pc := 0) rfl dX1_sunAt_0 ?_
  refine oX1_sunAt_1 _ _ _ _ _ _ (fun c1 => absurd c1 (by show ¬ ((Int32.ofNat h).toInt < 0); omega)) (fun c1 => ?_)
  refine G_iload_n (pc := 4) rfl dX1_sunAt_4 ?_
  refine G_bipush (pc := 5) (v := 16) (by decide) dX1_sunAt_5 ?_
  refine oX1_sunAt_7 _ _ _ _ _ _ _ (fun c7 => absurd c7 (by show ¬ ((16 : Int32).toInt ≤ (Int32.ofNat h).toInt); omega)) (fun c7 => ?_)
  refine G_aload_n (pc := 10) rfl dX1_sunAt_10 ?_
  refine G_getR (pc := 11) (ci := 1) (j := 5) rfl lq_RX1_18 rfl rfl rfl dX1_sunAt_11 ?_
  refine G_iload_n (pc := 14) rfl dX1_sunAt_14 ?_
  refine G_iald (pc := 15) (jj := h) (by rw [a_nc, kh, Int.toNat_natCast]) hs rfl (a_vin (by omega) (by omega)) dX1_sunAt_15 ?_
  refine G_goto (pc := 16) (tgt := 20) (by decide) dX1_sunAt_16 ?_
  exact oX1_sunAt_20 _ _ _ _ _ hQ
set_option maxRecDepth 100000 in
set_option maxHeartbeats 4000000 in
theorem heatAt_G {d h s : Nat} {I : gI} {Q : Option Value → gH → Prop} (hh : h < 16) (hb : s < 16) (hs : I 20 h = Int32.ofNat s) (hQ : Q (some (.int (Int32.ofNat (s / 4)))) (SH0, RF0, I)) : gg (d + 1) mX1_heatAt 0 (gent 2 [.ref 19, .int (Int32.ofNat h)]) [] I Q := by
  refine G_aload_n (pc := 0) rfl dX1_heatAt_0 ?_
  refine G_iload_n (pc := 1) rfl dX1_heatAt_1 ?_
  refine oX1_heatAt_2 d _ [.int _] [] I _ _ 19 1 2 mX1_sunAt rfl List.mem_cons_self mt_X1_sunAt rfl (lsi ls0) ls0 (by simp) (sunAt_G hh hs ?_) (fun _ _ h => h)
  dsimp only [Option.toList, List.cons_append, List.nil_append]
  refine G_iconst (pc := 5) (v := 4) (by decide) dX1_heatAt_5 ?_
  refine G_idiv (pc := 6) (e_q4 s hb) (by decide) dX1_heatAt_6 ?_
  exact oX1_heatAt_7 _ _ _ _ _ hQ
set_option maxRecDepth 100000 in
set_option maxHeartbeats 4000000 in
theorem shadeAt_G {d h s : Nat} {I : gI} {Q : Option Value → gH → Prop} (hh : h < 16) (hb : s < 16) (hs : I 20 h = Int32.ofNat s) (hQ : Q (some (.int (Int32.ofNat (s % 4)))) (SH0, RF0, I)) : gg (d + 1) mX1_shadeAt 0 (gent 2 [.ref 19, .int (Int32.ofNat h)]) [] I Q := by
  refine G_aload_n (pc := 0) rfl dX1_shadeAt_0 ?_
  refine G_iload_n (pc := 1) rfl dX1_shadeAt_1 ?_
  refine oX1_shadeAt_2 d _ [.int _] [] I _ _ 19 1 2 mX1_sunAt rfl List.mem_cons_self mt_X1_sunAt rfl (lsi ls0) ls0 (by simp) (sunAt_G hh hs ?_) (fun _ _ h => h)
  dsimp only [Option.toList, List.cons_append, List.nil_append]
  refine G_iconst (pc := 5) (v := 4) (by decide) dX1_shadeAt_5 ?_
  refine G_irem (pc := 6) (e_r4 s hb) (by decide) dX1_shadeAt_6 ?_
  exact oX1_shadeAt_7 _ _ _ _ _ hQ
set_option maxRecDepth 100000 in
set_option maxHeartbeats 4000000 in
theorem me0 {d c s h : Nat} {I : gI} {Q : Option Value → gH → Prop} (hs : s < 16) (hh : h < 16) (hQ : Q (some (.int (Int32.ofNat (mlt 0 s h)))) (SH0, RF0, I)) : gg d mX3_melts 0 (gent 4 [.ref c, .int (Int32.ofNat (s / 4)), .int (Int32.ofNat (s % 4)), .int (Int32.ofNat h)]) [] I Q := by
  refine G_iconst (pc := 0) (v := 3) (by decide) dX3_melts_0 ?_
  refine G_iconst (pc := 1) (v := 2) (by decide) dX3_melts_1 ?_
  refine G_iload_n (pc := 2) rfl dX3_melts_2 ?_
  refine G_imul (pc := 3) rfl dX3_melts_3 ?_
  refine G_iadd (pc := 4) (e_k s hs) dX3_melts_4 ?_
  exact oX3_melts_5 _ _ _ _ _ hQ
set_option maxRecDepth 100000 in
set_option maxHeartbeats 4000000 in
theorem me1 {d c s h : Nat} {I : gI} {Q : Option Value → gH → Prop} (hs : s < 16) (hh : h < 16) (hQ : Q (some (.int (Int32.ofNat (mlt 1 s h)))) (SH0, RF0, I)) : gg d mX2_melts 0 (gent 4 [.ref c, .int (Int32.ofNat (s / 4)), .int (Int32.ofNat (s % 4)), .int (Int32.ofNat h)]) [] I Q := by
  refine G_iconst (pc := 0) (v := 0) (by decide) dX2_melts_0 ?_
  exact oX2_melts_1 _ _ _ _ _ hQ
set_option maxRecDepth 100000 in
set_option maxHeartbeats 4000000 in
theorem me2_15 {d s h : Nat} {I : gI} {Q : Option Value → gH → Prop} (hs : s < 16) (hh : h < 16) (hQ : Q (some (.int (Int32.ofNat (mlt 2 s h)))) (SH0, RF0, I)) : gg (d + 1) mX8_melts 0 (gent 4 [.ref 15, .int (Int32.ofNat (s / 4)), .int (Int32.ofNat (s % 4)), .int (Int32.ofNat h)]) [] I Q := by
  refine G_iconst (pc := 0) (v := 0) (by decide) dX8_melts_0 ?_
  refine G_iconst (pc := 1) (v := 2) (by decide) dX8_melts_1 ?_
  refine G_aload_n (pc := 2) rfl dX8_melts_2 ?_
  refine G_iload_n (pc := 3) rfl dX8_melts_3 ?_
  refine G_iload_n (pc := 4) rfl dX8_melts_4 ?_
  refine G_iload_n (pc := 5) rfl dX8_melts_5 ?_
  refine oX8_melts_6 d _ [.int _, .int _, .int _] [.int _, .int _] I _ _ 15 8 5 mX3_melts rfl List.mem_cons_self mt_X3_melts rfl (lsi (lsi (lsi ls0))) (lsi (lsi ls0)) (by simp) (me0 hs hh ?_) (fun _ _ h => h)
  dsimp only [Option.toList, List.cons_append, List.nil_append]
  refine G_imul (pc := 9) rfl dX8_melts_9 ?_
  refine G_iload_n (pc := 10) rfl dX8_melts_10 ?_
  refine G_isub (pc := 11) (e_s1 s hs) dX8_melts_11 ?_
  refine max_G oX8_melts_12 ls0 (by simp) (e_s0 _ (by omega)) ?_
  exact oX8_melts_15 _ _ _ _ _ hQ
set_option maxRecDepth 100000 in
set_option maxHeartbeats 4000000 in
theorem me2_16 {d s h : Nat} {I : gI} {Q : Option Value → gH → Prop} (hs : s < 16) (hh : h < 16) (hQ : Q (some (.int (Int32.ofNat (mlt 2 s h)))) (SH0, RF0, I)) : gg (d + 1) mX8_melts 0 (gent 4 [.ref 16, .int (Int32.ofNat (s / 4)), .int (Int32.ofNat (s % 4)), .int (Int32.ofNat h)]) [] I Q := by
  refine G_iconst (pc := 0) (v := 0) (by decide) dX8_melts_0 ?_
  refine G_iconst (pc := 1) (v := 2) (by decide) dX8_melts_1 ?_
  refine G_aload_n (pc := 2) rfl dX8_melts_2 ?_
  refine G_iload_n (pc := 3) rfl dX8_melts_3 ?_
  refine G_iload_n (pc := 4) rfl dX8_melts_4 ?_
  refine G_iload_n (pc := 5) rfl dX8_melts_5 ?_
  refine oX8_melts_6 d _ [.int _, .int _, .int _] [.int _, .int _] I _ _ 16 10 5 mX3_melts rfl (by simp) mt_X3_melts rfl (lsi (lsi (lsi ls0))) (lsi (lsi ls0)) (by simp) (me0 hs hh ?_) (fun _ _ h => h)
  dsimp only [Option.toList, List.cons_append, List.nil_append]
  refine G_imul (pc := 9) rfl dX8_melts_9 ?_
  refine G_iload_n (pc := 10) rfl dX8_melts_10 ?_
  refine G_isub (pc := 11) (e_s1 s hs) dX8_melts_11 ?_
  refine max_G oX8_melts_12 ls0 (by simp) (e_s0 _ (by omega)) ?_
  exact oX8_melts_15 _ _ _ _ _ hQ
set_option maxRecDepth 100000 in
set_option maxHeartbeats 4000000 in
theorem me3 {d s h : Nat} {I : gI} {Q : Option Value → gH → Prop} (hs : s < 16) (hh : h < 16) (hQ : Q (some (.int (Int32.ofNat (mlt 3 s h)))) (SH0, RF0, I)) : gg (d + 1 + 1) mX10_melts 0 (gent 4 [.ref 16, .int (Int32.ofNat (s / 4)), .int (Int32.ofNat (s % 4)), .int (Int32.ofNat h)]) [] I Q := by
  refine G_aload_n (pc := 0) rfl dX10_melts_0 ?_
  refine G_iload_n (pc := 1) rfl dX10_melts_1 ?_
  refine G_iload_n (pc := 2) rfl dX10_melts_2 ?_
  refine G_iload_n (pc := 3) rfl dX10_melts_3 ?_
  refine oX10_melts_4 (d + 1) _ [.int _, .int _, .int _] [] I _ _ 16 10 7 mX8_melts rfl List.mem_cons_self mt_X8_melts rfl (lsi (lsi (lsi ls0))) ls0 (by simp) (me2_16 (d := d) hs hh ?_) (fun _ _ h => h)
  dsimp only [Option.toList, List.cons_append, List.nil_append]
  refine G_iconst (pc := 7) (v := 2) (by decide) dX10_melts_7 ?_
  refine G_idiv (pc := 8) (e_h2 _ (by show mlt 2 s h < 50; have := mlt_le 2 (by decide) s hs h hh; omega)) (by decide) dX10_melts_8 ?_
  exact oX10_melts_9 _ _ _ _ _ hQ
set_option maxRecDepth 100000 in
set_option maxHeartbeats 4000000 in
theorem me4 {d c s h : Nat} {I : gI} {Q : Option Value → gH → Prop} (hs : s < 16) (hh : h < 16) (hQ : Q (some (.int (Int32.ofNat (mlt 4 s h)))) (SH0, RF0, I)) : gg d mX7_melts 0 (gent 4 [.ref c, .int (Int32.ofNat (s / 4)), .int (Int32.ofNat (s % 4)), .int (Int32.ofNat h)]) [] I Q := by
  refine G_iload_n (pc := 0) rfl dX7_melts_0 ?_
  refine G_iload_n (pc := 1) rfl dX7_melts_1 ?_
  refine G_imul (pc := 2) (e_sq _ (by omega)) dX7_melts_2 ?_
  exact oX7_melts_3 _ _ _ _ _ hQ
set_option maxRecDepth 100000 in
set_option maxHeartbeats 4000000 in
theorem me5 {d s h : Nat} {I : gI} {Q : Option Value → gH → Prop} (hs : s < 16) (hh : h < 16) (hQ : Q (some (.int (Int32.ofNat (mlt 5 s h)))) (SH0, RF0, I)) : gg (d + 1) mX9_melts 0 (gent 4 [.ref 18, .int (Int32.ofNat (s / 4)), .int (Int32.ofNat (s % 4)), .int (Int32.ofNat h)]) [] I Q := by
  refine G_aload_n (pc := 0) rfl dX9_melts_0 ?_
  refine G_iload_n (pc := 1) rfl dX9_melts_1 ?_
  refine G_iload_n (pc := 2) rfl dX9_melts_2 ?_
  refine G_iload_n (pc := 3) rfl dX9_melts_3 ?_
  refine oX9_melts_4 d _ [.int _, .int _, .int _] [] I _ _ 18 9 6 mX7_melts rfl List.mem_cons_self mt_X7_melts rfl (lsi (lsi (lsi ls0))) ls0 (by simp) (me4 hs hh ?_) (fun _ _ h => h)
  dsimp only [Option.toList, List.cons_append, List.nil_append]
  refine G_iload_n (pc := 7) rfl dX9_melts_7 ?_
  refine G_iconst (pc := 8) (v := 3) (by decide) dX9_melts_8 ?_
  refine G_idiv (pc := 9) (e_h3 h hh) (by decide) dX9_melts_9 ?_
  refine G_iadd (pc := 10) n_add dX9_melts_10 ?_
  exact oX9_melts_11 _ _ _ _ _ hQ
set_option maxRecDepth 100000 in
set_option maxHeartbeats 4000000 in
theorem sh1 {d c t st : Nat} {I : gI} {Q : Option Value → gH → Prop} (ht : t < 100) (hst : st < 10) (hQ : Q (some (.int (Int32.ofNat (shp 1 t st)))) (SH0, RF0, I)) : gg d mX2_shape 0 (gent 4 [.ref c, .int (Int32.ofNat t), .int (Int32.ofNat st), .int 0]) [] I Q := by
  refine G_iconst (pc := 0) (v := 5) (by decide) dX2_shape_0 ?_
  exact oX2_shape_1 _ _ _ _ _ hQ
set_option maxRecDepth 100000 in
set_option maxHeartbeats 4000000 in
theorem sh2 {d c t st : Nat} {I : gI} {Q : Option Value → gH → Prop} (ht : t < 100) (hst : st < 10) (hQ : Q (some (.int (Int32.ofNat (shp 2 t st)))) (SH0, RF0, I)) : gg d mX8_shape 0 (gent 4 [.ref c, .int (Int32.ofNat t), .int (Int32.ofNat st), .int 0]) [] I Q := by
  refine G_iload_n (pc := 0) rfl dX8_shape_0 ?_
  refine G_bipush (pc := 1) (v := 10) (by decide) dX8_shape_1 ?_
  refine G_idiv (pc := 3) (e_t10 t ht) (by decide) dX8_shape_3 ?_
  refine G_iload_n (pc := 4) rfl dX8_shape_4 ?_
  refine G_bipush (pc := 5) (v := 50) (by decide) dX8_shape_5 ?_
  refine G_idiv (pc := 7) rfl (by decide) dX8_shape_7 ?_
  refine G_iadd (pc := 8) (e_t50 t ht) dX8_shape_8 ?_
  exact oX8_shape_9 _ _ _ _ _ hQ
set_option maxRecDepth 100000 in
set_option maxHeartbeats 4000000 in
theorem sh3 {d t st : Nat} {I : gI} {Q : Option Value → gH → Prop} (ht : t < 100) (hst : st < 10) (hQ : Q (some (.int (Int32.ofNat (shp 3 t st)))) (SH0, RF0, I)) : gg (d + 1) mX10_shape 0 (gent 4 [.ref 16, .int (Int32.ofNat t), .int (Int32.ofNat st), .int 0]) [] I Q := by
  refine G_iconst (pc := 0) (v := 0) (by decide) dX10_shape_0 ?_
  refine G_aload_n (pc := 1) rfl dX10_shape_1 ?_
  refine G_iload_n (pc := 2) rfl dX10_shape_2 ?_
  refine G_iload_n (pc := 3) rfl dX10_shape_3 ?_
  refine G_iload_n (pc := 4) rfl dX10_shape_4 ?_
  refine oX10_shape_5 d _ [.int _, .int _, .int _] [.int _] I _ _ 16 10 15 mX8_shape rfl List.mem_cons_self mt_X8_shape rfl (lsi (lsi (lsi ls0))) (lsi ls0) (by simp) (sh2 ht hst ?_) (fun _ _ h => h)
  dsimp only [Option.toList, List.cons_append, List.nil_append]
  refine G_iload_n (pc := 8) rfl dX10_shape_8 ?_
  refine G_iconst (pc := 9) (v := 4) (by decide) dX10_shape_9 ?_
  refine G_idiv (pc := 10) rfl (by decide) dX10_shape_10 ?_
  refine G_isub (pc := 11) rfl dX10_shape_11 ?_
  refine max_G oX10_shape_12 ls0 (by simp) (e_s4 _ (shp_le 2 (by decide) t ht st hst) st hst) ?_
  exact oX10_shape_15 _ _ _ _ _ hQ
set_option maxRecDepth 100000 in
set_option maxHeartbeats 4000000 in
theorem sh4 {d c t st : Nat} {I : gI} {Q : Option Value → gH → Prop} (ht : t < 100) (hst : st < 10) (hQ : Q (some (.int (Int32.ofNat (shp 4 t st)))) (SH0, RF0, I)) : gg d mX7_shape 0 (gent 4 [.ref c, .int (Int32.ofNat t), .int (Int32.ofNat st), .int 0]) [] I Q := by
  refine G_iload_n (pc := 0) rfl dX7_shape_0 ?_
  refine G_bipush (pc := 1) (v := 12) (by decide) dX7_shape_1 ?_
  refine G_idiv (pc := 3) (e_t12 t ht) (by decide) dX7_shape_3 ?_
  exact oX7_shape_4 _ _ _ _ _ hQ
set_option maxRecDepth 100000 in
set_option maxHeartbeats 4000000 in
theorem sh5 {d t st : Nat} {I : gI} {Q : Option Value → gH → Prop} (ht : t < 100) (hst : st < 10) (hQ : Q (some (.int (Int32.ofNat (shp 5 t st)))) (SH0, RF0, I)) : gg (d + 1) mX9_shape 0 (gent 4 [.ref 18, .int (Int32.ofNat t), .int (Int32.ofNat st), .int 0]) [] I Q := by
  refine G_bipush (pc := 0) (v := 9) (by decide) dX9_shape_0 ?_
  refine G_aload_n (pc := 2) rfl dX9_shape_2 ?_
  refine G_iload_n (pc := 3) rfl dX9_shape_3 ?_
  refine G_iload_n (pc := 4) rfl dX9_shape_4 ?_
  refine G_iload_n (pc := 5) rfl dX9_shape_5 ?_
  refine oX9_shape_6 d _ [.int _, .int _, .int _] [.int _] I _ _ 18 9 14 mX7_shape rfl List.mem_cons_self mt_X7_shape rfl (lsi (lsi (lsi ls0))) (lsi ls0) (by simp) (sh4 ht hst ?_) (fun _ _ h => h)
  dsimp only [Option.toList, List.cons_append, List.nil_append]
  refine G_iload_n (pc := 9) rfl dX9_shape_9 ?_
  refine G_iadd (pc := 10) rfl dX9_shape_10 ?_
  refine min_G oX9_shape_11 ls0 (by simp) (e_m9 _ (shp_le 4 (by decide) t ht st hst)) ?_
  exact oX9_shape_14 _ _ _ _ _ hQ
theorem e_m4 : ∀ k, k < 6 → Int32.ofNat k * 4 = Int32.ofNat (4 * k) := by decide +kernel
theorem e_bit : ∀ a, a < 64 → ∀ k, k < 6 → Int32.ofNat a ||| ((1 : Int32) <<< (Int32.ofNat k &&& 31)) = Int32.ofNat (a ||| 2 ^ k) := by decide +kernel
theorem e_or : ∀ a, a < 64 → ∀ b, b < 64 → Int32.ofNat a ||| Int32.ofNat b = Int32.ofNat (a ||| b) := by decide +kernel
theorem n_add1 {k : Nat} : Int32.ofNat k + 1 = Int32.ofNat (k + 1) := n_add
theorem n_add2 {k : Nat} : Int32.ofNat k + 2 = Int32.ofNat (k + 2) := n_add
theorem n_add3 {k : Nat} : Int32.ofNat k + 3 = Int32.ofNat (k + 3) := n_add
theorem n_jj {k : Nat} (h : k < 1000) : (Int32.ofNat k).toNatClampNeg = k := by rw [a_nc, n_int h, Int.toNat_natCast]
def fA (rp : Nat → Nat → Int) (h t sh : Nat) (r : Nat) : Bool := decide (rp r 0 = h) && !inr (rp r 2) (rp r 3) (if rp r 1 = 0 then (t : Int) else (sh : Int))
theorem fA_ne {rp : Nat → Nat → Int} {h t sh k : Nat} (h0 : rp k 0 ≠ h) : fA rp h t sh k = false := by simp [fA, h0]
theorem fA_in {rp : Nat → Nat → Int} {h t sh k : Nat} {w : Int} (hw : (if rp k 1 = 0 then (t : Int) else (sh : Int)) = w) (h1 : rp k 2 ≤ w) (h2 : w ≤ rp k 3) : fA rp h t sh k = false := by
  unfold fA inr
  rw [hw, decide_eq_true h1, decide_eq_true h2]
  simp
theorem fA_out {rp : Nat → Nat → Int} {h t sh k : Nat} {w : Int} (h0 : rp k 0 = h) (hw : (if rp k 1 = 0 then (t : Int) else (sh : Int)) = w) (hx : w < rp k 2 ∨ rp k 3 < w) : fA rp h t sh k = true := by
  unfold fA inr
  rw [hw, decide_eq_true h0]
  rcases hx with hx | hx
  · rw [decide_eq_false (by omega : ¬ rp k 2 ≤ w)]
    rfl
  · rw [decide_eq_false (by omega : ¬ w ≤ rp k 3)]
    simp
theorem bit_skip {a k : Nat} {f : Nat → Bool} (h : ∀ r, a.testBit r = (decide (r < k) && f r)) (hf : f k = false) : ∀ r, a.testBit r = (decide (r < k + 1) && f r) := fun r => by
  rw [h r]
  by_cases e : r = k
  · rw [e, hf]
    simp
  · by_cases e2 : r < k
    · rw [decide_eq_true e2, decide_eq_true (by omega : r < k + 1)]
    · rw [decide_eq_false e2, decide_eq_false (by omega : ¬ r < k + 1)]
theorem bit_set {a k : Nat} {f : Nat → Bool} (h : ∀ r, a.testBit r = (decide (r < k) && f r)) (hf : f k = true) : ∀ r, (a ||| 2 ^ k).testBit r = (decide (r < k + 1) && f r) := fun r => by
  rw [Nat.testBit_or, h r, Nat.testBit_two_pow]
  by_cases e : r = k
  · rw [e, hf]
    simp
  · rw [decide_eq_false (by omega : ¬ k = r), Bool.or_false]
    by_cases e2 : r < k
    · rw [decide_eq_true e2, decide_eq_true (by omega : r < k + 1)]
    · rw [decide_eq_false e2, decide_eq_false (by omega : ¬ r < k + 1)]
theorem or_64 {a b : Nat} (ha : a < 64) (hb : b < 64) : a ||| b < 64 := Nat.or_lt_two_pow (n := 6) ha hb
theorem pow_64 {k : Nat} (hk : k < 6) : 2 ^ k < 64 := by
  rcases (by omega : k = 0 ∨ k = 1 ∨ k = 2 ∨ k = 3 ∨ k = 4 ∨ k = 5) with rfl | rfl | rfl | rfl | rfl | rfl <;> decide
set_option maxRecDepth 100000 in
set_option maxHeartbeats 4000000 in
theorem misAt_loop {d h t sh n : Nat} {rp : Nat → Nat → Int} {I : gI} {Q : Option Value → gH → Prop} (hn : n ≤ 6) (hcnt : I 19 16 = Int32.ofNat n) (hrp : ∀ r k, r < 6 → k < 4 → (I 32 (4 * r + k)).toInt = rp r k) (hh : h < 16) (ht : t < 100) (hsh : sh < 12) (hQ : ∀ a, a < 64 → (∀ r, a.testBit r = (decide (r < n) && fA rp h t sh r)) → Q (some (.int (Int32.ofNat a))) (SH0, RF0, I)) : ∀ (g k a : Nat), k + g = n → a < 64 → (∀ r, a.testBit r = (decide (r < k) && fA rp h t sh r)) → gg (d + 1) mX1_misfitsAt 6 [some (.ref 19), some (.int (Int32.ofNat h)), some (.int (Int32.ofNat t)), some (.int (Int32.ofNat sh)), some (.int (Int32.ofNat a)), some (.int (Int32.ofNat k)), none, none] [] I Q := by
  have hcn : (I 19 16).toInt = n := by rw [hcnt]; exact n_int (by omega)
  have kh : (Int32.ofNat h).toInt = h := n_int (by omega)
  have kt : (Int32.ofNat t).toInt = t := n_int (by omega)
  have ks : (Int32.ofNat sh).toInt = sh := n_int (by omega)
  intro g
  induction g with
  | zero =>
    intro k a hk ha hb
    have e : k = n := by omega
    subst e
    have kk : (Int32.ofNat k).toInt = k := n_int (by omega)
    refine G_iload (pc := 6) rfl dX1_misfitsAt_6 ?_
    refine G_aload_n (pc := 8) rfl dX1_misfitsAt_8 ?_
    refine G_getI (pc := 9) (ci := 1) (j := 16) rfl rfl lq_RX1_82 rfl rfl dX1_misfitsAt_9 ?_
    refine oX1_misfitsAt_12 _ _ _ _ _ _ _ (fun c12 => ?_) (fun c12 => absurd (by show (I 19 16).toInt ≤ (Int32.ofNat k).toInt; omega) c12)
    refine G_iload (pc := 92) rfl dX1_misfitsAt_92 ?_
    exact oX1_misfitsAt_94 _ _ _ _ _ (hQ a ha hb)
  | succ g ih =>
    intro k a hk ha hb
    have kk : (Int32.ofNat k).toInt = k := n_int (by omega)
    have r0 : (I 32 (4 * k)).toInt = rp k 0 := hrp k 0 (by omega) (by decide)
    have r1 : (I 32 (4 * k + 1)).toInt = rp k 1 := hrp k 1 (by omega) (by decide)
    have r2 : (I 32 (4 * k + 2)).toInt = rp k 2 := hrp k 2 (by omega) (by decide)
    have r3 : (I 32 (4 * k + 3)).toInt = rp k 3 := hrp k 3 (by omega) (by decide)
    refine G_iload (pc := 6) rfl dX1_misfitsAt_6 ?_
    refine G_aload_n (pc := 8) rfl dX1_misfitsAt_8 ?_
    refine G_getI (pc := 9) (ci := 1) (j := 16) rfl rfl lq_RX1_82 rfl rfl dX1_misfitsAt_9 ?_
    refine oX1_misfitsAt_12 _ _ _ _ _ _ _ (fun c12 => absurd c12 (by show ¬ ((I 19 16).toInt ≤ (Int32.ofNat k).toInt); omega)) (fun c12 => ?_)
    refine G_iload (pc := 15) rfl dX1_misfitsAt_15 ?_
    refine G_iconst (pc := 17) (v := 4) (by decide) dX1_misfitsAt_17 ?_
    refine G_imul (pc := 18) (e_m4 k (by omega)) dX1_misfitsAt_18 ?_
    refine G_istore (pc := 19) rfl rfl (by decide) dX1_misfitsAt_19 ?_
    refine G_aload_n (pc := 21) rfl dX1_misfitsAt_21 ?_
    refine G_getR (pc := 22) (ci := 1) (j := 15) rfl lq_RX1_47 rfl rfl rfl dX1_misfitsAt_22 ?_
    refine G_iload (pc := 25) rfl dX1_misfitsAt_25 ?_
    refine G_iconst (pc := 27) (v := 1) (by decide) dX1_misfitsAt_27 ?_
    refine G_iadd (pc := 28) n_add1 dX1_misfitsAt_28 ?_
    refine G_iald (pc := 29) (jj := 4 * k + 1) (n_jj (by omega)) rfl rfl (n_in (by omega) (by omega)) dX1_misfitsAt_29 ?_
    refine oX1_misfitsAt_30 _ _ _ _ _ _ (fun c30 => ?_) (fun c30 => ?_)
    · simp only [crel, ne_eq, Classical.not_not] at c30
      have hw : (if rp k 1 = 0 then (t : Int) else (sh : Int)) = sh := if_neg (by rw [← r1]; exact c30)
      refine G_iload_n (pc := 37) rfl dX1_misfitsAt_37 ?_
      refine G_istore (pc := 38) rfl rfl (by decide) dX1_misfitsAt_38 ?_
      refine G_aload_n (pc := 40) rfl dX1_misfitsAt_40 ?_
      refine G_getR (pc := 41) (ci := 1) (j := 15) rfl lq_RX1_47 rfl rfl rfl dX1_misfitsAt_41 ?_
      refine G_iload (pc := 44) rfl dX1_misfitsAt_44 ?_
      refine G_iald (pc := 46) (jj := 4 * k) (n_jj (by omega)) rfl rfl (n_in (by omega) (by omega)) dX1_misfitsAt_46 ?_
      refine G_iload_n (pc := 47) rfl dX1_misfitsAt_47 ?_
      refine oX1_misfitsAt_48 _ _ _ _ _ _ _ (fun c48 => ?_) (fun c48 => ?_)
      · simp only [crel, ne_eq, Classical.not_not] at c48
        refine G_iinc (pc := 86) (v := Int32.ofNat 1) n_add rfl rfl (by decide) rfl (by decide) dX1_misfitsAt_86 ?_
        refine G_goto (pc := 89) (tgt := 6) (by decide) dX1_misfitsAt_89 ?_
        refine G_drop 6 rfl ?_
        refine G_drop 7 rfl ?_
        exact ih (k + 1) a (by omega) ha (bit_skip hb (fA_ne (by rw [← r0]; omega)))
      · simp only [crel, ne_eq, Classical.not_not] at c48
        refine G_iload (pc := 51) rfl dX1_misfitsAt_51 ?_
        refine G_aload_n (pc := 53) rfl dX1_misfitsAt_53 ?_
        refine G_getR (pc := 54) (ci := 1) (j := 15) rfl lq_RX1_47 rfl rfl rfl dX1_misfitsAt_54 ?_
        refine G_iload (pc := 57) rfl dX1_misfitsAt_57 ?_
        refine G_iconst (pc := 59) (v := 2) (by decide) dX1_misfitsAt_59 ?_
        refine G_iadd (pc := 60) n_add2 dX1_misfitsAt_60 ?_
        refine G_iald (pc := 61) (jj := 4 * k + 2) (n_jj (by omega)) rfl rfl (n_in (by omega) (by omega)) dX1_misfitsAt_61 ?_
        refine G_aload_n (pc := 62) rfl dX1_misfitsAt_62 ?_
        refine G_getR (pc := 63) (ci := 1) (j := 15) rfl lq_RX1_47 rfl rfl rfl dX1_misfitsAt_63 ?_
        refine G_iload (pc := 66) rfl dX1_misfitsAt_66 ?_
        refine G_iconst (pc := 68) (v := 3) (by decide) dX1_misfitsAt_68 ?_
        refine G_iadd (pc := 69) n_add3 dX1_misfitsAt_69 ?_
        refine G_iald (pc := 70) (jj := 4 * k + 3) (n_jj (by omega)) rfl rfl (n_in (by omega) (by omega)) dX1_misfitsAt_70 ?_
        refine oX1_misfitsAt_71 d _ [.int _, .int _, .int _] [] I _ _ mX11_isIn mt_X11_isIn rfl (lsi (lsi (lsi ls0))) ls0 (by simp) (isIn_G (fun p q => ?_) (fun p => ?_)) (fun _ _ h => h)
        · dsimp only [Option.toList, List.cons_append, List.nil_append]
          refine oX1_misfitsAt_74 _ _ _ _ _ _ (fun _ => ?_) (fun c => absurd (nez (by decide)) c)
          refine G_iinc (pc := 86) (v := Int32.ofNat 1) n_add rfl rfl (by decide) rfl (by decide) dX1_misfitsAt_86 ?_
          refine G_goto (pc := 89) (tgt := 6) (by decide) dX1_misfitsAt_89 ?_
          refine G_drop 6 rfl ?_
          refine G_drop 7 rfl ?_
          exact ih (k + 1) a (by omega) ha (bit_skip hb (fA_in hw (by rw [← r2]; omega) (by rw [← r3]; omega)))
        · dsimp only [Option.toList, List.cons_append, List.nil_append]
          refine oX1_misfitsAt_74 _ _ _ _ _ _ (fun c => absurd rfl c) (fun _ => ?_)
          refine G_iload (pc := 77) rfl dX1_misfitsAt_77 ?_
          refine G_iconst (pc := 79) (v := 1) (by decide) dX1_misfitsAt_79 ?_
          refine G_iload (pc := 80) rfl dX1_misfitsAt_80 ?_
          refine G_ishl (pc := 82) rfl dX1_misfitsAt_82 ?_
          refine G_ior (pc := 83) (e_bit a ha k (by omega)) dX1_misfitsAt_83 ?_
          refine G_istore (pc := 84) rfl rfl (by decide) dX1_misfitsAt_84 ?_
          refine G_iinc (pc := 86) (v := Int32.ofNat 1) n_add rfl rfl (by decide) rfl (by decide) dX1_misfitsAt_86 ?_
          refine G_goto (pc := 89) (tgt := 6) (by decide) dX1_misfitsAt_89 ?_
          refine G_drop 6 rfl ?_
          refine G_drop 7 rfl ?_
          exact ih (k + 1) (a ||| 2 ^ k) (by omega) (or_64 ha (pow_64 (by omega))) (bit_set hb (fA_out (by rw [← r0]; omega) hw (by rw [← r2, ← r3]; omega)))
    · simp only [crel, ne_eq, Classical.not_not] at c30
      have hw : (if rp k 1 = 0 then (t : Int) else (sh : Int)) = t := if_pos (by rw [← r1]; omega)
      refine G_iload_n (pc := 33) rfl dX1_misfitsAt_33 ?_
      refine G_goto (pc := 34) (tgt := 38) (by decide) dX1_misfitsAt_34 ?_
      refine G_istore (pc := 38) rfl rfl (by decide) dX1_misfitsAt_38 ?_
      refine G_aload_n (pc := 40) rfl dX1_misfitsAt_40 ?_
      refine G_getR (pc := 41) (ci := 1) (j := 15) rfl lq_RX1_47 rfl rfl rfl dX1_misfitsAt_41 ?_
      refine G_iload (pc := 44) rfl dX1_misfitsAt_44 ?_
      refine G_iald (pc := 46) (jj := 4 * k) (n_jj (by omega)) rfl rfl (n_in (by omega) (by omega)) dX1_misfitsAt_46 ?_
      refine G_iload_n (pc := 47) rfl dX1_misfitsAt_47 ?_
      refine oX1_misfitsAt_48 _ _ _ _ _ _ _ (fun c48 => ?_) (fun c48 => ?_)
      · simp only [crel, ne_eq, Classical.not_not] at c48
        refine G_iinc (pc := 86) (v := Int32.ofNat 1) n_add rfl rfl (by decide) rfl (by decide) dX1_misfitsAt_86 ?_
        refine G_goto (pc := 89) (tgt := 6) (by decide) dX1_misfitsAt_89 ?_
        refine G_drop 6 rfl ?_
        refine G_drop 7 rfl ?_
        exact ih (k + 1) a (by omega) ha (bit_skip hb (fA_ne (by rw [← r0]; omega)))
      · simp only [crel, ne_eq, Classical.not_not] at c48
        refine G_iload (pc := 51) rfl dX1_misfitsAt_51 ?_
        refine G_aload_n (pc := 53) rfl dX1_misfitsAt_53 ?_
        refine G_getR (pc := 54) (ci := 1) (j := 15) rfl lq_RX1_47 rfl rfl rfl dX1_misfitsAt_54 ?_
        refine G_iload (pc := 57) rfl dX1_misfitsAt_57 ?_
        refine G_iconst (pc := 59) (v := 2) (by decide) dX1_misfitsAt_59 ?_
        refine G_iadd (pc := 60) n_add2 dX1_misfitsAt_60 ?_
        refine G_iald (pc := 61) (jj := 4 * k + 2) (n_jj (by omega)) rfl rfl (n_in (by omega) (by omega)) dX1_misfitsAt_61 ?_
        refine G_aload_n (pc := 62) rfl dX1_misfitsAt_62 ?_
        refine G_getR (pc := 63) (ci := 1) (j := 15) rfl lq_RX1_47 rfl rfl rfl dX1_misfitsAt_63 ?_
        refine G_iload (pc := 66) rfl dX1_misfitsAt_66 ?_
        refine G_iconst (pc := 68) (v := 3) (by decide) dX1_misfitsAt_68 ?_
        refine G_iadd (pc := 69) n_add3 dX1_misfitsAt_69 ?_
        refine G_iald (pc := 70) (jj := 4 * k + 3) (n_jj (by omega)) rfl rfl (n_in (by omega) (by omega)) dX1_misfitsAt_70 ?_
        refine oX1_misfitsAt_71 d _ [.int _, .int _, .int _] [] I _ _ mX11_isIn mt_X11_isIn rfl (lsi (lsi (lsi ls0))) ls0 (by simp) (isIn_G (fun p q => ?_) (fun p => ?_)) (fun _ _ h => h)
        · dsimp only [Option.toList, List.cons_append, List.nil_append]
          refine oX1_misfitsAt_74 _ _ _ _ _ _ (fun _ => ?_) (fun c => absurd (nez (by decide)) c)
          refine G_iinc (pc := 86) (v := Int32.ofNat 1) n_add rfl rfl (by decide) rfl (by decide) dX1_misfitsAt_86 ?_
          refine G_goto (pc := 89) (tgt := 6) (by decide) dX1_misfitsAt_89 ?_
          refine G_drop 6 rfl ?_
          refine G_drop 7 rfl ?_
          exact ih (k + 1) a (by omega) ha (bit_skip hb (fA_in hw (by rw [← r2]; omega) (by rw [← r3]; omega)))
        · dsimp only [Option.toList, List.cons_append, List.nil_append]
          refine oX1_misfitsAt_74 _ _ _ _ _ _ (fun c => absurd rfl c) (fun _ => ?_)
          refine G_iload (pc := 77) rfl dX1_misfitsAt_77 ?_
          refine G_iconst (pc := 79) (v := 1) (by decide) dX1_misfitsAt_79 ?_
          refine G_iload (pc := 80) rfl dX1_misfitsAt_80 ?_
          refine G_ishl (pc := 82) rfl dX1_misfitsAt_82 ?_
          refine G_ior (pc := 83) (e_bit a ha k (by omega)) dX1_misfitsAt_83 ?_
          refine G_istore (pc := 84) rfl rfl (by decide) dX1_misfitsAt_84 ?_
          refine G_iinc (pc := 86) (v := Int32.ofNat 1) n_add rfl rfl (by decide) rfl (by decide) dX1_misfitsAt_86 ?_
          refine G_goto (pc := 89) (tgt := 6) (by decide) dX1_misfitsAt_89 ?_
          refine G_drop 6 rfl ?_
          refine G_drop 7 rfl ?_
          exact ih (k + 1) (a ||| 2 ^ k) (by omega) (or_64 ha (pow_64 (by omega))) (bit_set hb (fA_out (by rw [← r0]; omega) hw (by rw [← r2, ← r3]; omega)))
set_option maxRecDepth 100000 in
set_option maxHeartbeats 4000000 in
theorem misAt_G {d h t sh n : Nat} {rp : Nat → Nat → Int} {I : gI} {Q : Option Value → gH → Prop} (hn : n ≤ 6) (hcnt : I 19 16 = Int32.ofNat n) (hrp : ∀ r k, r < 6 → k < 4 → (I 32 (4 * r + k)).toInt = rp r k) (hh : h < 16) (ht : t < 100) (hsh : sh < 12) (hQ : ∀ a, a < 64 → (∀ r, a.testBit r = (decide (r < n) && fA rp h t sh r)) → Q (some (.int (Int32.ofNat a))) (SH0, RF0, I)) : gg (d + 1) mX1_misfitsAt 0 (gent 8 [.ref 19, .int (Int32.ofNat h), .int (Int32.ofNat t), .int (Int32.ofNat sh)]) [] I Q := by
  refine G_iconst (pc := 0) (v := Int32.ofNat 0) (by decide) dX1_misfitsAt_0 ?_
  refine G_istore (pc := 1) rfl rfl (by decide) dX1_misfitsAt_1 ?_
  refine G_iconst (pc := 3) (v := Int32.ofNat 0) (by decide) dX1_misfitsAt_3 ?_
  refine G_istore (pc := 4) rfl rfl (by decide) dX1_misfitsAt_4 ?_
  exact misAt_loop hn hcnt hrp hh ht hsh hQ n 0 0 (by omega) (by decide) (fun r => by simp)
theorem mis_step {sun : Nat → Nat} {rp : Nat → Nat → Int} {kd st t0 n h a b : Nat} (hp : ∀ r, r < n → 0 ≤ rp r 0) (ha : ∀ r, a.testBit r = (decide (r < n) && (decide (rp r 0 < h) && !okN sun rp kd st t0 r))) (hb : ∀ r, b.testBit r = (decide (r < n) && fA rp h (tN sun kd st t0 h) (shp kd (tN sun kd st t0 h) st) r)) : ∀ r, (a ||| b).testBit r = (decide (r < n) && (decide (rp r 0 < ((h + 1 : Nat) : Int)) && !okN sun rp kd st t0 r)) := fun r => by
  rw [Nat.testBit_or, ha r, hb r]
  by_cases hr : r < n
  · have h0 := hp r hr
    rw [decide_eq_true hr]
    by_cases e : rp r 0 = h
    · have e2 : (rp r 0).toNat = h := by omega
      rw [decide_eq_false (by omega : ¬ rp r 0 < (h : Int)), decide_eq_true (by omega : rp r 0 < ((h + 1 : Nat) : Int))]
      unfold fA okN
      rw [decide_eq_true e, e2]
      simp
    · rw [show fA rp h (tN sun kd st t0 h) (shp kd (tN sun kd st t0 h) st) r = false from fA_ne e]
      by_cases e3 : rp r 0 < h
      · rw [decide_eq_true e3, decide_eq_true (by omega : rp r 0 < ((h + 1 : Nat) : Int))]
        simp
      · rw [decide_eq_false e3, decide_eq_false (by omega : ¬ rp r 0 < ((h + 1 : Nat) : Int))]
        simp
  · rw [decide_eq_false hr]
    simp
set_option maxRecDepth 100000 in
set_option maxHeartbeats 4000000 in
theorem mis_loop_1 {d st t0 n : Nat} {sun : Nat → Nat} {rp : Nat → Nat → Int} {I : gI} {Q : Option Value → gH → Prop} (hn : n ≤ 6) (hcnt : I 19 16 = Int32.ofNat n) (hrp : ∀ r k, r < 6 → k < 4 → (I 32 (4 * r + k)).toInt = rp r k) (hsn : ∀ h, h < 16 → I 20 h = Int32.ofNat (sun h)) (hsb : ∀ h, h < 16 → sun h < 16) (hpr : ∀ r, r < n → 0 ≤ rp r 0 ∧ rp r 0 ≤ 15) (hst : st < 10) (ht0 : t0 < 100) (hQ : ∀ a, a < 64 → (∀ r, a.testBit r = (decide (r < n) && !okN sun rp 1 st t0 r)) → Q (some (.int (Int32.ofNat a))) (SH0, RF0, I)) : ∀ (g h a : Nat), h + g = 16 → a < 64 → (∀ r, a.testBit r = (decide (r < n) && (decide (rp r 0 < h) && !okN sun rp 1 st t0 r))) → gg (d + 3 + 1) mX1_misfits 9 [some (.ref 19), some (.int (Int32.ofNat 1)), some (.int (Int32.ofNat st)), some (.int (Int32.ofNat t0)), some (.int (Int32.ofNat a)), some (.int (Int32.ofNat (tN sun 1 st t0 h))), some (.int (Int32.ofNat h)), none, none] [] I Q := by
  have k16 : (16 : Int32).toInt = 16 := rfl
  intro g
  induction g with
  | zero =>
    intro h a hk ha hb
    have kh : (Int32.ofNat h).toInt = h := n_int (by omega)
    refine G_iload (pc := 9) rfl dX1_misfits_9 ?_
    refine G_bipush (pc := 11) (v := 16) (by decide) dX1_misfits_11 ?_
    refine oX1_misfits_13 _ _ _ _ _ _ _ (fun c13 => ?_) (fun c13 => absurd (by show (16 : Int32).toInt ≤ (Int32.ofNat h).toInt; omega) c13)
    refine G_iload (pc := 96) rfl dX1_misfits_96 ?_
    refine oX1_misfits_98 _ _ _ _ _ (hQ a ha (fun r => ?_))
    rw [hb r]
    by_cases hr : r < n
    · rw [decide_eq_true (by have := hpr r hr; omega : rp r 0 < (h : Int)), Bool.true_and]
    · rw [decide_eq_false hr, Bool.false_and, Bool.false_and]
  | succ g ih =>
    intro h a hk ha hb
    have hh : h < 16 := by omega
    have kh : (Int32.ofNat h).toInt = h := n_int (by omega)
    have ht : tN sun 1 st t0 h < 100 := tN_le ht0 h
    have hs12 : shp 1 (tN sun 1 st t0 h) st < 12 := shp_le 1 (by decide) _ ht st hst
    refine G_iload (pc := 9) rfl dX1_misfits_9 ?_
    refine G_bipush (pc := 11) (v := 16) (by decide) dX1_misfits_11 ?_
    refine oX1_misfits_13 _ _ _ _ _ _ _ (fun c13 => absurd c13 (by show ¬ ((16 : Int32).toInt ≤ (Int32.ofNat h).toInt); omega)) (fun c13 => ?_)
    refine G_aload_n (pc := 16) rfl dX1_misfits_16 ?_
    refine G_getR (pc := 17) (ci := 1) (j := 0) rfl lq_RX1_56 rfl rfl rfl dX1_misfits_17 ?_
    refine G_iload_n (pc := 20) rfl dX1_misfits_20 ?_
    refine G_kald (pc := 21) (jj := 1) (by decide) rfl (a_vin (by decide) (by decide)) rfl dX1_misfits_21 ?_
    refine G_iload (pc := 22) rfl dX1_misfits_22 ?_
    refine G_iload_n (pc := 24) rfl dX1_misfits_24 ?_
    refine G_iconst (pc := 25) (v := 0) (by decide) dX1_misfits_25 ?_
    refine oX1_misfits_26 (d + 3) _ [.int _, .int _, .int _] [] I _ _ 14 2 12 mX2_shape rfl List.mem_cons_self mt_X2_shape rfl (lsi (lsi (lsi ls0))) ls0 (by simp) (sh1 ht hst ?_) (fun _ _ h => h)
    dsimp only [Option.toList, List.cons_append, List.nil_append]
    refine G_istore (pc := 29) rfl rfl (by decide) dX1_misfits_29 ?_
    refine G_iload (pc := 31) rfl dX1_misfits_31 ?_
    refine G_aload_n (pc := 33) rfl dX1_misfits_33 ?_
    refine G_iload (pc := 34) rfl dX1_misfits_34 ?_
    refine G_iload (pc := 36) rfl dX1_misfits_36 ?_
    refine G_iload (pc := 38) rfl dX1_misfits_38 ?_
    refine oX1_misfits_40 (d + 3) _ [.int _, .int _, .int _] [.int _] I _ _ 19 1 36 mX1_misfitsAt rfl List.mem_cons_self mt_X1_misfitsAt rfl (lsi (lsi (lsi ls0))) (lsi ls0) (by simp) (misAt_G hn hcnt hrp hh ht hs12 (fun b hb2 hbb => ?_)) (fun _ _ h => h)
    dsimp only [Option.toList, List.cons_append, List.nil_append]
    refine G_ior (pc := 43) (e_or a ha b hb2) dX1_misfits_43 ?_
    refine G_istore (pc := 44) rfl rfl (by decide) dX1_misfits_44 ?_
    refine G_aload_n (pc := 46) rfl dX1_misfits_46 ?_
    refine G_getR (pc := 47) (ci := 1) (j := 0) rfl lq_RX1_56 rfl rfl rfl dX1_misfits_47 ?_
    refine G_iload_n (pc := 50) rfl dX1_misfits_50 ?_
    refine G_kald (pc := 51) (jj := 1) (by decide) rfl (a_vin (by decide) (by decide)) rfl dX1_misfits_51 ?_
    refine G_aload_n (pc := 52) rfl dX1_misfits_52 ?_
    refine G_iload (pc := 53) rfl dX1_misfits_53 ?_
    refine oX1_misfits_55 (d + 3) _ [.int _] [.ref 14] I _ _ 19 1 1 mX1_heatAt rfl List.mem_cons_self mt_X1_heatAt rfl (lsi ls0) (lsr ls0) (by simp) (heatAt_G hh (hsb h hh) (hsn h hh) ?_) (fun _ _ h => h)
    dsimp only [Option.toList, List.cons_append, List.nil_append]
    refine G_aload_n (pc := 58) rfl dX1_misfits_58 ?_
    refine G_iload (pc := 59) rfl dX1_misfits_59 ?_
    refine oX1_misfits_61 (d + 3) _ [.int _] [.int _, .ref 14] I _ _ 19 1 3 mX1_shadeAt rfl List.mem_cons_self mt_X1_shadeAt rfl (lsi ls0) (lsi (lsr ls0)) (by simp) (shadeAt_G hh (hsb h hh) (hsn h hh) ?_) (fun _ _ h => h)
    dsimp only [Option.toList, List.cons_append, List.nil_append]
    refine G_iload (pc := 64) rfl dX1_misfits_64 ?_
    refine oX1_misfits_66 (d + 3) _ [.int _, .int _, .int _] [] I _ _ 14 2 4 mX2_melts rfl List.mem_cons_self mt_X2_melts rfl (lsi (lsi (lsi ls0))) ls0 (by simp) (me1 (hsb h hh) hh ?_) (fun _ _ h => h)
    dsimp only [Option.toList, List.cons_append, List.nil_append]
    refine G_iload_n (pc := 69) rfl dX1_misfits_69 ?_
    refine G_iconst (pc := 70) (v := 3) (by decide) dX1_misfits_70 ?_
    refine G_idiv (pc := 71) rfl (by decide) dX1_misfits_71 ?_
    refine G_isub (pc := 72) rfl dX1_misfits_72 ?_
    refine G_istore (pc := 73) rfl rfl (by decide) dX1_misfits_73 ?_
    refine G_iconst (pc := 75) (v := 0) (by decide) dX1_misfits_75 ?_
    refine G_iload (pc := 76) rfl dX1_misfits_76 ?_
    refine G_iconst (pc := 78) (v := 0) (by decide) dX1_misfits_78 ?_
    refine G_iload (pc := 79) rfl dX1_misfits_79 ?_
    refine max_G oX1_misfits_81 (lsi (lsi ls0)) (by simp) (e_st _ (mlt_le 1 (by decide) _ (hsb h hh) h hh) st hst) ?_
    refine G_isub (pc := 84) rfl dX1_misfits_84 ?_
    refine max_G oX1_misfits_85 ls0 (by simp) (e_tt _ ht _ (by have := mlt_le 1 (by decide) _ (hsb h hh) h hh; omega)) ?_
    refine G_istore (pc := 88) rfl rfl (by decide) dX1_misfits_88 ?_
    refine G_iinc (pc := 90) (v := Int32.ofNat 1) n_add rfl rfl (by decide) rfl (by decide) dX1_misfits_90 ?_
    refine G_goto (pc := 93) (tgt := 9) (by decide) dX1_misfits_93 ?_
    refine G_drop 7 rfl ?_
    refine G_drop 8 rfl ?_
    exact ih (h + 1) (a ||| b) (by omega) (or_64 ha hb2) (mis_step (fun r hr => (hpr r hr).1) hb hbb)
set_option maxRecDepth 100000 in
set_option maxHeartbeats 4000000 in
theorem mis_1 {d st t0 n : Nat} {sun : Nat → Nat} {rp : Nat → Nat → Int} {I : gI} {Q : Option Value → gH → Prop} (hn : n ≤ 6) (hcnt : I 19 16 = Int32.ofNat n) (hrp : ∀ r k, r < 6 → k < 4 → (I 32 (4 * r + k)).toInt = rp r k) (hsn : ∀ h, h < 16 → I 20 h = Int32.ofNat (sun h)) (hsb : ∀ h, h < 16 → sun h < 16) (hpr : ∀ r, r < n → 0 ≤ rp r 0 ∧ rp r 0 ≤ 15) (hst : st < 10) (ht0 : t0 < 100) (hQ : ∀ a, a < 64 → (∀ r, a.testBit r = (decide (r < n) && !okN sun rp 1 st t0 r)) → Q (some (.int (Int32.ofNat a))) (SH0, RF0, I)) : gg (d + 3 + 1) mX1_misfits 0 (gent 9 [.ref 19, .int (Int32.ofNat 1), .int (Int32.ofNat st), .int (Int32.ofNat t0)]) [] I Q := by
  refine G_iconst (pc := 0) (v := Int32.ofNat 0) (by decide) dX1_misfits_0 ?_
  refine G_istore (pc := 1) rfl rfl (by decide) dX1_misfits_1 ?_
  refine G_iload_n (pc := 3) rfl dX1_misfits_3 ?_
  refine G_istore (pc := 4) rfl rfl (by decide) dX1_misfits_4 ?_
  refine G_iconst (pc := 6) (v := Int32.ofNat 0) (by decide) dX1_misfits_6 ?_
  refine G_istore (pc := 7) rfl rfl (by decide) dX1_misfits_7 ?_
  exact mis_loop_1 hn hcnt hrp hsn hsb hpr hst ht0 hQ 16 0 0 (by omega) (by decide) (fun r => by
    by_cases hr : r < n
    · rw [decide_eq_false (by have := (hpr r hr).1; omega : ¬ rp r 0 < ((0 : Nat) : Int))]
      simp
    · rw [decide_eq_false hr]
      simp)
set_option maxRecDepth 100000 in
set_option maxHeartbeats 4000000 in
theorem mis_loop_2 {d st t0 n : Nat} {sun : Nat → Nat} {rp : Nat → Nat → Int} {I : gI} {Q : Option Value → gH → Prop} (hn : n ≤ 6) (hcnt : I 19 16 = Int32.ofNat n) (hrp : ∀ r k, r < 6 → k < 4 → (I 32 (4 * r + k)).toInt = rp r k) (hsn : ∀ h, h < 16 → I 20 h = Int32.ofNat (sun h)) (hsb : ∀ h, h < 16 → sun h < 16) (hpr : ∀ r, r < n → 0 ≤ rp r 0 ∧ rp r 0 ≤ 15) (hst : st < 10) (ht0 : t0 < 100) (hQ : ∀ a, a < 64 → (∀ r, a.testBit r = (decide (r < n) && !okN sun rp 2 st t0 r)) → Q (some (.int (Int32.ofNat a))) (SH0, RF0, I)) : ∀ (g h a : Nat), h + g = 16 → a < 64 → (∀ r, a.testBit r = (decide (r < n) && (decide (rp r 0 < h) && !okN sun rp 2 st t0 r))) → gg (d + 3 + 1) mX1_misfits 9 [some (.ref 19), some (.int (Int32.ofNat 2)), some (.int (Int32.ofNat st)), some (.int (Int32.ofNat t0)), some (.int (Int32.ofNat a)), some (.int (Int32.ofNat (tN sun 2 st t0 h))), some (.int (Int32.ofNat h)), none, none] [] I Q := by
  have k16 : (16 : Int32).toInt = 16 := rfl
  intro g
  induction g with
  | zero =>
    intro h a hk ha hb
    have kh : (Int32.ofNat h).toInt = h := n_int (by omega)
    refine G_iload (pc := 9) rfl dX1_misfits_9 ?_
    refine G_bipush (pc := 11) (v := 16) (by decide) dX1_misfits_11 ?_
    refine oX1_misfits_13 _ _ _ _ _ _ _ (fun c13 => ?_) (fun c13 => absurd (by show (16 : Int32).toInt ≤ (Int32.ofNat h).toInt; omega) c13)
    refine G_iload (pc := 96) rfl dX1_misfits_96 ?_
    refine oX1_misfits_98 _ _ _ _ _ (hQ a ha (fun r => ?_))
    rw [hb r]
    by_cases hr : r < n
    · rw [decide_eq_true (by have := hpr r hr; omega : rp r 0 < (h : Int)), Bool.true_and]
    · rw [decide_eq_false hr, Bool.false_and, Bool.false_and]
  | succ g ih =>
    intro h a hk ha hb
    have hh : h < 16 := by omega
    have kh : (Int32.ofNat h).toInt = h := n_int (by omega)
    have ht : tN sun 2 st t0 h < 100 := tN_le ht0 h
    have hs12 : shp 2 (tN sun 2 st t0 h) st < 12 := shp_le 2 (by decide) _ ht st hst
    refine G_iload (pc := 9) rfl dX1_misfits_9 ?_
    refine G_bipush (pc := 11) (v := 16) (by decide) dX1_misfits_11 ?_
    refine oX1_misfits_13 _ _ _ _ _ _ _ (fun c13 => absurd c13 (by show ¬ ((16 : Int32).toInt ≤ (Int32.ofNat h).toInt); omega)) (fun c13 => ?_)
    refine G_aload_n (pc := 16) rfl dX1_misfits_16 ?_
    refine G_getR (pc := 17) (ci := 1) (j := 0) rfl lq_RX1_56 rfl rfl rfl dX1_misfits_17 ?_
    refine G_iload_n (pc := 20) rfl dX1_misfits_20 ?_
    refine G_kald (pc := 21) (jj := 2) (by decide) rfl (a_vin (by decide) (by decide)) rfl dX1_misfits_21 ?_
    refine G_iload (pc := 22) rfl dX1_misfits_22 ?_
    refine G_iload_n (pc := 24) rfl dX1_misfits_24 ?_
    refine G_iconst (pc := 25) (v := 0) (by decide) dX1_misfits_25 ?_
    refine oX1_misfits_26 (d + 3) _ [.int _, .int _, .int _] [] I _ _ 15 8 15 mX8_shape rfl (by simp) mt_X8_shape rfl (lsi (lsi (lsi ls0))) ls0 (by simp) (sh2 ht hst ?_) (fun _ _ h => h)
    dsimp only [Option.toList, List.cons_append, List.nil_append]
    refine G_istore (pc := 29) rfl rfl (by decide) dX1_misfits_29 ?_
    refine G_iload (pc := 31) rfl dX1_misfits_31 ?_
    refine G_aload_n (pc := 33) rfl dX1_misfits_33 ?_
    refine G_iload (pc := 34) rfl dX1_misfits_34 ?_
    refine G_iload (pc := 36) rfl dX1_misfits_36 ?_
    refine G_iload (pc := 38) rfl dX1_misfits_38 ?_
    refine oX1_misfits_40 (d + 3) _ [.int _, .int _, .int _] [.int _] I _ _ 19 1 36 mX1_misfitsAt rfl List.mem_cons_self mt_X1_misfitsAt rfl (lsi (lsi (lsi ls0))) (lsi ls0) (by simp) (misAt_G hn hcnt hrp hh ht hs12 (fun b hb2 hbb => ?_)) (fun _ _ h => h)
    dsimp only [Option.toList, List.cons_append, List.nil_append]
    refine G_ior (pc := 43) (e_or a ha b hb2) dX1_misfits_43 ?_
    refine G_istore (pc := 44) rfl rfl (by decide) dX1_misfits_44 ?_
    refine G_aload_n (pc := 46) rfl dX1_misfits_46 ?_
    refine G_getR (pc := 47) (ci := 1) (j := 0) rfl lq_RX1_56 rfl rfl rfl dX1_misfits_47 ?_
    refine G_iload_n (pc := 50) rfl dX1_misfits_50 ?_
    refine G_kald (pc := 51) (jj := 2) (by decide) rfl (a_vin (by decide) (by decide)) rfl dX1_misfits_51 ?_
    refine G_aload_n (pc := 52) rfl dX1_misfits_52 ?_
    refine G_iload (pc := 53) rfl dX1_misfits_53 ?_
    refine oX1_misfits_55 (d + 3) _ [.int _] [.ref 15] I _ _ 19 1 1 mX1_heatAt rfl List.mem_cons_self mt_X1_heatAt rfl (lsi ls0) (lsr ls0) (by simp) (heatAt_G hh (hsb h hh) (hsn h hh) ?_) (fun _ _ h => h)
    dsimp only [Option.toList, List.cons_append, List.nil_append]
    refine G_aload_n (pc := 58) rfl dX1_misfits_58 ?_
    refine G_iload (pc := 59) rfl dX1_misfits_59 ?_
    refine oX1_misfits_61 (d + 3) _ [.int _] [.int _, .ref 15] I _ _ 19 1 3 mX1_shadeAt rfl List.mem_cons_self mt_X1_shadeAt rfl (lsi ls0) (lsi (lsr ls0)) (by simp) (shadeAt_G hh (hsb h hh) (hsn h hh) ?_) (fun _ _ h => h)
    dsimp only [Option.toList, List.cons_append, List.nil_append]
    refine G_iload (pc := 64) rfl dX1_misfits_64 ?_
    refine oX1_misfits_66 (d + 3) _ [.int _, .int _, .int _] [] I _ _ 15 8 7 mX8_melts rfl (by simp) mt_X8_melts rfl (lsi (lsi (lsi ls0))) ls0 (by simp) (me2_15 (hsb h hh) hh ?_) (fun _ _ h => h)
    dsimp only [Option.toList, List.cons_append, List.nil_append]
    refine G_iload_n (pc := 69) rfl dX1_misfits_69 ?_
    refine G_iconst (pc := 70) (v := 3) (by decide) dX1_misfits_70 ?_
    refine G_idiv (pc := 71) rfl (by decide) dX1_misfits_71 ?_
    refine G_isub (pc := 72) rfl dX1_misfits_72 ?_
    refine G_istore (pc := 73) rfl rfl (by decide) dX1_misfits_73 ?_
    refine G_iconst (pc := 75) (v := 0) (by decide) dX1_misfits_75 ?_
    refine G_iload (pc := 76) rfl dX1_misfits_76 ?_
    refine G_iconst (pc := 78) (v := 0) (by decide) dX1_misfits_78 ?_
    refine G_iload (pc := 79) rfl dX1_misfits_79 ?_
    refine max_G oX1_misfits_81 (lsi (lsi ls0)) (by simp) (e_st _ (mlt_le 2 (by decide) _ (hsb h hh) h hh) st hst) ?_
    refine G_isub (pc := 84) rfl dX1_misfits_84 ?_
    refine max_G oX1_misfits_85 ls0 (by simp) (e_tt _ ht _ (by have := mlt_le 2 (by decide) _ (hsb h hh) h hh; omega)) ?_
    refine G_istore (pc := 88) rfl rfl (by decide) dX1_misfits_88 ?_
    refine G_iinc (pc := 90) (v := Int32.ofNat 1) n_add rfl rfl (by decide) rfl (by decide) dX1_misfits_90 ?_
    refine G_goto (pc := 93) (tgt := 9) (by decide) dX1_misfits_93 ?_
    refine G_drop 7 rfl ?_
    refine G_drop 8 rfl ?_
    exact ih (h + 1) (a ||| b) (by omega) (or_64 ha hb2) (mis_step (fun r hr => (hpr r hr).1) hb hbb)
set_option maxRecDepth 100000 in
set_option maxHeartbeats 4000000 in
theorem mis_2 {d st t0 n : Nat} {sun : Nat → Nat} {rp : Nat → Nat → Int} {I : gI} {Q : Option Value → gH → Prop} (hn : n ≤ 6) (hcnt : I 19 16 = Int32.ofNat n) (hrp : ∀ r k, r < 6 → k < 4 → (I 32 (4 * r + k)).toInt = rp r k) (hsn : ∀ h, h < 16 → I 20 h = Int32.ofNat (sun h)) (hsb : ∀ h, h < 16 → sun h < 16) (hpr : ∀ r, r < n → 0 ≤ rp r 0 ∧ rp r 0 ≤ 15) (hst : st < 10) (ht0 : t0 < 100) (hQ : ∀ a, a < 64 → (∀ r, a.testBit r = (decide (r < n) && !okN sun rp 2 st t0 r)) → Q (some (.int (Int32.ofNat a))) (SH0, RF0, I)) : gg (d + 3 + 1) mX1_misfits 0 (gent 9 [.ref 19, .int (Int32.ofNat 2), .int (Int32.ofNat st), .int (Int32.ofNat t0)]) [] I Q := by
  refine G_iconst (pc := 0) (v := Int32.ofNat 0) (by decide) dX1_misfits_0 ?_
  refine G_istore (pc := 1) rfl rfl (by decide) dX1_misfits_1 ?_
  refine G_iload_n (pc := 3) rfl dX1_misfits_3 ?_
  refine G_istore (pc := 4) rfl rfl (by decide) dX1_misfits_4 ?_
  refine G_iconst (pc := 6) (v := Int32.ofNat 0) (by decide) dX1_misfits_6 ?_
  refine G_istore (pc := 7) rfl rfl (by decide) dX1_misfits_7 ?_
  exact mis_loop_2 hn hcnt hrp hsn hsb hpr hst ht0 hQ 16 0 0 (by omega) (by decide) (fun r => by
    by_cases hr : r < n
    · rw [decide_eq_false (by have := (hpr r hr).1; omega : ¬ rp r 0 < ((0 : Nat) : Int))]
      simp
    · rw [decide_eq_false hr]
      simp)
set_option maxRecDepth 100000 in
set_option maxHeartbeats 4000000 in
theorem mis_loop_3 {d st t0 n : Nat} {sun : Nat → Nat} {rp : Nat → Nat → Int} {I : gI} {Q : Option Value → gH → Prop} (hn : n ≤ 6) (hcnt : I 19 16 = Int32.ofNat n) (hrp : ∀ r k, r < 6 → k < 4 → (I 32 (4 * r + k)).toInt = rp r k) (hsn : ∀ h, h < 16 → I 20 h = Int32.ofNat (sun h)) (hsb : ∀ h, h < 16 → sun h < 16) (hpr : ∀ r, r < n → 0 ≤ rp r 0 ∧ rp r 0 ≤ 15) (hst : st < 10) (ht0 : t0 < 100) (hQ : ∀ a, a < 64 → (∀ r, a.testBit r = (decide (r < n) && !okN sun rp 3 st t0 r)) → Q (some (.int (Int32.ofNat a))) (SH0, RF0, I)) : ∀ (g h a : Nat), h + g = 16 → a < 64 → (∀ r, a.testBit r = (decide (r < n) && (decide (rp r 0 < h) && !okN sun rp 3 st t0 r))) → gg (d + 3 + 1) mX1_misfits 9 [some (.ref 19), some (.int (Int32.ofNat 3)), some (.int (Int32.ofNat st)), some (.int (Int32.ofNat t0)), some (.int (Int32.ofNat a)), some (.int (Int32.ofNat (tN sun 3 st t0 h))), some (.int (Int32.ofNat h)), none, none] [] I Q := by
  have k16 : (16 : Int32).toInt = 16 := rfl
  intro g
  induction g with
  | zero =>
    intro h a hk ha hb
    have kh : (Int32.ofNat h).toInt = h := n_int (by omega)
    refine G_iload (pc := 9) rfl dX1_misfits_9 ?_
    refine G_bipush (pc := 11) (v := 16) (by decide) dX1_misfits_11 ?_
    refine oX1_misfits_13 _ _ _ _ _ _ _ (fun c13 => ?_) (fun c13 => absurd (by show (16 : Int32).toInt ≤ (Int32.ofNat h).toInt; omega) c13)
    refine G_iload (pc := 96) rfl dX1_misfits_96 ?_
    refine oX1_misfits_98 _ _ _ _ _ (hQ a ha (fun r => ?_))
    rw [hb r]
    by_cases hr : r < n
    · rw [decide_eq_true (by have := hpr r hr; omega : rp r 0 < (h : Int)), Bool.true_and]
    · rw [decide_eq_false hr, Bool.false_and, Bool.false_and]
  | succ g ih =>
    intro h a hk ha hb
    have hh : h < 16 := by omega
    have kh : (Int32.ofNat h).toInt = h := n_int (by omega)
    have ht : tN sun 3 st t0 h < 100 := tN_le ht0 h
    have hs12 : shp 3 (tN sun 3 st t0 h) st < 12 := shp_le 3 (by decide) _ ht st hst
    refine G_iload (pc := 9) rfl dX1_misfits_9 ?_
    refine G_bipush (pc := 11) (v := 16) (by decide) dX1_misfits_11 ?_
    refine oX1_misfits_13 _ _ _ _ _ _ _ (fun c13 => absurd c13 (by show ¬ ((16 : Int32).toInt ≤ (Int32.ofNat h).toInt); omega)) (fun c13 => ?_)
    refine G_aload_n (pc := 16) rfl dX1_misfits_16 ?_
    refine G_getR (pc := 17) (ci := 1) (j := 0) rfl lq_RX1_56 rfl rfl rfl dX1_misfits_17 ?_
    refine G_iload_n (pc := 20) rfl dX1_misfits_20 ?_
    refine G_kald (pc := 21) (jj := 3) (by decide) rfl (a_vin (by decide) (by decide)) rfl dX1_misfits_21 ?_
    refine G_iload (pc := 22) rfl dX1_misfits_22 ?_
    refine G_iload_n (pc := 24) rfl dX1_misfits_24 ?_
    refine G_iconst (pc := 25) (v := 0) (by decide) dX1_misfits_25 ?_
    refine oX1_misfits_26 (d + 3) _ [.int _, .int _, .int _] [] I _ _ 16 10 17 mX10_shape rfl (by simp) mt_X10_shape rfl (lsi (lsi (lsi ls0))) ls0 (by simp) (sh3 ht hst ?_) (fun _ _ h => h)
    dsimp only [Option.toList, List.cons_append, List.nil_append]
    refine G_istore (pc := 29) rfl rfl (by decide) dX1_misfits_29 ?_
    refine G_iload (pc := 31) rfl dX1_misfits_31 ?_
    refine G_aload_n (pc := 33) rfl dX1_misfits_33 ?_
    refine G_iload (pc := 34) rfl dX1_misfits_34 ?_
    refine G_iload (pc := 36) rfl dX1_misfits_36 ?_
    refine G_iload (pc := 38) rfl dX1_misfits_38 ?_
    refine oX1_misfits_40 (d + 3) _ [.int _, .int _, .int _] [.int _] I _ _ 19 1 36 mX1_misfitsAt rfl List.mem_cons_self mt_X1_misfitsAt rfl (lsi (lsi (lsi ls0))) (lsi ls0) (by simp) (misAt_G hn hcnt hrp hh ht hs12 (fun b hb2 hbb => ?_)) (fun _ _ h => h)
    dsimp only [Option.toList, List.cons_append, List.nil_append]
    refine G_ior (pc := 43) (e_or a ha b hb2) dX1_misfits_43 ?_
    refine G_istore (pc := 44) rfl rfl (by decide) dX1_misfits_44 ?_
    refine G_aload_n (pc := 46) rfl dX1_misfits_46 ?_
    refine G_getR (pc := 47) (ci := 1) (j := 0) rfl lq_RX1_56 rfl rfl rfl dX1_misfits_47 ?_
    refine G_iload_n (pc := 50) rfl dX1_misfits_50 ?_
    refine G_kald (pc := 51) (jj := 3) (by decide) rfl (a_vin (by decide) (by decide)) rfl dX1_misfits_51 ?_
    refine G_aload_n (pc := 52) rfl dX1_misfits_52 ?_
    refine G_iload (pc := 53) rfl dX1_misfits_53 ?_
    refine oX1_misfits_55 (d + 3) _ [.int _] [.ref 16] I _ _ 19 1 1 mX1_heatAt rfl List.mem_cons_self mt_X1_heatAt rfl (lsi ls0) (lsr ls0) (by simp) (heatAt_G hh (hsb h hh) (hsn h hh) ?_) (fun _ _ h => h)
    dsimp only [Option.toList, List.cons_append, List.nil_append]
    refine G_aload_n (pc := 58) rfl dX1_misfits_58 ?_
    refine G_iload (pc := 59) rfl dX1_misfits_59 ?_
    refine oX1_misfits_61 (d + 3) _ [.int _] [.int _, .ref 16] I _ _ 19 1 3 mX1_shadeAt rfl List.mem_cons_self mt_X1_shadeAt rfl (lsi ls0) (lsi (lsr ls0)) (by simp) (shadeAt_G hh (hsb h hh) (hsn h hh) ?_) (fun _ _ h => h)
    dsimp only [Option.toList, List.cons_append, List.nil_append]
    refine G_iload (pc := 64) rfl dX1_misfits_64 ?_
    refine oX1_misfits_66 (d + 3) _ [.int _, .int _, .int _] [] I _ _ 16 10 9 mX10_melts rfl (by simp) mt_X10_melts rfl (lsi (lsi (lsi ls0))) ls0 (by simp) (me3 (hsb h hh) hh ?_) (fun _ _ h => h)
    dsimp only [Option.toList, List.cons_append, List.nil_append]
    refine G_iload_n (pc := 69) rfl dX1_misfits_69 ?_
    refine G_iconst (pc := 70) (v := 3) (by decide) dX1_misfits_70 ?_
    refine G_idiv (pc := 71) rfl (by decide) dX1_misfits_71 ?_
    refine G_isub (pc := 72) rfl dX1_misfits_72 ?_
    refine G_istore (pc := 73) rfl rfl (by decide) dX1_misfits_73 ?_
    refine G_iconst (pc := 75) (v := 0) (by decide) dX1_misfits_75 ?_
    refine G_iload (pc := 76) rfl dX1_misfits_76 ?_
    refine G_iconst (pc := 78) (v := 0) (by decide) dX1_misfits_78 ?_
    refine G_iload (pc := 79) rfl dX1_misfits_79 ?_
    refine max_G oX1_misfits_81 (lsi (lsi ls0)) (by simp) (e_st _ (mlt_le 3 (by decide) _ (hsb h hh) h hh) st hst) ?_
    refine G_isub (pc := 84) rfl dX1_misfits_84 ?_
    refine max_G oX1_misfits_85 ls0 (by simp) (e_tt _ ht _ (by have := mlt_le 3 (by decide) _ (hsb h hh) h hh; omega)) ?_
    refine G_istore (pc := 88) rfl rfl (by decide) dX1_misfits_88 ?_
    refine G_iinc (pc := 90) (v := Int32.ofNat 1) n_add rfl rfl (by decide) rfl (by decide) dX1_misfits_90 ?_
    refine G_goto (pc := 93) (tgt := 9) (by decide) dX1_misfits_93 ?_
    refine G_drop 7 rfl ?_
    refine G_drop 8 rfl ?_
    exact ih (h + 1) (a ||| b) (by omega) (or_64 ha hb2) (mis_step (fun r hr => (hpr r hr).1) hb hbb)
set_option maxRecDepth 100000 in
set_option maxHeartbeats 4000000 in
theorem mis_3 {d st t0 n : Nat} {sun : Nat → Nat} {rp : Nat → Nat → Int} {I : gI} {Q : Option Value → gH → Prop} (hn : n ≤ 6) (hcnt : I 19 16 = Int32.ofNat n) (hrp : ∀ r k, r < 6 → k < 4 → (I 32 (4 * r + k)).toInt = rp r k) (hsn : ∀ h, h < 16 → I 20 h = Int32.ofNat (sun h)) (hsb : ∀ h, h < 16 → sun h < 16) (hpr : ∀ r, r < n → 0 ≤ rp r 0 ∧ rp r 0 ≤ 15) (hst : st < 10) (ht0 : t0 < 100) (hQ : ∀ a, a < 64 → (∀ r, a.testBit r = (decide (r < n) && !okN sun rp 3 st t0 r)) → Q (some (.int (Int32.ofNat a))) (SH0, RF0, I)) : gg (d + 3 + 1) mX1_misfits 0 (gent 9 [.ref 19, .int (Int32.ofNat 3), .int (Int32.ofNat st), .int (Int32.ofNat t0)]) [] I Q := by
  refine G_iconst (pc := 0) (v := Int32.ofNat 0) (by decide) dX1_misfits_0 ?_
  refine G_istore (pc := 1) rfl rfl (by decide) dX1_misfits_1 ?_
  refine G_iload_n (pc := 3) rfl dX1_misfits_3 ?_
  refine G_istore (pc := 4) rfl rfl (by decide) dX1_misfits_4 ?_
  refine G_iconst (pc := 6) (v := Int32.ofNat 0) (by decide) dX1_misfits_6 ?_
  refine G_istore (pc := 7) rfl rfl (by decide) dX1_misfits_7 ?_
  exact mis_loop_3 hn hcnt hrp hsn hsb hpr hst ht0 hQ 16 0 0 (by omega) (by decide) (fun r => by
    by_cases hr : r < n
    · rw [decide_eq_false (by have := (hpr r hr).1; omega : ¬ rp r 0 < ((0 : Nat) : Int))]
      simp
    · rw [decide_eq_false hr]
      simp)
set_option maxRecDepth 100000 in
set_option maxHeartbeats 4000000 in
theorem mis_loop_4 {d st t0 n : Nat} {sun : Nat → Nat} {rp : Nat → Nat → Int} {I : gI} {Q : Option Value → gH → Prop} (hn : n ≤ 6) (hcnt : I 19 16 = Int32.ofNat n) (hrp : ∀ r k, r < 6 → k < 4 → (I 32 (4 * r + k)).toInt = rp r k) (hsn : ∀ h, h < 16 → I 20 h = Int32.ofNat (sun h)) (hsb : ∀ h, h < 16 → sun h < 16) (hpr : ∀ r, r < n → 0 ≤ rp r 0 ∧ rp r 0 ≤ 15) (hst : st < 10) (ht0 : t0 < 100) (hQ : ∀ a, a < 64 → (∀ r, a.testBit r = (decide (r < n) && !okN sun rp 4 st t0 r)) → Q (some (.int (Int32.ofNat a))) (SH0, RF0, I)) : ∀ (g h a : Nat), h + g = 16 → a < 64 → (∀ r, a.testBit r = (decide (r < n) && (decide (rp r 0 < h) && !okN sun rp 4 st t0 r))) → gg (d + 3 + 1) mX1_misfits 9 [some (.ref 19), some (.int (Int32.ofNat 4)), some (.int (Int32.ofNat st)), some (.int (Int32.ofNat t0)), some (.int (Int32.ofNat a)), some (.int (Int32.ofNat (tN sun 4 st t0 h))), some (.int (Int32.ofNat h)), none, none] [] I Q := by
  have k16 : (16 : Int32).toInt = 16 := rfl
  intro g
  induction g with
  | zero =>
    intro h a hk ha hb
    have kh : (Int32.ofNat h).toInt = h := n_int (by omega)
    refine G_iload (pc := 9) rfl dX1_misfits_9 ?_
    refine G_bipush (pc := 11) (v := 16) (by decide) dX1_misfits_11 ?_
    refine oX1_misfits_13 _ _ _ _ _ _ _ (fun c13 => ?_) (fun c13 => absurd (by show (16 : Int32).toInt ≤ (Int32.ofNat h).toInt; omega) c13)
    refine G_iload (pc := 96) rfl dX1_misfits_96 ?_
    refine oX1_misfits_98 _ _ _ _ _ (hQ a ha (fun r => ?_))
    rw [hb r]
    by_cases hr : r < n
    · rw [decide_eq_true (by have := hpr r hr; omega : rp r 0 < (h : Int)), Bool.true_and]
    · rw [decide_eq_false hr, Bool.false_and, Bool.false_and]
  | succ g ih =>
    intro h a hk ha hb
    have hh : h < 16 := by omega
    have kh : (Int32.ofNat h).toInt = h := n_int (by omega)
    have ht : tN sun 4 st t0 h < 100 := tN_le ht0 h
    have hs12 : shp 4 (tN sun 4 st t0 h) st < 12 := shp_le 4 (by decide) _ ht st hst
    refine G_iload (pc := 9) rfl dX1_misfits_9 ?_
    refine G_bipush (pc := 11) (v := 16) (by decide) dX1_misfits_11 ?_
    refine oX1_misfits_13 _ _ _ _ _ _ _ (fun c13 => absurd c13 (by show ¬ ((16 : Int32).toInt ≤ (Int32.ofNat h).toInt); omega)) (fun c13 => ?_)
    refine G_aload_n (pc := 16) rfl dX1_misfits_16 ?_
    refine G_getR (pc := 17) (ci := 1) (j := 0) rfl lq_RX1_56 rfl rfl rfl dX1_misfits_17 ?_
    refine G_iload_n (pc := 20) rfl dX1_misfits_20 ?_
    refine G_kald (pc := 21) (jj := 4) (by decide) rfl (a_vin (by decide) (by decide)) rfl dX1_misfits_21 ?_
    refine G_iload (pc := 22) rfl dX1_misfits_22 ?_
    refine G_iload_n (pc := 24) rfl dX1_misfits_24 ?_
    refine G_iconst (pc := 25) (v := 0) (by decide) dX1_misfits_25 ?_
    refine oX1_misfits_26 (d + 3) _ [.int _, .int _, .int _] [] I _ _ 17 7 14 mX7_shape rfl (by simp) mt_X7_shape rfl (lsi (lsi (lsi ls0))) ls0 (by simp) (sh4 ht hst ?_) (fun _ _ h => h)
    dsimp only [Option.toList, List.cons_append, List.nil_append]
    refine G_istore (pc := 29) rfl rfl (by decide) dX1_misfits_29 ?_
    refine G_iload (pc := 31) rfl dX1_misfits_31 ?_
    refine G_aload_n (pc := 33) rfl dX1_misfits_33 ?_
    refine G_iload (pc := 34) rfl dX1_misfits_34 ?_
    refine G_iload (pc := 36) rfl dX1_misfits_36 ?_
    refine G_iload (pc := 38) rfl dX1_misfits_38 ?_
    refine oX1_misfits_40 (d + 3) _ [.int _, .int _, .int _] [.int _] I _ _ 19 1 36 mX1_misfitsAt rfl List.mem_cons_self mt_X1_misfitsAt rfl (lsi (lsi (lsi ls0))) (lsi ls0) (by simp) (misAt_G hn hcnt hrp hh ht hs12 (fun b hb2 hbb => ?_)) (fun _ _ h => h)
    dsimp only [Option.toList, List.cons_append, List.nil_append]
    refine G_ior (pc := 43) (e_or a ha b hb2) dX1_misfits_43 ?_
    refine G_istore (pc := 44) rfl rfl (by decide) dX1_misfits_44 ?_
    refine G_aload_n (pc := 46) rfl dX1_misfits_46 ?_
    refine G_getR (pc := 47) (ci := 1) (j := 0) rfl lq_RX1_56 rfl rfl rfl dX1_misfits_47 ?_
    refine G_iload_n (pc := 50) rfl dX1_misfits_50 ?_
    refine G_kald (pc := 51) (jj := 4) (by decide) rfl (a_vin (by decide) (by decide)) rfl dX1_misfits_51 ?_
    refine G_aload_n (pc := 52) rfl dX1_misfits_52 ?_
    refine G_iload (pc := 53) rfl dX1_misfits_53 ?_
    refine oX1_misfits_55 (d + 3) _ [.int _] [.ref 17] I _ _ 19 1 1 mX1_heatAt rfl List.mem_cons_self mt_X1_heatAt rfl (lsi ls0) (lsr ls0) (by simp) (heatAt_G hh (hsb h hh) (hsn h hh) ?_) (fun _ _ h => h)
    dsimp only [Option.toList, List.cons_append, List.nil_append]
    refine G_aload_n (pc := 58) rfl dX1_misfits_58 ?_
    refine G_iload (pc := 59) rfl dX1_misfits_59 ?_
    refine oX1_misfits_61 (d + 3) _ [.int _] [.int _, .ref 17] I _ _ 19 1 3 mX1_shadeAt rfl List.mem_cons_self mt_X1_shadeAt rfl (lsi ls0) (lsi (lsr ls0)) (by simp) (shadeAt_G hh (hsb h hh) (hsn h hh) ?_) (fun _ _ h => h)
    dsimp only [Option.toList, List.cons_append, List.nil_append]
    refine G_iload (pc := 64) rfl dX1_misfits_64 ?_
    refine oX1_misfits_66 (d + 3) _ [.int _, .int _, .int _] [] I _ _ 17 7 6 mX7_melts rfl (by simp) mt_X7_melts rfl (lsi (lsi (lsi ls0))) ls0 (by simp) (me4 (hsb h hh) hh ?_) (fun _ _ h => h)
    dsimp only [Option.toList, List.cons_append, List.nil_append]
    refine G_iload_n (pc := 69) rfl dX1_misfits_69 ?_
    refine G_iconst (pc := 70) (v := 3) (by decide) dX1_misfits_70 ?_
    refine G_idiv (pc := 71) rfl (by decide) dX1_misfits_71 ?_
    refine G_isub (pc := 72) rfl dX1_misfits_72 ?_
    refine G_istore (pc := 73) rfl rfl (by decide) dX1_misfits_73 ?_
    refine G_iconst (pc := 75) (v := 0) (by decide) dX1_misfits_75 ?_
    refine G_iload (pc := 76) rfl dX1_misfits_76 ?_
    refine G_iconst (pc := 78) (v := 0) (by decide) dX1_misfits_78 ?_
    refine G_iload (pc := 79) rfl dX1_misfits_79 ?_
    refine max_G oX1_misfits_81 (lsi (lsi ls0)) (by simp) (e_st _ (mlt_le 4 (by decide) _ (hsb h hh) h hh) st hst) ?_
    refine G_isub (pc := 84) rfl dX1_misfits_84 ?_
    refine max_G oX1_misfits_85 ls0 (by simp) (e_tt _ ht _ (by have := mlt_le 4 (by decide) _ (hsb h hh) h hh; omega)) ?_
    refine G_istore (pc := 88) rfl rfl (by decide) dX1_misfits_88 ?_
    refine G_iinc (pc := 90) (v := Int32.ofNat 1) n_add rfl rfl (by decide) rfl (by decide) dX1_misfits_90 ?_
    refine G_goto (pc := 93) (tgt := 9) (by decide) dX1_misfits_93 ?_
    refine G_drop 7 rfl ?_
    refine G_drop 8 rfl ?_
    exact ih (h + 1) (a ||| b) (by omega) (or_64 ha hb2) (mis_step (fun r hr => (hpr r hr).1) hb hbb)
set_option maxRecDepth 100000 in
set_option maxHeartbeats 4000000 in
theorem mis_4 {d st t0 n : Nat} {sun : Nat → Nat} {rp : Nat → Nat → Int} {I : gI} {Q : Option Value → gH → Prop} (hn : n ≤ 6) (hcnt : I 19 16 = Int32.ofNat n) (hrp : ∀ r k, r < 6 → k < 4 → (I 32 (4 * r + k)).toInt = rp r k) (hsn : ∀ h, h < 16 → I 20 h = Int32.ofNat (sun h)) (hsb : ∀ h, h < 16 → sun h < 16) (hpr : ∀ r, r < n → 0 ≤ rp r 0 ∧ rp r 0 ≤ 15) (hst : st < 10) (ht0 : t0 < 100) (hQ : ∀ a, a < 64 → (∀ r, a.testBit r = (decide (r < n) && !okN sun rp 4 st t0 r)) → Q (some (.int (Int32.ofNat a))) (SH0, RF0, I)) : gg (d + 3 + 1) mX1_misfits 0 (gent 9 [.ref 19, .int (Int32.ofNat 4), .int (Int32.ofNat st), .int (Int32.ofNat t0)]) [] I Q := by
  refine G_iconst (pc := 0) (v := Int32.ofNat 0) (by decide) dX1_misfits_0 ?_
  refine G_istore (pc := 1) rfl rfl (by decide) dX1_misfits_1 ?_
  refine G_iload_n (pc := 3) rfl dX1_misfits_3 ?_
  refine G_istore (pc := 4) rfl rfl (by decide) dX1_misfits_4 ?_
  refine G_iconst (pc := 6) (v := Int32.ofNat 0) (by decide) dX1_misfits_6 ?_
  refine G_istore (pc := 7) rfl rfl (by decide) dX1_misfits_7 ?_
  exact mis_loop_4 hn hcnt hrp hsn hsb hpr hst ht0 hQ 16 0 0 (by omega) (by decide) (fun r => by
    by_cases hr : r < n
    · rw [decide_eq_false (by have := (hpr r hr).1; omega : ¬ rp r 0 < ((0 : Nat) : Int))]
      simp
    · rw [decide_eq_false hr]
      simp)
set_option maxRecDepth 100000 in
set_option maxHeartbeats 4000000 in
theorem mis_loop_5 {d st t0 n : Nat} {sun : Nat → Nat} {rp : Nat → Nat → Int} {I : gI} {Q : Option Value → gH → Prop} (hn : n ≤ 6) (hcnt : I 19 16 = Int32.ofNat n) (hrp : ∀ r k, r < 6 → k < 4 → (I 32 (4 * r + k)).toInt = rp r k) (hsn : ∀ h, h < 16 → I 20 h = Int32.ofNat (sun h)) (hsb : ∀ h, h < 16 → sun h < 16) (hpr : ∀ r, r < n → 0 ≤ rp r 0 ∧ rp r 0 ≤ 15) (hst : st < 10) (ht0 : t0 < 100) (hQ : ∀ a, a < 64 → (∀ r, a.testBit r = (decide (r < n) && !okN sun rp 5 st t0 r)) → Q (some (.int (Int32.ofNat a))) (SH0, RF0, I)) : ∀ (g h a : Nat), h + g = 16 → a < 64 → (∀ r, a.testBit r = (decide (r < n) && (decide (rp r 0 < h) && !okN sun rp 5 st t0 r))) → gg (d + 3 + 1) mX1_misfits 9 [some (.ref 19), some (.int (Int32.ofNat 5)), some (.int (Int32.ofNat st)), some (.int (Int32.ofNat t0)), some (.int (Int32.ofNat a)), some (.int (Int32.ofNat (tN sun 5 st t0 h))), some (.int (Int32.ofNat h)), none, none] [] I Q := by
  have k16 : (16 : Int32).toInt = 16 := rfl
  intro g
  induction g with
  | zero =>
    intro h a hk ha hb
    have kh : (Int32.ofNat h).toInt = h := n_int (by omega)
    refine G_iload (pc := 9) rfl dX1_misfits_9 ?_
    refine G_bipush (pc := 11) (v := 16) (by decide) dX1_misfits_11 ?_
    refine oX1_misfits_13 _ _ _ _ _ _ _ (fun c13 => ?_) (fun c13 => absurd (by show (16 : Int32).toInt ≤ (Int32.ofNat h).toInt; omega) c13)
    refine G_iload (pc := 96) rfl dX1_misfits_96 ?_
    refine oX1_misfits_98 _ _ _ _ _ (hQ a ha (fun r => ?_))
    rw [hb r]
    by_cases hr : r < n
    · rw [decide_eq_true (by have := hpr r hr; omega : rp r 0 < (h : Int)), Bool.true_and]
    · rw [decide_eq_false hr, Bool.false_and, Bool.false_and]
  | succ g ih =>
    intro h a hk ha hb
    have hh : h < 16 := by omega
    have kh : (Int32.ofNat h).toInt = h := n_int (by omega)
    have ht : tN sun 5 st t0 h < 100 := tN_le ht0 h
    have hs12 : shp 5 (tN sun 5 st t0 h) st < 12 := shp_le 5 (by decide) _ ht st hst
    refine G_iload (pc := 9) rfl dX1_misfits_9 ?_
    refine G_bipush (pc := 11) (v := 16) (by decide) dX1_misfits_11 ?_
    refine oX1_misfits_13 _ _ _ _ _ _ _ (fun c13 => absurd c13 (by show ¬ ((16 : Int32).toInt ≤ (Int32.ofNat h).toInt); omega)) (fun c13 => ?_)
    refine G_aload_n (pc := 16) rfl dX1_misfits_16 ?_
    refine G_getR (pc := 17) (ci := 1) (j := 0) rfl lq_RX1_56 rfl rfl rfl dX1_misfits_17 ?_
    refine G_iload_n (pc := 20) rfl dX1_misfits_20 ?_
    refine G_kald (pc := 21) (jj := 5) (by decide) rfl (a_vin (by decide) (by decide)) rfl dX1_misfits_21 ?_
    refine G_iload (pc := 22) rfl dX1_misfits_22 ?_
    refine G_iload_n (pc := 24) rfl dX1_misfits_24 ?_
    refine G_iconst (pc := 25) (v := 0) (by decide) dX1_misfits_25 ?_
    refine oX1_misfits_26 (d + 3) _ [.int _, .int _, .int _] [] I _ _ 18 9 16 mX9_shape rfl (by simp) mt_X9_shape rfl (lsi (lsi (lsi ls0))) ls0 (by simp) (sh5 ht hst ?_) (fun _ _ h => h)
    dsimp only [Option.toList, List.cons_append, List.nil_append]
    refine G_istore (pc := 29) rfl rfl (by decide) dX1_misfits_29 ?_
    refine G_iload (pc := 31) rfl dX1_misfits_31 ?_
    refine G_aload_n (pc := 33) rfl dX1_misfits_33 ?_
    refine G_iload (pc := 34) rfl dX1_misfits_34 ?_
    refine G_iload (pc := 36) rfl dX1_misfits_36 ?_
    refine G_iload (pc := 38) rfl dX1_misfits_38 ?_
    refine oX1_misfits_40 (d + 3) _ [.int _, .int _, .int _] [.int _] I _ _ 19 1 36 mX1_misfitsAt rfl List.mem_cons_self mt_X1_misfitsAt rfl (lsi (lsi (lsi ls0))) (lsi ls0) (by simp) (misAt_G hn hcnt hrp hh ht hs12 (fun b hb2 hbb => ?_)) (fun _ _ h => h)
    dsimp only [Option.toList, List.cons_append, List.nil_append]
    refine G_ior (pc := 43) (e_or a ha b hb2) dX1_misfits_43 ?_
    refine G_istore (pc := 44) rfl rfl (by decide) dX1_misfits_44 ?_
    refine G_aload_n (pc := 46) rfl dX1_misfits_46 ?_
    refine G_getR (pc := 47) (ci := 1) (j := 0) rfl lq_RX1_56 rfl rfl rfl dX1_misfits_47 ?_
    refine G_iload_n (pc := 50) rfl dX1_misfits_50 ?_
    refine G_kald (pc := 51) (jj := 5) (by decide) rfl (a_vin (by decide) (by decide)) rfl dX1_misfits_51 ?_
    refine G_aload_n (pc := 52) rfl dX1_misfits_52 ?_
    refine G_iload (pc := 53) rfl dX1_misfits_53 ?_
    refine oX1_misfits_55 (d + 3) _ [.int _] [.ref 18] I _ _ 19 1 1 mX1_heatAt rfl List.mem_cons_self mt_X1_heatAt rfl (lsi ls0) (lsr ls0) (by simp) (heatAt_G hh (hsb h hh) (hsn h hh) ?_) (fun _ _ h => h)
    dsimp only [Option.toList, List.cons_append, List.nil_append]
    refine G_aload_n (pc := 58) rfl dX1_misfits_58 ?_
    refine G_iload (pc := 59) rfl dX1_misfits_59 ?_
    refine oX1_misfits_61 (d + 3) _ [.int _] [.int _, .ref 18] I _ _ 19 1 3 mX1_shadeAt rfl List.mem_cons_self mt_X1_shadeAt rfl (lsi ls0) (lsi (lsr ls0)) (by simp) (shadeAt_G hh (hsb h hh) (hsn h hh) ?_) (fun _ _ h => h)
    dsimp only [Option.toList, List.cons_append, List.nil_append]
    refine G_iload (pc := 64) rfl dX1_misfits_64 ?_
    refine oX1_misfits_66 (d + 3) _ [.int _, .int _, .int _] [] I _ _ 18 9 8 mX9_melts rfl (by simp) mt_X9_melts rfl (lsi (lsi (lsi ls0))) ls0 (by simp) (me5 (hsb h hh) hh ?_) (fun _ _ h => h)
    dsimp only [Option.toList, List.cons_append, List.nil_append]
    refine G_iload_n (pc := 69) rfl dX1_misfits_69 ?_
    refine G_iconst (pc := 70) (v := 3) (by decide) dX1_misfits_70 ?_
    refine G_idiv (pc := 71) rfl (by decide) dX1_misfits_71 ?_
    refine G_isub (pc := 72) rfl dX1_misfits_72 ?_
    refine G_istore (pc := 73) rfl rfl (by decide) dX1_misfits_73 ?_
    refine G_iconst (pc := 75) (v := 0) (by decide) dX1_misfits_75 ?_
    refine G_iload (pc := 76) rfl dX1_misfits_76 ?_
    refine G_iconst (pc := 78) (v := 0) (by decide) dX1_misfits_78 ?_
    refine G_iload (pc := 79) rfl dX1_misfits_79 ?_
    refine max_G oX1_misfits_81 (lsi (lsi ls0)) (by simp) (e_st _ (mlt_le 5 (by decide) _ (hsb h hh) h hh) st hst) ?_
    refine G_isub (pc := 84) rfl dX1_misfits_84 ?_
    refine max_G oX1_misfits_85 ls0 (by simp) (e_tt _ ht _ (by have := mlt_le 5 (by decide) _ (hsb h hh) h hh; omega)) ?_
    refine G_istore (pc := 88) rfl rfl (by decide) dX1_misfits_88 ?_
    refine G_iinc (pc := 90) (v := Int32.ofNat 1) n_add rfl rfl (by decide) rfl (by decide) dX1_misfits_90 ?_
    refine G_goto (pc := 93) (tgt := 9) (by decide) dX1_misfits_93 ?_
    refine G_drop 7 rfl ?_
    refine G_drop 8 rfl ?_
    exact ih (h + 1) (a ||| b) (by omega) (or_64 ha hb2) (mis_step (fun r hr => (hpr r hr).1) hb hbb)
set_option maxRecDepth 100000 in
set_option maxHeartbeats 4000000 in
theorem mis_5 {d st t0 n : Nat} {sun : Nat → Nat} {rp : Nat → Nat → Int} {I : gI} {Q : Option Value → gH → Prop} (hn : n ≤ 6) (hcnt : I 19 16 = Int32.ofNat n) (hrp : ∀ r k, r < 6 → k < 4 → (I 32 (4 * r + k)).toInt = rp r k) (hsn : ∀ h, h < 16 → I 20 h = Int32.ofNat (sun h)) (hsb : ∀ h, h < 16 → sun h < 16) (hpr : ∀ r, r < n → 0 ≤ rp r 0 ∧ rp r 0 ≤ 15) (hst : st < 10) (ht0 : t0 < 100) (hQ : ∀ a, a < 64 → (∀ r, a.testBit r = (decide (r < n) && !okN sun rp 5 st t0 r)) → Q (some (.int (Int32.ofNat a))) (SH0, RF0, I)) : gg (d + 3 + 1) mX1_misfits 0 (gent 9 [.ref 19, .int (Int32.ofNat 5), .int (Int32.ofNat st), .int (Int32.ofNat t0)]) [] I Q := by
  refine G_iconst (pc := 0) (v := Int32.ofNat 0) (by decide) dX1_misfits_0 ?_
  refine G_istore (pc := 1) rfl rfl (by decide) dX1_misfits_1 ?_
  refine G_iload_n (pc := 3) rfl dX1_misfits_3 ?_
  refine G_istore (pc := 4) rfl rfl (by decide) dX1_misfits_4 ?_
  refine G_iconst (pc := 6) (v := Int32.ofNat 0) (by decide) dX1_misfits_6 ?_
  refine G_istore (pc := 7) rfl rfl (by decide) dX1_misfits_7 ?_
  exact mis_loop_5 hn hcnt hrp hsn hsb hpr hst ht0 hQ 16 0 0 (by omega) (by decide) (fun r => by
    by_cases hr : r < n
    · rw [decide_eq_false (by have := (hpr r hr).1; omega : ¬ rp r 0 < ((0 : Nat) : Int))]
      simp
    · rw [decide_eq_false hr]
      simp)
theorem mis_G {d i n : Nat} {sun : Nat → Nat} {rp : Nat → Nat → Int} {I : gI} {Q : Option Value → gH → Prop} (hn : n ≤ 6) (hcnt : I 19 16 = Int32.ofNat n) (hrp : ∀ r k, r < 6 → k < 4 → (I 32 (4 * r + k)).toInt = rp r k) (hsn : ∀ h, h < 16 → I 20 h = Int32.ofNat (sun h)) (hsb : ∀ h, h < 16 → sun h < 16) (hpr : ∀ r, r < n → 0 ≤ rp r 0 ∧ rp r 0 ≤ 15) (hi : i < 500) (hQ : ∀ a, a < 64 → (∀ r, a.testBit r = (decide (r < n) && !okI sun rp i r)) → Q (some (.int (Int32.ofNat a))) (SH0, RF0, I)) : gg (d + 3 + 1) mX1_misfits 0 (gent 9 [.ref 19, .int (Int32.ofNat (lnK i)), .int (Int32.ofNat (lnS i)), .int (Int32.ofNat (lnT i))]) [] I Q := by
  have h1 : lnS i < 10 := by unfold lnS; omega
  have h2 : lnT i < 100 := by unfold lnT; omega
  have h3 : lnK i = 1 ∨ lnK i = 2 ∨ lnK i = 3 ∨ lnK i = 4 ∨ lnK i = 5 := by unfold lnK; omega
  unfold okI at hQ
  rcases h3 with h3 | h3 | h3 | h3 | h3 <;> rw [h3] at hQ ⊢
  · exact mis_1 hn hcnt hrp hsn hsb hpr h1 h2 hQ
  · exact mis_2 hn hcnt hrp hsn hsb hpr h1 h2 hQ
  · exact mis_3 hn hcnt hrp hsn hsb hpr h1 h2 hQ
  · exact mis_4 hn hcnt hrp hsn hsb hpr h1 h2 hQ
  · exact mis_5 hn hcnt hrp hsn hsb hpr h1 h2 hQ
/-- how many fit, which is the first -/
def fitI (ok : Nat → Nat → Bool) (n i : Nat) : Bool := (List.range n).all (fun r => ok i r)
def cN (f : Nat → Bool) : Nat → Nat
  | 0 => 0
  | i + 1 => cN f i + (if f i = true then 1 else 0)
def fN (f : Nat → Bool) : Nat → Int
  | 0 => -1
  | i + 1 => if f i = true ∧ fN f i < 0 then (i : Int) else fN f i
theorem cN_le (f : Nat → Bool) : ∀ i, cN f i ≤ i
  | 0 => Nat.le_refl 0
  | i + 1 => by
    have := cN_le f i
    unfold cN
    split <;> omega
theorem fN_rg (f : Nat → Bool) : ∀ i, -1 ≤ fN f i ∧ fN f i < (i : Int)
  | 0 => ⟨Int.le_refl _, by show (-1 : Int) < 0; decide⟩
  | i + 1 => by
    have := fN_rg f i
    unfold fN
    split <;> omega
theorem fN_st (f : Nat → Bool) {j : Nat} (h : 0 ≤ fN f j) : ∀ m, fN f (j + m) = fN f j
  | 0 => rfl
  | m + 1 => by
    have ih := fN_st f h m
    show (if f (j + m) = true ∧ fN f (j + m) < 0 then ((j + m : Nat) : Int) else fN f (j + m)) = _
    rw [if_neg (by omega)]
    exact ih
theorem cN_pos (f : Nat → Bool) : ∀ i, (0 < cN f i ↔ ∃ j, j < i ∧ f j = true)
  | 0 => ⟨fun h => absurd h (Nat.lt_irrefl 0), fun ⟨j, h, _⟩ => by omega⟩
  | i + 1 => by
    have ih := cN_pos f i
    unfold cN
    by_cases e : f i = true
    · rw [if_pos e]
      exact ⟨fun _ => ⟨i, by omega, e⟩, fun _ => by omega⟩
    · rw [if_neg e, Nat.add_zero, ih]
      refine ⟨fun ⟨j, h1, h2⟩ => ⟨j, by omega, h2⟩, fun ⟨j, h1, h2⟩ => ⟨j, ?_, h2⟩⟩
      by_cases e2 : j = i
      · rw [e2] at h2
        exact absurd h2 e
      · omega
theorem fN_neg (f : Nat → Bool) : ∀ i, (fN f i < 0 ↔ cN f i = 0)
  | 0 => ⟨fun _ => rfl, fun _ => by show (-1 : Int) < 0; decide⟩
  | i + 1 => by
    have ih := fN_neg f i
    unfold fN cN
    by_cases e : f i = true
    · rw [if_pos e]
      by_cases e2 : fN f i < 0
      · rw [if_pos ⟨e, e2⟩]
        omega
      · rw [if_neg (fun h => e2 h.2)]
        omega
    · rw [if_neg e, if_neg (fun h => e h.1)]
      omega
theorem fit_0 {ok : Nat → Nat → Bool} {n i a : Nat} (hn : n ≤ 6) (hb : ∀ r, a.testBit r = (decide (r < n) && !ok i r)) : (a = 0 ↔ fitI ok n i = true) := by
  unfold fitI
  rw [List.all_eq_true]
  refine ⟨fun e r hr => ?_, fun h => Nat.eq_of_testBit_eq (fun r => ?_)⟩
  · have h1 := hb r
    rw [e, Nat.zero_testBit, decide_eq_true (List.mem_range.mp hr), Bool.true_and] at h1
    cases h2 : ok i r with
    | true => rfl
    | false =>
      rw [h2] at h1
      cases h1
  · rw [hb r, Nat.zero_testBit]
    by_cases hr : r < n
    · rw [h r (List.mem_range.mpr hr)]
      simp
    · rw [decide_eq_false hr]
      rfl
def lnV (f w : Int) : Int32 := if f < 0 then -3 else if w = 1 then Int32.ofNat (lnK f.toNat) else if w = 2 then Int32.ofNat (lnS f.toNat) else Int32.ofNat (lnT f.toNat)
/-- what lone answers -/
def lnR (f : Nat → Bool) (w : Int) : Int32 := if 0 ≤ w ∧ w ≤ 3 then (if w = 0 then Int32.ofNat (cN f 500) else lnV (fN f 500) w) else -1
theorem e_lk : ∀ i, i < 500 → 1 + Int32.ofNat i / 100 = Int32.ofNat (lnK i) := by decide +kernel
theorem e_d10 : ∀ i, i < 500 → Int32.ofNat i / 10 = Int32.ofNat (i / 10) := by decide +kernel
theorem e_r10 : ∀ i, i < 500 → Int32.ofNat i - Int32.ofNat i / 10 * 10 = Int32.ofNat (i % 10) := by decide +kernel
theorem e_x10 : ∀ i, i < 10 → 10 * Int32.ofNat i = Int32.ofNat (10 * i) := by decide +kernel
theorem e_9 : ∀ i, i < 100 → (9 : Int32) + Int32.ofNat i = Int32.ofNat (9 + i) := by decide +kernel
theorem e_p9 : ∀ i, i < 100 → Int32.ofNat i + 9 = Int32.ofNat (9 + i) := by decide +kernel
set_option maxRecDepth 100000 in
set_option maxHeartbeats 4000000 in
theorem lk_G {d i : Nat} {I : gI} {Q : Option Value → gH → Prop} (hi : i < 500) (hQ : Q (some (.int (Int32.ofNat (lnK i)))) (SH0, RF0, I)) : gg d mX11_loneKind 0 (gent 1 [.int (Int32.ofNat i)]) [] I Q := by
  refine G_iconst (pc := 0) (v := 1) (by decide) dX11_loneKind_0 ?_
  refine G_iload_n (pc := 1) rfl dX11_loneKind_1 ?_
  refine G_bipush (pc := 2) (v := 100) (by decide) dX11_loneKind_2 ?_
  refine G_idiv (pc := 4) rfl (by decide) dX11_loneKind_4 ?_
  refine G_iadd (pc := 5) (e_lk i hi) dX11_loneKind_5 ?_
  exact oX11_loneKind_6 _ _ _ _ _ hQ
set_option maxRecDepth 100000 in
set_option maxHeartbeats 4000000 in
theorem ls_G {d i : Nat} {I : gI} {Q : Option Value → gH → Prop} (hi : i < 500) (hQ : Q (some (.int (Int32.ofNat (lnS i)))) (SH0, RF0, I)) : gg d mX11_loneStraw 0 (gent 1 [.int (Int32.ofNat i)]) [] I Q := by
  refine G_iload_n (pc := 0) rfl dX11_loneStraw_0 ?_
  refine G_bipush (pc := 1) (v := 10) (by decide) dX11_loneStraw_1 ?_
  refine G_idiv (pc := 3) (e_d10 i hi) (by decide) dX11_loneStraw_3 ?_
  refine G_bipush (pc := 4) (v := 10) (by decide) dX11_loneStraw_4 ?_
  refine G_irem (pc := 6) (e_r10 (i / 10) (by omega)) (by decide) dX11_loneStraw_6 ?_
  exact oX11_loneStraw_7 _ _ _ _ _ hQ
set_option maxRecDepth 100000 in
set_option maxHeartbeats 4000000 in
theorem lt_G {d i : Nat} {I : gI} {Q : Option Value → gH → Prop} (hi : i < 500) (hQ : Q (some (.int (Int32.ofNat (lnT i)))) (SH0, RF0, I)) : gg d mX11_loneTeeth 0 (gent 1 [.int (Int32.ofNat i)]) [] I Q := by
  refine G_bipush (pc := 0) (v := 9) (by decide) dX11_loneTeeth_0 ?_
  refine G_bipush (pc := 2) (v := 10) (by decide) dX11_loneTeeth_2 ?_
  refine G_iload_n (pc := 4) rfl dX11_loneTeeth_4 ?_
  refine G_bipush (pc := 5) (v := 10) (by decide) dX11_loneTeeth_5 ?_
  refine G_irem (pc := 7) (e_r10 i hi) (by decide) dX11_loneTeeth_7 ?_
  refine G_imul (pc := 8) (e_x10 _ (by omega)) dX11_loneTeeth_8 ?_
  refine G_iadd (pc := 9) (e_9 _ (by omega)) dX11_loneTeeth_9 ?_
  exact oX11_loneTeeth_10 _ _ _ _ _ hQ
set_option maxRecDepth 100000 in
set_option maxHeartbeats 4000000 in
theorem lone0_loop {d n : Nat} {w : Int32} {sun : Nat → Nat} {rp : Nat → Nat → Int} {I : gI} {Q : Option Value → gH → Prop} (hn : n ≤ 6) (hcnt : I 19 16 = Int32.ofNat n) (hrp : ∀ r k, r < 6 → k < 4 → (I 32 (4 * r + k)).toInt = rp r k) (hsn : ∀ h, h < 16 → I 20 h = Int32.ofNat (sun h)) (hsb : ∀ h, h < 16 → sun h < 16) (hpr : ∀ r, r < n → 0 ≤ rp r 0 ∧ rp r 0 ≤ 15) (hw : w.toInt = 0) (hQ : Q (some (.int (Int32.ofNat (cN (fitI (okI sun rp) n) 500)))) (SH0, RF0, I)) : ∀ (g i : Nat), i + g = 500 → gg (d + 3 + 1 + 1) mX11_lone 15 [some (.ref 0), some (.int w), some (.int (Int32.ofNat (cN (fitI (okI sun rp) n) i))), some (.int (Int32.ofNat i))] [] I Q := by
  have k5 : (500 : Int32).toInt = 500 := rfl
  intro g
  induction g with
  | zero =>
    intro i hi
    have e : i = 500 := by omega
    subst e
    have ki : (Int32.ofNat 500).toInt = 500 := n_int (by omega)
    refine G_iload_n (pc := 15) rfl dX11_lone_15 ?_
    refine G_sipush (pc := 16) (v := 500) (by decide) dX11_lone_16 ?_
    refine oX11_lone_19 _ _ _ _ _ _ _ (fun c19 => ?_) (fun c19 => absurd (by show (500 : Int32).toInt ≤ (Int32.ofNat 500).toInt; omega) c19)
    refine G_iload_n (pc := 86) rfl dX11_lone_86 ?_
    refine oX11_lone_87 _ _ _ _ _ _ (fun c87 => absurd c87 (by show ¬ (w.toInt ≠ 0); omega)) (fun c87 => ?_)
    refine G_iload_n (pc := 90) rfl dX11_lone_90 ?_
    refine G_goto (pc := 91) (tgt := 96) (by decide) dX11_lone_91 ?_
    exact oX11_lone_96 _ _ _ _ _ hQ
  | succ g ih =>
    intro i hi
    have hi5 : i < 500 := by omega
    have ki : (Int32.ofNat i).toInt = i := n_int (by omega)
    refine G_iload_n (pc := 15) rfl dX11_lone_15 ?_
    refine G_sipush (pc := 16) (v := 500) (by decide) dX11_lone_16 ?_
    refine oX11_lone_19 _ _ _ _ _ _ _ (fun c19 => absurd c19 (by show ¬ ((500 : Int32).toInt ≤ (Int32.ofNat i).toInt); omega)) (fun c19 => ?_)
    refine G_aload_n (pc := 22) rfl dX11_lone_22 ?_
    refine G_getR (pc := 23) (ci := 11) (j := 0) rfl lq_RX11_56 rfl rfl rfl dX11_lone_23 ?_
    refine G_iload_n (pc := 26) rfl dX11_lone_26 ?_
    refine oX11_lone_27 (d + 3 + 1) _ [.int _] [.ref _] I _ _ mX11_loneKind mt_X11_loneKind rfl (lsi ls0) (lsr ls0) (by simp) (lk_G hi5 ?_) (fun _ _ h => h)
    dsimp only [Option.toList, List.cons_append, List.nil_append]
    refine G_iload_n (pc := 30) rfl dX11_lone_30 ?_
    refine oX11_lone_31 (d + 3 + 1) _ [.int _] [.int _, .ref _] I _ _ mX11_loneStraw mt_X11_loneStraw rfl (lsi ls0) (lsi (lsr ls0)) (by simp) (ls_G hi5 ?_) (fun _ _ h => h)
    dsimp only [Option.toList, List.cons_append, List.nil_append]
    refine G_iload_n (pc := 34) rfl dX11_lone_34 ?_
    refine oX11_lone_35 (d + 3 + 1) _ [.int _] [.int _, .int _, .ref _] I _ _ mX11_loneTeeth mt_X11_loneTeeth rfl (lsi ls0) (lsi (lsi (lsr ls0))) (by simp) (lt_G hi5 ?_) (fun _ _ h => h)
    dsimp only [Option.toList, List.cons_append, List.nil_append]
    refine oX11_lone_38 (d + 3 + 1) _ [.int _, .int _, .int _] [] I _ _ 19 1 99 mX1_misfits rfl List.mem_cons_self mt_X1_misfits rfl (lsi (lsi (lsi ls0))) ls0 (by simp) (mis_G hn hcnt hrp hsn hsb hpr hi5 (fun a ha hb => ?_)) (fun _ _ h => h)
    dsimp only [Option.toList, List.cons_append, List.nil_append]
    have hz := fit_0 (ok := okI sun rp) hn hb
    have ka : (Int32.ofNat a).toInt = a := n_int (by omega)
    refine oX11_lone_41 _ _ _ _ _ _ (fun c41 => ?_) (fun c41 => ?_)
    · simp only [crel, ne_eq, Classical.not_not] at c41
      have hf : fitI (okI sun rp) n i = false := by
        cases h : fitI (okI sun rp) n i with
        | false => rfl
        | true => exact absurd (hz.mpr h) (by omega)
      refine G_iinc (pc := 80) (v := Int32.ofNat 1) n_add rfl rfl (by decide) rfl (by decide) dX11_lone_80 ?_
      refine G_goto (pc := 83) (tgt := 15) (by decide) dX11_lone_83 ?_
      have ec : cN (fitI (okI sun rp) n) (i + 1) = cN (fitI (okI sun rp) n) i := by show cN _ i + _ = _; rw [if_neg (by rw [hf]; decide), Nat.add_zero]
      rw [← ec]
      exact ih (i + 1) (by omega)
    · simp only [crel, ne_eq, Classical.not_not] at c41
      have hf : fitI (okI sun rp) n i = true := hz.mp (by omega)
      refine G_iload_n (pc := 44) rfl dX11_lone_44 ?_
      refine oX11_lone_45 _ _ _ _ _ _ (fun c45 => ?_) (fun c45 => absurd (by show w.toInt = 0; exact hw) c45)
      refine G_iinc (pc := 77) (v := Int32.ofNat 1) n_add rfl rfl (by decide) rfl (by decide) dX11_lone_77 ?_
      refine G_iinc (pc := 80) (v := Int32.ofNat 1) n_add rfl rfl (by decide) rfl (by decide) dX11_lone_80 ?_
      refine G_goto (pc := 83) (tgt := 15) (by decide) dX11_lone_83 ?_
      have ec : cN (fitI (okI sun rp) n) (i + 1) = cN (fitI (okI sun rp) n) i + 1 := by show cN _ i + _ = _; rw [if_pos hf]
      rw [← ec]
      exact ih (i + 1) (by omega)
set_option maxRecDepth 100000 in
set_option maxHeartbeats 4000000 in
theorem lone1_loop {d n : Nat} {w : Int32} {sun : Nat → Nat} {rp : Nat → Nat → Int} {I : gI} {Q : Option Value → gH → Prop} (hn : n ≤ 6) (hcnt : I 19 16 = Int32.ofNat n) (hrp : ∀ r k, r < 6 → k < 4 → (I 32 (4 * r + k)).toInt = rp r k) (hsn : ∀ h, h < 16 → I 20 h = Int32.ofNat (sun h)) (hsb : ∀ h, h < 16 → sun h < 16) (hpr : ∀ r, r < n → 0 ≤ rp r 0 ∧ rp r 0 ≤ 15) (hw : 1 ≤ w.toInt ∧ w.toInt ≤ 3) (hQ : Q (some (.int (lnV (fN (fitI (okI sun rp) n) 500) w.toInt))) (SH0, RF0, I)) : ∀ (g i : Nat), i + g = 500 → fN (fitI (okI sun rp) n) i = -1 → gg (d + 3 + 1 + 1) mX11_lone 15 [some (.ref 0), some (.int w), some (.int (Int32.ofNat (0))), some (.int (Int32.ofNat i))] [] I Q := by
  have k5 : (500 : Int32).toInt = 500 := rfl
  have k1 : (1 : Int32).toInt = 1 := rfl
  have k2 : (2 : Int32).toInt = 2 := rfl
  intro g
  induction g with
  | zero =>
    intro i hi hv
    have e : i = 500 := by omega
    subst e
    have ki : (Int32.ofNat 500).toInt = 500 := n_int (by omega)
    rw [hv] at hQ
    unfold lnV at hQ
    rw [if_pos (by decide)] at hQ
    refine G_iload_n (pc := 15) rfl dX11_lone_15 ?_
    refine G_sipush (pc := 16) (v := 500) (by decide) dX11_lone_16 ?_
    refine oX11_lone_19 _ _ _ _ _ _ _ (fun c19 => ?_) (fun c19 => absurd (by show (500 : Int32).toInt ≤ (Int32.ofNat 500).toInt; omega) c19)
    refine G_iload_n (pc := 86) rfl dX11_lone_86 ?_
    refine oX11_lone_87 _ _ _ _ _ _ (fun c87 => ?_) (fun c87 => absurd (by show w.toInt ≠ 0; omega) c87)
    refine G_bipush (pc := 94) (v := (-3)) (by decide) dX11_lone_94 ?_
    exact oX11_lone_96 _ _ _ _ _ hQ
  | succ g ih =>
    intro i hi hv
    have hi5 : i < 500 := by omega
    have ki : (Int32.ofNat i).toInt = i := n_int (by omega)
    refine G_iload_n (pc := 15) rfl dX11_lone_15 ?_
    refine G_sipush (pc := 16) (v := 500) (by decide) dX11_lone_16 ?_
    refine oX11_lone_19 _ _ _ _ _ _ _ (fun c19 => absurd c19 (by show ¬ ((500 : Int32).toInt ≤ (Int32.ofNat i).toInt); omega)) (fun c19 => ?_)
    refine G_aload_n (pc := 22) rfl dX11_lone_22 ?_
    refine G_getR (pc := 23) (ci := 11) (j := 0) rfl lq_RX11_56 rfl rfl rfl dX11_lone_23 ?_
    refine G_iload_n (pc := 26) rfl dX11_lone_26 ?_
    refine oX11_lone_27 (d + 3 + 1) _ [.int _] [.ref _] I _ _ mX11_loneKind mt_X11_loneKind rfl (lsi ls0) (lsr ls0) (by simp) (lk_G hi5 ?_) (fun _ _ h => h)
    dsimp only [Option.toList, List.cons_append, List.nil_append]
    refine G_iload_n (pc := 30) rfl dX11_lone_30 ?_
    refine oX11_lone_31 (d + 3 + 1) _ [.int _] [.int _, .ref _] I _ _ mX11_loneStraw mt_X11_loneStraw rfl (lsi ls0) (lsi (lsr ls0)) (by simp) (ls_G hi5 ?_) (fun _ _ h => h)
    dsimp only [Option.toList, List.cons_append, List.nil_append]
    refine G_iload_n (pc := 34) rfl dX11_lone_34 ?_
    refine oX11_lone_35 (d + 3 + 1) _ [.int _] [.int _, .int _, .ref _] I _ _ mX11_loneTeeth mt_X11_loneTeeth rfl (lsi ls0) (lsi (lsi (lsr ls0))) (by simp) (lt_G hi5 ?_) (fun _ _ h => h)
    dsimp only [Option.toList, List.cons_append, List.nil_append]
    refine oX11_lone_38 (d + 3 + 1) _ [.int _, .int _, .int _] [] I _ _ 19 1 99 mX1_misfits rfl List.mem_cons_self mt_X1_misfits rfl (lsi (lsi (lsi ls0))) ls0 (by simp) (mis_G hn hcnt hrp hsn hsb hpr hi5 (fun a ha hb => ?_)) (fun _ _ h => h)
    dsimp only [Option.toList, List.cons_append, List.nil_append]
    have hz := fit_0 (ok := okI sun rp) hn hb
    have ka : (Int32.ofNat a).toInt = a := n_int (by omega)
    refine oX11_lone_41 _ _ _ _ _ _ (fun c41 => ?_) (fun c41 => ?_)
    · simp only [crel, ne_eq, Classical.not_not] at c41
      have hf : fitI (okI sun rp) n i = false := by
        cases h : fitI (okI sun rp) n i with
        | false => rfl
        | true => exact absurd (hz.mpr h) (by omega)
      refine G_iinc (pc := 80) (v := Int32.ofNat 1) n_add rfl rfl (by decide) rfl (by decide) dX11_lone_80 ?_
      refine G_goto (pc := 83) (tgt := 15) (by decide) dX11_lone_83 ?_
      exact ih (i + 1) (by omega) (by show (if _ ∧ _ then _ else _) = _; rw [if_neg (by rw [hf]; exact fun h => absurd h.1 (by decide))]; exact hv)
    · simp only [crel, ne_eq, Classical.not_not] at c41
      have hf : fitI (okI sun rp) n i = true := hz.mp (by omega)
      have ef : fN (fitI (okI sun rp) n) (i + 1) = i := by show (if _ ∧ _ then _ else _) = _; rw [if_pos ⟨hf, by omega⟩]
      have es : fN (fitI (okI sun rp) n) 500 = i := by
        have h1 := fN_st (fitI (okI sun rp) n) (j := i + 1) (by omega) (499 - i)
        rw [show i + 1 + (499 - i) = 500 by omega, ef] at h1
        exact h1
      rw [es] at hQ
      unfold lnV at hQ
      rw [if_neg (by omega), Int.toNat_natCast] at hQ
      refine G_iload_n (pc := 44) rfl dX11_lone_44 ?_
      refine oX11_lone_45 _ _ _ _ _ _ (fun c45 => absurd c45 (by show ¬ (w.toInt = 0); omega)) (fun c45 => ?_)
      refine G_iload_n (pc := 48) rfl dX11_lone_48 ?_
      refine G_iconst (pc := 49) (v := 1) (by decide) dX11_lone_49 ?_
      refine oX11_lone_50 _ _ _ _ _ _ _ (fun c50 => ?_) (fun c50 => ?_)
      · simp only [crel, ne_eq, Classical.not_not] at c50
        refine G_iload_n (pc := 60) rfl dX11_lone_60 ?_
        refine G_iconst (pc := 61) (v := 2) (by decide) dX11_lone_61 ?_
        refine oX11_lone_62 _ _ _ _ _ _ _ (fun c62 => ?_) (fun c62 => ?_)
        · simp only [crel, ne_eq, Classical.not_not] at c62
          refine G_iload_n (pc := 72) rfl dX11_lone_72 ?_
          refine oX11_lone_73 (d + 3 + 1) _ [.int _] [] I _ _ mX11_loneTeeth mt_X11_loneTeeth rfl (lsi ls0) ls0 (by simp) (lt_G hi5 ?_) (fun _ _ h => h)
          dsimp only [Option.toList, List.cons_append, List.nil_append]
          exact oX11_lone_76 _ _ _ _ _ (by rw [if_neg (by omega), if_neg (by omega)] at hQ; exact hQ)
        · simp only [crel, ne_eq, Classical.not_not] at c62
          refine G_iload_n (pc := 65) rfl dX11_lone_65 ?_
          refine oX11_lone_66 (d + 3 + 1) _ [.int _] [] I _ _ mX11_loneStraw mt_X11_loneStraw rfl (lsi ls0) ls0 (by simp) (ls_G hi5 ?_) (fun _ _ h => h)
          dsimp only [Option.toList, List.cons_append, List.nil_append]
          refine G_goto (pc := 69) (tgt := 76) (by decide) dX11_lone_69 ?_
          exact oX11_lone_76 _ _ _ _ _ (by rw [if_neg (by omega), if_pos (by omega)] at hQ; exact hQ)
      · simp only [crel, ne_eq, Classical.not_not] at c50
        refine G_iload_n (pc := 53) rfl dX11_lone_53 ?_
        refine oX11_lone_54 (d + 3 + 1) _ [.int _] [] I _ _ mX11_loneKind mt_X11_loneKind rfl (lsi ls0) ls0 (by simp) (lk_G hi5 ?_) (fun _ _ h => h)
        dsimp only [Option.toList, List.cons_append, List.nil_append]
        refine G_goto (pc := 57) (tgt := 76) (by decide) dX11_lone_57 ?_
        exact oX11_lone_76 _ _ _ _ _ (by rw [if_pos (by omega)] at hQ; exact hQ)
set_option maxRecDepth 100000 in
set_option maxHeartbeats 4000000 in
theorem loneX_G {d n : Nat} {w : Int32} {sun : Nat → Nat} {rp : Nat → Nat → Int} {I : gI} {Q : Option Value → gH → Prop} (hn : n ≤ 6) (hcnt : I 19 16 = Int32.ofNat n) (hrp : ∀ r k, r < 6 → k < 4 → (I 32 (4 * r + k)).toInt = rp r k) (hsn : ∀ h, h < 16 → I 20 h = Int32.ofNat (sun h)) (hsb : ∀ h, h < 16 → sun h < 16) (hpr : ∀ r, r < n → 0 ≤ rp r 0 ∧ rp r 0 ≤ 15) (hQ : Q (some (.int (lnR (fitI (okI sun rp) n) w.toInt))) (SH0, RF0, I)) : gg (d + 3 + 1 + 1) mX11_lone 0 (gent 4 [.ref 0, .int w]) [] I Q := by
  refine G_iload_n (pc := 0) rfl dX11_lone_0 ?_
  refine G_iconst (pc := 1) (v := 0) (by decide) dX11_lone_1 ?_
  refine G_iconst (pc := 2) (v := 3) (by decide) dX11_lone_2 ?_
  refine oX11_lone_3 (d + 3 + 1) _ [.int _, .int _, .int _] [] I _ _ mX11_isIn mt_X11_isIn rfl (lsi (lsi (lsi ls0))) ls0 (by simp) (isIn_G (fun p q => ?_) (fun p => ?_)) (fun _ _ h => h)
  · dsimp only [Option.toList, List.cons_append, List.nil_append]
    have k3 : (3 : Int32).toInt = 3 := rfl
    have k0 : (0 : Int32).toInt = 0 := rfl
    rw [k0] at p
    rw [k3] at q
    unfold lnR at hQ
    rw [if_pos ⟨p, q⟩] at hQ
    refine oX11_lone_6 _ _ _ _ _ _ (fun _ => ?_) (fun c => absurd (nez (by decide)) c)
    refine G_iconst (pc := 11) (v := Int32.ofNat 0) (by decide) dX11_lone_11 ?_
    refine G_istore_n (pc := 12) rfl rfl (by decide) dX11_lone_12 ?_
    refine G_iconst (pc := 13) (v := Int32.ofNat 0) (by decide) dX11_lone_13 ?_
    refine G_istore_n (pc := 14) rfl rfl (by decide) dX11_lone_14 ?_
    by_cases hw : w.toInt = 0
    · rw [if_pos hw] at hQ
      exact lone0_loop hn hcnt hrp hsn hsb hpr hw hQ 500 0 rfl
    · rw [if_neg hw] at hQ
      exact lone1_loop hn hcnt hrp hsn hsb hpr ⟨by omega, q⟩ hQ 500 0 rfl rfl
  · dsimp only [Option.toList, List.cons_append, List.nil_append]
    have k3 : (3 : Int32).toInt = 3 := rfl
    have k0 : (0 : Int32).toInt = 0 := rfl
    unfold lnR at hQ
    rw [if_neg (by omega)] at hQ
    refine oX11_lone_6 _ _ _ _ _ _ (fun c => absurd rfl c) (fun _ => ?_)
    refine G_iconst (pc := 9) (v := (-1)) (by decide) dX11_lone_9 ?_
    exact oX11_lone_10 _ _ _ _ _ hQ
theorem e_st3 : ∀ st, st < 10 → Int32.ofNat st / 3 = Int32.ofNat (st / 3) := by decide +kernel
theorem e_st4 : ∀ st, st < 10 → Int32.ofNat st / 4 = Int32.ofNat (st / 4) := by decide +kernel
theorem e_sub : ∀ v, v < 25 → ∀ x, x < 25 → x ≤ v → Int32.ofNat v - Int32.ofNat x = Int32.ofNat (v - x) := by decide +kernel
theorem e_a0 : ∀ v, v < 25 → Int32.ofNat v + 0 = Int32.ofNat v := by decide +kernel
theorem e_ts : ∀ t, t < 100 → ∀ x, x < 25 → (if (Int32.ofNat t - Int32.ofNat x).toInt < 0 then (0 : Int32) else Int32.ofNat t - Int32.ofNat x) = Int32.ofNat (t - x) := by decide +kernel
theorem e_tl : ∀ t, t < 100 → ∀ x, x < 25 → (Int32.ofNat t - Int32.ofNat x).toInt ≤ 99 := by decide +kernel
theorem e_xi : ∀ m, m < 25 → ∀ q, q < 25 → (Int32.ofNat m - Int32.ofNat q).toInt = (m : Int) - q := by decide +kernel
theorem e_4m : ∀ k, k < 6 → 4 * Int32.ofNat k = Int32.ofNat (4 * k) := by decide +kernel
theorem n_7 {h : Nat} : (7 : Int32) + Int32.ofNat h = Int32.ofNat (7 + h) := n_add
theorem n_65 {h : Nat} : (65 : Int32) + Int32.ofNat h = Int32.ofNat (65 + h) := n_add
def ncs (c : Nat) (md : aMd) : Bool := md.all (fun r => decide (r.1 ≠ c))
theorem ncs_ok {c j : Nat} {md : aMd} (h : ncs c md = true) : amodr md c j j = false := by
  cases hm : amodr md c j j with
  | false => rfl
  | true =>
    obtain ⟨r, hr, h3⟩ := List.any_eq_true.mp hm
    have h4 := of_decide_eq_true (List.all_eq_true.mp h r hr)
    simp only [Bool.and_eq_true, decide_eq_true_eq] at h3
    exact absurd h3.1.1 h4
theorem bn_none {c j : Nat} (h : bT.getD c [] = []) : bnd bT c j = (-2147483648, 2147483647) := by
  unfold bnd
  rw [h]
  rfl
set_option maxRecDepth 100000 in
set_option maxHeartbeats 4000000 in
theorem mb1 {d s h : Nat} {I : gI} {Q : Option Value → gH → Prop} (hs : s < 16) (hh : h < 16) (hQ : Q (some (.int (Int32.ofNat (mlt 1 s h)))) (SH0, RF0, I)) : gg d mX12_meltsBy 0 (gent 6 [.int (Int32.ofNat 1), .int (Int32.ofNat (s / 4)), .int (Int32.ofNat (s % 4)), .int (Int32.ofNat h)]) [] I Q := by
  refine G_iconst (pc := 0) (v := 3) (by decide) dX12_meltsBy_0 ?_
  refine G_iconst (pc := 1) (v := 2) (by decide) dX12_meltsBy_1 ?_
  refine G_iload_n (pc := 2) rfl dX12_meltsBy_2 ?_
  refine G_imul (pc := 3) rfl dX12_meltsBy_3 ?_
  refine G_iadd (pc := 4) (e_k s hs) dX12_meltsBy_4 ?_
  refine G_istore (pc := 5) rfl rfl (by decide) dX12_meltsBy_5 ?_
  refine G_iconst (pc := 7) (v := 2) (by decide) dX12_meltsBy_7 ?_
  refine G_iload (pc := 8) rfl dX12_meltsBy_8 ?_
  refine G_imul (pc := 10) rfl dX12_meltsBy_10 ?_
  refine G_iload_n (pc := 11) rfl dX12_meltsBy_11 ?_
  refine G_isub (pc := 12) (e_s1 s hs) dX12_meltsBy_12 ?_
  refine G_istore (pc := 13) rfl rfl (by decide) dX12_meltsBy_13 ?_
  refine G_iload_n (pc := 15) rfl dX12_meltsBy_15 ?_
  refine oX12_meltsBy_16 _ _ _ _ _ _ (fun q hq e => ?_) (fun hne => absurd rfl (hne (1, 52) (by simp)))
  simp only [List.mem_cons, List.not_mem_nil, or_false] at hq
  rcases hq with rfl | rfl | rfl | rfl | rfl
  · refine G_iconst (pc := 52) (v := Int32.ofNat 0) (by decide) dX12_meltsBy_52 ?_
    exact oX12_meltsBy_53 _ _ _ _ _ hQ
  · exact absurd e (by decide)
  · exact absurd e (by decide)
  · exact absurd e (by decide)
  · exact absurd e (by decide)
set_option maxRecDepth 100000 in
set_option maxHeartbeats 4000000 in
theorem sb1 {d t st : Nat} {I : gI} {Q : Option Value → gH → Prop} (ht : t < 100) (hst : st < 10) (hQ : Q (some (.int (Int32.ofNat (shp 1 t st)))) (SH0, RF0, I)) : gg d mX12_shapeBy 0 (gent 6 [.int (Int32.ofNat 1), .int (Int32.ofNat t), .int (Int32.ofNat st), .int 0]) [] I Q := by
  refine G_iload_n (pc := 0) rfl dX12_shapeBy_0 ?_
  refine G_bipush (pc := 1) (v := 10) (by decide) dX12_shapeBy_1 ?_
  refine G_idiv (pc := 3) (e_t10 t ht) (by decide) dX12_shapeBy_3 ?_
  refine G_iload_n (pc := 4) rfl dX12_shapeBy_4 ?_
  refine G_bipush (pc := 5) (v := 50) (by decide) dX12_shapeBy_5 ?_
  refine G_idiv (pc := 7) rfl (by decide) dX12_shapeBy_7 ?_
  refine G_iadd (pc := 8) (e_t50 t ht) dX12_shapeBy_8 ?_
  refine G_istore (pc := 9) rfl rfl (by decide) dX12_shapeBy_9 ?_
  refine G_iload_n (pc := 11) rfl dX12_shapeBy_11 ?_
  refine G_bipush (pc := 12) (v := 12) (by decide) dX12_shapeBy_12 ?_
  refine G_idiv (pc := 14) (e_t12 t ht) (by decide) dX12_shapeBy_14 ?_
  refine G_istore (pc := 15) rfl rfl (by decide) dX12_shapeBy_15 ?_
  refine G_iload_n (pc := 17) rfl dX12_shapeBy_17 ?_
  refine oX12_shapeBy_18 _ _ _ _ _ _ (fun q hq e => ?_) (fun hne => absurd rfl (hne (1, 52) (by simp)))
  simp only [List.mem_cons, List.not_mem_nil, or_false] at hq
  rcases hq with rfl | rfl | rfl | rfl | rfl
  · refine G_iconst (pc := 52) (v := Int32.ofNat 5) (by decide) dX12_shapeBy_52 ?_
    exact oX12_shapeBy_53 _ _ _ _ _ hQ
  · exact absurd e (by decide)
  · exact absurd e (by decide)
  · exact absurd e (by decide)
  · exact absurd e (by decide)
set_option maxRecDepth 100000 in
set_option maxHeartbeats 4000000 in
theorem mb2 {d s h : Nat} {I : gI} {Q : Option Value → gH → Prop} (hs : s < 16) (hh : h < 16) (hQ : Q (some (.int (Int32.ofNat (mlt 2 s h)))) (SH0, RF0, I)) : gg d mX12_meltsBy 0 (gent 6 [.int (Int32.ofNat 2), .int (Int32.ofNat (s / 4)), .int (Int32.ofNat (s % 4)), .int (Int32.ofNat h)]) [] I Q := by
  refine G_iconst (pc := 0) (v := 3) (by decide) dX12_meltsBy_0 ?_
  refine G_iconst (pc := 1) (v := 2) (by decide) dX12_meltsBy_1 ?_
  refine G_iload_n (pc := 2) rfl dX12_meltsBy_2 ?_
  refine G_imul (pc := 3) rfl dX12_meltsBy_3 ?_
  refine G_iadd (pc := 4) (e_k s hs) dX12_meltsBy_4 ?_
  refine G_istore (pc := 5) rfl rfl (by decide) dX12_meltsBy_5 ?_
  refine G_iconst (pc := 7) (v := 2) (by decide) dX12_meltsBy_7 ?_
  refine G_iload (pc := 8) rfl dX12_meltsBy_8 ?_
  refine G_imul (pc := 10) rfl dX12_meltsBy_10 ?_
  refine G_iload_n (pc := 11) rfl dX12_meltsBy_11 ?_
  refine G_isub (pc := 12) (e_s1 s hs) dX12_meltsBy_12 ?_
  refine G_istore (pc := 13) rfl rfl (by decide) dX12_meltsBy_13 ?_
  refine G_iload_n (pc := 15) rfl dX12_meltsBy_15 ?_
  refine oX12_meltsBy_16 _ _ _ _ _ _ (fun q hq e => ?_) (fun hne => absurd rfl (hne (2, 54) (by simp)))
  simp only [List.mem_cons, List.not_mem_nil, or_false] at hq
  rcases hq with rfl | rfl | rfl | rfl | rfl
  · exact absurd e (by decide)
  · refine G_iload (pc := 54) rfl dX12_meltsBy_54 ?_
    refine oX12_meltsBy_56 _ _ _ _ _ _ (fun c56 => absurd c56 (by show ¬ ((Int32.ofNat (2 * (3 + 2 * (s / 4)) - s % 4)).toInt ≤ 0); rw [n_int (by omega)]; omega)) (fun c56 => ?_)
    refine G_iload (pc := 59) rfl dX12_meltsBy_59 ?_
    refine G_goto (pc := 61) (tgt := 65) (by decide) dX12_meltsBy_61 ?_
    exact oX12_meltsBy_65 _ _ _ _ _ hQ
  · exact absurd e (by decide)
  · exact absurd e (by decide)
  · exact absurd e (by decide)
set_option maxRecDepth 100000 in
set_option maxHeartbeats 4000000 in
theorem sb2 {d t st : Nat} {I : gI} {Q : Option Value → gH → Prop} (ht : t < 100) (hst : st < 10) (hQ : Q (some (.int (Int32.ofNat (shp 2 t st)))) (SH0, RF0, I)) : gg d mX12_shapeBy 0 (gent 6 [.int (Int32.ofNat 2), .int (Int32.ofNat t), .int (Int32.ofNat st), .int 0]) [] I Q := by
  refine G_iload_n (pc := 0) rfl dX12_shapeBy_0 ?_
  refine G_bipush (pc := 1) (v := 10) (by decide) dX12_shapeBy_1 ?_
  refine G_idiv (pc := 3) (e_t10 t ht) (by decide) dX12_shapeBy_3 ?_
  refine G_iload_n (pc := 4) rfl dX12_shapeBy_4 ?_
  refine G_bipush (pc := 5) (v := 50) (by decide) dX12_shapeBy_5 ?_
  refine G_idiv (pc := 7) rfl (by decide) dX12_shapeBy_7 ?_
  refine G_iadd (pc := 8) (e_t50 t ht) dX12_shapeBy_8 ?_
  refine G_istore (pc := 9) rfl rfl (by decide) dX12_shapeBy_9 ?_
  refine G_iload_n (pc := 11) rfl dX12_shapeBy_11 ?_
  refine G_bipush (pc := 12) (v := 12) (by decide) dX12_shapeBy_12 ?_
  refine G_idiv (pc := 14) (e_t12 t ht) (by decide) dX12_shapeBy_14 ?_
  refine G_istore (pc := 15) rfl rfl (by decide) dX12_shapeBy_15 ?_
  refine G_iload_n (pc := 17) rfl dX12_shapeBy_17 ?_
  refine oX12_shapeBy_18 _ _ _ _ _ _ (fun q hq e => ?_) (fun hne => absurd rfl (hne (2, 54) (by simp)))
  simp only [List.mem_cons, List.not_mem_nil, or_false] at hq
  rcases hq with rfl | rfl | rfl | rfl | rfl
  · exact absurd e (by decide)
  · refine G_iload (pc := 54) rfl dX12_shapeBy_54 ?_
    exact oX12_shapeBy_56 _ _ _ _ _ hQ
  · exact absurd e (by decide)
  · exact absurd e (by decide)
  · exact absurd e (by decide)
set_option maxRecDepth 100000 in
set_option maxHeartbeats 4000000 in
theorem mb3 {d s h : Nat} {I : gI} {Q : Option Value → gH → Prop} (hs : s < 16) (hh : h < 16) (hQ : Q (some (.int (Int32.ofNat (mlt 3 s h)))) (SH0, RF0, I)) : gg d mX12_meltsBy 0 (gent 6 [.int (Int32.ofNat 3), .int (Int32.ofNat (s / 4)), .int (Int32.ofNat (s % 4)), .int (Int32.ofNat h)]) [] I Q := by
  refine G_iconst (pc := 0) (v := 3) (by decide) dX12_meltsBy_0 ?_
  refine G_iconst (pc := 1) (v := 2) (by decide) dX12_meltsBy_1 ?_
  refine G_iload_n (pc := 2) rfl dX12_meltsBy_2 ?_
  refine G_imul (pc := 3) rfl dX12_meltsBy_3 ?_
  refine G_iadd (pc := 4) (e_k s hs) dX12_meltsBy_4 ?_
  refine G_istore (pc := 5) rfl rfl (by decide) dX12_meltsBy_5 ?_
  refine G_iconst (pc := 7) (v := 2) (by decide) dX12_meltsBy_7 ?_
  refine G_iload (pc := 8) rfl dX12_meltsBy_8 ?_
  refine G_imul (pc := 10) rfl dX12_meltsBy_10 ?_
  refine G_iload_n (pc := 11) rfl dX12_meltsBy_11 ?_
  refine G_isub (pc := 12) (e_s1 s hs) dX12_meltsBy_12 ?_
  refine G_istore (pc := 13) rfl rfl (by decide) dX12_meltsBy_13 ?_
  refine G_iload_n (pc := 15) rfl dX12_meltsBy_15 ?_
  refine oX12_meltsBy_16 _ _ _ _ _ _ (fun q hq e => ?_) (fun hne => absurd rfl (hne (3, 66) (by simp)))
  simp only [List.mem_cons, List.not_mem_nil, or_false] at hq
  rcases hq with rfl | rfl | rfl | rfl | rfl
  · exact absurd e (by decide)
  · exact absurd e (by decide)
  · refine G_iload (pc := 66) rfl dX12_meltsBy_66 ?_
    refine oX12_meltsBy_68 _ _ _ _ _ _ (fun c68 => absurd c68 (by show ¬ ((Int32.ofNat (2 * (3 + 2 * (s / 4)) - s % 4)).toInt ≤ 0); rw [n_int (by omega)]; omega)) (fun c68 => ?_)
    refine G_iload (pc := 71) rfl dX12_meltsBy_71 ?_
    refine G_iconst (pc := 73) (v := 2) (by decide) dX12_meltsBy_73 ?_
    refine G_idiv (pc := 74) (e_h2 _ (by omega)) (by decide) dX12_meltsBy_74 ?_
    refine G_goto (pc := 75) (tgt := 79) (by decide) dX12_meltsBy_75 ?_
    exact oX12_meltsBy_79 _ _ _ _ _ hQ
  · exact absurd e (by decide)
  · exact absurd e (by decide)
set_option maxRecDepth 100000 in
set_option maxHeartbeats 4000000 in
theorem sb3 {d t st : Nat} {I : gI} {Q : Option Value → gH → Prop} (ht : t < 100) (hst : st < 10) (hQ : Q (some (.int (Int32.ofNat (shp 3 t st)))) (SH0, RF0, I)) : gg d mX12_shapeBy 0 (gent 6 [.int (Int32.ofNat 3), .int (Int32.ofNat t), .int (Int32.ofNat st), .int 0]) [] I Q := by
  refine G_iload_n (pc := 0) rfl dX12_shapeBy_0 ?_
  refine G_bipush (pc := 1) (v := 10) (by decide) dX12_shapeBy_1 ?_
  refine G_idiv (pc := 3) (e_t10 t ht) (by decide) dX12_shapeBy_3 ?_
  refine G_iload_n (pc := 4) rfl dX12_shapeBy_4 ?_
  refine G_bipush (pc := 5) (v := 50) (by decide) dX12_shapeBy_5 ?_
  refine G_idiv (pc := 7) rfl (by decide) dX12_shapeBy_7 ?_
  refine G_iadd (pc := 8) (e_t50 t ht) dX12_shapeBy_8 ?_
  refine G_istore (pc := 9) rfl rfl (by decide) dX12_shapeBy_9 ?_
  refine G_iload_n (pc := 11) rfl dX12_shapeBy_11 ?_
  refine G_bipush (pc := 12) (v := 12) (by decide) dX12_shapeBy_12 ?_
  refine G_idiv (pc := 14) (e_t12 t ht) (by decide) dX12_shapeBy_14 ?_
  refine G_istore (pc := 15) rfl rfl (by decide) dX12_shapeBy_15 ?_
  refine G_iload_n (pc := 17) rfl dX12_shapeBy_17 ?_
  refine oX12_shapeBy_18 _ _ _ _ _ _ (fun q hq e => ?_) (fun hne => absurd rfl (hne (3, 57) (by simp)))
  simp only [List.mem_cons, List.not_mem_nil, or_false] at hq
  rcases hq with rfl | rfl | rfl | rfl | rfl
  · exact absurd e (by decide)
  · exact absurd e (by decide)
  · refine G_iload (pc := 57) rfl dX12_shapeBy_57 ?_
    refine G_iload_n (pc := 59) rfl dX12_shapeBy_59 ?_
    refine G_iconst (pc := 60) (v := 4) (by decide) dX12_shapeBy_60 ?_
    refine G_idiv (pc := 61) (e_st4 st hst) (by decide) dX12_shapeBy_61 ?_
    refine oX12_shapeBy_62 _ _ _ _ _ _ _ (fun c62 => ?_) (fun c62 => ?_)
    · simp only [crel, ne_eq, Classical.not_not] at c62
      rw [n_int (by omega), n_int (by omega)] at c62
      have ez : shp 3 t st = 0 := by show t / 10 + t / 50 - st / 4 = 0; omega
      rw [ez] at hQ
      refine G_iconst (pc := 74) (v := Int32.ofNat 0) (by decide) dX12_shapeBy_74 ?_
      exact oX12_shapeBy_75 _ _ _ _ _ hQ
    · simp only [crel, ne_eq, Classical.not_not] at c62
      rw [n_int (by omega), n_int (by omega)] at c62
      refine G_iload (pc := 65) rfl dX12_shapeBy_65 ?_
      refine G_iload_n (pc := 67) rfl dX12_shapeBy_67 ?_
      refine G_iconst (pc := 68) (v := 4) (by decide) dX12_shapeBy_68 ?_
      refine G_idiv (pc := 69) (e_st4 st hst) (by decide) dX12_shapeBy_69 ?_
      refine G_isub (pc := 70) (e_sub _ (by omega) _ (by omega) (by omega)) dX12_shapeBy_70 ?_
      refine G_goto (pc := 71) (tgt := 75) (by decide) dX12_shapeBy_71 ?_
      exact oX12_shapeBy_75 _ _ _ _ _ hQ
  · exact absurd e (by decide)
  · exact absurd e (by decide)
set_option maxRecDepth 100000 in
set_option maxHeartbeats 4000000 in
theorem mb4 {d s h : Nat} {I : gI} {Q : Option Value → gH → Prop} (hs : s < 16) (hh : h < 16) (hQ : Q (some (.int (Int32.ofNat (mlt 4 s h)))) (SH0, RF0, I)) : gg d mX12_meltsBy 0 (gent 6 [.int (Int32.ofNat 4), .int (Int32.ofNat (s / 4)), .int (Int32.ofNat (s % 4)), .int (Int32.ofNat h)]) [] I Q := by
  refine G_iconst (pc := 0) (v := 3) (by decide) dX12_meltsBy_0 ?_
  refine G_iconst (pc := 1) (v := 2) (by decide) dX12_meltsBy_1 ?_
  refine G_iload_n (pc := 2) rfl dX12_meltsBy_2 ?_
  refine G_imul (pc := 3) rfl dX12_meltsBy_3 ?_
  refine G_iadd (pc := 4) (e_k s hs) dX12_meltsBy_4 ?_
  refine G_istore (pc := 5) rfl rfl (by decide) dX12_meltsBy_5 ?_
  refine G_iconst (pc := 7) (v := 2) (by decide) dX12_meltsBy_7 ?_
  refine G_iload (pc := 8) rfl dX12_meltsBy_8 ?_
  refine G_imul (pc := 10) rfl dX12_meltsBy_10 ?_
  refine G_iload_n (pc := 11) rfl dX12_meltsBy_11 ?_
  refine G_isub (pc := 12) (e_s1 s hs) dX12_meltsBy_12 ?_
  refine G_istore (pc := 13) rfl rfl (by decide) dX12_meltsBy_13 ?_
  refine G_iload_n (pc := 15) rfl dX12_meltsBy_15 ?_
  refine oX12_meltsBy_16 _ _ _ _ _ _ (fun q hq e => ?_) (fun hne => absurd rfl (hne (4, 80) (by simp)))
  simp only [List.mem_cons, List.not_mem_nil, or_false] at hq
  rcases hq with rfl | rfl | rfl | rfl | rfl
  · exact absurd e (by decide)
  · exact absurd e (by decide)
  · exact absurd e (by decide)
  · refine G_iload_n (pc := 80) rfl dX12_meltsBy_80 ?_
    refine G_iload_n (pc := 81) rfl dX12_meltsBy_81 ?_
    refine G_imul (pc := 82) (e_sq _ (by omega)) dX12_meltsBy_82 ?_
    exact oX12_meltsBy_83 _ _ _ _ _ hQ
  · exact absurd e (by decide)
set_option maxRecDepth 100000 in
set_option maxHeartbeats 4000000 in
theorem sb4 {d t st : Nat} {I : gI} {Q : Option Value → gH → Prop} (ht : t < 100) (hst : st < 10) (hQ : Q (some (.int (Int32.ofNat (shp 4 t st)))) (SH0, RF0, I)) : gg d mX12_shapeBy 0 (gent 6 [.int (Int32.ofNat 4), .int (Int32.ofNat t), .int (Int32.ofNat st), .int 0]) [] I Q := by
  refine G_iload_n (pc := 0) rfl dX12_shapeBy_0 ?_
  refine G_bipush (pc := 1) (v := 10) (by decide) dX12_shapeBy_1 ?_
  refine G_idiv (pc := 3) (e_t10 t ht) (by decide) dX12_shapeBy_3 ?_
  refine G_iload_n (pc := 4) rfl dX12_shapeBy_4 ?_
  refine G_bipush (pc := 5) (v := 50) (by decide) dX12_shapeBy_5 ?_
  refine G_idiv (pc := 7) rfl (by decide) dX12_shapeBy_7 ?_
  refine G_iadd (pc := 8) (e_t50 t ht) dX12_shapeBy_8 ?_
  refine G_istore (pc := 9) rfl rfl (by decide) dX12_shapeBy_9 ?_
  refine G_iload_n (pc := 11) rfl dX12_shapeBy_11 ?_
  refine G_bipush (pc := 12) (v := 12) (by decide) dX12_shapeBy_12 ?_
  refine G_idiv (pc := 14) (e_t12 t ht) (by decide) dX12_shapeBy_14 ?_
  refine G_istore (pc := 15) rfl rfl (by decide) dX12_shapeBy_15 ?_
  refine G_iload_n (pc := 17) rfl dX12_shapeBy_17 ?_
  refine oX12_shapeBy_18 _ _ _ _ _ _ (fun q hq e => ?_) (fun hne => absurd rfl (hne (4, 76) (by simp)))
  simp only [List.mem_cons, List.not_mem_nil, or_false] at hq
  rcases hq with rfl | rfl | rfl | rfl | rfl
  · exact absurd e (by decide)
  · exact absurd e (by decide)
  · exact absurd e (by decide)
  · refine G_iload (pc := 76) rfl dX12_shapeBy_76 ?_
    exact oX12_shapeBy_78 _ _ _ _ _ hQ
  · exact absurd e (by decide)
set_option maxRecDepth 100000 in
set_option maxHeartbeats 4000000 in
theorem mb5 {d s h : Nat} {I : gI} {Q : Option Value → gH → Prop} (hs : s < 16) (hh : h < 16) (hQ : Q (some (.int (Int32.ofNat (mlt 5 s h)))) (SH0, RF0, I)) : gg d mX12_meltsBy 0 (gent 6 [.int (Int32.ofNat 5), .int (Int32.ofNat (s / 4)), .int (Int32.ofNat (s % 4)), .int (Int32.ofNat h)]) [] I Q := by
  refine G_iconst (pc := 0) (v := 3) (by decide) dX12_meltsBy_0 ?_
  refine G_iconst (pc := 1) (v := 2) (by decide) dX12_meltsBy_1 ?_
  refine G_iload_n (pc := 2) rfl dX12_meltsBy_2 ?_
  refine G_imul (pc := 3) rfl dX12_meltsBy_3 ?_
  refine G_iadd (pc := 4) (e_k s hs) dX12_meltsBy_4 ?_
  refine G_istore (pc := 5) rfl rfl (by decide) dX12_meltsBy_5 ?_
  refine G_iconst (pc := 7) (v := 2) (by decide) dX12_meltsBy_7 ?_
  refine G_iload (pc := 8) rfl dX12_meltsBy_8 ?_
  refine G_imul (pc := 10) rfl dX12_meltsBy_10 ?_
  refine G_iload_n (pc := 11) rfl dX12_meltsBy_11 ?_
  refine G_isub (pc := 12) (e_s1 s hs) dX12_meltsBy_12 ?_
  refine G_istore (pc := 13) rfl rfl (by decide) dX12_meltsBy_13 ?_
  refine G_iload_n (pc := 15) rfl dX12_meltsBy_15 ?_
  refine oX12_meltsBy_16 _ _ _ _ _ _ (fun q hq e => ?_) (fun hne => absurd rfl (hne (5, 84) (by simp)))
  simp only [List.mem_cons, List.not_mem_nil, or_false] at hq
  rcases hq with rfl | rfl | rfl | rfl | rfl
  · exact absurd e (by decide)
  · exact absurd e (by decide)
  · exact absurd e (by decide)
  · exact absurd e (by decide)
  · refine G_iload_n (pc := 84) rfl dX12_meltsBy_84 ?_
    refine G_iload_n (pc := 85) rfl dX12_meltsBy_85 ?_
    refine G_imul (pc := 86) (e_sq _ (by omega)) dX12_meltsBy_86 ?_
    refine G_iload_n (pc := 87) rfl dX12_meltsBy_87 ?_
    refine G_iconst (pc := 88) (v := 3) (by decide) dX12_meltsBy_88 ?_
    refine G_idiv (pc := 89) (e_h3 h hh) (by decide) dX12_meltsBy_89 ?_
    refine G_iadd (pc := 90) n_add dX12_meltsBy_90 ?_
    exact oX12_meltsBy_91 _ _ _ _ _ hQ
set_option maxRecDepth 100000 in
set_option maxHeartbeats 4000000 in
theorem sb5 {d t st : Nat} {I : gI} {Q : Option Value → gH → Prop} (ht : t < 100) (hst : st < 10) (hQ : Q (some (.int (Int32.ofNat (shp 5 t st)))) (SH0, RF0, I)) : gg d mX12_shapeBy 0 (gent 6 [.int (Int32.ofNat 5), .int (Int32.ofNat t), .int (Int32.ofNat st), .int 0]) [] I Q := by
  refine G_iload_n (pc := 0) rfl dX12_shapeBy_0 ?_
  refine G_bipush (pc := 1) (v := 10) (by decide) dX12_shapeBy_1 ?_
  refine G_idiv (pc := 3) (e_t10 t ht) (by decide) dX12_shapeBy_3 ?_
  refine G_iload_n (pc := 4) rfl dX12_shapeBy_4 ?_
  refine G_bipush (pc := 5) (v := 50) (by decide) dX12_shapeBy_5 ?_
  refine G_idiv (pc := 7) rfl (by decide) dX12_shapeBy_7 ?_
  refine G_iadd (pc := 8) (e_t50 t ht) dX12_shapeBy_8 ?_
  refine G_istore (pc := 9) rfl rfl (by decide) dX12_shapeBy_9 ?_
  refine G_iload_n (pc := 11) rfl dX12_shapeBy_11 ?_
  refine G_bipush (pc := 12) (v := 12) (by decide) dX12_shapeBy_12 ?_
  refine G_idiv (pc := 14) (e_t12 t ht) (by decide) dX12_shapeBy_14 ?_
  refine G_istore (pc := 15) rfl rfl (by decide) dX12_shapeBy_15 ?_
  refine G_iload_n (pc := 17) rfl dX12_shapeBy_17 ?_
  refine oX12_shapeBy_18 _ _ _ _ _ _ (fun q hq e => ?_) (fun hne => absurd rfl (hne (5, 79) (by simp)))
  simp only [List.mem_cons, List.not_mem_nil, or_false] at hq
  rcases hq with rfl | rfl | rfl | rfl | rfl
  · exact absurd e (by decide)
  · exact absurd e (by decide)
  · exact absurd e (by decide)
  · exact absurd e (by decide)
  · refine G_iload (pc := 79) rfl dX12_shapeBy_79 ?_
    refine G_iload_n (pc := 81) rfl dX12_shapeBy_81 ?_
    refine G_iadd (pc := 82) (e_a0 _ (by omega)) dX12_shapeBy_82 ?_
    refine G_bipush (pc := 83) (v := 9) (by decide) dX12_shapeBy_83 ?_
    refine oX12_shapeBy_85 _ _ _ _ _ _ _ (fun c85 => ?_) (fun c85 => ?_)
    · simp only [crel, ne_eq, Classical.not_not] at c85
      rw [n_int (by omega), show (9 : Int32).toInt = 9 from rfl] at c85
      have ez : shp 5 t st = t / 12 := by show (if 9 < t / 12 then 9 else t / 12) = _; rw [if_neg (by omega)]
      rw [ez] at hQ
      refine G_iload (pc := 93) rfl dX12_shapeBy_93 ?_
      refine G_iload_n (pc := 95) rfl dX12_shapeBy_95 ?_
      refine G_iadd (pc := 96) (e_a0 _ (by omega)) dX12_shapeBy_96 ?_
      exact oX12_shapeBy_97 _ _ _ _ _ hQ
    · simp only [crel, ne_eq, Classical.not_not] at c85
      rw [n_int (by omega), show (9 : Int32).toInt = 9 from rfl] at c85
      have ez : shp 5 t st = 9 := by show (if 9 < t / 12 then 9 else t / 12) = _; rw [if_pos (by omega)]
      rw [ez] at hQ
      refine G_bipush (pc := 88) (v := Int32.ofNat 9) (by decide) dX12_shapeBy_88 ?_
      refine G_goto (pc := 90) (tgt := 97) (by decide) dX12_shapeBy_90 ?_
      exact oX12_shapeBy_97 _ _ _ _ _ hQ
set_option maxRecDepth 100000 in
set_option maxHeartbeats 4000000 in
theorem held_T {d t y : Nat} {I : gI} {Q : Option Value → gH → Prop} (ht : t < 100) (hy : y < 25) (hQ : Q (some (.int (Int32.ofNat (t - y)))) (SH0, RF0, I)) : gg d mX12_held 0 (gent 2 [.int (Int32.ofNat t - Int32.ofNat y), .int 99]) [] I Q := by
  have e1 := e_ts t ht y hy
  have e2 := e_tl t ht y hy
  have k99 : (99 : Int32).toInt = 99 := rfl
  refine G_iload_n (pc := 0) rfl dX12_held_0 ?_
  refine oX12_held_1 _ _ _ _ _ _ (fun c1 => ?_) (fun c1 => ?_)
  · simp only [crel, ne_eq, Classical.not_not] at c1
    rw [if_neg (by omega)] at e1
    refine G_iload_n (pc := 8) rfl dX12_held_8 ?_
    refine G_iload_n (pc := 9) rfl dX12_held_9 ?_
    refine oX12_held_10 _ _ _ _ _ _ _ (fun c10 => ?_) (fun c10 => absurd (by show (Int32.ofNat t - Int32.ofNat y).toInt ≤ (99 : Int32).toInt; omega) c10)
    refine G_iload_n (pc := 17) rfl dX12_held_17 ?_
    exact oX12_held_18 _ _ _ _ _ (Qe e1 hQ)
  · simp only [crel, ne_eq, Classical.not_not] at c1
    rw [if_pos (by omega)] at e1
    refine G_iconst (pc := 4) (v := 0) (by decide) dX12_held_4 ?_
    refine G_goto (pc := 5) (tgt := 18) (by decide) dX12_held_5 ?_
    exact oX12_held_18 _ _ _ _ _ (Qe e1 hQ)
def mdT : aMd := [(79, 0, 15), (80, 0, 15)]
def mdF : aMd := [(79, 0, 15), (80, 0, 15), (67, 25, 25)]
set_option maxRecDepth 100000 in
set_option maxHeartbeats 4000000 in
theorem tell_loop_1 {d st t0 : Nat} {sun : Nat → Nat} {I : gI} {Q : Option Value → gH → Prop} (hsm : ∀ h, h < 16 → I 68 (7 + h) = Int32.ofNat (sun h)) (hsb : ∀ h, h < 16 → sun h < 16) (hst : st < 10) (ht0 : t0 < 100) (hQ : ∀ J, aInv bT J → afr mdT I J → (∀ q, q < 16 → J 79 q = Int32.ofNat (tN sun 1 st t0 q) ∧ J 80 q = Int32.ofNat (shp 1 (tN sun 1 st t0 q) st)) → Q none (SH0, RF0, J)) : ∀ (g h : Nat) (J : gI), h + g = 16 → aInv bT J → afr mdT I J → (∀ q, q < h → J 79 q = Int32.ofNat (tN sun 1 st t0 q) ∧ J 80 q = Int32.ofNat (shp 1 (tN sun 1 st t0 q) st)) → gg (d + 1) mX12_tellsLone 6 [some (.ref 67), some (.int (Int32.ofNat 1)), some (.int (Int32.ofNat st)), some (.int (Int32.ofNat t0)), some (.int (Int32.ofNat (tN sun 1 st t0 h))), some (.int (Int32.ofNat h)), none, none] [] J Q := by
  have k16 : (16 : Int32).toInt = 16 := rfl
  intro g
  induction g with
  | zero =>
    intro h J hk hJ hf hq
    have e : h = 16 := by omega
    subst e
    have kh : (Int32.ofNat 16).toInt = 16 := n_int (by omega)
    refine G_iload (pc := 6) rfl dX12_tellsLone_6 ?_
    refine G_bipush (pc := 8) (v := 16) (by decide) dX12_tellsLone_8 ?_
    refine oX12_tellsLone_10 _ _ _ _ _ _ _ (fun c10 => ?_) (fun c10 => absurd (by show (16 : Int32).toInt ≤ (Int32.ofNat 16).toInt; omega) c10)
    exact oX12_tellsLone_97 _ _ _ _ (hQ J hJ hf hq)
  | succ g ih =>
    intro h J hk hJ hf hq
    have hh : h < 16 := by omega
    have kh : (Int32.ofNat h).toInt = h := n_int (by omega)
    have ht : tN sun 1 st t0 h < 100 := tN_le ht0 h
    have hm : mlt 1 (sun h) h < 25 := mlt_le 1 (by decide) _ (hsb h hh) h hh
    have hq2 : ∀ q, q < h + 1 → (gup (gup J 79 h (Int32.ofNat (tN sun 1 st t0 h))) 80 h (Int32.ofNat (shp 1 (tN sun 1 st t0 h) st))) 79 q = Int32.ofNat (tN sun 1 st t0 q) ∧ (gup (gup J 79 h (Int32.ofNat (tN sun 1 st t0 h))) 80 h (Int32.ofNat (shp 1 (tN sun 1 st t0 h) st))) 80 q = Int32.ofNat (shp 1 (tN sun 1 st t0 q) st) := fun q hq3 => by
      by_cases e : q = h
      · rw [e, gup_ne (Or.inl (by decide)), gup_at, gup_at]
        exact ⟨rfl, rfl⟩
      · rw [gup_ne (Or.inl (by decide)), gup_ne (Or.inr e), gup_ne (Or.inr e), gup_ne (Or.inl (by decide))]
        exact hq q (by omega)
    refine G_iload (pc := 6) rfl dX12_tellsLone_6 ?_
    refine G_bipush (pc := 8) (v := 16) (by decide) dX12_tellsLone_8 ?_
    refine oX12_tellsLone_10 _ _ _ _ _ _ _ (fun c10 => absurd c10 (by show ¬ ((16 : Int32).toInt ≤ (Int32.ofNat h).toInt); omega)) (fun c10 => ?_)
    refine G_aload_n (pc := 13) rfl dX12_tellsLone_13 ?_
    refine G_getR (pc := 14) (ci := 12) (j := 23) rfl lq_RX12_44 rfl rfl rfl dX12_tellsLone_14 ?_
    refine G_iload (pc := 17) rfl dX12_tellsLone_17 ?_
    refine G_iload (pc := 19) rfl dX12_tellsLone_19 ?_
    refine G_iast (pc := 21) (jj := h) (n_jj (by omega)) rfl (n_in (by omega) (by omega)) dX12_tellsLone_21 ?_
    refine G_aload_n (pc := 22) rfl dX12_tellsLone_22 ?_
    refine G_getR (pc := 23) (ci := 12) (j := 24) rfl lq_RX12_47 rfl rfl rfl dX12_tellsLone_23 ?_
    refine G_iload (pc := 26) rfl dX12_tellsLone_26 ?_
    refine G_iload_n (pc := 28) rfl dX12_tellsLone_28 ?_
    refine G_iload (pc := 29) rfl dX12_tellsLone_29 ?_
    refine G_iload_n (pc := 31) rfl dX12_tellsLone_31 ?_
    refine G_iconst (pc := 32) (v := 0) (by decide) dX12_tellsLone_32 ?_
    refine oX12_tellsLone_33 d _ [.int _, .int _, .int _, .int _] [.int _, .ref 80] _ _ _ mX12_shapeBy mt_X12_shapeBy rfl (lsi (lsi (lsi (lsi ls0)))) (lsi (lsr ls0)) (by simp) (sb1 ht hst ?_) (fun _ _ h => h)
    dsimp only [Option.toList, List.cons_append, List.nil_append]
    refine G_iast (pc := 36) (jj := h) (n_jj (by omega)) rfl (n_in (by omega) (by omega)) dX12_tellsLone_36 ?_
    refine G_aload_n (pc := 37) rfl dX12_tellsLone_37 ?_
    refine G_getR (pc := 38) (ci := 12) (j := 0) rfl lq_RX12_9 rfl rfl rfl dX12_tellsLone_38 ?_
    refine G_bipush (pc := 41) (v := 7) (by decide) dX12_tellsLone_41 ?_
    refine G_iload (pc := 43) rfl dX12_tellsLone_43 ?_
    refine G_iadd (pc := 45) n_7 dX12_tellsLone_45 ?_
    refine G_iald (pc := 46) (jj := 7 + h) (n_jj (by omega)) ((gup_ne (Or.inl (by decide))).trans ((gup_ne (Or.inl (by decide))).trans ((hf 68 _ (ncs_ok (by decide +kernel))).trans (hsm h hh)))) rfl (n_in (by omega) (by omega)) dX12_tellsLone_46 ?_
    refine G_istore (pc := 47) rfl rfl (by decide) dX12_tellsLone_47 ?_
    refine G_iload_n (pc := 49) rfl dX12_tellsLone_49 ?_
    refine G_iload (pc := 50) rfl dX12_tellsLone_50 ?_
    refine G_iconst (pc := 52) (v := 4) (by decide) dX12_tellsLone_52 ?_
    refine G_idiv (pc := 53) (e_q4 _ (hsb h hh)) (by decide) dX12_tellsLone_53 ?_
    refine G_iload (pc := 54) rfl dX12_tellsLone_54 ?_
    refine G_iconst (pc := 56) (v := 4) (by decide) dX12_tellsLone_56 ?_
    refine G_irem (pc := 57) (e_r4 _ (hsb h hh)) (by decide) dX12_tellsLone_57 ?_
    refine G_iload (pc := 58) rfl dX12_tellsLone_58 ?_
    refine oX12_tellsLone_60 d _ [.int _, .int _, .int _, .int _] [] _ _ _ mX12_meltsBy mt_X12_meltsBy rfl (lsi (lsi (lsi (lsi ls0)))) ls0 (by simp) (mb1 (hsb h hh) hh ?_) (fun _ _ h => h)
    dsimp only [Option.toList, List.cons_append, List.nil_append]
    refine G_iload_n (pc := 63) rfl dX12_tellsLone_63 ?_
    refine G_iconst (pc := 64) (v := 3) (by decide) dX12_tellsLone_64 ?_
    refine G_idiv (pc := 65) (e_st3 st hst) (by decide) dX12_tellsLone_65 ?_
    refine G_isub (pc := 66) rfl dX12_tellsLone_66 ?_
    refine G_istore (pc := 67) rfl rfl (by decide) dX12_tellsLone_67 ?_
    refine G_iload (pc := 69) rfl dX12_tellsLone_69 ?_
    refine oX12_tellsLone_71 _ _ _ _ _ _ (fun c71 => ?_) (fun c71 => ?_)
    · simp only [crel, ne_eq, Classical.not_not] at c71
      rw [e_xi _ hm _ (by omega)] at c71
      have et : tN sun 1 st t0 h = tN sun 1 st t0 (h + 1) := by show _ = tN sun 1 st t0 h - (mlt 1 (sun h) h - st / 3); omega
      refine G_iload (pc := 87) rfl dX12_tellsLone_87 ?_
      refine G_istore (pc := 89) rfl rfl (by decide) dX12_tellsLone_89 ?_
      refine G_iinc (pc := 91) (v := Int32.ofNat 1) n_add rfl rfl (by decide) rfl (by decide) dX12_tellsLone_91 ?_
      refine G_goto (pc := 94) (tgt := 6) (by decide) dX12_tellsLone_94 ?_
      refine G_drop 6 rfl ?_
      refine G_drop 7 rfl ?_
      have nx := ih (h + 1) (gup (gup J 79 h (Int32.ofNat (tN sun 1 st t0 h))) 80 h (Int32.ofNat (shp 1 (tN sun 1 st t0 h) st))) (by omega) (inv_put (inv_put hJ (a_full (bn_none (by decide +kernel)))) (a_full (bn_none (by decide +kernel)))) ((hf.put (amodr_i (a := 0) (b := 15) (by decide) (Nat.zero_le _) (by omega))).put (amodr_i (a := 0) (b := 15) (by decide) (Nat.zero_le _) (by omega))) hq2
      rw [← et] at nx
      exact nx
    · simp only [crel, ne_eq, Classical.not_not] at c71
      rw [e_xi _ hm _ (by omega)] at c71
      refine G_iload (pc := 74) rfl dX12_tellsLone_74 ?_
      refine G_iload (pc := 76) rfl dX12_tellsLone_76 ?_
      refine G_isub (pc := 78) (by rw [e_sub _ hm _ (by omega) (by omega)]) dX12_tellsLone_78 ?_
      refine G_bipush (pc := 79) (v := 99) (by decide) dX12_tellsLone_79 ?_
      refine oX12_tellsLone_81 d _ [.int _, .int _] [] _ _ _ mX12_held mt_X12_held rfl (lsi (lsi ls0)) ls0 (by simp) (held_T ht (by omega) ?_) (fun _ _ h => h)
      dsimp only [Option.toList, List.cons_append, List.nil_append]
      refine G_goto (pc := 84) (tgt := 89) (by decide) dX12_tellsLone_84 ?_
      refine G_istore (pc := 89) rfl rfl (by decide) dX12_tellsLone_89 ?_
      refine G_iinc (pc := 91) (v := Int32.ofNat 1) n_add rfl rfl (by decide) rfl (by decide) dX12_tellsLone_91 ?_
      refine G_goto (pc := 94) (tgt := 6) (by decide) dX12_tellsLone_94 ?_
      refine G_drop 6 rfl ?_
      refine G_drop 7 rfl ?_
      exact ih (h + 1) (gup (gup J 79 h (Int32.ofNat (tN sun 1 st t0 h))) 80 h (Int32.ofNat (shp 1 (tN sun 1 st t0 h) st))) (by omega) (inv_put (inv_put hJ (a_full (bn_none (by decide +kernel)))) (a_full (bn_none (by decide +kernel)))) ((hf.put (amodr_i (a := 0) (b := 15) (by decide) (Nat.zero_le _) (by omega))).put (amodr_i (a := 0) (b := 15) (by decide) (Nat.zero_le _) (by omega))) hq2
set_option maxRecDepth 100000 in
set_option maxHeartbeats 4000000 in
theorem tell_1 {d st t0 : Nat} {sun : Nat → Nat} {I : gI} {Q : Option Value → gH → Prop} (hsm : ∀ h, h < 16 → I 68 (7 + h) = Int32.ofNat (sun h)) (hsb : ∀ h, h < 16 → sun h < 16) (hi : aInv bT I) (hst : st < 10) (ht0 : t0 < 100) (hQ : ∀ J, aInv bT J → afr mdT I J → (∀ q, q < 16 → J 79 q = Int32.ofNat (tN sun 1 st t0 q) ∧ J 80 q = Int32.ofNat (shp 1 (tN sun 1 st t0 q) st)) → Q none (SH0, RF0, J)) : gg (d + 1) mX12_tellsLone 0 (gent 8 [.ref 67, .int (Int32.ofNat 1), .int (Int32.ofNat st), .int (Int32.ofNat t0)]) [] I Q := by
  refine G_iload_n (pc := 0) rfl dX12_tellsLone_0 ?_
  refine G_istore (pc := 1) rfl rfl (by decide) dX12_tellsLone_1 ?_
  refine G_iconst (pc := 3) (v := Int32.ofNat 0) (by decide) dX12_tellsLone_3 ?_
  refine G_istore (pc := 4) rfl rfl (by decide) dX12_tellsLone_4 ?_
  exact tell_loop_1 hsm hsb hst ht0 hQ 16 0 I rfl hi afr.rf (fun q hq => by omega)
set_option maxRecDepth 100000 in
set_option maxHeartbeats 4000000 in
theorem tell_loop_2 {d st t0 : Nat} {sun : Nat → Nat} {I : gI} {Q : Option Value → gH → Prop} (hsm : ∀ h, h < 16 → I 68 (7 + h) = Int32.ofNat (sun h)) (hsb : ∀ h, h < 16 → sun h < 16) (hst : st < 10) (ht0 : t0 < 100) (hQ : ∀ J, aInv bT J → afr mdT I J → (∀ q, q < 16 → J 79 q = Int32.ofNat (tN sun 2 st t0 q) ∧ J 80 q = Int32.ofNat (shp 2 (tN sun 2 st t0 q) st)) → Q none (SH0, RF0, J)) : ∀ (g h : Nat) (J : gI), h + g = 16 → aInv bT J → afr mdT I J → (∀ q, q < h → J 79 q = Int32.ofNat (tN sun 2 st t0 q) ∧ J 80 q = Int32.ofNat (shp 2 (tN sun 2 st t0 q) st)) → gg (d + 1) mX12_tellsLone 6 [some (.ref 67), some (.int (Int32.ofNat 2)), some (.int (Int32.ofNat st)), some (.int (Int32.ofNat t0)), some (.int (Int32.ofNat (tN sun 2 st t0 h))), some (.int (Int32.ofNat h)), none, none] [] J Q := by
  have k16 : (16 : Int32).toInt = 16 := rfl
  intro g
  induction g with
  | zero =>
    intro h J hk hJ hf hq
    have e : h = 16 := by omega
    subst e
    have kh : (Int32.ofNat 16).toInt = 16 := n_int (by omega)
    refine G_iload (pc := 6) rfl dX12_tellsLone_6 ?_
    refine G_bipush (pc := 8) (v := 16) (by decide) dX12_tellsLone_8 ?_
    refine oX12_tellsLone_10 _ _ _ _ _ _ _ (fun c10 => ?_) (fun c10 => absurd (by show (16 : Int32).toInt ≤ (Int32.ofNat 16).toInt; omega) c10)
    exact oX12_tellsLone_97 _ _ _ _ (hQ J hJ hf hq)
  | succ g ih =>
    intro h J hk hJ hf hq
    have hh : h < 16 := by omega
    have kh : (Int32.ofNat h).toInt = h := n_int (by omega)
    have ht : tN sun 2 st t0 h < 100 := tN_le ht0 h
    have hm : mlt 2 (sun h) h < 25 := mlt_le 2 (by decide) _ (hsb h hh) h hh
    have hq2 : ∀ q, q < h + 1 → (gup (gup J 79 h (Int32.ofNat (tN sun 2 st t0 h))) 80 h (Int32.ofNat (shp 2 (tN sun 2 st t0 h) st))) 79 q = Int32.ofNat (tN sun 2 st t0 q) ∧ (gup (gup J 79 h (Int32.ofNat (tN sun 2 st t0 h))) 80 h (Int32.ofNat (shp 2 (tN sun 2 st t0 h) st))) 80 q = Int32.ofNat (shp 2 (tN sun 2 st t0 q) st) := fun q hq3 => by
      by_cases e : q = h
      · rw [e, gup_ne (Or.inl (by decide)), gup_at, gup_at]
        exact ⟨rfl, rfl⟩
      · rw [gup_ne (Or.inl (by decide)), gup_ne (Or.inr e), gup_ne (Or.inr e), gup_ne (Or.inl (by decide))]
        exact hq q (by omega)
    refine G_iload (pc := 6) rfl dX12_tellsLone_6 ?_
    refine G_bipush (pc := 8) (v := 16) (by decide) dX12_tellsLone_8 ?_
    refine oX12_tellsLone_10 _ _ _ _ _ _ _ (fun c10 => absurd c10 (by show ¬ ((16 : Int32).toInt ≤ (Int32.ofNat h).toInt); omega)) (fun c10 => ?_)
    refine G_aload_n (pc := 13) rfl dX12_tellsLone_13 ?_
    refine G_getR (pc := 14) (ci := 12) (j := 23) rfl lq_RX12_44 rfl rfl rfl dX12_tellsLone_14 ?_
    refine G_iload (pc := 17) rfl dX12_tellsLone_17 ?_
    refine G_iload (pc := 19) rfl dX12_tellsLone_19 ?_
    refine G_iast (pc := 21) (jj := h) (n_jj (by omega)) rfl (n_in (by omega) (by omega)) dX12_tellsLone_21 ?_
    refine G_aload_n (pc := 22) rfl dX12_tellsLone_22 ?_
    refine G_getR (pc := 23) (ci := 12) (j := 24) rfl lq_RX12_47 rfl rfl rfl dX12_tellsLone_23 ?_
    refine G_iload (pc := 26) rfl dX12_tellsLone_26 ?_
    refine G_iload_n (pc := 28) rfl dX12_tellsLone_28 ?_
    refine G_iload (pc := 29) rfl dX12_tellsLone_29 ?_
    refine G_iload_n (pc := 31) rfl dX12_tellsLone_31 ?_
    refine G_iconst (pc := 32) (v := 0) (by decide) dX12_tellsLone_32 ?_
    refine oX12_tellsLone_33 d _ [.int _, .int _, .int _, .int _] [.int _, .ref 80] _ _ _ mX12_shapeBy mt_X12_shapeBy rfl (lsi (lsi (lsi (lsi ls0)))) (lsi (lsr ls0)) (by simp) (sb2 ht hst ?_) (fun _ _ h => h)
    dsimp only [Option.toList, List.cons_append, List.nil_append]
    refine G_iast (pc := 36) (jj := h) (n_jj (by omega)) rfl (n_in (by omega) (by omega)) dX12_tellsLone_36 ?_
    refine G_aload_n (pc := 37) rfl dX12_tellsLone_37 ?_
    refine G_getR (pc := 38) (ci := 12) (j := 0) rfl lq_RX12_9 rfl rfl rfl dX12_tellsLone_38 ?_
    refine G_bipush (pc := 41) (v := 7) (by decide) dX12_tellsLone_41 ?_
    refine G_iload (pc := 43) rfl dX12_tellsLone_43 ?_
    refine G_iadd (pc := 45) n_7 dX12_tellsLone_45 ?_
    refine G_iald (pc := 46) (jj := 7 + h) (n_jj (by omega)) ((gup_ne (Or.inl (by decide))).trans ((gup_ne (Or.inl (by decide))).trans ((hf 68 _ (ncs_ok (by decide +kernel))).trans (hsm h hh)))) rfl (n_in (by omega) (by omega)) dX12_tellsLone_46 ?_
    refine G_istore (pc := 47) rfl rfl (by decide) dX12_tellsLone_47 ?_
    refine G_iload_n (pc := 49) rfl dX12_tellsLone_49 ?_
    refine G_iload (pc := 50) rfl dX12_tellsLone_50 ?_
    refine G_iconst (pc := 52) (v := 4) (by decide) dX12_tellsLone_52 ?_
    refine G_idiv (pc := 53) (e_q4 _ (hsb h hh)) (by decide) dX12_tellsLone_53 ?_
    refine G_iload (pc := 54) rfl dX12_tellsLone_54 ?_
    refine G_iconst (pc := 56) (v := 4) (by decide) dX12_tellsLone_56 ?_
    refine G_irem (pc := 57) (e_r4 _ (hsb h hh)) (by decide) dX12_tellsLone_57 ?_
    refine G_iload (pc := 58) rfl dX12_tellsLone_58 ?_
    refine oX12_tellsLone_60 d _ [.int _, .int _, .int _, .int _] [] _ _ _ mX12_meltsBy mt_X12_meltsBy rfl (lsi (lsi (lsi (lsi ls0)))) ls0 (by simp) (mb2 (hsb h hh) hh ?_) (fun _ _ h => h)
    dsimp only [Option.toList, List.cons_append, List.nil_append]
    refine G_iload_n (pc := 63) rfl dX12_tellsLone_63 ?_
    refine G_iconst (pc := 64) (v := 3) (by decide) dX12_tellsLone_64 ?_
    refine G_idiv (pc := 65) (e_st3 st hst) (by decide) dX12_tellsLone_65 ?_
    refine G_isub (pc := 66) rfl dX12_tellsLone_66 ?_
    refine G_istore (pc := 67) rfl rfl (by decide) dX12_tellsLone_67 ?_
    refine G_iload (pc := 69) rfl dX12_tellsLone_69 ?_
    refine oX12_tellsLone_71 _ _ _ _ _ _ (fun c71 => ?_) (fun c71 => ?_)
    · simp only [crel, ne_eq, Classical.not_not] at c71
      rw [e_xi _ hm _ (by omega)] at c71
      have et : tN sun 2 st t0 h = tN sun 2 st t0 (h + 1) := by show _ = tN sun 2 st t0 h - (mlt 2 (sun h) h - st / 3); omega
      refine G_iload (pc := 87) rfl dX12_tellsLone_87 ?_
      refine G_istore (pc := 89) rfl rfl (by decide) dX12_tellsLone_89 ?_
      refine G_iinc (pc := 91) (v := Int32.ofNat 1) n_add rfl rfl (by decide) rfl (by decide) dX12_tellsLone_91 ?_
      refine G_goto (pc := 94) (tgt := 6) (by decide) dX12_tellsLone_94 ?_
      refine G_drop 6 rfl ?_
      refine G_drop 7 rfl ?_
      have nx := ih (h + 1) (gup (gup J 79 h (Int32.ofNat (tN sun 2 st t0 h))) 80 h (Int32.ofNat (shp 2 (tN sun 2 st t0 h) st))) (by omega) (inv_put (inv_put hJ (a_full (bn_none (by decide +kernel)))) (a_full (bn_none (by decide +kernel)))) ((hf.put (amodr_i (a := 0) (b := 15) (by decide) (Nat.zero_le _) (by omega))).put (amodr_i (a := 0) (b := 15) (by decide) (Nat.zero_le _) (by omega))) hq2
      rw [← et] at nx
      exact nx
    · simp only [crel, ne_eq, Classical.not_not] at c71
      rw [e_xi _ hm _ (by omega)] at c71
      refine G_iload (pc := 74) rfl dX12_tellsLone_74 ?_
      refine G_iload (pc := 76) rfl dX12_tellsLone_76 ?_
      refine G_isub (pc := 78) (by rw [e_sub _ hm _ (by omega) (by omega)]) dX12_tellsLone_78 ?_
      refine G_bipush (pc := 79) (v := 99) (by decide) dX12_tellsLone_79 ?_
      refine oX12_tellsLone_81 d _ [.int _, .int _] [] _ _ _ mX12_held mt_X12_held rfl (lsi (lsi ls0)) ls0 (by simp) (held_T ht (by omega) ?_) (fun _ _ h => h)
      dsimp only [Option.toList, List.cons_append, List.nil_append]
      refine G_goto (pc := 84) (tgt := 89) (by decide) dX12_tellsLone_84 ?_
      refine G_istore (pc := 89) rfl rfl (by decide) dX12_tellsLone_89 ?_
      refine G_iinc (pc := 91) (v := Int32.ofNat 1) n_add rfl rfl (by decide) rfl (by decide) dX12_tellsLone_91 ?_
      refine G_goto (pc := 94) (tgt := 6) (by decide) dX12_tellsLone_94 ?_
      refine G_drop 6 rfl ?_
      refine G_drop 7 rfl ?_
      exact ih (h + 1) (gup (gup J 79 h (Int32.ofNat (tN sun 2 st t0 h))) 80 h (Int32.ofNat (shp 2 (tN sun 2 st t0 h) st))) (by omega) (inv_put (inv_put hJ (a_full (bn_none (by decide +kernel)))) (a_full (bn_none (by decide +kernel)))) ((hf.put (amodr_i (a := 0) (b := 15) (by decide) (Nat.zero_le _) (by omega))).put (amodr_i (a := 0) (b := 15) (by decide) (Nat.zero_le _) (by omega))) hq2
set_option maxRecDepth 100000 in
set_option maxHeartbeats 4000000 in
theorem tell_2 {d st t0 : Nat} {sun : Nat → Nat} {I : gI} {Q : Option Value → gH → Prop} (hsm : ∀ h, h < 16 → I 68 (7 + h) = Int32.ofNat (sun h)) (hsb : ∀ h, h < 16 → sun h < 16) (hi : aInv bT I) (hst : st < 10) (ht0 : t0 < 100) (hQ : ∀ J, aInv bT J → afr mdT I J → (∀ q, q < 16 → J 79 q = Int32.ofNat (tN sun 2 st t0 q) ∧ J 80 q = Int32.ofNat (shp 2 (tN sun 2 st t0 q) st)) → Q none (SH0, RF0, J)) : gg (d + 1) mX12_tellsLone 0 (gent 8 [.ref 67, .int (Int32.ofNat 2), .int (Int32.ofNat st), .int (Int32.ofNat t0)]) [] I Q := by
  refine G_iload_n (pc := 0) rfl dX12_tellsLone_0 ?_
  refine G_istore (pc := 1) rfl rfl (by decide) dX12_tellsLone_1 ?_
  refine G_iconst (pc := 3) (v := Int32.ofNat 0) (by decide) dX12_tellsLone_3 ?_
  refine G_istore (pc := 4) rfl rfl (by decide) dX12_tellsLone_4 ?_
  exact tell_loop_2 hsm hsb hst ht0 hQ 16 0 I rfl hi afr.rf (fun q hq => by omega)
set_option maxRecDepth 100000 in
set_option maxHeartbeats 4000000 in
theorem tell_loop_3 {d st t0 : Nat} {sun : Nat → Nat} {I : gI} {Q : Option Value → gH → Prop} (hsm : ∀ h, h < 16 → I 68 (7 + h) = Int32.ofNat (sun h)) (hsb : ∀ h, h < 16 → sun h < 16) (hst : st < 10) (ht0 : t0 < 100) (hQ : ∀ J, aInv bT J → afr mdT I J → (∀ q, q < 16 → J 79 q = Int32.ofNat (tN sun 3 st t0 q) ∧ J 80 q = Int32.ofNat (shp 3 (tN sun 3 st t0 q) st)) → Q none (SH0, RF0, J)) : ∀ (g h : Nat) (J : gI), h + g = 16 → aInv bT J → afr mdT I J → (∀ q, q < h → J 79 q = Int32.ofNat (tN sun 3 st t0 q) ∧ J 80 q = Int32.ofNat (shp 3 (tN sun 3 st t0 q) st)) → gg (d + 1) mX12_tellsLone 6 [some (.ref 67), some (.int (Int32.ofNat 3)), some (.int (Int32.ofNat st)), some (.int (Int32.ofNat t0)), some (.int (Int32.ofNat (tN sun 3 st t0 h))), some (.int (Int32.ofNat h)), none, none] [] J Q := by
  have k16 : (16 : Int32).toInt = 16 := rfl
  intro g
  induction g with
  | zero =>
    intro h J hk hJ hf hq
    have e : h = 16 := by omega
    subst e
    have kh : (Int32.ofNat 16).toInt = 16 := n_int (by omega)
    refine G_iload (pc := 6) rfl dX12_tellsLone_6 ?_
    refine G_bipush (pc := 8) (v := 16) (by decide) dX12_tellsLone_8 ?_
    refine oX12_tellsLone_10 _ _ _ _ _ _ _ (fun c10 => ?_) (fun c10 => absurd (by show (16 : Int32).toInt ≤ (Int32.ofNat 16).toInt; omega) c10)
    exact oX12_tellsLone_97 _ _ _ _ (hQ J hJ hf hq)
  | succ g ih =>
    intro h J hk hJ hf hq
    have hh : h < 16 := by omega
    have kh : (Int32.ofNat h).toInt = h := n_int (by omega)
    have ht : tN sun 3 st t0 h < 100 := tN_le ht0 h
    have hm : mlt 3 (sun h) h < 25 := mlt_le 3 (by decide) _ (hsb h hh) h hh
    have hq2 : ∀ q, q < h + 1 → (gup (gup J 79 h (Int32.ofNat (tN sun 3 st t0 h))) 80 h (Int32.ofNat (shp 3 (tN sun 3 st t0 h) st))) 79 q = Int32.ofNat (tN sun 3 st t0 q) ∧ (gup (gup J 79 h (Int32.ofNat (tN sun 3 st t0 h))) 80 h (Int32.ofNat (shp 3 (tN sun 3 st t0 h) st))) 80 q = Int32.ofNat (shp 3 (tN sun 3 st t0 q) st) := fun q hq3 => by
      by_cases e : q = h
      · rw [e, gup_ne (Or.inl (by decide)), gup_at, gup_at]
        exact ⟨rfl, rfl⟩
      · rw [gup_ne (Or.inl (by decide)), gup_ne (Or.inr e), gup_ne (Or.inr e), gup_ne (Or.inl (by decide))]
        exact hq q (by omega)
    refine G_iload (pc := 6) rfl dX12_tellsLone_6 ?_
    refine G_bipush (pc := 8) (v := 16) (by decide) dX12_tellsLone_8 ?_
    refine oX12_tellsLone_10 _ _ _ _ _ _ _ (fun c10 => absurd c10 (by show ¬ ((16 : Int32).toInt ≤ (Int32.ofNat h).toInt); omega)) (fun c10 => ?_)
    refine G_aload_n (pc := 13) rfl dX12_tellsLone_13 ?_
    refine G_getR (pc := 14) (ci := 12) (j := 23) rfl lq_RX12_44 rfl rfl rfl dX12_tellsLone_14 ?_
    refine G_iload (pc := 17) rfl dX12_tellsLone_17 ?_
    refine G_iload (pc := 19) rfl dX12_tellsLone_19 ?_
    refine G_iast (pc := 21) (jj := h) (n_jj (by omega)) rfl (n_in (by omega) (by omega)) dX12_tellsLone_21 ?_
    refine G_aload_n (pc := 22) rfl dX12_tellsLone_22 ?_
    refine G_getR (pc := 23) (ci := 12) (j := 24) rfl lq_RX12_47 rfl rfl rfl dX12_tellsLone_23 ?_
    refine G_iload (pc := 26) rfl dX12_tellsLone_26 ?_
    refine G_iload_n (pc := 28) rfl dX12_tellsLone_28 ?_
    refine G_iload (pc := 29) rfl dX12_tellsLone_29 ?_
    refine G_iload_n (pc := 31) rfl dX12_tellsLone_31 ?_
    refine G_iconst (pc := 32) (v := 0) (by decide) dX12_tellsLone_32 ?_
    refine oX12_tellsLone_33 d _ [.int _, .int _, .int _, .int _] [.int _, .ref 80] _ _ _ mX12_shapeBy mt_X12_shapeBy rfl (lsi (lsi (lsi (lsi ls0)))) (lsi (lsr ls0)) (by simp) (sb3 ht hst ?_) (fun _ _ h => h)
    dsimp only [Option.toList, List.cons_append, List.nil_append]
    refine G_iast (pc := 36) (jj := h) (n_jj (by omega)) rfl (n_in (by omega) (by omega)) dX12_tellsLone_36 ?_
    refine G_aload_n (pc := 37) rfl dX12_tellsLone_37 ?_
    refine G_getR (pc := 38) (ci := 12) (j := 0) rfl lq_RX12_9 rfl rfl rfl dX12_tellsLone_38 ?_
    refine G_bipush (pc := 41) (v := 7) (by decide) dX12_tellsLone_41 ?_
    refine G_iload (pc := 43) rfl dX12_tellsLone_43 ?_
    refine G_iadd (pc := 45) n_7 dX12_tellsLone_45 ?_
    refine G_iald (pc := 46) (jj := 7 + h) (n_jj (by omega)) ((gup_ne (Or.inl (by decide))).trans ((gup_ne (Or.inl (by decide))).trans ((hf 68 _ (ncs_ok (by decide +kernel))).trans (hsm h hh)))) rfl (n_in (by omega) (by omega)) dX12_tellsLone_46 ?_
    refine G_istore (pc := 47) rfl rfl (by decide) dX12_tellsLone_47 ?_
    refine G_iload_n (pc := 49) rfl dX12_tellsLone_49 ?_
    refine G_iload (pc := 50) rfl dX12_tellsLone_50 ?_
    refine G_iconst (pc := 52) (v := 4) (by decide) dX12_tellsLone_52 ?_
    refine G_idiv (pc := 53) (e_q4 _ (hsb h hh)) (by decide) dX12_tellsLone_53 ?_
    refine G_iload (pc := 54) rfl dX12_tellsLone_54 ?_
    refine G_iconst (pc := 56) (v := 4) (by decide) dX12_tellsLone_56 ?_
    refine G_irem (pc := 57) (e_r4 _ (hsb h hh)) (by decide) dX12_tellsLone_57 ?_
    refine G_iload (pc := 58) rfl dX12_tellsLone_58 ?_
    refine oX12_tellsLone_60 d _ [.int _, .int _, .int _, .int _] [] _ _ _ mX12_meltsBy mt_X12_meltsBy rfl (lsi (lsi (lsi (lsi ls0)))) ls0 (by simp) (mb3 (hsb h hh) hh ?_) (fun _ _ h => h)
    dsimp only [Option.toList, List.cons_append, List.nil_append]
    refine G_iload_n (pc := 63) rfl dX12_tellsLone_63 ?_
    refine G_iconst (pc := 64) (v := 3) (by decide) dX12_tellsLone_64 ?_
    refine G_idiv (pc := 65) (e_st3 st hst) (by decide) dX12_tellsLone_65 ?_
    refine G_isub (pc := 66) rfl dX12_tellsLone_66 ?_
    refine G_istore (pc := 67) rfl rfl (by decide) dX12_tellsLone_67 ?_
    refine G_iload (pc := 69) rfl dX12_tellsLone_69 ?_
    refine oX12_tellsLone_71 _ _ _ _ _ _ (fun c71 => ?_) (fun c71 => ?_)
    · simp only [crel, ne_eq, Classical.not_not] at c71
      rw [e_xi _ hm _ (by omega)] at c71
      have et : tN sun 3 st t0 h = tN sun 3 st t0 (h + 1) := by show _ = tN sun 3 st t0 h - (mlt 3 (sun h) h - st / 3); omega
      refine G_iload (pc := 87) rfl dX12_tellsLone_87 ?_
      refine G_istore (pc := 89) rfl rfl (by decide) dX12_tellsLone_89 ?_
      refine G_iinc (pc := 91) (v := Int32.ofNat 1) n_add rfl rfl (by decide) rfl (by decide) dX12_tellsLone_91 ?_
      refine G_goto (pc := 94) (tgt := 6) (by decide) dX12_tellsLone_94 ?_
      refine G_drop 6 rfl ?_
      refine G_drop 7 rfl ?_
      have nx := ih (h + 1) (gup (gup J 79 h (Int32.ofNat (tN sun 3 st t0 h))) 80 h (Int32.ofNat (shp 3 (tN sun 3 st t0 h) st))) (by omega) (inv_put (inv_put hJ (a_full (bn_none (by decide +kernel)))) (a_full (bn_none (by decide +kernel)))) ((hf.put (amodr_i (a := 0) (b := 15) (by decide) (Nat.zero_le _) (by omega))).put (amodr_i (a := 0) (b := 15) (by decide) (Nat.zero_le _) (by omega))) hq2
      rw [← et] at nx
      exact nx
    · simp only [crel, ne_eq, Classical.not_not] at c71
      rw [e_xi _ hm _ (by omega)] at c71
      refine G_iload (pc := 74) rfl dX12_tellsLone_74 ?_
      refine G_iload (pc := 76) rfl dX12_tellsLone_76 ?_
      refine G_isub (pc := 78) (by rw [e_sub _ hm _ (by omega) (by omega)]) dX12_tellsLone_78 ?_
      refine G_bipush (pc := 79) (v := 99) (by decide) dX12_tellsLone_79 ?_
      refine oX12_tellsLone_81 d _ [.int _, .int _] [] _ _ _ mX12_held mt_X12_held rfl (lsi (lsi ls0)) ls0 (by simp) (held_T ht (by omega) ?_) (fun _ _ h => h)
      dsimp only [Option.toList, List.cons_append, List.nil_append]
      refine G_goto (pc := 84) (tgt := 89) (by decide) dX12_tellsLone_84 ?_
      refine G_istore (pc := 89) rfl rfl (by decide) dX12_tellsLone_89 ?_
      refine G_iinc (pc := 91) (v := Int32.ofNat 1) n_add rfl rfl (by decide) rfl (by decide) dX12_tellsLone_91 ?_
      refine G_goto (pc := 94) (tgt := 6) (by decide) dX12_tellsLone_94 ?_
      refine G_drop 6 rfl ?_
      refine G_drop 7 rfl ?_
      exact ih (h + 1) (gup (gup J 79 h (Int32.ofNat (tN sun 3 st t0 h))) 80 h (Int32.ofNat (shp 3 (tN sun 3 st t0 h) st))) (by omega) (inv_put (inv_put hJ (a_full (bn_none (by decide +kernel)))) (a_full (bn_none (by decide +kernel)))) ((hf.put (amodr_i (a := 0) (b := 15) (by decide) (Nat.zero_le _) (by omega))).put (amodr_i (a := 0) (b := 15) (by decide) (Nat.zero_le _) (by omega))) hq2
set_option maxRecDepth 100000 in
set_option maxHeartbeats 4000000 in
theorem tell_3 {d st t0 : Nat} {sun : Nat → Nat} {I : gI} {Q : Option Value → gH → Prop} (hsm : ∀ h, h < 16 → I 68 (7 + h) = Int32.ofNat (sun h)) (hsb : ∀ h, h < 16 → sun h < 16) (hi : aInv bT I) (hst : st < 10) (ht0 : t0 < 100) (hQ : ∀ J, aInv bT J → afr mdT I J → (∀ q, q < 16 → J 79 q = Int32.ofNat (tN sun 3 st t0 q) ∧ J 80 q = Int32.ofNat (shp 3 (tN sun 3 st t0 q) st)) → Q none (SH0, RF0, J)) : gg (d + 1) mX12_tellsLone 0 (gent 8 [.ref 67, .int (Int32.ofNat 3), .int (Int32.ofNat st), .int (Int32.ofNat t0)]) [] I Q := by
  refine G_iload_n (pc := 0) rfl dX12_tellsLone_0 ?_
  refine G_istore (pc := 1) rfl rfl (by decide) dX12_tellsLone_1 ?_
  refine G_iconst (pc := 3) (v := Int32.ofNat 0) (by decide) dX12_tellsLone_3 ?_
  refine G_istore (pc := 4) rfl rfl (by decide) dX12_tellsLone_4 ?_
  exact tell_loop_3 hsm hsb hst ht0 hQ 16 0 I rfl hi afr.rf (fun q hq => by omega)
set_option maxRecDepth 100000 in
set_option maxHeartbeats 4000000 in
theorem tell_loop_4 {d st t0 : Nat} {sun : Nat → Nat} {I : gI} {Q : Option Value → gH → Prop} (hsm : ∀ h, h < 16 → I 68 (7 + h) = Int32.ofNat (sun h)) (hsb : ∀ h, h < 16 → sun h < 16) (hst : st < 10) (ht0 : t0 < 100) (hQ : ∀ J, aInv bT J → afr mdT I J → (∀ q, q < 16 → J 79 q = Int32.ofNat (tN sun 4 st t0 q) ∧ J 80 q = Int32.ofNat (shp 4 (tN sun 4 st t0 q) st)) → Q none (SH0, RF0, J)) : ∀ (g h : Nat) (J : gI), h + g = 16 → aInv bT J → afr mdT I J → (∀ q, q < h → J 79 q = Int32.ofNat (tN sun 4 st t0 q) ∧ J 80 q = Int32.ofNat (shp 4 (tN sun 4 st t0 q) st)) → gg (d + 1) mX12_tellsLone 6 [some (.ref 67), some (.int (Int32.ofNat 4)), some (.int (Int32.ofNat st)), some (.int (Int32.ofNat t0)), some (.int (Int32.ofNat (tN sun 4 st t0 h))), some (.int (Int32.ofNat h)), none, none] [] J Q := by
  have k16 : (16 : Int32).toInt = 16 := rfl
  intro g
  induction g with
  | zero =>
    intro h J hk hJ hf hq
    have e : h = 16 := by omega
    subst e
    have kh : (Int32.ofNat 16).toInt = 16 := n_int (by omega)
    refine G_iload (pc := 6) rfl dX12_tellsLone_6 ?_
    refine G_bipush (pc := 8) (v := 16) (by decide) dX12_tellsLone_8 ?_
    refine oX12_tellsLone_10 _ _ _ _ _ _ _ (fun c10 => ?_) (fun c10 => absurd (by show (16 : Int32).toInt ≤ (Int32.ofNat 16).toInt; omega) c10)
    exact oX12_tellsLone_97 _ _ _ _ (hQ J hJ hf hq)
  | succ g ih =>
    intro h J hk hJ hf hq
    have hh : h < 16 := by omega
    have kh : (Int32.ofNat h).toInt = h := n_int (by omega)
    have ht : tN sun 4 st t0 h < 100 := tN_le ht0 h
    have hm : mlt 4 (sun h) h < 25 := mlt_le 4 (by decide) _ (hsb h hh) h hh
    have hq2 : ∀ q, q < h + 1 → (gup (gup J 79 h (Int32.ofNat (tN sun 4 st t0 h))) 80 h (Int32.ofNat (shp 4 (tN sun 4 st t0 h) st))) 79 q = Int32.ofNat (tN sun 4 st t0 q) ∧ (gup (gup J 79 h (Int32.ofNat (tN sun 4 st t0 h))) 80 h (Int32.ofNat (shp 4 (tN sun 4 st t0 h) st))) 80 q = Int32.ofNat (shp 4 (tN sun 4 st t0 q) st) := fun q hq3 => by
      by_cases e : q = h
      · rw [e, gup_ne (Or.inl (by decide)), gup_at, gup_at]
        exact ⟨rfl, rfl⟩
      · rw [gup_ne (Or.inl (by decide)), gup_ne (Or.inr e), gup_ne (Or.inr e), gup_ne (Or.inl (by decide))]
        exact hq q (by omega)
    refine G_iload (pc := 6) rfl dX12_tellsLone_6 ?_
    refine G_bipush (pc := 8) (v := 16) (by decide) dX12_tellsLone_8 ?_
    refine oX12_tellsLone_10 _ _ _ _ _ _ _ (fun c10 => absurd c10 (by show ¬ ((16 : Int32).toInt ≤ (Int32.ofNat h).toInt); omega)) (fun c10 => ?_)
    refine G_aload_n (pc := 13) rfl dX12_tellsLone_13 ?_
    refine G_getR (pc := 14) (ci := 12) (j := 23) rfl lq_RX12_44 rfl rfl rfl dX12_tellsLone_14 ?_
    refine G_iload (pc := 17) rfl dX12_tellsLone_17 ?_
    refine G_iload (pc := 19) rfl dX12_tellsLone_19 ?_
    refine G_iast (pc := 21) (jj := h) (n_jj (by omega)) rfl (n_in (by omega) (by omega)) dX12_tellsLone_21 ?_
    refine G_aload_n (pc := 22) rfl dX12_tellsLone_22 ?_
    refine G_getR (pc := 23) (ci := 12) (j := 24) rfl lq_RX12_47 rfl rfl rfl dX12_tellsLone_23 ?_
    refine G_iload (pc := 26) rfl dX12_tellsLone_26 ?_
    refine G_iload_n (pc := 28) rfl dX12_tellsLone_28 ?_
    refine G_iload (pc := 29) rfl dX12_tellsLone_29 ?_
    refine G_iload_n (pc := 31) rfl dX12_tellsLone_31 ?_
    refine G_iconst (pc := 32) (v := 0) (by decide) dX12_tellsLone_32 ?_
    refine oX12_tellsLone_33 d _ [.int _, .int _, .int _, .int _] [.int _, .ref 80] _ _ _ mX12_shapeBy mt_X12_shapeBy rfl (lsi (lsi (lsi (lsi ls0)))) (lsi (lsr ls0)) (by simp) (sb4 ht hst ?_) (fun _ _ h => h)
    dsimp only [Option.toList, List.cons_append, List.nil_append]
    refine G_iast (pc := 36) (jj := h) (n_jj (by omega)) rfl (n_in (by omega) (by omega)) dX12_tellsLone_36 ?_
    refine G_aload_n (pc := 37) rfl dX12_tellsLone_37 ?_
    refine G_getR (pc := 38) (ci := 12) (j := 0) rfl lq_RX12_9 rfl rfl rfl dX12_tellsLone_38 ?_
    refine G_bipush (pc := 41) (v := 7) (by decide) dX12_tellsLone_41 ?_
    refine G_iload (pc := 43) rfl dX12_tellsLone_43 ?_
    refine G_iadd (pc := 45) n_7 dX12_tellsLone_45 ?_
    refine G_iald (pc := 46) (jj := 7 + h) (n_jj (by omega)) ((gup_ne (Or.inl (by decide))).trans ((gup_ne (Or.inl (by decide))).trans ((hf 68 _ (ncs_ok (by decide +kernel))).trans (hsm h hh)))) rfl (n_in (by omega) (by omega)) dX12_tellsLone_46 ?_
    refine G_istore (pc := 47) rfl rfl (by decide) dX12_tellsLone_47 ?_
    refine G_iload_n (pc := 49) rfl dX12_tellsLone_49 ?_
    refine G_iload (pc := 50) rfl dX12_tellsLone_50 ?_
    refine G_iconst (pc := 52) (v := 4) (by decide) dX12_tellsLone_52 ?_
    refine G_idiv (pc := 53) (e_q4 _ (hsb h hh)) (by decide) dX12_tellsLone_53 ?_
    refine G_iload (pc := 54) rfl dX12_tellsLone_54 ?_
    refine G_iconst (pc := 56) (v := 4) (by decide) dX12_tellsLone_56 ?_
    refine G_irem (pc := 57) (e_r4 _ (hsb h hh)) (by decide) dX12_tellsLone_57 ?_
    refine G_iload (pc := 58) rfl dX12_tellsLone_58 ?_
    refine oX12_tellsLone_60 d _ [.int _, .int _, .int _, .int _] [] _ _ _ mX12_meltsBy mt_X12_meltsBy rfl (lsi (lsi (lsi (lsi ls0)))) ls0 (by simp) (mb4 (hsb h hh) hh ?_) (fun _ _ h => h)
    dsimp only [Option.toList, List.cons_append, List.nil_append]
    refine G_iload_n (pc := 63) rfl dX12_tellsLone_63 ?_
    refine G_iconst (pc := 64) (v := 3) (by decide) dX12_tellsLone_64 ?_
    refine G_idiv (pc := 65) (e_st3 st hst) (by decide) dX12_tellsLone_65 ?_
    refine G_isub (pc := 66) rfl dX12_tellsLone_66 ?_
    refine G_istore (pc := 67) rfl rfl (by decide) dX12_tellsLone_67 ?_
    refine G_iload (pc := 69) rfl dX12_tellsLone_69 ?_
    refine oX12_tellsLone_71 _ _ _ _ _ _ (fun c71 => ?_) (fun c71 => ?_)
    · simp only [crel, ne_eq, Classical.not_not] at c71
      rw [e_xi _ hm _ (by omega)] at c71
      have et : tN sun 4 st t0 h = tN sun 4 st t0 (h + 1) := by show _ = tN sun 4 st t0 h - (mlt 4 (sun h) h - st / 3); omega
      refine G_iload (pc := 87) rfl dX12_tellsLone_87 ?_
      refine G_istore (pc := 89) rfl rfl (by decide) dX12_tellsLone_89 ?_
      refine G_iinc (pc := 91) (v := Int32.ofNat 1) n_add rfl rfl (by decide) rfl (by decide) dX12_tellsLone_91 ?_
      refine G_goto (pc := 94) (tgt := 6) (by decide) dX12_tellsLone_94 ?_
      refine G_drop 6 rfl ?_
      refine G_drop 7 rfl ?_
      have nx := ih (h + 1) (gup (gup J 79 h (Int32.ofNat (tN sun 4 st t0 h))) 80 h (Int32.ofNat (shp 4 (tN sun 4 st t0 h) st))) (by omega) (inv_put (inv_put hJ (a_full (bn_none (by decide +kernel)))) (a_full (bn_none (by decide +kernel)))) ((hf.put (amodr_i (a := 0) (b := 15) (by decide) (Nat.zero_le _) (by omega))).put (amodr_i (a := 0) (b := 15) (by decide) (Nat.zero_le _) (by omega))) hq2
      rw [← et] at nx
      exact nx
    · simp only [crel, ne_eq, Classical.not_not] at c71
      rw [e_xi _ hm _ (by omega)] at c71
      refine G_iload (pc := 74) rfl dX12_tellsLone_74 ?_
      refine G_iload (pc := 76) rfl dX12_tellsLone_76 ?_
      refine G_isub (pc := 78) (by rw [e_sub _ hm _ (by omega) (by omega)]) dX12_tellsLone_78 ?_
      refine G_bipush (pc := 79) (v := 99) (by decide) dX12_tellsLone_79 ?_
      refine oX12_tellsLone_81 d _ [.int _, .int _] [] _ _ _ mX12_held mt_X12_held rfl (lsi (lsi ls0)) ls0 (by simp) (held_T ht (by omega) ?_) (fun _ _ h => h)
      dsimp only [Option.toList, List.cons_append, List.nil_append]
      refine G_goto (pc := 84) (tgt := 89) (by decide) dX12_tellsLone_84 ?_
      refine G_istore (pc := 89) rfl rfl (by decide) dX12_tellsLone_89 ?_
      refine G_iinc (pc := 91) (v := Int32.ofNat 1) n_add rfl rfl (by decide) rfl (by decide) dX12_tellsLone_91 ?_
      refine G_goto (pc := 94) (tgt := 6) (by decide) dX12_tellsLone_94 ?_
      refine G_drop 6 rfl ?_
      refine G_drop 7 rfl ?_
      exact ih (h + 1) (gup (gup J 79 h (Int32.ofNat (tN sun 4 st t0 h))) 80 h (Int32.ofNat (shp 4 (tN sun 4 st t0 h) st))) (by omega) (inv_put (inv_put hJ (a_full (bn_none (by decide +kernel)))) (a_full (bn_none (by decide +kernel)))) ((hf.put (amodr_i (a := 0) (b := 15) (by decide) (Nat.zero_le _) (by omega))).put (amodr_i (a := 0) (b := 15) (by decide) (Nat.zero_le _) (by omega))) hq2
set_option maxRecDepth 100000 in
set_option maxHeartbeats 4000000 in
theorem tell_4 {d st t0 : Nat} {sun : Nat → Nat} {I : gI} {Q : Option Value → gH → Prop} (hsm : ∀ h, h < 16 → I 68 (7 + h) = Int32.ofNat (sun h)) (hsb : ∀ h, h < 16 → sun h < 16) (hi : aInv bT I) (hst : st < 10) (ht0 : t0 < 100) (hQ : ∀ J, aInv bT J → afr mdT I J → (∀ q, q < 16 → J 79 q = Int32.ofNat (tN sun 4 st t0 q) ∧ J 80 q = Int32.ofNat (shp 4 (tN sun 4 st t0 q) st)) → Q none (SH0, RF0, J)) : gg (d + 1) mX12_tellsLone 0 (gent 8 [.ref 67, .int (Int32.ofNat 4), .int (Int32.ofNat st), .int (Int32.ofNat t0)]) [] I Q := by
  refine G_iload_n (pc := 0) rfl dX12_tellsLone_0 ?_
  refine G_istore (pc := 1) rfl rfl (by decide) dX12_tellsLone_1 ?_
  refine G_iconst (pc := 3) (v := Int32.ofNat 0) (by decide) dX12_tellsLone_3 ?_
  refine G_istore (pc := 4) rfl rfl (by decide) dX12_tellsLone_4 ?_
  exact tell_loop_4 hsm hsb hst ht0 hQ 16 0 I rfl hi afr.rf (fun q hq => by omega)
set_option maxRecDepth 100000 in
set_option maxHeartbeats 4000000 in
theorem tell_loop_5 {d st t0 : Nat} {sun : Nat → Nat} {I : gI} {Q : Option Value → gH → Prop} (hsm : ∀ h, h < 16 → I 68 (7 + h) = Int32.ofNat (sun h)) (hsb : ∀ h, h < 16 → sun h < 16) (hst : st < 10) (ht0 : t0 < 100) (hQ : ∀ J, aInv bT J → afr mdT I J → (∀ q, q < 16 → J 79 q = Int32.ofNat (tN sun 5 st t0 q) ∧ J 80 q = Int32.ofNat (shp 5 (tN sun 5 st t0 q) st)) → Q none (SH0, RF0, J)) : ∀ (g h : Nat) (J : gI), h + g = 16 → aInv bT J → afr mdT I J → (∀ q, q < h → J 79 q = Int32.ofNat (tN sun 5 st t0 q) ∧ J 80 q = Int32.ofNat (shp 5 (tN sun 5 st t0 q) st)) → gg (d + 1) mX12_tellsLone 6 [some (.ref 67), some (.int (Int32.ofNat 5)), some (.int (Int32.ofNat st)), some (.int (Int32.ofNat t0)), some (.int (Int32.ofNat (tN sun 5 st t0 h))), some (.int (Int32.ofNat h)), none, none] [] J Q := by
  have k16 : (16 : Int32).toInt = 16 := rfl
  intro g
  induction g with
  | zero =>
    intro h J hk hJ hf hq
    have e : h = 16 := by omega
    subst e
    have kh : (Int32.ofNat 16).toInt = 16 := n_int (by omega)
    refine G_iload (pc := 6) rfl dX12_tellsLone_6 ?_
    refine G_bipush (pc := 8) (v := 16) (by decide) dX12_tellsLone_8 ?_
    refine oX12_tellsLone_10 _ _ _ _ _ _ _ (fun c10 => ?_) (fun c10 => absurd (by show (16 : Int32).toInt ≤ (Int32.ofNat 16).toInt; omega) c10)
    exact oX12_tellsLone_97 _ _ _ _ (hQ J hJ hf hq)
  | succ g ih =>
    intro h J hk hJ hf hq
    have hh : h < 16 := by omega
    have kh : (Int32.ofNat h).toInt = h := n_int (by omega)
    have ht : tN sun 5 st t0 h < 100 := tN_le ht0 h
    have hm : mlt 5 (sun h) h < 25 := mlt_le 5 (by decide) _ (hsb h hh) h hh
    have hq2 : ∀ q, q < h + 1 → (gup (gup J 79 h (Int32.ofNat (tN sun 5 st t0 h))) 80 h (Int32.ofNat (shp 5 (tN sun 5 st t0 h) st))) 79 q = Int32.ofNat (tN sun 5 st t0 q) ∧ (gup (gup J 79 h (Int32.ofNat (tN sun 5 st t0 h))) 80 h (Int32.ofNat (shp 5 (tN sun 5 st t0 h) st))) 80 q = Int32.ofNat (shp 5 (tN sun 5 st t0 q) st) := fun q hq3 => by
      by_cases e : q = h
      · rw [e, gup_ne (Or.inl (by decide)), gup_at, gup_at]
        exact ⟨rfl, rfl⟩
      · rw [gup_ne (Or.inl (by decide)), gup_ne (Or.inr e), gup_ne (Or.inr e), gup_ne (Or.inl (by decide))]
        exact hq q (by omega)
    refine G_iload (pc := 6) rfl dX12_tellsLone_6 ?_
    refine G_bipush (pc := 8) (v := 16) (by decide) dX12_tellsLone_8 ?_
    refine oX12_tellsLone_10 _ _ _ _ _ _ _ (fun c10 => absurd c10 (by show ¬ ((16 : Int32).toInt ≤ (Int32.ofNat h).toInt); omega)) (fun c10 => ?_)
    refine G_aload_n (pc := 13) rfl dX12_tellsLone_13 ?_
    refine G_getR (pc := 14) (ci := 12) (j := 23) rfl lq_RX12_44 rfl rfl rfl dX12_tellsLone_14 ?_
    refine G_iload (pc := 17) rfl dX12_tellsLone_17 ?_
    refine G_iload (pc := 19) rfl dX12_tellsLone_19 ?_
    refine G_iast (pc := 21) (jj := h) (n_jj (by omega)) rfl (n_in (by omega) (by omega)) dX12_tellsLone_21 ?_
    refine G_aload_n (pc := 22) rfl dX12_tellsLone_22 ?_
    refine G_getR (pc := 23) (ci := 12) (j := 24) rfl lq_RX12_47 rfl rfl rfl dX12_tellsLone_23 ?_
    refine G_iload (pc := 26) rfl dX12_tellsLone_26 ?_
    refine G_iload_n (pc := 28) rfl dX12_tellsLone_28 ?_
    refine G_iload (pc := 29) rfl dX12_tellsLone_29 ?_
    refine G_iload_n (pc := 31) rfl dX12_tellsLone_31 ?_
    refine G_iconst (pc := 32) (v := 0) (by decide) dX12_tellsLone_32 ?_
    refine oX12_tellsLone_33 d _ [.int _, .int _, .int _, .int _] [.int _, .ref 80] _ _ _ mX12_shapeBy mt_X12_shapeBy rfl (lsi (lsi (lsi (lsi ls0)))) (lsi (lsr ls0)) (by simp) (sb5 ht hst ?_) (fun _ _ h => h)
    dsimp only [Option.toList, List.cons_append, List.nil_append]
    refine G_iast (pc := 36) (jj := h) (n_jj (by omega)) rfl (n_in (by omega) (by omega)) dX12_tellsLone_36 ?_
    refine G_aload_n (pc := 37) rfl dX12_tellsLone_37 ?_
    refine G_getR (pc := 38) (ci := 12) (j := 0) rfl lq_RX12_9 rfl rfl rfl dX12_tellsLone_38 ?_
    refine G_bipush (pc := 41) (v := 7) (by decide) dX12_tellsLone_41 ?_
    refine G_iload (pc := 43) rfl dX12_tellsLone_43 ?_
    refine G_iadd (pc := 45) n_7 dX12_tellsLone_45 ?_
    refine G_iald (pc := 46) (jj := 7 + h) (n_jj (by omega)) ((gup_ne (Or.inl (by decide))).trans ((gup_ne (Or.inl (by decide))).trans ((hf 68 _ (ncs_ok (by decide +kernel))).trans (hsm h hh)))) rfl (n_in (by omega) (by omega)) dX12_tellsLone_46 ?_
    refine G_istore (pc := 47) rfl rfl (by decide) dX12_tellsLone_47 ?_
    refine G_iload_n (pc := 49) rfl dX12_tellsLone_49 ?_
    refine G_iload (pc := 50) rfl dX12_tellsLone_50 ?_
    refine G_iconst (pc := 52) (v := 4) (by decide) dX12_tellsLone_52 ?_
    refine G_idiv (pc := 53) (e_q4 _ (hsb h hh)) (by decide) dX12_tellsLone_53 ?_
    refine G_iload (pc := 54) rfl dX12_tellsLone_54 ?_
    refine G_iconst (pc := 56) (v := 4) (by decide) dX12_tellsLone_56 ?_
    refine G_irem (pc := 57) (e_r4 _ (hsb h hh)) (by decide) dX12_tellsLone_57 ?_
    refine G_iload (pc := 58) rfl dX12_tellsLone_58 ?_
    refine oX12_tellsLone_60 d _ [.int _, .int _, .int _, .int _] [] _ _ _ mX12_meltsBy mt_X12_meltsBy rfl (lsi (lsi (lsi (lsi ls0)))) ls0 (by simp) (mb5 (hsb h hh) hh ?_) (fun _ _ h => h)
    dsimp only [Option.toList, List.cons_append, List.nil_append]
    refine G_iload_n (pc := 63) rfl dX12_tellsLone_63 ?_
    refine G_iconst (pc := 64) (v := 3) (by decide) dX12_tellsLone_64 ?_
    refine G_idiv (pc := 65) (e_st3 st hst) (by decide) dX12_tellsLone_65 ?_
    refine G_isub (pc := 66) rfl dX12_tellsLone_66 ?_
    refine G_istore (pc := 67) rfl rfl (by decide) dX12_tellsLone_67 ?_
    refine G_iload (pc := 69) rfl dX12_tellsLone_69 ?_
    refine oX12_tellsLone_71 _ _ _ _ _ _ (fun c71 => ?_) (fun c71 => ?_)
    · simp only [crel, ne_eq, Classical.not_not] at c71
      rw [e_xi _ hm _ (by omega)] at c71
      have et : tN sun 5 st t0 h = tN sun 5 st t0 (h + 1) := by show _ = tN sun 5 st t0 h - (mlt 5 (sun h) h - st / 3); omega
      refine G_iload (pc := 87) rfl dX12_tellsLone_87 ?_
      refine G_istore (pc := 89) rfl rfl (by decide) dX12_tellsLone_89 ?_
      refine G_iinc (pc := 91) (v := Int32.ofNat 1) n_add rfl rfl (by decide) rfl (by decide) dX12_tellsLone_91 ?_
      refine G_goto (pc := 94) (tgt := 6) (by decide) dX12_tellsLone_94 ?_
      refine G_drop 6 rfl ?_
      refine G_drop 7 rfl ?_
      have nx := ih (h + 1) (gup (gup J 79 h (Int32.ofNat (tN sun 5 st t0 h))) 80 h (Int32.ofNat (shp 5 (tN sun 5 st t0 h) st))) (by omega) (inv_put (inv_put hJ (a_full (bn_none (by decide +kernel)))) (a_full (bn_none (by decide +kernel)))) ((hf.put (amodr_i (a := 0) (b := 15) (by decide) (Nat.zero_le _) (by omega))).put (amodr_i (a := 0) (b := 15) (by decide) (Nat.zero_le _) (by omega))) hq2
      rw [← et] at nx
      exact nx
    · simp only [crel, ne_eq, Classical.not_not] at c71
      rw [e_xi _ hm _ (by omega)] at c71
      refine G_iload (pc := 74) rfl dX12_tellsLone_74 ?_
      refine G_iload (pc := 76) rfl dX12_tellsLone_76 ?_
      refine G_isub (pc := 78) (by rw [e_sub _ hm _ (by omega) (by omega)]) dX12_tellsLone_78 ?_
      refine G_bipush (pc := 79) (v := 99) (by decide) dX12_tellsLone_79 ?_
      refine oX12_tellsLone_81 d _ [.int _, .int _] [] _ _ _ mX12_held mt_X12_held rfl (lsi (lsi ls0)) ls0 (by simp) (held_T ht (by omega) ?_) (fun _ _ h => h)
      dsimp only [Option.toList, List.cons_append, List.nil_append]
      refine G_goto (pc := 84) (tgt := 89) (by decide) dX12_tellsLone_84 ?_
      refine G_istore (pc := 89) rfl rfl (by decide) dX12_tellsLone_89 ?_
      refine G_iinc (pc := 91) (v := Int32.ofNat 1) n_add rfl rfl (by decide) rfl (by decide) dX12_tellsLone_91 ?_
      refine G_goto (pc := 94) (tgt := 6) (by decide) dX12_tellsLone_94 ?_
      refine G_drop 6 rfl ?_
      refine G_drop 7 rfl ?_
      exact ih (h + 1) (gup (gup J 79 h (Int32.ofNat (tN sun 5 st t0 h))) 80 h (Int32.ofNat (shp 5 (tN sun 5 st t0 h) st))) (by omega) (inv_put (inv_put hJ (a_full (bn_none (by decide +kernel)))) (a_full (bn_none (by decide +kernel)))) ((hf.put (amodr_i (a := 0) (b := 15) (by decide) (Nat.zero_le _) (by omega))).put (amodr_i (a := 0) (b := 15) (by decide) (Nat.zero_le _) (by omega))) hq2
set_option maxRecDepth 100000 in
set_option maxHeartbeats 4000000 in
theorem tell_5 {d st t0 : Nat} {sun : Nat → Nat} {I : gI} {Q : Option Value → gH → Prop} (hsm : ∀ h, h < 16 → I 68 (7 + h) = Int32.ofNat (sun h)) (hsb : ∀ h, h < 16 → sun h < 16) (hi : aInv bT I) (hst : st < 10) (ht0 : t0 < 100) (hQ : ∀ J, aInv bT J → afr mdT I J → (∀ q, q < 16 → J 79 q = Int32.ofNat (tN sun 5 st t0 q) ∧ J 80 q = Int32.ofNat (shp 5 (tN sun 5 st t0 q) st)) → Q none (SH0, RF0, J)) : gg (d + 1) mX12_tellsLone 0 (gent 8 [.ref 67, .int (Int32.ofNat 5), .int (Int32.ofNat st), .int (Int32.ofNat t0)]) [] I Q := by
  refine G_iload_n (pc := 0) rfl dX12_tellsLone_0 ?_
  refine G_istore (pc := 1) rfl rfl (by decide) dX12_tellsLone_1 ?_
  refine G_iconst (pc := 3) (v := Int32.ofNat 0) (by decide) dX12_tellsLone_3 ?_
  refine G_istore (pc := 4) rfl rfl (by decide) dX12_tellsLone_4 ?_
  exact tell_loop_5 hsm hsb hst ht0 hQ 16 0 I rfl hi afr.rf (fun q hq => by omega)
theorem tell_G {d i : Nat} {sun : Nat → Nat} {I : gI} {Q : Option Value → gH → Prop} (hsm : ∀ h, h < 16 → I 68 (7 + h) = Int32.ofNat (sun h)) (hsb : ∀ h, h < 16 → sun h < 16) (hi : aInv bT I) (hi5 : i < 500) (hQ : ∀ J, aInv bT J → afr mdT I J → (∀ q, q < 16 → J 79 q = Int32.ofNat (tN sun (lnK i) (lnS i) (lnT i) q) ∧ J 80 q = Int32.ofNat (shp (lnK i) (tN sun (lnK i) (lnS i) (lnT i) q) (lnS i))) → Q none (SH0, RF0, J)) : gg (d + 1) mX12_tellsLone 0 (gent 8 [.ref 67, .int (Int32.ofNat (lnK i)), .int (Int32.ofNat (lnS i)), .int (Int32.ofNat (lnT i))]) [] I Q := by
  have h1 : lnS i < 10 := by unfold lnS; omega
  have h2 : lnT i < 100 := by unfold lnT; omega
  have h3 : lnK i = 1 ∨ lnK i = 2 ∨ lnK i = 3 ∨ lnK i = 4 ∨ lnK i = 5 := by unfold lnK; omega
  rcases h3 with h3 | h3 | h3 | h3 | h3 <;> rw [h3] at hQ ⊢
  · exact tell_1 hsm hsb hi h1 h2 hQ
  · exact tell_2 hsm hsb hi h1 h2 hQ
  · exact tell_3 hsm hsb hi h1 h2 hQ
  · exact tell_4 hsm hsb hi h1 h2 hQ
  · exact tell_5 hsm hsb hi h1 h2 hQ
set_option maxRecDepth 100000 in
set_option maxHeartbeats 4000000 in
theorem isSo_G {d i r : Nat} {sun : Nat → Nat} {rp : Nat → Nat → Int} {J : gI} {Q : Option Value → gH → Prop} (hi5 : i < 500) (hr6 : r < 6) (hrm : ∀ r k, r < 6 → k < 4 → (J 68 (65 + 4 * r + k)).toInt = rp r k) (hth : ∀ q, q < 16 → J 79 q = Int32.ofNat (tN sun (lnK i) (lnS i) (lnT i) q) ∧ J 80 q = Int32.ofNat (shp (lnK i) (tN sun (lnK i) (lnS i) (lnT i) q) (lnS i))) (hpr : 0 ≤ rp r 0 ∧ rp r 0 ≤ 15) (h1 : okI sun rp i r = true → Q (some (.int 1)) (SH0, RF0, J)) (h0 : okI sun rp i r = false → Q (some (.int 0)) (SH0, RF0, J)) : gg (d + 1) mX12_isSo 0 (gent 3 [.ref 67, .int (Int32.ofNat r)]) [] J Q := by
  have r0 : (J 68 (65 + 4 * r)).toInt = rp r 0 := hrm r 0 hr6 (by decide)
  have r1 : (J 68 (65 + 4 * r + 1)).toInt = rp r 1 := hrm r 1 hr6 (by decide)
  have r2 : (J 68 (65 + 4 * r + 2)).toInt = rp r 2 := hrm r 2 hr6 (by decide)
  have r3 : (J 68 (65 + 4 * r + 3)).toInt = rp r 3 := hrm r 3 hr6 (by decide)
  have b2 : lnT i < 100 := by unfold lnT; omega
  have b3 : tN sun (lnK i) (lnS i) (lnT i) (rp r 0).toNat < 100 := tN_le b2 _
  have b4 : lnS i < 10 := by unfold lnS; omega
  have b5 : shp (lnK i) (tN sun (lnK i) (lnS i) (lnT i) (rp r 0).toNat) (lnS i) < 12 := shp_le _ (by unfold lnK; omega) _ b3 _ b4
  refine G_bipush (pc := 0) (v := 65) (by decide) dX12_isSo_0 ?_
  refine G_iconst (pc := 2) (v := 4) (by decide) dX12_isSo_2 ?_
  refine G_iload_n (pc := 3) rfl dX12_isSo_3 ?_
  refine G_imul (pc := 4) (e_4m r (by omega)) dX12_isSo_4 ?_
  refine G_iadd (pc := 5) n_65 dX12_isSo_5 ?_
  refine G_istore_n (pc := 6) rfl rfl (by decide) dX12_isSo_6 ?_
  refine G_aload_n (pc := 7) rfl dX12_isSo_7 ?_
  refine G_getR (pc := 8) (ci := 12) (j := 0) rfl lq_RX12_9 rfl rfl rfl dX12_isSo_8 ?_
  refine G_iload_n (pc := 11) rfl dX12_isSo_11 ?_
  refine G_iconst (pc := 12) (v := 1) (by decide) dX12_isSo_12 ?_
  refine G_iadd (pc := 13) n_add1 dX12_isSo_13 ?_
  refine G_iald (pc := 14) (jj := 65 + 4 * r + 1) (n_jj (by omega)) rfl rfl (n_in (by omega) (by omega)) dX12_isSo_14 ?_
  refine oX12_isSo_15 _ _ _ _ _ _ (fun c15 => ?_) (fun c15 => ?_)
  · simp only [crel, ne_eq, Classical.not_not] at c15
    have hw : okI sun rp i r = inr (rp r 2) (rp r 3) (shp (lnK i) (tN sun (lnK i) (lnS i) (lnT i) (rp r 0).toNat) (lnS i) : Int) := by
      show inr _ _ (if rp r 1 = 0 then _ else _) = _
      rw [if_neg (by rw [← r1]; exact c15)]
    refine G_aload_n (pc := 32) rfl dX12_isSo_32 ?_
    refine G_getR (pc := 33) (ci := 12) (j := 24) rfl lq_RX12_47 rfl rfl rfl dX12_isSo_33 ?_
    refine G_aload_n (pc := 36) rfl dX12_isSo_36 ?_
    refine G_getR (pc := 37) (ci := 12) (j := 0) rfl lq_RX12_9 rfl rfl rfl dX12_isSo_37 ?_
    refine G_iload_n (pc := 40) rfl dX12_isSo_40 ?_
    refine G_iald (pc := 41) (jj := 65 + 4 * r) (n_jj (by omega)) rfl rfl (n_in (by omega) (by omega)) dX12_isSo_41 ?_
    refine G_iald (pc := 42) (jj := (rp r 0).toNat) (by rw [a_nc, r0]) (hth _ (by omega)).2 rfl (a_vin (by rw [r0]; omega) (by rw [r0]; omega)) dX12_isSo_42 ?_
    refine G_aload_n (pc := 43) rfl dX12_isSo_43 ?_
    refine G_getR (pc := 44) (ci := 12) (j := 0) rfl lq_RX12_9 rfl rfl rfl dX12_isSo_44 ?_
    refine G_iload_n (pc := 47) rfl dX12_isSo_47 ?_
    refine G_iconst (pc := 48) (v := 2) (by decide) dX12_isSo_48 ?_
    refine G_iadd (pc := 49) n_add2 dX12_isSo_49 ?_
    refine G_iald (pc := 50) (jj := 65 + 4 * r + 2) (n_jj (by omega)) rfl rfl (n_in (by omega) (by omega)) dX12_isSo_50 ?_
    refine G_aload_n (pc := 51) rfl dX12_isSo_51 ?_
    refine G_getR (pc := 52) (ci := 12) (j := 0) rfl lq_RX12_9 rfl rfl rfl dX12_isSo_52 ?_
    refine G_iload_n (pc := 55) rfl dX12_isSo_55 ?_
    refine G_iconst (pc := 56) (v := 3) (by decide) dX12_isSo_56 ?_
    refine G_iadd (pc := 57) n_add3 dX12_isSo_57 ?_
    refine G_iald (pc := 58) (jj := 65 + 4 * r + 3) (n_jj (by omega)) rfl rfl (n_in (by omega) (by omega)) dX12_isSo_58 ?_
    refine oX12_isSo_59 d _ [.int _, .int _, .int _] [] _ _ _ mX12_in1 mt_X12_in1 rfl (lsi (lsi (lsi ls0))) ls0 (by simp) (in1b_G (fun p q => ?_) (fun p => ?_)) (fun _ _ h => h)
    · dsimp only [Option.toList, List.cons_append, List.nil_append]
      refine oX12_isSo_62 _ _ _ _ _ (Or.inr rfl) (h1 ?_)
      rw [r2, n_int (by omega)] at p
      rw [r3, n_int (by omega)] at q
      rw [hw]
      unfold inr
      rw [decide_eq_true p, decide_eq_true q]
      rfl
    · dsimp only [Option.toList, List.cons_append, List.nil_append]
      refine oX12_isSo_62 _ _ _ _ _ (Or.inl rfl) (h0 ?_)
      rw [r2, r3, n_int (by omega)] at p
      rw [hw]
      unfold inr
      rcases p with p | p
      · rw [decide_eq_false (by omega), Bool.false_and]
      · rw [decide_eq_false (p := _ ≤ rp r 3) (by omega), Bool.and_false]
  · simp only [crel, ne_eq, Classical.not_not] at c15
    have hw : okI sun rp i r = inr (rp r 2) (rp r 3) (tN sun (lnK i) (lnS i) (lnT i) (rp r 0).toNat : Int) := by
      show inr _ _ (if rp r 1 = 0 then _ else _) = _
      rw [if_pos (by rw [← r1]; exact c15)]
    refine G_aload_n (pc := 18) rfl dX12_isSo_18 ?_
    refine G_getR (pc := 19) (ci := 12) (j := 23) rfl lq_RX12_44 rfl rfl rfl dX12_isSo_19 ?_
    refine G_aload_n (pc := 22) rfl dX12_isSo_22 ?_
    refine G_getR (pc := 23) (ci := 12) (j := 0) rfl lq_RX12_9 rfl rfl rfl dX12_isSo_23 ?_
    refine G_iload_n (pc := 26) rfl dX12_isSo_26 ?_
    refine G_iald (pc := 27) (jj := 65 + 4 * r) (n_jj (by omega)) rfl rfl (n_in (by omega) (by omega)) dX12_isSo_27 ?_
    refine G_iald (pc := 28) (jj := (rp r 0).toNat) (by rw [a_nc, r0]) (hth _ (by omega)).1 rfl (a_vin (by rw [r0]; omega) (by rw [r0]; omega)) dX12_isSo_28 ?_
    refine G_goto (pc := 29) (tgt := 43) (by decide) dX12_isSo_29 ?_
    refine G_aload_n (pc := 43) rfl dX12_isSo_43 ?_
    refine G_getR (pc := 44) (ci := 12) (j := 0) rfl lq_RX12_9 rfl rfl rfl dX12_isSo_44 ?_
    refine G_iload_n (pc := 47) rfl dX12_isSo_47 ?_
    refine G_iconst (pc := 48) (v := 2) (by decide) dX12_isSo_48 ?_
    refine G_iadd (pc := 49) n_add2 dX12_isSo_49 ?_
    refine G_iald (pc := 50) (jj := 65 + 4 * r + 2) (n_jj (by omega)) rfl rfl (n_in (by omega) (by omega)) dX12_isSo_50 ?_
    refine G_aload_n (pc := 51) rfl dX12_isSo_51 ?_
    refine G_getR (pc := 52) (ci := 12) (j := 0) rfl lq_RX12_9 rfl rfl rfl dX12_isSo_52 ?_
    refine G_iload_n (pc := 55) rfl dX12_isSo_55 ?_
    refine G_iconst (pc := 56) (v := 3) (by decide) dX12_isSo_56 ?_
    refine G_iadd (pc := 57) n_add3 dX12_isSo_57 ?_
    refine G_iald (pc := 58) (jj := 65 + 4 * r + 3) (n_jj (by omega)) rfl rfl (n_in (by omega) (by omega)) dX12_isSo_58 ?_
    refine oX12_isSo_59 d _ [.int _, .int _, .int _] [] _ _ _ mX12_in1 mt_X12_in1 rfl (lsi (lsi (lsi ls0))) ls0 (by simp) (in1b_G (fun p q => ?_) (fun p => ?_)) (fun _ _ h => h)
    · dsimp only [Option.toList, List.cons_append, List.nil_append]
      refine oX12_isSo_62 _ _ _ _ _ (Or.inr rfl) (h1 ?_)
      rw [r2, n_int (by omega)] at p
      rw [r3, n_int (by omega)] at q
      rw [hw]
      unfold inr
      rw [decide_eq_true p, decide_eq_true q]
      rfl
    · dsimp only [Option.toList, List.cons_append, List.nil_append]
      refine oX12_isSo_62 _ _ _ _ _ (Or.inl rfl) (h0 ?_)
      rw [r2, r3, n_int (by omega)] at p
      rw [hw]
      unfold inr
      rcases p with p | p
      · rw [decide_eq_false (by omega), Bool.false_and]
      · rw [decide_eq_false (p := _ ≤ rp r 3) (by omega), Bool.and_false]
/-- whether a key fits all reports but one -/
def fitB (ok : Nat → Nat → Bool) (n : Nat) (but : Int) (i : Nat) : Bool := (List.range n).all (fun r => decide ((r : Int) = but) || ok i r)
def upB (ok : Nat → Nat → Bool) (but : Int) (i : Nat) : Nat → Bool
  | 0 => true
  | r + 1 => upB ok but i r && (decide ((r : Int) = but) || ok i r)
theorem upB_all {ok : Nat → Nat → Bool} {but : Int} {i : Nat} : ∀ n, fitB ok n but i = upB ok but i n
  | 0 => rfl
  | n + 1 => by
    have ih := upB_all (ok := ok) (but := but) (i := i) n
    unfold fitB at *
    rw [List.range_succ, List.all_append, ih]
    simp [upB]
theorem upB_f {ok : Nat → Nat → Bool} {but : Int} {i r : Nat} (h : upB ok but i r = false) : ∀ k, upB ok but i (r + k) = false
  | 0 => h
  | k + 1 => by
    show (upB ok but i (r + k) && _) = false
    rw [upB_f h k]
    rfl
theorem n_add0 {k : Nat} : Int32.ofNat k + 0 = Int32.ofNat k := Int32.add_zero _
set_option maxRecDepth 100000 in
set_option maxHeartbeats 4000000 in
theorem fit_in0 {d n i c r : Nat} {b : Int32} {sun : Nat → Nat} {rp : Nat → Nat → Int} {J : gI} {Q : Option Value → gH → Prop} (hn : n ≤ 6) (hcm : J 68 6 = Int32.ofNat n) (hrm : ∀ r k, r < 6 → k < 4 → (J 68 (65 + 4 * r + k)).toInt = rp r k) (hth : ∀ q, q < 16 → J 79 q = Int32.ofNat (tN sun (lnK i) (lnS i) (lnT i) q) ∧ J 80 q = Int32.ofNat (shp (lnK i) (tN sun (lnK i) (lnS i) (lnT i) q) (lnS i))) (hpr : ∀ r, r < n → 0 ≤ rp r 0 ∧ rp r 0 ≤ 15) (hi5 : i < 500) (hr : r ≤ n) (hu : upB (okI sun rp) b.toInt i r = false) (kk : ∀ (f : Bool) (r : Nat), f = upB (okI sun rp) b.toInt i n → gg (d + 2) mX12_fitting 94 [some (.ref 67), some (.int b), some (.int (Int32.ofNat c)), some (.int (Int32.ofNat i)), some (.int (if f = true then 1 else 0)), some (.int (Int32.ofNat r))] [] J Q) : gg (d + 2) mX12_fitting 49 [some (.ref 67), some (.int b), some (.int (Int32.ofNat c)), some (.int (Int32.ofNat i)), some (.int 0), some (.int (Int32.ofNat r))] [] J Q := by
  have hcn : (J 68 6).toInt = n := by rw [hcm]; exact n_int (by omega)
  have kr : (Int32.ofNat r).toInt = r := n_int (by omega)
  refine G_iload (pc := 49) rfl dX12_fitting_49 ?_
  refine G_aload_n (pc := 51) rfl dX12_fitting_51 ?_
  refine G_getR (pc := 52) (ci := 12) (j := 0) rfl lq_RX12_9 rfl rfl rfl dX12_fitting_52 ?_
  refine G_bipush (pc := 55) (v := 6) (by decide) dX12_fitting_55 ?_
  refine G_iald (pc := 57) (jj := 6) (by decide) rfl rfl (a_vin (by decide) (by decide)) dX12_fitting_57 ?_
  refine oX12_fitting_58 _ _ _ _ _ _ _ (fun c58 => ?_) (fun c58 => ?_)
  · simp only [crel, ne_eq, Classical.not_not] at c58
    exact kk false r (by rw [show n = r + (n - r) by omega]; exact (upB_f hu _).symm)
  · simp only [crel, ne_eq, Classical.not_not] at c58
    refine G_iload (pc := 61) rfl dX12_fitting_61 ?_
    refine oX12_fitting_63 _ _ _ _ _ _ (fun c63 => ?_) (fun c63 => absurd (by show (0 : Int32).toInt = 0; rfl) c63)
    exact kk false r (by rw [show n = r + (n - r) by omega]; exact (upB_f hu _).symm)
set_option maxRecDepth 100000 in
set_option maxHeartbeats 4000000 in
theorem fit_in1 {d n i c : Nat} {b : Int32} {sun : Nat → Nat} {rp : Nat → Nat → Int} {J : gI} {Q : Option Value → gH → Prop} (hn : n ≤ 6) (hcm : J 68 6 = Int32.ofNat n) (hrm : ∀ r k, r < 6 → k < 4 → (J 68 (65 + 4 * r + k)).toInt = rp r k) (hth : ∀ q, q < 16 → J 79 q = Int32.ofNat (tN sun (lnK i) (lnS i) (lnT i) q) ∧ J 80 q = Int32.ofNat (shp (lnK i) (tN sun (lnK i) (lnS i) (lnT i) q) (lnS i))) (hpr : ∀ r, r < n → 0 ≤ rp r 0 ∧ rp r 0 ≤ 15) (hi5 : i < 500) (kk : ∀ (f : Bool) (r : Nat), f = upB (okI sun rp) b.toInt i n → gg (d + 2) mX12_fitting 94 [some (.ref 67), some (.int b), some (.int (Int32.ofNat c)), some (.int (Int32.ofNat i)), some (.int (if f = true then 1 else 0)), some (.int (Int32.ofNat r))] [] J Q) : ∀ (g r : Nat), r + g = n → upB (okI sun rp) b.toInt i r = true → gg (d + 2) mX12_fitting 49 [some (.ref 67), some (.int b), some (.int (Int32.ofNat c)), some (.int (Int32.ofNat i)), some (.int 1), some (.int (Int32.ofNat r))] [] J Q := by
  have hcn : (J 68 6).toInt = n := by rw [hcm]; exact n_int (by omega)
  intro g
  induction g with
  | zero =>
    intro r hr hu
    have kr : (Int32.ofNat r).toInt = r := n_int (by omega)
    refine G_iload (pc := 49) rfl dX12_fitting_49 ?_
    refine G_aload_n (pc := 51) rfl dX12_fitting_51 ?_
    refine G_getR (pc := 52) (ci := 12) (j := 0) rfl lq_RX12_9 rfl rfl rfl dX12_fitting_52 ?_
    refine G_bipush (pc := 55) (v := 6) (by decide) dX12_fitting_55 ?_
    refine G_iald (pc := 57) (jj := 6) (by decide) rfl rfl (a_vin (by decide) (by decide)) dX12_fitting_57 ?_
    refine oX12_fitting_58 _ _ _ _ _ _ _ (fun c58 => ?_) (fun c58 => absurd (by show (J 68 6).toInt ≤ (Int32.ofNat r).toInt; omega) c58)
    exact kk true r (by rw [show n = r by omega]; exact hu.symm)
  | succ g ih =>
    intro r hr hu
    have kr : (Int32.ofNat r).toInt = r := n_int (by omega)
    refine G_iload (pc := 49) rfl dX12_fitting_49 ?_
    refine G_aload_n (pc := 51) rfl dX12_fitting_51 ?_
    refine G_getR (pc := 52) (ci := 12) (j := 0) rfl lq_RX12_9 rfl rfl rfl dX12_fitting_52 ?_
    refine G_bipush (pc := 55) (v := 6) (by decide) dX12_fitting_55 ?_
    refine G_iald (pc := 57) (jj := 6) (by decide) rfl rfl (a_vin (by decide) (by decide)) dX12_fitting_57 ?_
    refine oX12_fitting_58 _ _ _ _ _ _ _ (fun c58 => absurd c58 (by show ¬ ((J 68 6).toInt ≤ (Int32.ofNat r).toInt); omega)) (fun c58 => ?_)
    refine G_iload (pc := 61) rfl dX12_fitting_61 ?_
    refine oX12_fitting_63 _ _ _ _ _ _ (fun c63 => absurd c63 (by show ¬ ((1 : Int32).toInt = 0); decide)) (fun c63 => ?_)
    refine G_iload (pc := 66) rfl dX12_fitting_66 ?_
    refine G_iload_n (pc := 68) rfl dX12_fitting_68 ?_
    refine oX12_fitting_69 _ _ _ _ _ _ _ (fun c69 => ?_) (fun c69 => ?_)
    · simp only [crel, ne_eq, Classical.not_not] at c69
      have hs : upB (okI sun rp) b.toInt i (r + 1) = true := by
        show (upB (okI sun rp) b.toInt i r && (decide ((r : Int) = b.toInt) || _)) = true
        rw [hu, decide_eq_true (by omega : (r : Int) = b.toInt)]
        rfl
      refine G_iconst (pc := 81) (v := 1) (by decide) dX12_fitting_81 ?_
      refine G_goto (pc := 82) (tgt := 86) (by decide) dX12_fitting_82 ?_
      refine G_istore (pc := 86) rfl rfl (by decide) dX12_fitting_86 ?_
      refine G_iinc (pc := 88) (v := Int32.ofNat 1) n_add rfl rfl (by decide) rfl (by decide) dX12_fitting_88 ?_
      refine G_goto (pc := 91) (tgt := 49) (by decide) dX12_fitting_91 ?_
      exact ih (r + 1) (by omega) hs
    · simp only [crel, ne_eq, Classical.not_not] at c69
      refine G_aload_n (pc := 72) rfl dX12_fitting_72 ?_
      refine G_iload (pc := 73) rfl dX12_fitting_73 ?_
      refine oX12_fitting_75 (d + 1) _ [.int _] [] J _ _ 67 12 170 mX12_isSo rfl List.mem_cons_self mt_X12_isSo rfl (lsi ls0) ls0 (by simp) (isSo_G (i := i) hi5 (by omega) hrm hth (hpr r (by omega)) (fun e => ?_) (fun e => ?_)) (fun _ _ h => h)
      · dsimp only [Option.toList, List.cons_append, List.nil_append]
        have hs : upB (okI sun rp) b.toInt i (r + 1) = true := by
          show (upB (okI sun rp) b.toInt i r && (decide ((r : Int) = b.toInt) || _)) = true
          rw [hu, e, Bool.or_true]
          rfl
        refine oX12_fitting_78 _ _ _ _ _ _ (fun c => absurd c (eqz (by decide))) (fun _ => ?_)
        refine G_iconst (pc := 81) (v := 1) (by decide) dX12_fitting_81 ?_
        refine G_goto (pc := 82) (tgt := 86) (by decide) dX12_fitting_82 ?_
        refine G_istore (pc := 86) rfl rfl (by decide) dX12_fitting_86 ?_
        refine G_iinc (pc := 88) (v := Int32.ofNat 1) n_add rfl rfl (by decide) rfl (by decide) dX12_fitting_88 ?_
        refine G_goto (pc := 91) (tgt := 49) (by decide) dX12_fitting_91 ?_
        exact ih (r + 1) (by omega) hs
      · dsimp only [Option.toList, List.cons_append, List.nil_append]
        have hs : upB (okI sun rp) b.toInt i (r + 1) = false := by
          show (upB (okI sun rp) b.toInt i r && (decide ((r : Int) = b.toInt) || _)) = false
          rw [e, decide_eq_false (by omega : ¬ (r : Int) = b.toInt)]
          simp
        refine oX12_fitting_78 _ _ _ _ _ _ (fun _ => ?_) (fun c => absurd rfl c)
        refine G_iconst (pc := 85) (v := 0) (by decide) dX12_fitting_85 ?_
        refine G_istore (pc := 86) rfl rfl (by decide) dX12_fitting_86 ?_
        refine G_iinc (pc := 88) (v := Int32.ofNat 1) n_add rfl rfl (by decide) rfl (by decide) dX12_fitting_88 ?_
        refine G_goto (pc := 91) (tgt := 49) (by decide) dX12_fitting_91 ?_
        exact fit_in0 hn hcm hrm hth hpr hi5 (by omega) hs kk
theorem bn_none2 {c j : Nat} (h : bnd bT c j = (-2147483648, 2147483647)) : bnd bT c j = (-2147483648, 2147483647) := h
set_option maxRecDepth 100000 in
set_option maxHeartbeats 4000000 in
theorem fit_loop {d n : Nat} {b : Int32} {sun : Nat → Nat} {rp : Nat → Nat → Int} {I : gI} {Q : Option Value → gH → Prop} (hn : n ≤ 6) (hcm : I 68 6 = Int32.ofNat n) (hrm : ∀ r k, r < 6 → k < 4 → (I 68 (65 + 4 * r + k)).toInt = rp r k) (hsm : ∀ h, h < 16 → I 68 (7 + h) = Int32.ofNat (sun h)) (hsb : ∀ h, h < 16 → sun h < 16) (hpr : ∀ r, r < n → 0 ≤ rp r 0 ∧ rp r 0 ≤ 15) (hQ : ∀ J, aInv bT J → afr mdF I J → (J 67 25).toInt = fN (fitB (okI sun rp) n b.toInt) 500 → Q (some (.int (Int32.ofNat (cN (fitB (okI sun rp) n b.toInt) 500)))) (SH0, RF0, J)) : ∀ (g i : Nat) (J : gI), i + g = 500 → aInv bT J → afr mdF I J → (J 67 25).toInt = fN (fitB (okI sun rp) n b.toInt) i → gg (d + 2) mX12_fitting 9 [some (.ref 67), some (.int b), some (.int (Int32.ofNat (cN (fitB (okI sun rp) n b.toInt) i))), some (.int (Int32.ofNat i)), none, none] [] J Q := by
  have k5 : (500 : Int32).toInt = 500 := rfl
  intro g
  induction g with
  | zero =>
    intro i J hi hJ hf hv
    have e : i = 500 := by omega
    subst e
    have ki : (Int32.ofNat 500).toInt = 500 := n_int (by omega)
    refine G_iload_n (pc := 9) rfl dX12_fitting_9 ?_
    refine G_sipush (pc := 10) (v := 500) (by decide) dX12_fitting_10 ?_
    refine oX12_fitting_13 _ _ _ _ _ _ _ (fun c13 => ?_) (fun c13 => absurd (by show (500 : Int32).toInt ≤ (Int32.ofNat 500).toInt; omega) c13)
    refine G_iload_n (pc := 137) rfl dX12_fitting_137 ?_
    exact oX12_fitting_138 _ _ _ _ _ (hQ J hJ hf hv)
  | succ g ih =>
    intro i J hi hJ hf hv
    have hi5 : i < 500 := by omega
    have ki : (Int32.ofNat i).toInt = i := n_int (by omega)
    refine G_iload_n (pc := 9) rfl dX12_fitting_9 ?_
    refine G_sipush (pc := 10) (v := 500) (by decide) dX12_fitting_10 ?_
    refine oX12_fitting_13 _ _ _ _ _ _ _ (fun c13 => absurd c13 (by show ¬ ((500 : Int32).toInt ≤ (Int32.ofNat i).toInt); omega)) (fun c13 => ?_)
    refine G_aload_n (pc := 16) rfl dX12_fitting_16 ?_
    refine G_iconst (pc := 17) (v := 1) (by decide) dX12_fitting_17 ?_
    refine G_iload_n (pc := 18) rfl dX12_fitting_18 ?_
    refine G_bipush (pc := 19) (v := 100) (by decide) dX12_fitting_19 ?_
    refine G_idiv (pc := 21) rfl (by decide) dX12_fitting_21 ?_
    refine G_iadd (pc := 22) (e_lk i hi5) dX12_fitting_22 ?_
    refine G_iload_n (pc := 23) rfl dX12_fitting_23 ?_
    refine G_bipush (pc := 24) (v := 10) (by decide) dX12_fitting_24 ?_
    refine G_idiv (pc := 26) (e_d10 i hi5) (by decide) dX12_fitting_26 ?_
    refine G_bipush (pc := 27) (v := 10) (by decide) dX12_fitting_27 ?_
    refine G_irem (pc := 29) (e_r10 (i / 10) (by omega)) (by decide) dX12_fitting_29 ?_
    refine G_bipush (pc := 30) (v := 10) (by decide) dX12_fitting_30 ?_
    refine G_iload_n (pc := 32) rfl dX12_fitting_32 ?_
    refine G_bipush (pc := 33) (v := 10) (by decide) dX12_fitting_33 ?_
    refine G_irem (pc := 35) (e_r10 i hi5) (by decide) dX12_fitting_35 ?_
    refine G_imul (pc := 36) (e_x10 _ (by omega)) dX12_fitting_36 ?_
    refine G_bipush (pc := 37) (v := 9) (by decide) dX12_fitting_37 ?_
    refine G_iadd (pc := 39) (e_p9 _ (by omega)) dX12_fitting_39 ?_
    refine oX12_fitting_40 (d + 1) _ [.int _, .int _, .int _] [] J _ _ 67 12 169 mX12_tellsLone rfl List.mem_cons_self mt_X12_tellsLone rfl (lsi (lsi (lsi ls0))) ls0 (by simp) (tell_G (i := i) (sun := sun) (fun q hq => by rw [hf 68 _ (ncs_ok (by decide +kernel))]; exact hsm q hq) hsb hJ hi5 (fun J2 hJ2 h2 hth => ?_)) (fun _ _ h => h)
    dsimp only [Option.toList, List.cons_append, List.nil_append]
    have hf2 : afr mdF I J2 := hf.tr h2 (by decide +kernel)
    have e25 : J2 67 25 = J 67 25 := h2 67 25 (by decide +kernel)
    refine G_iconst (pc := 43) (v := 1) (by decide) dX12_fitting_43 ?_
    refine G_istore (pc := 44) rfl rfl (by decide) dX12_fitting_44 ?_
    refine G_iconst (pc := 46) (v := Int32.ofNat 0) (by decide) dX12_fitting_46 ?_
    refine G_istore (pc := 47) rfl rfl (by decide) dX12_fitting_47 ?_
    refine fit_in1 hn (by rw [hf2 68 _ (ncs_ok (by decide +kernel))]; exact hcm) (fun r k hr hk => by rw [hf2 68 _ (ncs_ok (by decide +kernel))]; exact hrm r k hr hk) hth hpr hi5 (fun f r hfu => ?_) n 0 (by omega) rfl
    rw [← upB_all] at hfu
    cases hfb : fitB (okI sun rp) n b.toInt i with
    | true =>
      rw [hfb] at hfu
      subst hfu
      refine G_iload_n (pc := 94) rfl dX12_fitting_94 ?_
      refine G_iload (pc := 95) rfl dX12_fitting_95 ?_
      refine oX12_fitting_97 _ _ _ _ _ _ (fun c97 => absurd c97 (by show ¬ ((if true = true then (1 : Int32) else 0).toInt = 0); decide)) (fun c97 => ?_)
      refine G_iconst (pc := 100) (v := 1) (by decide) dX12_fitting_100 ?_
      refine G_goto (pc := 101) (tgt := 105) (by decide) dX12_fitting_101 ?_
      refine G_iadd (pc := 105) n_add1 dX12_fitting_105 ?_
      refine G_istore_n (pc := 106) rfl rfl (by decide) dX12_fitting_106 ?_
      refine G_aload_n (pc := 107) rfl dX12_fitting_107 ?_
      refine G_iload (pc := 108) rfl dX12_fitting_108 ?_
      refine oX12_fitting_110 _ _ _ _ _ _ (fun c110 => absurd c110 (by show ¬ ((if true = true then (1 : Int32) else 0).toInt = 0); decide)) (fun c110 => ?_)
      refine G_aload_n (pc := 113) rfl dX12_fitting_113 ?_
      refine G_getI (pc := 114) (ci := 12) (j := 25) rfl rfl lq_RX12_301 rfl rfl dX12_fitting_114 ?_
      refine oX12_fitting_117 _ _ _ _ _ _ (fun c117 => ?_) (fun c117 => ?_)
      · simp only [crel, ne_eq, Classical.not_not] at c117
        rw [e25, hv] at c117
        refine G_aload_n (pc := 124) rfl dX12_fitting_124 ?_
        refine G_getI (pc := 125) (ci := 12) (j := 25) rfl rfl lq_RX12_301 rfl rfl dX12_fitting_125 ?_
        refine G_putI (pc := 128) (ci := 12) (j := 25) rfl lq_RX12_301 rfl rfl rfl trivial dX12_fitting_128 ?_
        have ec : cN (fitB (okI sun rp) n b.toInt) (i + 1) = cN (fitB (okI sun rp) n b.toInt) i + 1 := by show cN _ i + _ = _; rw [if_pos hfb]
        rw [← ec]
        refine G_iinc (pc := 131) (v := Int32.ofNat 1) n_add rfl rfl (by decide) rfl (by decide) dX12_fitting_131 ?_
        refine G_goto (pc := 134) (tgt := 9) (by decide) dX12_fitting_134 ?_
        refine G_drop 4 rfl ?_
        refine G_drop 5 rfl ?_
        have ef : fN (fitB (okI sun rp) n b.toInt) (i + 1) = (J2 67 25).toInt := by
          show (if fitB (okI sun rp) n b.toInt i = true ∧ fN (fitB (okI sun rp) n b.toInt) i < 0 then (i : Int) else fN (fitB (okI sun rp) n b.toInt) i) = _
          rw [if_neg (fun h => by omega), e25]
          exact hv.symm
        exact ih (i + 1) (gup J2 67 25 (J2 67 25)) (by omega) (inv_put hJ2 (a_full (bn_none2 (by decide +kernel)))) (hf2.put (by decide)) (by rw [gup_at]; exact ef.symm)
      · simp only [crel, ne_eq, Classical.not_not] at c117
        rw [e25, hv] at c117
        refine G_iload_n (pc := 120) rfl dX12_fitting_120 ?_
        refine G_goto (pc := 121) (tgt := 128) (by decide) dX12_fitting_121 ?_
        refine G_putI (pc := 128) (ci := 12) (j := 25) rfl lq_RX12_301 rfl rfl rfl trivial dX12_fitting_128 ?_
        have ec : cN (fitB (okI sun rp) n b.toInt) (i + 1) = cN (fitB (okI sun rp) n b.toInt) i + 1 := by show cN _ i + _ = _; rw [if_pos hfb]
        rw [← ec]
        refine G_iinc (pc := 131) (v := Int32.ofNat 1) n_add rfl rfl (by decide) rfl (by decide) dX12_fitting_131 ?_
        refine G_goto (pc := 134) (tgt := 9) (by decide) dX12_fitting_134 ?_
        refine G_drop 4 rfl ?_
        refine G_drop 5 rfl ?_
        have ef : fN (fitB (okI sun rp) n b.toInt) (i + 1) = (Int32.ofNat i).toInt := by
          show (if fitB (okI sun rp) n b.toInt i = true ∧ fN (fitB (okI sun rp) n b.toInt) i < 0 then (i : Int) else fN (fitB (okI sun rp) n b.toInt) i) = _
          rw [if_pos ⟨hfb, by omega⟩]
          exact ki.symm
        exact ih (i + 1) (gup J2 67 25 (Int32.ofNat i)) (by omega) (inv_put hJ2 (a_full (bn_none2 (by decide +kernel)))) (hf2.put (by decide)) (by rw [gup_at]; exact ef.symm)
    | false =>
      rw [hfb] at hfu
      subst hfu
      refine G_iload_n (pc := 94) rfl dX12_fitting_94 ?_
      refine G_iload (pc := 95) rfl dX12_fitting_95 ?_
      refine oX12_fitting_97 _ _ _ _ _ _ (fun c97 => ?_) (fun c97 => absurd (by show (if false = true then (1 : Int32) else 0).toInt = 0; rfl) c97)
      refine G_iconst (pc := 104) (v := 0) (by decide) dX12_fitting_104 ?_
      refine G_iadd (pc := 105) n_add0 dX12_fitting_105 ?_
      refine G_istore_n (pc := 106) rfl rfl (by decide) dX12_fitting_106 ?_
      refine G_aload_n (pc := 107) rfl dX12_fitting_107 ?_
      refine G_iload (pc := 108) rfl dX12_fitting_108 ?_
      refine oX12_fitting_110 _ _ _ _ _ _ (fun c110 => ?_) (fun c110 => absurd (by show (if false = true then (1 : Int32) else 0).toInt = 0; rfl) c110)
      refine G_aload_n (pc := 124) rfl dX12_fitting_124 ?_
      refine G_getI (pc := 125) (ci := 12) (j := 25) rfl rfl lq_RX12_301 rfl rfl dX12_fitting_125 ?_
      refine G_putI (pc := 128) (ci := 12) (j := 25) rfl lq_RX12_301 rfl rfl rfl trivial dX12_fitting_128 ?_
      have ec : cN (fitB (okI sun rp) n b.toInt) (i + 1) = cN (fitB (okI sun rp) n b.toInt) i := by show cN _ i + _ = _; rw [if_neg (by rw [hfb]; decide), Nat.add_zero]
      rw [← ec]
      refine G_iinc (pc := 131) (v := Int32.ofNat 1) n_add rfl rfl (by decide) rfl (by decide) dX12_fitting_131 ?_
      refine G_goto (pc := 134) (tgt := 9) (by decide) dX12_fitting_134 ?_
      refine G_drop 4 rfl ?_
      refine G_drop 5 rfl ?_
      have ef : fN (fitB (okI sun rp) n b.toInt) (i + 1) = (J2 67 25).toInt := by
        show (if fitB (okI sun rp) n b.toInt i = true ∧ fN (fitB (okI sun rp) n b.toInt) i < 0 then (i : Int) else fN (fitB (okI sun rp) n b.toInt) i) = _
        rw [if_neg (by rw [hfb]; exact fun h => absurd h.1 (by decide)), e25]
        exact hv.symm
      exact ih (i + 1) (gup J2 67 25 (J2 67 25)) (by omega) (inv_put hJ2 (a_full (bn_none2 (by decide +kernel)))) (hf2.put (by decide)) (by rw [gup_at]; exact ef.symm)
set_option maxRecDepth 100000 in
set_option maxHeartbeats 4000000 in
theorem fit_G {d n : Nat} {b : Int32} {sun : Nat → Nat} {rp : Nat → Nat → Int} {I : gI} {Q : Option Value → gH → Prop} (hn : n ≤ 6) (hcm : I 68 6 = Int32.ofNat n) (hrm : ∀ r k, r < 6 → k < 4 → (I 68 (65 + 4 * r + k)).toInt = rp r k) (hsm : ∀ h, h < 16 → I 68 (7 + h) = Int32.ofNat (sun h)) (hsb : ∀ h, h < 16 → sun h < 16) (hpr : ∀ r, r < n → 0 ≤ rp r 0 ∧ rp r 0 ≤ 15) (hi : aInv bT I) (hQ : ∀ J, aInv bT J → afr mdF I J → (J 67 25).toInt = fN (fitB (okI sun rp) n b.toInt) 500 → Q (some (.int (Int32.ofNat (cN (fitB (okI sun rp) n b.toInt) 500)))) (SH0, RF0, J)) : gg (d + 2) mX12_fitting 0 (gent 6 [.ref 67, .int b]) [] I Q := by
  refine G_iconst (pc := 0) (v := Int32.ofNat 0) (by decide) dX12_fitting_0 ?_
  refine G_istore_n (pc := 1) rfl rfl (by decide) dX12_fitting_1 ?_
  refine G_aload_n (pc := 2) rfl dX12_fitting_2 ?_
  refine G_iconst (pc := 3) (v := (-1)) (by decide) dX12_fitting_3 ?_
  refine G_putI (pc := 4) (ci := 12) (j := 25) rfl lq_RX12_301 rfl rfl rfl trivial dX12_fitting_4 ?_
  refine G_iconst (pc := 7) (v := Int32.ofNat 0) (by decide) dX12_fitting_7 ?_
  refine G_istore_n (pc := 8) rfl rfl (by decide) dX12_fitting_8 ?_
  exact fit_loop hn hcm hrm hsm hsb hpr hQ 500 0 _ rfl (inv_put hi (a_full (bn_none2 (by decide +kernel)))) (afr.rf.put (by decide)) (by rw [gup_at]; rfl)
theorem fitB_m {ok : Nat → Nat → Bool} {n : Nat} : fitB ok n (-1) = fitI ok n := by
  funext i
  unfold fitB fitI
  congr 1
set_option maxRecDepth 100000 in
set_option maxHeartbeats 4000000 in
theorem loneM_G {d n : Nat} {w : Int32} {sun : Nat → Nat} {rp : Nat → Nat → Int} {I : gI} {Q : Option Value → gH → Prop} (hn : n ≤ 6) (hcm : I 68 6 = Int32.ofNat n) (hrm : ∀ r k, r < 6 → k < 4 → (I 68 (65 + 4 * r + k)).toInt = rp r k) (hsm : ∀ h, h < 16 → I 68 (7 + h) = Int32.ofNat (sun h)) (hsb : ∀ h, h < 16 → sun h < 16) (hpr : ∀ r, r < n → 0 ≤ rp r 0 ∧ rp r 0 ≤ 15) (hi : aInv bT I) (hQ : ∀ J, aInv bT J → afr mdF I J → Q (some (.int (lnR (fitI (okI sun rp) n) w.toInt))) (SH0, RF0, J)) : gg (d + 2 + 1) mX12_lone 0 (gent 3 [.ref 67, .int w]) [] I Q := by
  have k3 : (3 : Int32).toInt = 3 := rfl
  have k0 : (0 : Int32).toInt = 0 := rfl
  have k1 : (1 : Int32).toInt = 1 := rfl
  have k2 : (2 : Int32).toInt = 2 := rfl
  refine G_iload_n (pc := 0) rfl dX12_lone_0 ?_
  refine G_iconst (pc := 1) (v := 0) (by decide) dX12_lone_1 ?_
  refine G_iconst (pc := 2) (v := 3) (by decide) dX12_lone_2 ?_
  refine oX12_lone_3 _ _ [.int _, .int _, .int _] [] I _ _ mX12_in1 mt_X12_in1 rfl (lsi (lsi (lsi ls0))) ls0 (by simp) (in1b_G (fun p q => ?_) (fun p => ?_)) (fun _ _ h => h)
  · dsimp only [Option.toList, List.cons_append, List.nil_append]
    rw [k0] at p
    rw [k3] at q
    refine oX12_lone_6 _ _ _ _ _ _ (fun _ => ?_) (fun c => absurd (nez (by decide)) c)
    refine G_aload_n (pc := 11) rfl dX12_lone_11 ?_
    refine G_iconst (pc := 12) (v := (-1)) (by decide) dX12_lone_12 ?_
    refine oX12_lone_13 (d + 2) _ [.int _] [] I _ _ 67 12 171 mX12_fitting rfl List.mem_cons_self mt_X12_fitting rfl (lsi ls0) ls0 (by simp) (fit_G (b := -1) hn hcm hrm hsm hsb hpr hi (fun J hJ hf hv => ?_)) (fun _ _ h => h)
    dsimp only [Option.toList, List.cons_append, List.nil_append]
    rw [show ((-1 : Int32)).toInt = -1 from rfl, fitB_m] at hv ⊢
    have hQ := hQ J hJ hf
    unfold lnR at hQ
    rw [if_pos ⟨p, q⟩] at hQ
    have hcl := cN_le (fitI (okI sun rp) n) 500
    have hng := fN_neg (fitI (okI sun rp) n) 500
    have hrg := fN_rg (fitI (okI sun rp) n) 500
    have kc : (Int32.ofNat (cN (fitI (okI sun rp) n) 500)).toInt = cN (fitI (okI sun rp) n) 500 := n_int (by omega)
    refine G_istore_n (pc := 16) rfl rfl (by decide) dX12_lone_16 ?_
    refine G_iload_n (pc := 17) rfl dX12_lone_17 ?_
    refine oX12_lone_18 _ _ _ _ _ _ (fun c18 => ?_) (fun c18 => ?_)
    · simp only [crel, ne_eq, Classical.not_not] at c18
      have w0 : w.toInt = 0 := by omega
      rw [if_pos w0] at hQ
      refine G_iload_n (pc := 28) rfl dX12_lone_28 ?_
      refine oX12_lone_29 _ _ _ _ _ _ (fun c29 => absurd c29 (by show ¬ (w.toInt ≠ 0); omega)) (fun c29 => ?_)
      refine G_iload_n (pc := 32) rfl dX12_lone_32 ?_
      refine G_goto (pc := 33) (tgt := 84) (by decide) dX12_lone_33 ?_
      exact oX12_lone_84 _ _ _ _ _ hQ
    · simp only [crel, ne_eq, Classical.not_not] at c18
      have w1 : ¬ w.toInt = 0 := by omega
      rw [if_neg w1] at hQ
      refine G_iload_n (pc := 21) rfl dX12_lone_21 ?_
      refine oX12_lone_22 _ _ _ _ _ _ (fun c22 => ?_) (fun c22 => ?_)
      · simp only [crel, ne_eq, Classical.not_not] at c22
        unfold lnV at hQ
        rw [if_neg (by omega)] at hQ
        have eF : J 67 25 = Int32.ofNat (fN (fitI (okI sun rp) n) 500).toNat := Int32.toInt_inj.mp (by rw [hv, n_int (by omega)]; omega)
        refine G_iload_n (pc := 28) rfl dX12_lone_28 ?_
        refine oX12_lone_29 _ _ _ _ _ _ (fun c29 => ?_) (fun c29 => absurd (by show w.toInt ≠ 0; omega) c29)
        refine G_iload_n (pc := 36) rfl dX12_lone_36 ?_
        refine G_iconst (pc := 37) (v := 1) (by decide) dX12_lone_37 ?_
        refine oX12_lone_38 _ _ _ _ _ _ _ (fun c38 => ?_) (fun c38 => ?_)
        · simp only [crel, ne_eq, Classical.not_not] at c38
          refine G_iload_n (pc := 53) rfl dX12_lone_53 ?_
          refine G_iconst (pc := 54) (v := 2) (by decide) dX12_lone_54 ?_
          refine oX12_lone_55 _ _ _ _ _ _ _ (fun c55 => ?_) (fun c55 => ?_)
          · simp only [crel, ne_eq, Classical.not_not] at c55
            refine G_bipush (pc := 71) (v := 10) (by decide) dX12_lone_71 ?_
            refine G_aload_n (pc := 73) rfl dX12_lone_73 ?_
            refine G_getI (pc := 74) (ci := 12) (j := 25) eF rfl lq_RX12_301 rfl rfl dX12_lone_74 ?_
            refine G_bipush (pc := 77) (v := 10) (by decide) dX12_lone_77 ?_
            refine G_irem (pc := 79) (e_r10 _ (by omega)) (by decide) dX12_lone_79 ?_
            refine G_imul (pc := 80) (e_x10 _ (by omega)) dX12_lone_80 ?_
            refine G_bipush (pc := 81) (v := 9) (by decide) dX12_lone_81 ?_
            refine G_iadd (pc := 83) (e_p9 _ (by omega)) dX12_lone_83 ?_
            exact oX12_lone_84 _ _ _ _ _ (by rw [if_neg (by omega), if_neg (by omega)] at hQ; exact hQ)
          · simp only [crel, ne_eq, Classical.not_not] at c55
            refine G_aload_n (pc := 58) rfl dX12_lone_58 ?_
            refine G_getI (pc := 59) (ci := 12) (j := 25) eF rfl lq_RX12_301 rfl rfl dX12_lone_59 ?_
            refine G_bipush (pc := 62) (v := 10) (by decide) dX12_lone_62 ?_
            refine G_idiv (pc := 64) (e_d10 _ (by omega)) (by decide) dX12_lone_64 ?_
            refine G_bipush (pc := 65) (v := 10) (by decide) dX12_lone_65 ?_
            refine G_irem (pc := 67) (e_r10 _ (by omega)) (by decide) dX12_lone_67 ?_
            refine G_goto (pc := 68) (tgt := 84) (by decide) dX12_lone_68 ?_
            exact oX12_lone_84 _ _ _ _ _ (by rw [if_neg (by omega), if_pos (by omega)] at hQ; exact hQ)
        · simp only [crel, ne_eq, Classical.not_not] at c38
          refine G_iconst (pc := 41) (v := 1) (by decide) dX12_lone_41 ?_
          refine G_aload_n (pc := 42) rfl dX12_lone_42 ?_
          refine G_getI (pc := 43) (ci := 12) (j := 25) eF rfl lq_RX12_301 rfl rfl dX12_lone_43 ?_
          refine G_bipush (pc := 46) (v := 100) (by decide) dX12_lone_46 ?_
          refine G_idiv (pc := 48) rfl (by decide) dX12_lone_48 ?_
          refine G_iadd (pc := 49) (e_lk _ (by omega)) dX12_lone_49 ?_
          refine G_goto (pc := 50) (tgt := 84) (by decide) dX12_lone_50 ?_
          exact oX12_lone_84 _ _ _ _ _ (by rw [if_pos (by omega)] at hQ; exact hQ)
      · simp only [crel, ne_eq, Classical.not_not] at c22
        unfold lnV at hQ
        rw [if_pos (by omega)] at hQ
        refine G_bipush (pc := 25) (v := (-3)) (by decide) dX12_lone_25 ?_
        exact oX12_lone_27 _ _ _ _ _ hQ
  · dsimp only [Option.toList, List.cons_append, List.nil_append]
    refine oX12_lone_6 _ _ _ _ _ _ (fun c => absurd rfl c) (fun _ => ?_)
    refine G_iconst (pc := 9) (v := (-1)) (by decide) dX12_lone_9 ?_
    exact oX12_lone_10 _ _ _ _ _ (by have h := hQ I hi afr.rf; unfold lnR at h; rw [if_neg (by omega)] at h; exact h)
def popc (a : Nat) : Nat := a % 2 + a / 2 % 2 + a / 4 % 2 + a / 8 % 2 + a / 16 % 2 + a / 32 % 2
/-- the number below the lowest bit -/
def lwb (a : Nat) : Nat := if a % 2 = 1 then 0 else if a / 2 % 2 = 1 then 1 else if a / 4 % 2 = 1 then 3 else if a / 8 % 2 = 1 then 7 else if a / 16 % 2 = 1 then 15 else 31
theorem e_lwb : ∀ a, a < 64 → a ≠ 0 → (Int32.ofNat a &&& -(Int32.ofNat a)) - 1 = Int32.ofNat (lwb a) := by decide +kernel
theorem lwb_64 : ∀ a, a < 64 → lwb a < 64 := by decide +kernel
theorem popc_le : ∀ a, a < 64 → popc a ≤ 6 := by decide +kernel
theorem e_one : ∀ a, a < 64 → popc a = 1 → a = 2 ^ popc (lwb a) ∧ popc (lwb a) < 6 := by decide +kernel
theorem e_two : ∀ r, r < 6 → popc (2 ^ r) = 1 ∧ popc (lwb (2 ^ r)) = r := by decide +kernel
theorem e_min : ∀ l, l < 7 → ∀ r, r < 7 → (if Int32.ofNat r < Int32.ofNat l then Int32.ofNat r else Int32.ofNat l) = Int32.ofNat (if r < l then r else l) := by decide +kernel
/-- a key for which one report alone isn't so -/
def sgl (ok : Nat → Nat → Bool) (n i r : Nat) : Prop := r < n ∧ ok i r = false ∧ ∀ q, q < n → q ≠ r → ok i q = true
/-- what liar answers -/
def liR (ok : Nat → Nat → Bool) (n : Nat) (v : Int32) : Prop := ((∃ i, i < 500 ∧ fitI ok n i = true) ∧ v = -3) ∨ ((∀ i, i < 500 → fitI ok n i = false) ∧ ((∃ r, r < n ∧ (∃ i, i < 500 ∧ sgl ok n i r) ∧ (∀ q, q < r → ¬ ∃ i, i < 500 ∧ sgl ok n i q) ∧ v = Int32.ofNat r) ∨ ((∀ r, ¬ ∃ i, i < 500 ∧ sgl ok n i r) ∧ v = -3)))
theorem liR_u {ok : Nat → Nat → Bool} {n : Nat} {v w : Int32} (h : liR ok n v) (h' : liR ok n w) : v = w := by
  rcases h with ⟨⟨i, h1, h2⟩, h3⟩ | ⟨h1, h⟩ <;> rcases h' with ⟨⟨j, g1, g2⟩, g3⟩ | ⟨g1, g⟩
  · rw [h3, g3]
  · rw [g1 i h1] at h2
    cases h2
  · rw [h1 j g1] at g2
    cases g2
  · rcases h with ⟨r, h2, h3, h4, h5⟩ | ⟨h2, h3⟩ <;> rcases g with ⟨q, g2, g3, g4, g5⟩ | ⟨g2, g3'⟩
    · by_cases e : r = q
      · rw [h5, g5, e]
      · by_cases e2 : r < q
        · exact absurd h3 (g4 r e2)
        · exact absurd g3 (h4 q (by omega))
    · exact absurd h3 (g2 r)
    · exact absurd g3 (h2 q)
    · rw [h3, g3']
theorem sgl_a {ok : Nat → Nat → Bool} {n i a r : Nat} (hb : ∀ r, a.testBit r = (decide (r < n) && !ok i r)) : (a = 2 ^ r ↔ sgl ok n i r) := by
  refine ⟨fun e => ?_, fun ⟨h1, h2, h3⟩ => Nat.eq_of_testBit_eq (fun q => ?_)⟩
  · have h1 := hb r
    rw [e, Nat.testBit_two_pow_self] at h1
    have hr : r < n := by
      by_cases h : r < n
      · exact h
      · rw [decide_eq_false h, Bool.false_and] at h1
        cases h1
    refine ⟨hr, ?_, fun q hq hne => ?_⟩
    · rw [decide_eq_true hr, Bool.true_and] at h1
      cases h2 : ok i r with
      | false => rfl
      | true =>
        rw [h2] at h1
        cases h1
    · have h2 := hb q
      rw [e, Nat.testBit_two_pow, decide_eq_false (fun z => hne z.symm), decide_eq_true hq, Bool.true_and] at h2
      cases h3 : ok i q with
      | true => rfl
      | false =>
        rw [h3] at h2
        cases h2
  · rw [hb q, Nat.testBit_two_pow]
    by_cases e : r = q
    · subst e
      rw [decide_eq_true rfl, decide_eq_true h1, h2]
      rfl
    · rw [decide_eq_false e]
      by_cases hq : q < n
      · rw [h3 q hq (fun z => e z.symm)]
        simp
      · rw [decide_eq_false hq, Bool.false_and]
theorem fitB_s {ok : Nat → Nat → Bool} {n i r : Nat} (hn : fitI ok n i = false) (hr : r < n) : (fitB ok n (r : Int) i = true ↔ sgl ok n i r) := by
  unfold fitB
  rw [List.all_eq_true]
  refine ⟨fun h => ?_, fun ⟨h1, h2, h3⟩ q hq => ?_⟩
  · have h3 : ∀ q, q < n → q ≠ r → ok i q = true := fun q hq hne => by
      have h4 := h q (List.mem_range.mpr hq)
      rw [decide_eq_false (by omega : ¬ (q : Int) = r), Bool.false_or] at h4
      exact h4
    refine ⟨hr, ?_, h3⟩
    cases h2 : ok i r with
    | false => rfl
    | true =>
      have : fitI ok n i = true := by
        unfold fitI
        rw [List.all_eq_true]
        intro q hq
        by_cases e : q = r
        · rw [e]
          exact h2
        · exact h3 q (List.mem_range.mp hq) e
      rw [hn] at this
      cases this
  · by_cases e : q = r
    · rw [e, decide_eq_true rfl, Bool.true_or]
    · rw [h3 q (List.mem_range.mp hq) e, Bool.or_true]
def pc0 (x : Int32) : Int32 := (x - (((x).toUInt32 >>> (((1 : Int32)).toUInt32 &&& Int32.toUInt32 31)).toInt32 &&& (1431655765 : Int32)))
def pc1 (x : Int32) : Int32 := ((x &&& (858993459 : Int32)) + (((x).toUInt32 >>> (((2 : Int32)).toUInt32 &&& Int32.toUInt32 31)).toInt32 &&& (858993459 : Int32)))
def pc2 (x : Int32) : Int32 := ((x + ((x).toUInt32 >>> (((4 : Int32)).toUInt32 &&& Int32.toUInt32 31)).toInt32) &&& (252645135 : Int32))
def pc3 (x : Int32) : Int32 := (x + ((x).toUInt32 >>> (((8 : Int32)).toUInt32 &&& Int32.toUInt32 31)).toInt32)
def pc4 (x : Int32) : Int32 := (x + ((x).toUInt32 >>> (((16 : Int32)).toUInt32 &&& Int32.toUInt32 31)).toInt32)
def pc5 (x : Int32) : Int32 := (x &&& (63 : Int32))
theorem e_pop : ∀ a, a < 64 → pc5 (pc4 (pc3 (pc2 (pc1 (pc0 (Int32.ofNat a)))))) = Int32.ofNat (popc a) := by decide +kernel
set_option maxRecDepth 100000 in
set_option maxHeartbeats 4000000 in
theorem bitC_G {d a : Nat} {I : gI} {Q : Option Value → gH → Prop} (ha : a < 64) (hQ : Q (some (.int (Int32.ofNat (popc a)))) (SH0, RF0, I)) : gg d mJ6_bitCount_0f7a4 0 (gent 1 [.int (Int32.ofNat a)]) [] I Q := by
  refine G_iload_n (pc := 0) rfl dJ6_bitCount_0f7a4_0 ?_
  refine G_iload_n (pc := 1) rfl dJ6_bitCount_0f7a4_1 ?_
  refine G_iconst (pc := 2) (v := 1) (by decide) dJ6_bitCount_0f7a4_2 ?_
  refine G_iushr (pc := 3) rfl dJ6_bitCount_0f7a4_3 ?_
  refine G_ldcw (pc := 4) (v := 1431655765) cq_RJ6_265 dJ6_bitCount_0f7a4_4 ?_
  refine G_iand (pc := 7) rfl dJ6_bitCount_0f7a4_7 ?_
  refine G_isub (pc := 8) (show _ = pc0 (Int32.ofNat a) from rfl) dJ6_bitCount_0f7a4_8 ?_
  refine G_istore_n (pc := 9) rfl rfl (by decide) dJ6_bitCount_0f7a4_9 ?_
  refine G_iload_n (pc := 10) rfl dJ6_bitCount_0f7a4_10 ?_
  refine G_ldcw (pc := 11) (v := 858993459) cq_RJ6_266 dJ6_bitCount_0f7a4_11 ?_
  refine G_iand (pc := 14) rfl dJ6_bitCount_0f7a4_14 ?_
  refine G_iload_n (pc := 15) rfl dJ6_bitCount_0f7a4_15 ?_
  refine G_iconst (pc := 16) (v := 2) (by decide) dJ6_bitCount_0f7a4_16 ?_
  refine G_iushr (pc := 17) rfl dJ6_bitCount_0f7a4_17 ?_
  refine G_ldcw (pc := 18) (v := 858993459) cq_RJ6_266 dJ6_bitCount_0f7a4_18 ?_
  refine G_iand (pc := 21) rfl dJ6_bitCount_0f7a4_21 ?_
  refine G_iadd (pc := 22) (show _ = pc1 (pc0 (Int32.ofNat a)) from rfl) dJ6_bitCount_0f7a4_22 ?_
  refine G_istore_n (pc := 23) rfl rfl (by decide) dJ6_bitCount_0f7a4_23 ?_
  refine G_iload_n (pc := 24) rfl dJ6_bitCount_0f7a4_24 ?_
  refine G_iload_n (pc := 25) rfl dJ6_bitCount_0f7a4_25 ?_
  refine G_iconst (pc := 26) (v := 4) (by decide) dJ6_bitCount_0f7a4_26 ?_
  refine G_iushr (pc := 27) rfl dJ6_bitCount_0f7a4_27 ?_
  refine G_iadd (pc := 28) rfl dJ6_bitCount_0f7a4_28 ?_
  refine G_ldcw (pc := 29) (v := 252645135) cq_RJ6_267 dJ6_bitCount_0f7a4_29 ?_
  refine G_iand (pc := 32) (show _ = pc2 (pc1 (pc0 (Int32.ofNat a))) from rfl) dJ6_bitCount_0f7a4_32 ?_
  refine G_istore_n (pc := 33) rfl rfl (by decide) dJ6_bitCount_0f7a4_33 ?_
  refine G_iload_n (pc := 34) rfl dJ6_bitCount_0f7a4_34 ?_
  refine G_iload_n (pc := 35) rfl dJ6_bitCount_0f7a4_35 ?_
  refine G_bipush (pc := 36) (v := 8) (by decide) dJ6_bitCount_0f7a4_36 ?_
  refine G_iushr (pc := 38) rfl dJ6_bitCount_0f7a4_38 ?_
  refine G_iadd (pc := 39) (show _ = pc3 (pc2 (pc1 (pc0 (Int32.ofNat a)))) from rfl) dJ6_bitCount_0f7a4_39 ?_
  refine G_istore_n (pc := 40) rfl rfl (by decide) dJ6_bitCount_0f7a4_40 ?_
  refine G_iload_n (pc := 41) rfl dJ6_bitCount_0f7a4_41 ?_
  refine G_iload_n (pc := 42) rfl dJ6_bitCount_0f7a4_42 ?_
  refine G_bipush (pc := 43) (v := 16) (by decide) dJ6_bitCount_0f7a4_43 ?_
  refine G_iushr (pc := 45) rfl dJ6_bitCount_0f7a4_45 ?_
  refine G_iadd (pc := 46) (show _ = pc4 (pc3 (pc2 (pc1 (pc0 (Int32.ofNat a))))) from rfl) dJ6_bitCount_0f7a4_46 ?_
  refine G_istore_n (pc := 47) rfl rfl (by decide) dJ6_bitCount_0f7a4_47 ?_
  refine G_iload_n (pc := 48) rfl dJ6_bitCount_0f7a4_48 ?_
  refine G_bipush (pc := 49) (v := 63) (by decide) dJ6_bitCount_0f7a4_49 ?_
  refine G_iand (pc := 51) (show _ = pc5 (pc4 (pc3 (pc2 (pc1 (pc0 (Int32.ofNat a)))))) from rfl) dJ6_bitCount_0f7a4_51 ?_
  exact oJ6_bitCount_0f7a4_52 _ _ _ _ _ (Qe (e_pop a ha) hQ)
set_option maxRecDepth 100000 in
set_option maxHeartbeats 4000000 in
theorem leastOf_G {d a : Nat} {I : gI} {Q : Option Value → gH → Prop} (ha : a < 64) (h0 : a ≠ 0) (hQ : Q (some (.int (Int32.ofNat (popc (lwb a))))) (SH0, RF0, I)) : gg (d + 1) mX11_leastOf 0 (gent 1 [.int (Int32.ofNat a)]) [] I Q := by
  refine G_iload_n (pc := 0) rfl dX11_leastOf_0 ?_
  refine G_iload_n (pc := 1) rfl dX11_leastOf_1 ?_
  refine G_ineg (pc := 2) rfl dX11_leastOf_2 ?_
  refine G_iand (pc := 3) rfl dX11_leastOf_3 ?_
  refine G_iconst (pc := 4) (v := 1) (by decide) dX11_leastOf_4 ?_
  refine G_isub (pc := 5) (e_lwb a ha h0) dX11_leastOf_5 ?_
  refine oX11_leastOf_6 d _ [.int _] [] I _ _ mJ6_bitCount_0f7a4 mt_J6_bitCount_0f7a4 rfl (lsi ls0) ls0 (by simp) (bitC_G (lwb_64 a ha) ?_) (fun _ _ h => h)
  dsimp only [Option.toList, List.cons_append, List.nil_append]
  exact oX11_leastOf_9 _ _ _ _ _ hQ
set_option maxRecDepth 100000 in
set_option maxHeartbeats 4000000 in
theorem liar_loop {d n : Nat} {sun : Nat → Nat} {rp : Nat → Nat → Int} {I : gI} {Q : Option Value → gH → Prop} (hn : n ≤ 6) (hcnt : I 19 16 = Int32.ofNat n) (hrp : ∀ r k, r < 6 → k < 4 → (I 32 (4 * r + k)).toInt = rp r k) (hsn : ∀ h, h < 16 → I 20 h = Int32.ofNat (sun h)) (hsb : ∀ h, h < 16 → sun h < 16) (hpr : ∀ r, r < n → 0 ≤ rp r 0 ∧ rp r 0 ≤ 15) (hQ : ∀ v, liR (okI sun rp) n v → Q (some (.int v)) (SH0, RF0, I)) : ∀ (g i l : Nat), i + g = 500 → (l ≤ 6) ∧ (∀ j, j < i → fitI (okI sun rp) n j = false) ∧ (∀ j, j < i → ∀ r, sgl (okI sun rp) n j r → l ≤ r) ∧ (l < 6 → ∃ j, j < i ∧ sgl (okI sun rp) n j l) → gg (d + 3 + 1 + 1) mX11_liar 5 [some (.ref 0), some (.int (Int32.ofNat l)), some (.int (Int32.ofNat i)), none] [] I Q := by
  have k5 : (500 : Int32).toInt = 500 := rfl
  intro g
  induction g with
  | zero =>
    intro i l hi ⟨v0, v1, v3, v4⟩
    have e : i = 500 := by omega
    subst e
    have ki : (Int32.ofNat 500).toInt = 500 := n_int (by omega)
    have kl : (Int32.ofNat l).toInt = l := n_int (by omega)
    refine G_iload_n (pc := 5) rfl dX11_liar_5 ?_
    refine G_sipush (pc := 6) (v := 500) (by decide) dX11_liar_6 ?_
    refine oX11_liar_9 _ _ _ _ _ _ _ (fun c9 => ?_) (fun c9 => absurd (by show (500 : Int32).toInt ≤ (Int32.ofNat 500).toInt; omega) c9)
    refine G_iload_n (pc := 62) rfl dX11_liar_62 ?_
    refine G_bipush (pc := 63) (v := 6) (by decide) dX11_liar_63 ?_
    refine oX11_liar_65 _ _ _ _ _ _ _ (fun c65 => ?_) (fun c65 => ?_)
    · simp only [crel, ne_eq, Classical.not_not] at c65
      rw [kl, show (6 : Int32).toInt = 6 from rfl] at c65
      refine G_bipush (pc := 72) (v := (-3)) (by decide) dX11_liar_72 ?_
      refine oX11_liar_74 _ _ _ _ _ (hQ _ (Or.inr ⟨v1, Or.inr ⟨fun r ⟨j, h1, h2⟩ => ?_, rfl⟩⟩))
      have h3 := v3 j h1 r h2
      have := h2.1
      omega
    · simp only [crel, ne_eq, Classical.not_not] at c65
      rw [kl, show (6 : Int32).toInt = 6 from rfl] at c65
      refine G_iload_n (pc := 68) rfl dX11_liar_68 ?_
      refine G_goto (pc := 69) (tgt := 74) (by decide) dX11_liar_69 ?_
      refine oX11_liar_74 _ _ _ _ _ (hQ _ (Or.inr ⟨v1, Or.inl ⟨l, ?_, v4 (by omega), fun q hq ⟨j, h1, h2⟩ => ?_, rfl⟩⟩))
      · obtain ⟨j, h1, h2⟩ := v4 (by omega)
        exact h2.1
      · have := v3 j h1 q h2
        omega
  | succ g ih =>
    intro i l hi ⟨v0, v1, v3, v4⟩
    have hi5 : i < 500 := by omega
    have ki : (Int32.ofNat i).toInt = i := n_int (by omega)
    refine G_iload_n (pc := 5) rfl dX11_liar_5 ?_
    refine G_sipush (pc := 6) (v := 500) (by decide) dX11_liar_6 ?_
    refine oX11_liar_9 _ _ _ _ _ _ _ (fun c9 => absurd c9 (by show ¬ ((500 : Int32).toInt ≤ (Int32.ofNat i).toInt); omega)) (fun c9 => ?_)
    refine G_aload_n (pc := 12) rfl dX11_liar_12 ?_
    refine G_getR (pc := 13) (ci := 11) (j := 0) rfl lq_RX11_56 rfl rfl rfl dX11_liar_13 ?_
    refine G_iload_n (pc := 16) rfl dX11_liar_16 ?_
    refine oX11_liar_17 (d + 3 + 1) _ [.int _] [.ref _] I _ _ mX11_loneKind mt_X11_loneKind rfl (lsi ls0) (lsr ls0) (by simp) (lk_G hi5 ?_) (fun _ _ h => h)
    dsimp only [Option.toList, List.cons_append, List.nil_append]
    refine G_iload_n (pc := 20) rfl dX11_liar_20 ?_
    refine oX11_liar_21 (d + 3 + 1) _ [.int _] [.int _, .ref _] I _ _ mX11_loneStraw mt_X11_loneStraw rfl (lsi ls0) (lsi (lsr ls0)) (by simp) (ls_G hi5 ?_) (fun _ _ h => h)
    dsimp only [Option.toList, List.cons_append, List.nil_append]
    refine G_iload_n (pc := 24) rfl dX11_liar_24 ?_
    refine oX11_liar_25 (d + 3 + 1) _ [.int _] [.int _, .int _, .ref _] I _ _ mX11_loneTeeth mt_X11_loneTeeth rfl (lsi ls0) (lsi (lsi (lsr ls0))) (by simp) (lt_G hi5 ?_) (fun _ _ h => h)
    dsimp only [Option.toList, List.cons_append, List.nil_append]
    refine oX11_liar_28 (d + 3 + 1) _ [.int _, .int _, .int _] [] I _ _ 19 1 99 mX1_misfits rfl List.mem_cons_self mt_X1_misfits rfl (lsi (lsi (lsi ls0))) ls0 (by simp) (mis_G hn hcnt hrp hsn hsb hpr hi5 (fun a ha hb => ?_)) (fun _ _ h => h)
    dsimp only [Option.toList, List.cons_append, List.nil_append]
    have hz := fit_0 (ok := okI sun rp) hn hb
    have hs := fun r => sgl_a (r := r) (ok := okI sun rp) hb
    have ka : (Int32.ofNat a).toInt = a := n_int (by omega)
    refine G_istore_n (pc := 31) rfl rfl (by decide) dX11_liar_31 ?_
    refine G_iload_n (pc := 32) rfl dX11_liar_32 ?_
    refine oX11_liar_33 _ _ _ _ _ _ (fun c33 => ?_) (fun c33 => ?_)
    · simp only [crel, ne_eq, Classical.not_not] at c33
      have ha0 : a ≠ 0 := by omega
      have hf : fitI (okI sun rp) n i = false := by
        cases h : fitI (okI sun rp) n i with
        | false => rfl
        | true => exact absurd (hz.mpr h) ha0
      have v2 : ∀ j, j < i + 1 → fitI (okI sun rp) n j = false := fun j hj => by
        by_cases e : j = i
        · rw [e]
          exact hf
        · exact v1 j (by omega)
      refine G_iload_n (pc := 39) rfl dX11_liar_39 ?_
      refine oX11_liar_40 (d + 3 + 1) _ [.int _] [] I _ _ mJ6_bitCount_0f7a4 mt_J6_bitCount_0f7a4 rfl (lsi ls0) ls0 (by simp) (bitC_G ha ?_) (fun _ _ h => h)
      dsimp only [Option.toList, List.cons_append, List.nil_append]
      refine G_iconst (pc := 43) (v := 1) (by decide) dX11_liar_43 ?_
      refine oX11_liar_44 _ _ _ _ _ _ _ (fun c44 => ?_) (fun c44 => ?_)
      · simp only [crel, ne_eq, Classical.not_not] at c44
        have hp := popc_le a ha
        rw [n_int (by omega), show (1 : Int32).toInt = 1 from rfl] at c44
        refine G_iinc (pc := 56) (v := Int32.ofNat 1) n_add rfl rfl (by decide) rfl (by decide) dX11_liar_56 ?_
        refine G_goto (pc := 59) (tgt := 5) (by decide) dX11_liar_59 ?_
        refine G_drop 3 rfl ?_
        refine ih (i + 1) l (by omega) ⟨v0, v2, fun j hj r hr => ?_, fun h => ?_⟩
        · by_cases e : j = i
          · rw [e] at hr
            have h1 := (hs r).mpr hr
            have h2 : r < 6 := by have := hr.1; omega
            rw [h1] at c44
            have := (e_two r h2).1
            omega
          · exact v3 j (by omega) r hr
        · obtain ⟨j, h1, h2⟩ := v4 h
          exact ⟨j, by omega, h2⟩
      · simp only [crel, ne_eq, Classical.not_not] at c44
        have hp := popc_le a ha
        rw [n_int (by omega), show (1 : Int32).toInt = 1 from rfl] at c44
        obtain ⟨e1, e2⟩ := e_one a ha (by omega)
        refine G_iload_n (pc := 47) rfl dX11_liar_47 ?_
        refine G_iload_n (pc := 48) rfl dX11_liar_48 ?_
        refine oX11_liar_49 (d + 3 + 1) _ [.int _] [.int _] I _ _ mX11_leastOf mt_X11_leastOf rfl (lsi ls0) (lsi ls0) (by simp) (leastOf_G (d := d + 3) ha ha0 ?_) (fun _ _ h => h)
        dsimp only [Option.toList, List.cons_append, List.nil_append]
        refine min_G oX11_liar_52 ls0 (by simp) (e_min l (by omega) _ (by omega)) ?_
        refine G_istore_n (pc := 55) rfl rfl (by decide) dX11_liar_55 ?_
        refine G_iinc (pc := 56) (v := Int32.ofNat 1) n_add rfl rfl (by decide) rfl (by decide) dX11_liar_56 ?_
        refine G_goto (pc := 59) (tgt := 5) (by decide) dX11_liar_59 ?_
        refine G_drop 3 rfl ?_
        refine ih (i + 1) _ (by omega) ⟨by split <;> omega, v2, fun j hj r hr => ?_, fun h => ?_⟩
        · by_cases e : j = i
          · rw [e] at hr
            have h1 := (hs r).mpr hr
            have h2 : r < 6 := by have := hr.1; omega
            have h3 := (e_two r h2).2
            rw [← h1] at h3
            split <;> omega
          · have := v3 j (by omega) r hr
            split <;> omega
        · by_cases e : popc (lwb a) < l
          · rw [if_pos e]
            exact ⟨i, by omega, (hs _).mp e1⟩
          · rw [if_neg e] at h ⊢
            obtain ⟨j, h1, h2⟩ := v4 h
            exact ⟨j, by omega, h2⟩
    · simp only [crel, ne_eq, Classical.not_not] at c33
      have hf : fitI (okI sun rp) n i = true := hz.mp (by omega)
      refine G_bipush (pc := 36) (v := (-3)) (by decide) dX11_liar_36 ?_
      exact oX11_liar_38 _ _ _ _ _ (hQ _ (Or.inl ⟨⟨i, hi5, hf⟩, rfl⟩))
set_option maxRecDepth 100000 in
set_option maxHeartbeats 4000000 in
theorem liarX_G {d n : Nat} {sun : Nat → Nat} {rp : Nat → Nat → Int} {I : gI} {Q : Option Value → gH → Prop} (hn : n ≤ 6) (hcnt : I 19 16 = Int32.ofNat n) (hrp : ∀ r k, r < 6 → k < 4 → (I 32 (4 * r + k)).toInt = rp r k) (hsn : ∀ h, h < 16 → I 20 h = Int32.ofNat (sun h)) (hsb : ∀ h, h < 16 → sun h < 16) (hpr : ∀ r, r < n → 0 ≤ rp r 0 ∧ rp r 0 ≤ 15) (hQ : ∀ v, liR (okI sun rp) n v → Q (some (.int v)) (SH0, RF0, I)) : gg (d + 3 + 1 + 1) mX11_liar 0 (gent 4 [.ref 0]) [] I Q := by
  refine G_bipush (pc := 0) (v := Int32.ofNat 6) (by decide) dX11_liar_0 ?_
  refine G_istore_n (pc := 2) rfl rfl (by decide) dX11_liar_2 ?_
  refine G_iconst (pc := 3) (v := Int32.ofNat 0) (by decide) dX11_liar_3 ?_
  refine G_istore_n (pc := 4) rfl rfl (by decide) dX11_liar_4 ?_
  exact liar_loop hn hcnt hrp hsn hsb hpr hQ 500 0 6 rfl ⟨Nat.le_refl 6, fun j hj => by omega, fun j hj => by omega, fun h => by omega⟩
set_option maxRecDepth 100000 in
set_option maxHeartbeats 4000000 in
theorem liarM_loop {d n : Nat} {sun : Nat → Nat} {rp : Nat → Nat → Int} {I : gI} {Q : Option Value → gH → Prop} (hn : n ≤ 6) (hcm : I 68 6 = Int32.ofNat n) (hrm : ∀ r k, r < 6 → k < 4 → (I 68 (65 + 4 * r + k)).toInt = rp r k) (hsm : ∀ h, h < 16 → I 68 (7 + h) = Int32.ofNat (sun h)) (hsb : ∀ h, h < 16 → sun h < 16) (hpr : ∀ r, r < n → 0 ≤ rp r 0 ∧ rp r 0 ≤ 15) (hno : ∀ j, j < 500 → fitI (okI sun rp) n j = false) (hQ : ∀ J, aInv bT J → afr mdF I J → ∀ v, liR (okI sun rp) n v → Q (some (.int v)) (SH0, RF0, J)) : ∀ (g r : Nat) (J : gI), r + g = n → aInv bT J → afr mdF I J → (∀ q, q < r → ¬ ∃ i, i < 500 ∧ sgl (okI sun rp) n i q) → gg (d + 2 + 1) mX12_liar 13 [some (.ref 67), some (.int (Int32.ofNat r))] [] J Q := by
  intro g
  induction g with
  | zero =>
    intro r J hr hJ hf hle
    have hcn : (J 68 6).toInt = n := by rw [hf 68 6 (by decide +kernel), hcm]; exact n_int (by omega)
    have kr : (Int32.ofNat r).toInt = r := n_int (by omega)
    refine G_iload_n (pc := 13) rfl dX12_liar_13 ?_
    refine G_aload_n (pc := 14) rfl dX12_liar_14 ?_
    refine G_getR (pc := 15) (ci := 12) (j := 0) rfl lq_RX12_9 rfl rfl rfl dX12_liar_15 ?_
    refine G_bipush (pc := 18) (v := 6) (by decide) dX12_liar_18 ?_
    refine G_iald (pc := 20) (jj := 6) (by decide) rfl rfl (a_vin (by decide) (by decide)) dX12_liar_20 ?_
    refine oX12_liar_21 _ _ _ _ _ _ _ (fun c21 => ?_) (fun c21 => absurd (by show (J 68 6).toInt ≤ (Int32.ofNat r).toInt; omega) c21)
    refine G_bipush (pc := 40) (v := (-3)) (by decide) dX12_liar_40 ?_
    exact oX12_liar_42 _ _ _ _ _ (hQ J hJ hf _ (Or.inr ⟨hno, Or.inr ⟨fun q hx => by obtain ⟨i, h1, h2⟩ := id hx; exact hle q (by have := h2.1; omega) hx, rfl⟩⟩))
  | succ g ih =>
    intro r J hr hJ hf hle
    have hcn : (J 68 6).toInt = n := by rw [hf 68 6 (by decide +kernel), hcm]; exact n_int (by omega)
    have kr : (Int32.ofNat r).toInt = r := n_int (by omega)
    refine G_iload_n (pc := 13) rfl dX12_liar_13 ?_
    refine G_aload_n (pc := 14) rfl dX12_liar_14 ?_
    refine G_getR (pc := 15) (ci := 12) (j := 0) rfl lq_RX12_9 rfl rfl rfl dX12_liar_15 ?_
    refine G_bipush (pc := 18) (v := 6) (by decide) dX12_liar_18 ?_
    refine G_iald (pc := 20) (jj := 6) (by decide) rfl rfl (a_vin (by decide) (by decide)) dX12_liar_20 ?_
    refine oX12_liar_21 _ _ _ _ _ _ _ (fun c21 => absurd c21 (by show ¬ ((J 68 6).toInt ≤ (Int32.ofNat r).toInt); omega)) (fun c21 => ?_)
    refine G_aload_n (pc := 24) rfl dX12_liar_24 ?_
    refine G_iload_n (pc := 25) rfl dX12_liar_25 ?_
    refine oX12_liar_26 (d + 2) _ [.int _] [] J _ _ 67 12 171 mX12_fitting rfl List.mem_cons_self mt_X12_fitting rfl (lsi ls0) ls0 (by simp) (fit_G (b := Int32.ofNat r) (rp := rp) (sun := sun) hn (by rw [hf 68 _ (ncs_ok (by decide +kernel))]; exact hcm) (fun r k hr hk => by rw [hf 68 _ (ncs_ok (by decide +kernel))]; exact hrm r k hr hk) (fun q hq => by rw [hf 68 _ (ncs_ok (by decide +kernel))]; exact hsm q hq) hsb hpr hJ (fun J2 hJ2 hf2 _ => ?_)) (fun _ _ h => h)
    dsimp only [Option.toList, List.cons_append, List.nil_append]
    rw [kr]
    have hcl := cN_le (fitB (okI sun rp) n ((r : Nat) : Int)) 500
    have hcp := cN_pos (fitB (okI sun rp) n ((r : Nat) : Int)) 500
    refine oX12_liar_29 _ _ _ _ _ _ (fun c29 => ?_) (fun c29 => ?_)
    · simp only [crel, ne_eq, Classical.not_not] at c29
      rw [n_int (by omega)] at c29
      refine G_iinc (pc := 34) (v := Int32.ofNat 1) n_add rfl rfl (by decide) rfl (by decide) dX12_liar_34 ?_
      refine G_goto (pc := 37) (tgt := 13) (by decide) dX12_liar_37 ?_
      refine ih (r + 1) J2 (by omega) hJ2 (hf.tr hf2 (by decide +kernel)) (fun q hq hx => ?_)
      by_cases e : q = r
      · rw [e] at hx
        obtain ⟨j, h1, h2⟩ := hx
        have := hcp.mpr ⟨j, h1, (fitB_s (hno j h1) (by omega)).mpr h2⟩
        omega
      · exact hle q (by omega) hx
    · simp only [crel, ne_eq, Classical.not_not] at c29
      rw [n_int (by omega)] at c29
      refine G_iload_n (pc := 32) rfl dX12_liar_32 ?_
      refine oX12_liar_33 _ _ _ _ _ (hQ J2 hJ2 (hf.tr hf2 (by decide +kernel)) _ (Or.inr ⟨hno, Or.inl ⟨r, by omega, ?_, hle, rfl⟩⟩))
      obtain ⟨j, h1, h2⟩ := hcp.mp (by omega)
      exact ⟨j, h1, (fitB_s (hno j h1) (by omega)).mp h2⟩
set_option maxRecDepth 100000 in
set_option maxHeartbeats 4000000 in
theorem liarM_G {d n : Nat} {sun : Nat → Nat} {rp : Nat → Nat → Int} {I : gI} {Q : Option Value → gH → Prop} (hn : n ≤ 6) (hcm : I 68 6 = Int32.ofNat n) (hrm : ∀ r k, r < 6 → k < 4 → (I 68 (65 + 4 * r + k)).toInt = rp r k) (hsm : ∀ h, h < 16 → I 68 (7 + h) = Int32.ofNat (sun h)) (hsb : ∀ h, h < 16 → sun h < 16) (hpr : ∀ r, r < n → 0 ≤ rp r 0 ∧ rp r 0 ≤ 15) (hi : aInv bT I) (hQ : ∀ J, aInv bT J → afr mdF I J → ∀ v, liR (okI sun rp) n v → Q (some (.int v)) (SH0, RF0, J)) : gg (d + 2 + 1) mX12_liar 0 (gent 2 [.ref 67]) [] I Q := by
  refine G_aload_n (pc := 0) rfl dX12_liar_0 ?_
  refine G_iconst (pc := 1) (v := (-1)) (by decide) dX12_liar_1 ?_
  refine oX12_liar_2 (d + 2) _ [.int _] [] I _ _ 67 12 171 mX12_fitting rfl List.mem_cons_self mt_X12_fitting rfl (lsi ls0) ls0 (by simp) (fit_G (b := -1) hn hcm hrm hsm hsb hpr hi (fun J hJ hf hv => ?_)) (fun _ _ h => h)
  dsimp only [Option.toList, List.cons_append, List.nil_append]
  rw [show ((-1 : Int32)).toInt = -1 from rfl, fitB_m]
  have hcl := cN_le (fitI (okI sun rp) n) 500
  have hcp := cN_pos (fitI (okI sun rp) n) 500
  refine oX12_liar_5 _ _ _ _ _ _ (fun c5 => ?_) (fun c5 => ?_)
  · simp only [crel, ne_eq, Classical.not_not] at c5
    rw [n_int (by omega)] at c5
    refine G_iconst (pc := 11) (v := Int32.ofNat 0) (by decide) dX12_liar_11 ?_
    refine G_istore_n (pc := 12) rfl rfl (by decide) dX12_liar_12 ?_
    refine liarM_loop hn hcm hrm hsm hsb hpr (fun j hj => ?_) hQ n 0 J (by omega) hJ hf (fun q hq => by omega)
    cases h : fitI (okI sun rp) n j with
    | false => rfl
    | true =>
      have := hcp.mpr ⟨j, hj, h⟩
      omega
  · simp only [crel, ne_eq, Classical.not_not] at c5
    rw [n_int (by omega)] at c5
    refine G_bipush (pc := 8) (v := (-3)) (by decide) dX12_liar_8 ?_
    exact oX12_liar_10 _ _ _ _ _ (hQ J hJ hf _ (Or.inl ⟨hcp.mp (by omega), rfl⟩))
