/-! ===== an instruction's rule out of its decode row ===== -/
section OL
variable {mt : List gM} {M : gM} {pc : Nat}
theorem a_inj {x y : Int32} {z : Int} (h : x.toInt = z) (h' : y.toInt = z) : x = y := Int32.toInt_inj.mp (h.trans h'.symm)
theorem a_nc {y : Int32} : y.toNatClampNeg = y.toInt.toNat := (Int32.toNat_toInt y).symm
theorem a_vin {y : Int32} {nn : Nat} (h0 : 0 ≤ y.toInt) (h1 : y.toInt < nn) : vp_in y nn := fun h => by
  rcases h with h | h
  · rw [Int32.lt_iff_toInt_lt, Int32.toInt_zero] at h
    omega
  · rw [a_nc] at h
    omega
theorem o_iconst {z z' : Int} (hd : decode M.2.1 pc = .ok (.iconst z, 1)) (hz : (Int32.ofInt z).toInt = z') : oP mt M pc (0, 1, 0, z', []) := fun _ _ _ _ _ _ hv k => G_iconst (a_inj hz hv) hd k
theorem o_bipush {z z' : Int} (hd : decode M.2.1 pc = .ok (.bipush z, 2)) (hz : (Int8.ofInt z).toInt32.toInt = z') : oP mt M pc (0, 2, 0, z', []) := fun _ _ _ _ _ _ hv k => G_bipush (a_inj hz hv) hd k
theorem o_sipush {z z' : Int} (hd : decode M.2.1 pc = .ok (.sipush z, 3)) (hz : (Int16.ofInt z).toInt32.toInt = z') : oP mt M pc (0, 3, 0, z', []) := fun _ _ _ _ _ _ hv k => G_sipush (a_inj hz hv) hd k
theorem o_ldc {i : Nat} {v : Int32} {z' : Int} (hd : decode M.2.1 pc = .ok (.ldc i, 2)) (hw : Cond.constant M.1.cls i v ∈ gBIG) (hz : v.toInt = z') : oP mt M pc (0, 2, 0, z', []) := fun _ _ _ _ _ w hv k => by
  have e : v = w := a_inj hz hv
  subst e
  exact G_ldc hw hd k
theorem o_ldcw {i : Nat} {v : Int32} {z' : Int} (hd : decode M.2.1 pc = .ok (.ldc_w i, 3)) (hw : Cond.constant M.1.cls i v ∈ gBIG) (hz : v.toInt = z') : oP mt M pc (0, 3, 0, z', []) := fun _ _ _ _ _ w hv k => by
  have e : v = w := a_inj hz hv
  subst e
  exact G_ldcw hw hd k
theorem o_iload {i : Nat} (hd : decode M.2.1 pc = .ok (.iload i, 2)) : oP mt M pc (1, 2, i, 0, []) := fun _ _ _ _ _ v hL hk k => by
  obtain ⟨x, rfl⟩ : ∃ x, v = .int x := by simpa using hk
  exact G_iload hL hd k
theorem o_iload_n {i : Fin 4} {n : Nat} (hd : decode M.2.1 pc = .ok (.iload_n i, 1)) (hn : i.val = n) : oP mt M pc (1, 1, n, 0, []) := fun _ _ _ _ _ v hL hk k => by
  subst hn
  obtain ⟨x, rfl⟩ : ∃ x, v = .int x := by simpa using hk
  exact G_iload_n hL hd k
theorem o_aload {i : Nat} (hd : decode M.2.1 pc = .ok (.aload i, 2)) : oP mt M pc (1, 2, i, 1, []) := fun _ _ _ _ _ v hL hk k => by
  obtain ⟨x, rfl⟩ : ∃ x, v = .ref x := by simpa using hk
  exact G_aload hL hd k
theorem o_aload_n {i : Fin 4} {n : Nat} (hd : decode M.2.1 pc = .ok (.aload_n i, 1)) (hn : i.val = n) : oP mt M pc (1, 1, n, 1, []) := fun _ _ _ _ _ v hL hk k => by
  subst hn
  obtain ⟨x, rfl⟩ : ∃ x, v = .ref x := by simpa using hk
  exact G_aload_n hL hd k
theorem o_istore {i : Nat} (hd : decode M.2.1 pc = .ok (.istore i, 2)) (hi : i < M.2.2.1) : oP mt M pc (2, 2, i, 0, []) := fun _ _ _ _ _ v hg hk k => by
  obtain ⟨x, rfl⟩ : ∃ x, v = .int x := by simpa using hk
  exact G_istore rfl (hg.nl _) hi hd k
theorem o_istore_n {i : Fin 4} {n : Nat} (hd : decode M.2.1 pc = .ok (.istore_n i, 1)) (hn : i.val = n) (hi : n < M.2.2.1) : oP mt M pc (2, 1, n, 0, []) := fun _ _ _ _ _ v hg hk k => by
  subst hn
  obtain ⟨x, rfl⟩ : ∃ x, v = .int x := by simpa using hk
  exact G_istore_n rfl (hg.nl _) hi hd k
theorem o_astore {i : Nat} (hd : decode M.2.1 pc = .ok (.astore i, 2)) (hi : i < M.2.2.1) : oP mt M pc (2, 2, i, 1, []) := fun _ _ _ _ _ v hg hk k => by
  obtain ⟨x, rfl⟩ : ∃ x, v = .ref x := by simpa using hk
  exact G_astore rfl (hg.nl _) hi hd k
theorem o_astore_n {i : Fin 4} {n : Nat} (hd : decode M.2.1 pc = .ok (.astore_n i, 1)) (hn : i.val = n) (hi : n < M.2.2.1) : oP mt M pc (2, 1, n, 1, []) := fun _ _ _ _ _ v hg hk k => by
  subst hn
  obtain ⟨x, rfl⟩ : ∃ x, v = .ref x := by simpa using hk
  exact G_astore_n rfl (hg.nl _) hi hd k
theorem o_iinc {i : Nat} {z z' : Int} (hd : decode M.2.1 pc = .ok (.iinc i z, 3)) (hz : (Int32.ofInt z).toInt = z') (hi : i < M.2.2.1) : oP mt M pc (3, 3, i, z', []) := fun _ _ _ _ _ _ _ hg hL hv k => G_iinc rfl rfl hL (a_inj hz hv) (hg.nl _) hi hd k
theorem o_iadd (hd : decode M.2.1 pc = .ok (.iadd, 1)) : oP mt M pc (4, 1, 0, 0, []) := fun _ _ _ _ _ _ _ _ k => G_iadd rfl hd k
theorem o_isub (hd : decode M.2.1 pc = .ok (.isub, 1)) : oP mt M pc (4, 1, 1, 0, []) := fun _ _ _ _ _ _ _ _ k => G_isub rfl hd k
theorem o_imul (hd : decode M.2.1 pc = .ok (.imul, 1)) : oP mt M pc (4, 1, 2, 0, []) := fun _ _ _ _ _ _ _ _ k => G_imul rfl hd k
theorem o_iand (hd : decode M.2.1 pc = .ok (.iand, 1)) : oP mt M pc (4, 1, 3, 0, []) := fun _ _ _ _ _ _ _ _ k => G_iand rfl hd k
theorem o_ior (hd : decode M.2.1 pc = .ok (.ior, 1)) : oP mt M pc (4, 1, 4, 0, []) := fun _ _ _ _ _ _ _ _ k => G_ior rfl hd k
theorem o_ixor (hd : decode M.2.1 pc = .ok (.ixor, 1)) : oP mt M pc (4, 1, 5, 0, []) := fun _ _ _ _ _ _ _ _ k => G_ixor rfl hd k
theorem o_ishl (hd : decode M.2.1 pc = .ok (.ishl, 1)) : oP mt M pc (4, 1, 6, 0, []) := fun _ _ _ _ _ _ _ _ k => G_ishl rfl hd k
theorem o_ishr (hd : decode M.2.1 pc = .ok (.ishr, 1)) : oP mt M pc (4, 1, 7, 0, []) := fun _ _ _ _ _ _ _ _ k => G_ishr rfl hd k
theorem o_iushr (hd : decode M.2.1 pc = .ok (.iushr, 1)) : oP mt M pc (4, 1, 8, 0, []) := fun _ _ _ _ _ _ _ _ k => G_iushr rfl hd k
theorem o_idiv (hd : decode M.2.1 pc = .ok (.idiv, 1)) : oP mt M pc (4, 1, 9, 0, []) := fun _ _ _ _ _ _ _ hy k => G_idiv rfl (hy (by decide)) hd k
theorem o_irem (hd : decode M.2.1 pc = .ok (.irem, 1)) : oP mt M pc (4, 1, 10, 0, []) := fun _ _ _ _ _ _ _ hy k => G_irem rfl (hy (by decide)) hd k
theorem o_ineg (hd : decode M.2.1 pc = .ok (.ineg, 1)) : oP mt M pc (5, 1, 0, 0, []) := fun _ _ _ _ _ _ k => G_ineg rfl hd k
theorem o_i2b (hd : decode M.2.1 pc = .ok (.i2b, 1)) : oP mt M pc (5, 1, 1, 0, []) := fun _ _ _ _ _ _ k => G_i2b rfl hd k
theorem o_i2s (hd : decode M.2.1 pc = .ok (.i2s, 1)) : oP mt M pc (5, 1, 2, 0, []) := fun _ _ _ _ _ _ k => G_i2s rfl hd k
theorem o_dup (hd : decode M.2.1 pc = .ok (.dup, 1)) : oP mt M pc (6, 1, 0, 0, []) := fun _ _ _ _ _ _ hv k => G_dup hv.cat hd k
theorem o_dup2 (hd : decode M.2.1 pc = .ok (.dup2, 1)) : oP mt M pc (7, 1, 0, 0, []) := fun _ _ _ _ _ _ _ hv hw k => G_dup2 hv.cat hw.cat hd k
theorem o_pop (hd : decode M.2.1 pc = .ok (.pop, 1)) : oP mt M pc (8, 1, 0, 0, []) := fun _ _ _ _ _ _ hv k => G_pop hv.cat hd k
theorem o_goto {off : Int} {tgt : Nat} (hd : decode M.2.1 pc = .ok (.goto off, 3)) (ht : (pc : Int) + off = (tgt : Int)) : oP mt M pc (9, 3, tgt, 0, []) := fun _ _ _ _ _ k => G_goto ht hd k
theorem o_if_eq {off z : Int} (hd : decode M.2.1 pc = .ok (.ifCond .eq off, 3)) (ht : (pc : Int) + off = z) (h0 : 0 ≤ z) : oP mt M pc (10, 3, 0, z, []) := fun _ _ _ _ _ x kt kf => by
  have hc : (x = 0) ↔ (x.toInt = (0 : Int)) := by
    have e : x = 0 ↔ x.toInt = (0 : Int) := ⟨fun h => by rw [h]; rfl, fun h => Int32.toInt_inj.mp h⟩
    exact e
  exact G_if_eq (tgt := z.toNat) (by omega) hd (fun h => kt (hc.mp h)) (fun h => kf (fun q => h (hc.mpr q)))
theorem o_icmp_eq {off z : Int} (hd : decode M.2.1 pc = .ok (.if_icmp .eq off, 3)) (ht : (pc : Int) + off = z) (h0 : 0 ≤ z) : oP mt M pc (11, 3, 0, z, []) := fun _ _ _ _ _ x y kt kf => by
  have hc : (x = y) ↔ (x.toInt = y.toInt) := by
    have e : x = y ↔ x.toInt = y.toInt := ⟨fun h => by rw [h], fun h => Int32.toInt_inj.mp h⟩
    exact e
  exact G_icmp_eq (tgt := z.toNat) (by omega) hd (fun h => kt (hc.mp h)) (fun h => kf (fun q => h (hc.mpr q)))
theorem o_if_ne {off z : Int} (hd : decode M.2.1 pc = .ok (.ifCond .ne off, 3)) (ht : (pc : Int) + off = z) (h0 : 0 ≤ z) : oP mt M pc (10, 3, 1, z, []) := fun _ _ _ _ _ x kt kf => by
  have hc : (¬ x = 0) ↔ (x.toInt ≠ (0 : Int)) := by
    have e : x = 0 ↔ x.toInt = (0 : Int) := ⟨fun h => by rw [h]; rfl, fun h => Int32.toInt_inj.mp h⟩
    exact not_congr e
  exact G_if_ne (tgt := z.toNat) (by omega) hd (fun h => kt (hc.mp h)) (fun h => kf (fun q => absurd h (hc.mpr q)))
theorem o_icmp_ne {off z : Int} (hd : decode M.2.1 pc = .ok (.if_icmp .ne off, 3)) (ht : (pc : Int) + off = z) (h0 : 0 ≤ z) : oP mt M pc (11, 3, 1, z, []) := fun _ _ _ _ _ x y kt kf => by
  have hc : (¬ x = y) ↔ (x.toInt ≠ y.toInt) := by
    have e : x = y ↔ x.toInt = y.toInt := ⟨fun h => by rw [h], fun h => Int32.toInt_inj.mp h⟩
    exact not_congr e
  exact G_icmp_ne (tgt := z.toNat) (by omega) hd (fun h => kt (hc.mp h)) (fun h => kf (fun q => absurd h (hc.mpr q)))
theorem o_if_lt {off z : Int} (hd : decode M.2.1 pc = .ok (.ifCond .lt off, 3)) (ht : (pc : Int) + off = z) (h0 : 0 ≤ z) : oP mt M pc (10, 3, 2, z, []) := fun _ _ _ _ _ x kt kf => by
  have hc : (x < 0) ↔ (x.toInt < (0 : Int)) := by
    exact Int32.lt_iff_toInt_lt
  exact G_if_lt (tgt := z.toNat) (by omega) hd (fun h => kt (hc.mp h)) (fun h => kf (fun q => h (hc.mpr q)))
theorem o_icmp_lt {off z : Int} (hd : decode M.2.1 pc = .ok (.if_icmp .lt off, 3)) (ht : (pc : Int) + off = z) (h0 : 0 ≤ z) : oP mt M pc (11, 3, 2, z, []) := fun _ _ _ _ _ x y kt kf => by
  have hc : (x < y) ↔ (x.toInt < y.toInt) := by
    exact Int32.lt_iff_toInt_lt
  exact G_icmp_lt (tgt := z.toNat) (by omega) hd (fun h => kt (hc.mp h)) (fun h => kf (fun q => h (hc.mpr q)))
theorem o_if_ge {off z : Int} (hd : decode M.2.1 pc = .ok (.ifCond .ge off, 3)) (ht : (pc : Int) + off = z) (h0 : 0 ≤ z) : oP mt M pc (10, 3, 3, z, []) := fun _ _ _ _ _ x kt kf => by
  have hc : (0 ≤ x) ↔ ((0 : Int) ≤ x.toInt) := by
    exact Int32.le_iff_toInt_le
  exact G_if_ge (tgt := z.toNat) (by omega) hd (fun h => kt (hc.mp h)) (fun h => kf (fun q => h (hc.mpr q)))
theorem o_icmp_ge {off z : Int} (hd : decode M.2.1 pc = .ok (.if_icmp .ge off, 3)) (ht : (pc : Int) + off = z) (h0 : 0 ≤ z) : oP mt M pc (11, 3, 3, z, []) := fun _ _ _ _ _ x y kt kf => by
  have hc : (y ≤ x) ↔ (y.toInt ≤ x.toInt) := by
    exact Int32.le_iff_toInt_le
  exact G_icmp_ge (tgt := z.toNat) (by omega) hd (fun h => kt (hc.mp h)) (fun h => kf (fun q => h (hc.mpr q)))
theorem o_if_gt {off z : Int} (hd : decode M.2.1 pc = .ok (.ifCond .gt off, 3)) (ht : (pc : Int) + off = z) (h0 : 0 ≤ z) : oP mt M pc (10, 3, 4, z, []) := fun _ _ _ _ _ x kt kf => by
  have hc : (0 < x) ↔ ((0 : Int) < x.toInt) := by
    exact Int32.lt_iff_toInt_lt
  exact G_if_gt (tgt := z.toNat) (by omega) hd (fun h => kt (hc.mp h)) (fun h => kf (fun q => h (hc.mpr q)))
theorem o_icmp_gt {off z : Int} (hd : decode M.2.1 pc = .ok (.if_icmp .gt off, 3)) (ht : (pc : Int) + off = z) (h0 : 0 ≤ z) : oP mt M pc (11, 3, 4, z, []) := fun _ _ _ _ _ x y kt kf => by
  have hc : (y < x) ↔ (y.toInt < x.toInt) := by
    exact Int32.lt_iff_toInt_lt
  exact G_icmp_gt (tgt := z.toNat) (by omega) hd (fun h => kt (hc.mp h)) (fun h => kf (fun q => h (hc.mpr q)))
theorem o_if_le {off z : Int} (hd : decode M.2.1 pc = .ok (.ifCond .le off, 3)) (ht : (pc : Int) + off = z) (h0 : 0 ≤ z) : oP mt M pc (10, 3, 5, z, []) := fun _ _ _ _ _ x kt kf => by
  have hc : (x ≤ 0) ↔ (x.toInt ≤ (0 : Int)) := by
    exact Int32.le_iff_toInt_le
  exact G_if_le (tgt := z.toNat) (by omega) hd (fun h => kt (hc.mp h)) (fun h => kf (fun q => h (hc.mpr q)))
theorem o_icmp_le {off z : Int} (hd : decode M.2.1 pc = .ok (.if_icmp .le off, 3)) (ht : (pc : Int) + off = z) (h0 : 0 ≤ z) : oP mt M pc (11, 3, 5, z, []) := fun _ _ _ _ _ x y kt kf => by
  have hc : (x ≤ y) ↔ (x.toInt ≤ y.toInt) := by
    exact Int32.le_iff_toInt_le
  exact G_icmp_le (tgt := z.toNat) (by omega) hd (fun h => kt (hc.mp h)) (fun h => kf (fun q => h (hc.mpr q)))
section OF
variable {ci j i N : Nat} {C : String} {T : u_T}
theorem o_getI (hd : decode M.2.1 pc = .ok (.getfield i, 3)) (hc : vwCl[ci]? = some (C, T, N)) (hw : Cond.fieldLink M.1.cls i (T j).1 (T j).2.1 (T j).2.2.1 ∈ gBIG) (hr : (gF.getD ci [])[j]? = some false) {z : Int} (hz : z.toNat = ci) : oP mt M pc (12, 3, j, z, []) := fun _ _ _ _ _ _ hsh k => G_getI rfl hc hw (by rw [hz] at hsh; exact hsh) hr hd k
theorem o_getR (hd : decode M.2.1 pc = .ok (.getfield i, 3)) (hc : vwCl[ci]? = some (C, T, N)) (hw : Cond.fieldLink M.1.cls i (T j).1 (T j).2.1 (T j).2.2.1 ∈ gBIG) (hr : (gF.getD ci [])[j]? = some true) {z : Int} (hz : z.toNat = ci) : oP mt M pc (13, 3, j, z, []) := fun _ _ _ _ _ _ _ hsh hv k => G_getR hc hw (by rw [hz] at hsh; exact hsh) hr hv hd k
theorem o_putI (hd : decode M.2.1 pc = .ok (.putfield i, 3)) (hc : vwCl[ci]? = some (C, T, N)) (hw : Cond.fieldLink M.1.cls i (T j).1 (T j).2.1 (T j).2.2.1 ∈ gBIG) (hfin : (T j).2.2.2 = false) (hr : (gF.getD ci [])[j]? = some false) (ht : (gTy.getD ci [])[j]? = some .int) {z : Int} (hz : z.toNat = ci) : oP mt M pc (14, 3, j, z, []) := fun _ _ _ _ _ _ _ hsh k => G_putI hc hw hfin (by rw [hz] at hsh; exact hsh) hr (by rw [ht]; trivial) hd k
theorem o_putZ (hd : decode M.2.1 pc = .ok (.putfield i, 3)) (hc : vwCl[ci]? = some (C, T, N)) (hw : Cond.fieldLink M.1.cls i (T j).1 (T j).2.1 (T j).2.2.1 ∈ gBIG) (hfin : (T j).2.2.2 = false) (hr : (gF.getD ci [])[j]? = some false) (ht : (gTy.getD ci [])[j]? = some .boolean) {z : Int} (hz : z.toNat = ci) : oP mt M pc (15, 3, j, z, []) := fun _ _ _ _ _ _ _ hsh hv k => G_putI hc hw hfin (by rw [hz] at hsh; exact hsh) hr (by rw [ht]; exact hv) hd k
end OF
theorem o_iaload (hd : decode M.2.1 pc = .ok (.iaload, 1)) : oP mt M pc (16, 1, 1, 0, []) := fun _ _ _ _ _ _ _ _ hsh h0 h1 k => G_iald a_nc rfl hsh (a_vin h0 h1) hd k
theorem o_baload (hd : decode M.2.1 pc = .ok (.baload, 1)) : oP mt M pc (16, 1, 2, 0, []) := fun _ _ _ _ _ _ _ _ hsh h0 h1 k => G_zald a_nc rfl hsh (a_vin h0 h1) hd k
theorem o_caload (hd : decode M.2.1 pc = .ok (.caload, 1)) : oP mt M pc (16, 1, 3, 0, []) := fun _ _ _ _ _ _ _ _ hsh h0 h1 k => G_cald a_nc rfl hsh (a_vin h0 h1) hd k
theorem o_aaload (hd : decode M.2.1 pc = .ok (.aaload, 1)) : oP mt M pc (17, 1, 0, 0, []) := fun _ _ _ _ _ _ _ _ _ hsh h0 h1 hr k => by
  rcases hsh with hsh | hsh
  · exact G_kald a_nc hsh (a_vin h0 h1) hr hd k
  · exact G_rald a_nc hsh (a_vin h0 h1) hr hd k
theorem o_iastore (hd : decode M.2.1 pc = .ok (.iastore, 1)) : oP mt M pc (18, 1, 0, 0, []) := fun _ _ _ _ _ _ _ _ _ hsh h0 h1 k => G_iast a_nc hsh (a_vin h0 h1) hd k
theorem o_bastore (hd : decode M.2.1 pc = .ok (.bastore, 1)) : oP mt M pc (19, 1, 0, 0, []) := fun _ _ _ _ _ _ _ _ _ hsh h0 h1 k => G_zast a_nc rfl hsh (a_vin h0 h1) hd k
theorem o_arraylength (hd : decode M.2.1 pc = .ok (.arraylength, 1)) : oP mt M pc (20, 1, 0, 0, []) := fun _ _ _ _ _ _ _ hsh k => G_alen hsh rfl hd k
theorem o_iret (hd : decode M.2.1 pc = .ok (.ireturn, 1)) (hr : M.2.2.2 = some .int) : oP mt M pc (21, 1, 0, 0, []) := fun _ _ _ _ _ hq => G_iret (Nat.le_refl _) (Nat.le_refl _) hr hd hq
theorem o_zret (hd : decode M.2.1 pc = .ok (.ireturn, 1)) (hr : M.2.2.2 = some .boolean) : oP mt M pc (22, 1, 0, 0, []) := fun _ _ _ _ _ hv hq => G_zret (Nat.le_refl _) (Nat.le_refl _) hr hv hd hq
theorem o_vret (hd : decode M.2.1 pc = .ok (.return_, 1)) (hr : M.2.2.2 = none) : oP mt M pc (23, 1, 0, 0, []) := fun _ _ _ _ hq => G_vret (Nat.le_refl _) (Nat.le_refl _) hr hd hq
/-- a table's row at each place -/
def otab (pc : Nat) (lo : Int) : List Int → List (Int × Nat)
  | [] => []
  | o :: r => (lo, ((pc : Int) + o).toNat) :: otab pc (lo + 1) r
theorem otab_at : ∀ {l : List Int} {lo : Int} {i : Nat} {o : Int}, l[i]? = some o → (lo + i, ((pc : Int) + o).toNat) ∈ otab pc lo l
  | [], _, _, _, h => by simp at h
  | a :: r, lo, 0, o, h => by
    have e : a = o := by simpa using h
    subst e
    simp [otab]
  | a :: r, lo, i + 1, o, h => by
    have ih := otab_at (l := r) (lo := lo + 1) (i := i) (o := o) (by simpa using h)
    rw [show lo + ((i + 1 : Nat) : Int) = lo + 1 + (i : Int) by omega]
    exact List.mem_cons_of_mem _ ih
theorem o_table {dflt lo hi : Int} {offs : Array Int} {len tgt : Nat} {ps : List (Int × Nat)} (hd : decode M.2.1 pc = .ok (.tableswitch dflt lo hi offs, len)) (hp : otab pc lo offs.toList = ps) (ht : (pc : Int) + dflt = (tgt : Int)) (hs : (offs.toList.length : Int) = hi - lo + 1) (hn : offs.toList.all (fun o => decide (0 ≤ (pc : Int) + o)) = true) : oP mt M pc (24, len, tgt, 0, ps) := fun d L S I Q x kt kf => by
  subst hp
  by_cases h : x.toInt < lo ∨ hi < x.toInt
  · refine G_tabOut ht h hd (kf (fun q hq e => ?_))
    have : ∀ {l : List Int} {lo' : Int} {q : Int × Nat}, q ∈ otab pc lo' l → lo' ≤ q.1 ∧ q.1 < lo' + l.length := by
      intro l
      induction l with
      | nil => intro lo' q hq; simp [otab] at hq
      | cons a r ih =>
        intro lo' q hq
        simp only [otab] at hq
        rcases List.mem_cons.mp hq with rfl | hq
        · exact ⟨Int.le_refl _, by simp only [List.length_cons]; omega⟩
        · have := ih hq
          simp only [List.length_cons]
          omega
    have := this hq
    omega
  · have hl : (x.toInt - lo).toNat < offs.toList.length := by omega
    have ho : offs.toList[(x.toInt - lo).toNat]? = some offs.toList[(x.toInt - lo).toNat] := List.getElem?_eq_getElem hl
    have h0 := List.all_eq_true.mp hn _ (List.getElem_mem hl)
    simp only [decide_eq_true_eq] at h0
    have hm := otab_at (pc := pc) (lo := lo) ho
    rw [show lo + (((x.toInt - lo).toNat : Nat) : Int) = x.toInt by omega] at hm
    refine G_tabIn (off := offs.toList[(x.toInt - lo).toNat]) (tgt := ((pc : Int) + offs.toList[(x.toInt - lo).toNat]).toNat) (by omega) (by omega) (by omega) (by simpa using ho) hd (kt _ hm rfl)
end OL
