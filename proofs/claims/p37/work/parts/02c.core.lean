/-! ===== fields and arrays ===== -/
theorem gcls_in {ci : Nat} {C : String} {T : u_T} {N : Nat} (hc : vwCl[ci]? = some (C, T, N)) : ∀ w ∈ u_ws C T N, w ∈ gBIG := by
  match ci, hc with
  | 0, hc => cases hc; exact inlX0
  | 1, hc => cases hc; exact inlX1
  | 2, hc => cases hc; exact inlX2
  | 3, hc => cases hc; exact inlX3
  | 4, hc => cases hc; exact inlX4
  | 5, hc => cases hc; exact inlX5
  | 6, hc => cases hc; exact inlX6
  | 7, hc => cases hc; exact inlX7
  | 8, hc => cases hc; exact inlX8
  | 9, hc => cases hc; exact inlX9
  | 10, hc => cases hc; exact inlX10
  | 11, hc => cases hc; exact inlX11
  | 12, hc => cases hc; exact inlX12
  | ci + 13, hc => simp [vwCl] at hc
theorem gcls_nm {ci : Nat} {C : String} {T : u_T} {N : Nat} (hc : vwCl[ci]? = some (C, T, N)) : ∀ a, a < N → ∀ b, b < N → a ≠ b → (T a).2.1 ≠ (T b).2.1 := by
  match ci, hc with
  | 0, hc => cases hc; exact nmX0
  | 1, hc => cases hc; exact nmX1
  | 2, hc => cases hc; exact nmX2
  | 3, hc => cases hc; exact nmX3
  | 4, hc => cases hc; exact nmX4
  | 5, hc => cases hc; exact nmX5
  | 6, hc => cases hc; exact nmX6
  | 7, hc => cases hc; exact nmX7
  | 8, hc => cases hc; exact nmX8
  | 9, hc => cases hc; exact nmX9
  | 10, hc => cases hc; exact nmX10
  | 11, hc => cases hc; exact nmX11
  | 12, hc => cases hc; exact nmX12
  | ci + 13, hc => simp [vwCl] at hc
theorem gcls_ty {ci : Nat} {C : String} {T : u_T} {N : Nat} (hc : vwCl[ci]? = some (C, T, N)) : ∃ ty : Nat → FieldType, (∀ k, k < N → parseFieldDescriptor (T k).2.2.1 = some (ty k)) ∧ (∀ k, k < N → (gTy.getD ci [])[k]? = some (ty k)) ∧ ∀ k, k < N → defaultValue (ty k) = if (gF.getD ci [])[k]? = some true then Value.null else Value.int 0 := by
  match ci, hc with
  | 0, hc => cases hc; exact ⟨tyX0, tyX0_ok, by decide, by decide⟩
  | 1, hc => cases hc; exact ⟨tyX1, tyX1_ok, by decide, by decide⟩
  | 2, hc => cases hc; exact ⟨tyX2, tyX2_ok, by decide, by decide⟩
  | 3, hc => cases hc; exact ⟨tyX3, tyX3_ok, by decide, by decide⟩
  | 4, hc => cases hc; exact ⟨tyX4, tyX4_ok, by decide, by decide⟩
  | 5, hc => cases hc; exact ⟨tyX5, tyX5_ok, by decide, by decide⟩
  | 6, hc => cases hc; exact ⟨tyX6, tyX6_ok, by decide, by decide⟩
  | 7, hc => cases hc; exact ⟨tyX7, tyX7_ok, by decide, by decide⟩
  | 8, hc => cases hc; exact ⟨tyX8, tyX8_ok, by decide, by decide⟩
  | 9, hc => cases hc; exact ⟨tyX9, tyX9_ok, by decide, by decide⟩
  | 10, hc => cases hc; exact ⟨tyX10, tyX10_ok, by decide, by decide⟩
  | 11, hc => cases hc; exact ⟨tyX11, tyX11_ok, by decide, by decide⟩
  | 12, hc => cases hc; exact ⟨tyX12, tyX12_ok, by decide, by decide⟩
  | ci + 13, hc => simp [vwCl] at hc
theorem gcls_len {ci : Nat} {C : String} {T : u_T} {N : Nat} (hc : vwCl[ci]? = some (C, T, N)) : (gF.getD ci []).length = N := by
  match ci, hc with
  | 0, hc => cases hc; rfl
  | 1, hc => cases hc; rfl
  | 2, hc => cases hc; rfl
  | 3, hc => cases hc; rfl
  | 4, hc => cases hc; rfl
  | 5, hc => cases hc; rfl
  | 6, hc => cases hc; rfl
  | 7, hc => cases hc; rfl
  | 8, hc => cases hc; rfl
  | 9, hc => cases hc; rfl
  | 10, hc => cases hc; rfl
  | 11, hc => cases hc; rfl
  | 12, hc => cases hc; rfl
  | ci + 13, hc => simp [vwCl] at hc
theorem gfs_atI {b : Nat} {R : gR} {I : gI} {k j : Nat} {fl : List Bool} (hj : fl[j]? = some false) : (gfs b R I k fl)[j]? = some (.int (I k j)) := by simp [gfs, List.getElem?_mapIdx, hj]
theorem gfs_atR {b : Nat} {R : gR} {I : gI} {k j : Nat} {fl : List Bool} (hj : fl[j]? = some true) : (gfs b R I k fl)[j]? = some (va_rf ((R k j).map (b + ·))) := by simp [gfs, List.getElem?_mapIdx, hj]
/-- what a field of a type may take of ints -/
def gok (ty : Option FieldType) (x : Int32) : Prop := match ty with
  | some .int => True
  | some .boolean => x = 0 ∨ x = 1
  | _ => False
theorem gok_fits {ty : FieldType} {x : Int32} (h : gok (some ty) x) : narrow ty (.int x) = .int x ∧ fits ty (.int x) = true := by
  cases ty <;> simp only [gok] at h
  · exact ⟨rfl, rfl⟩
  · rcases h with rfl | rfl <;> exact ⟨by decide, by decide⟩
def grt (ty : Option FieldType) : Bool := match ty with
  | some (.object _) => true
  | some (.array _) => true
  | _ => false
theorem grt_fits {ty : FieldType} {a : Nat} (h : grt (some ty) = true) : narrow ty (.ref a) = .ref a ∧ fits ty (.ref a) = true := by
  cases ty <;> simp only [grt] at h <;> first | exact ⟨rfl, rfl⟩ | cases h
section GM
variable {d : Nat} {M : gM} {mc ms k n pc : Nat} {L : gL} {S : List Value} {sh : List (Nat × Nat)} {R : gR} {I : gI} {Q : Option Value → gH → Prop}
variable {ci x j i : Nat} {C : String} {T : u_T} {N : Nat}
theorem G_getI {v : Int32} (hv : I x j = v) (hc : vwCl[ci]? = some (C, T, N)) (hw : Cond.fieldLink M.1.cls i (T j).1 (T j).2.1 (T j).2.2.1 ∈ gBIG) (hsh : sh[x]? = some (0, ci)) (hr : (gF.getD ci [])[j]? = some false) (hd : decode M.2.1 pc = .ok (.getfield i, 3)) (kk : G d M mc ms k n (pc + 3) L (.int v :: S) sh R I Q) : G d M mc ms k n pc L (.ref x :: S) sh R I Q := by
  subst hv
  intro p l e s m args below meth c H locs ls b D cy hC hF hS hW hl
  have hj : j < N := by rw [← gcls_len hc]; exact (List.getElem?_eq_some_iff.mp hr).1
  have hts := hC.2.2.2.2.2.2.2
  exact va_get (D := D) (ci := ci) hC.1 hC.2.1 hts (gcls_in hc) hC.2.2.2.2.2.1 hF.2.1 hW.2 x (gws_a hsh) hc j hj (hts _ hw) (fun _ z => z) (gfs_atI hr) hd (kk p l e s m args below meth c H locs ls b D cy hC hF hS hW hl)
theorem G_getR {r : Nat} (hc : vwCl[ci]? = some (C, T, N)) (hw : Cond.fieldLink M.1.cls i (T j).1 (T j).2.1 (T j).2.2.1 ∈ gBIG) (hsh : sh[x]? = some (0, ci)) (hr : (gF.getD ci [])[j]? = some true) (hv : R x j = some r) (hd : decode M.2.1 pc = .ok (.getfield i, 3)) (kk : G d M mc ms k n (pc + 3) L (.ref r :: S) sh R I Q) : G d M mc ms k n pc L (.ref x :: S) sh R I Q := by
  intro p l e s m args below meth c H locs ls b D cy hC hF hS hW hl
  have hj : j < N := by rw [← gcls_len hc]; exact (List.getElem?_eq_some_iff.mp hr).1
  have hts := hC.2.2.2.2.2.2.2
  have hf := gfs_atR (b := b) (R := R) (I := I) (k := x) hr
  rw [hv] at hf
  exact va_get (D := D) (ci := ci) hC.1 hC.2.1 hts (gcls_in hc) hC.2.2.2.2.2.1 hF.2.1 hW.2 x (gws_a hsh) hc j hj (hts _ hw) (fun _ z => z) hf hd (kk p l e s m args below meth c H locs ls b D cy hC hF hS hW hl)
theorem G_putI {v : Int32} (hc : vwCl[ci]? = some (C, T, N)) (hw : Cond.fieldLink M.1.cls i (T j).1 (T j).2.1 (T j).2.2.1 ∈ gBIG) (hfin : (T j).2.2.2 = false) (hsh : sh[x]? = some (0, ci)) (hr : (gF.getD ci [])[j]? = some false) (hv : gok (gTy.getD ci [])[j]? v) (hd : decode M.2.1 pc = .ok (.putfield i, 3))
    (kk : G d M mc ms k n (pc + 3) L S sh R (gup I x j v) Q) : G d M mc ms k n pc L (.int v :: .ref x :: S) sh R I Q := by
  intro p l e s m args below meth c H locs ls b D cy hC hF hS hW hl
  have hj : j < N := by rw [← gcls_len hc]; exact (List.getElem?_eq_some_iff.mp hr).1
  have hts := hC.2.2.2.2.2.2.2
  obtain ⟨ty, hty, hty2, -⟩ := gcls_ty hc
  rw [hty2 j hj] at hv
  obtain ⟨hn, hfit⟩ := gok_fits hv
  have hap := va_apart (own := M.1.cls) hts (gcls_in hc) ty hty (gcls_nm hc) hF.2.1 hc
  obtain ⟨r, h1, cell, q1, q2, q3, q4⟩ := hW.2 x _ (gws_a hsh)
  have hr0 : r = (C, T, N) := Option.some.inj (h1.symm.trans hc)
  subst hr0
  obtain ⟨hSl, hfc, kC, hkC, hkind⟩ := hF.2.1.1 ci _ hc
  obtain ⟨cf, kf, fi, f, hi, hsl⟩ := hSl j hj
  have hlay := hts _ (gcls_in hc _ (u_in_lay hj))
  unfold u_lay at hlay
  rw [if_neg (by rw [hfin]; decide)] at hlay
  have hst := (u_facts hfc hkC (u_lays hts (gcls_in hc) hj) hi).1
  have h6 := u_store hfc hkC hkind hlay hi (hty j hj) hn hfit
  refine W.putK hC.1 hC.2.1 (f := f) ⟨hC.2.2.2.2.2.1, hts _ hw, ⟨_, _, _, hi⟩, hst⟩ (by rw [q2]; exact h6) q1 q3 (by rw [hsl]; exact k2_hasslot (q4 j hj)) rfl rfl hd fun H1 e1 e2 e3 => ?_
  rw [hsl] at e1 ⊢
  have hlen : j < (gfs b R I x (gF.getD ci [])).length := by rw [gfs_len]; exact (List.getElem?_eq_some_iff.mp hr).1
  refine kk p l e s m args below meth c H1 _ ls b D cy hC hF (hS.put e2 e3 (Nat.le_add_right b x)) (gWd_set hW rfl hsh (fun i sh hi => gcl_up i sh hi) e2 e3 ⟨_, hc, t_OB.to (V := updV (vp_V (gfs b R I x (gF.getD ci []))) j (.int v)) ⟨_, e1, q2, q3, t_set q4 hap hj (.int v)⟩ (fun jj _ => ?_)⟩) hl
  rw [vp_updV_set hlen, gfs_set hr]
theorem G_putF {v : Nat} (hc : vwCl[ci]? = some (C, T, N)) (hw : Cond.fieldLink M.1.cls i (T j).1 (T j).2.1 (T j).2.2.1 ∈ gBIG) (hfin : (T j).2.2.2 = true) (hown : (T j).1 = M.1.cls) (hini : M.1.name = "<init>") (hsh : sh[x]? = some (0, ci)) (hr : (gF.getD ci [])[j]? = some true) (hv : grt (gTy.getD ci [])[j]? = true) (hd : decode M.2.1 pc = .ok (.putfield i, 3))
    (kk : G d M mc ms k n (pc + 3) L S sh (gupR R x j (some v)) I Q) : G d M mc ms k n pc L (.ref v :: .ref x :: S) sh R I Q := by
  intro p l e s m args below meth c H locs ls b D cy hC hF hS hW hl
  have hj : j < N := by rw [← gcls_len hc]; exact (List.getElem?_eq_some_iff.mp hr).1
  have hts := hC.2.2.2.2.2.2.2
  obtain ⟨ty, hty, hty2, -⟩ := gcls_ty hc
  rw [hty2 j hj] at hv
  obtain ⟨hn, hfit⟩ := grt_fits (a := b + v) hv
  have hap := va_apart (own := M.1.cls) hts (gcls_in hc) ty hty (gcls_nm hc) hF.2.1 hc
  obtain ⟨r, h1, cell, q1, q2, q3, q4⟩ := hW.2 x _ (gws_a hsh)
  have hr0 : r = (C, T, N) := Option.some.inj (h1.symm.trans hc)
  subst hr0
  obtain ⟨hSl, hfc, kC, hkC, hkind⟩ := hF.2.1.1 ci _ hc
  obtain ⟨cf, kf, fi, f, hi, hsl⟩ := hSl j hj
  have hlay := hts _ (gcls_in hc _ (u_in_lay hj))
  unfold u_lay at hlay
  rw [if_pos hfin] at hlay
  have hst := (u_facts hfc hkC (u_lays hts (gcls_in hc) hj) hi).1
  have hcf : m.cls = cf := by
    obtain ⟨_, _, c', _, _, _, -, -, hf', -, -, -, hown2, -⟩ := Cond.laysFinal_spec hlay
    have e1 : c' = cf := by have := hi.symm.trans hf'; simp at this; exact this.1.symm
    rw [hown] at hown2
    rw [← e1]; exact Option.some.inj (hC.2.2.2.2.2.1.symm.trans hown2)
  have h6 := u_fits hfc hkC hkind (Or.inr hlay) hi (hty j hj) hn hfit
  refine W.putFinK hC.1 hC.2.1 hC.2.2.2.2.2.1 (hts _ hw) hi hst hcf (hC.2.2.2.2.2.2.1.trans hini) (by rw [q2]; exact h6) q1 q3 (by rw [hsl]; exact k2_hasslot (q4 j hj)) rfl rfl hd fun H1 e1 e2 e3 => ?_
  rw [hsl] at e1 ⊢
  have hlen : j < (gfs b R I x (gF.getD ci [])).length := by rw [gfs_len]; exact (List.getElem?_eq_some_iff.mp hr).1
  refine kk p l e s m args below meth c H1 _ ls b D cy hC hF (hS.put e2 e3 (Nat.le_add_right b x)) (gWd_set hW rfl hsh (fun i sh hi => gcl_upR i sh hi) e2 e3 ⟨_, hc, t_OB.to (V := updV (vp_V (gfs b R I x (gF.getD ci []))) j (.ref (b + v))) ⟨_, e1, q2, q3, t_set q4 hap hj (.ref (b + v))⟩ (fun jj _ => ?_)⟩) hl
  rw [vp_updV_set hlen]
  exact congrArg (fun z => vp_V z jj) (gfs_setR (x := some v) hr)
theorem G_iald {nn : Nat} {y v : Int32} {jj : Nat} (hjj : y.toNatClampNeg = jj) (hv : I x jj = v) (hsh : sh[x]? = some (1, nn)) (hin : vp_in y nn) (hd : decode M.2.1 pc = .ok (.iaload, 1)) (kk : G d M mc ms k n (pc + 1) L (.int v :: S) sh R I Q) : G d M mc ms k n pc L (.int y :: .ref x :: S) sh R I Q := by
  subst hjj
  subst hv
  intro p l e s m args below meth c H locs ls b D cy hC hF hS hW hl
  exact va_iald hC.1 hC.2.1 hF.2.1 hW.2 x 0 (gws_a hsh) rfl hin hd (kk p l e s m args below meth c H locs ls b D cy hC hF hS hW hl)
theorem G_zald {nn : Nat} {y v : Int32} {jj : Nat} (hjj : y.toNatClampNeg = jj) (hv : I x jj = v) (hsh : sh[x]? = some (2, nn)) (hin : vp_in y nn) (hd : decode M.2.1 pc = .ok (.baload, 1)) (kk : G d M mc ms k n (pc + 1) L (.int v :: S) sh R I Q) : G d M mc ms k n pc L (.int y :: .ref x :: S) sh R I Q := by
  subst hjj
  subst hv
  intro p l e s m args below meth c H locs ls b D cy hC hF hS hW hl
  exact va_zald hC.1 hC.2.1 hF.2.1 hW.2 x 1 (gws_a hsh) rfl hin hd (kk p l e s m args below meth c H locs ls b D cy hC hF hS hW hl)
theorem G_cald {nn : Nat} {y v : Int32} {jj : Nat} (hjj : y.toNatClampNeg = jj) (hv : I x jj = v) (hsh : sh[x]? = some (3, nn)) (hin : vp_in y nn) (hd : decode M.2.1 pc = .ok (.caload, 1)) (kk : G d M mc ms k n (pc + 1) L (.int v :: S) sh R I Q) : G d M mc ms k n pc L (.int y :: .ref x :: S) sh R I Q := by
  subst hjj
  subst hv
  intro p l e s m args below meth c H locs ls b D cy hC hF hS hW hl
  exact va_cald hC.1 hC.2.1 hF.2.1 hW.2 x 2 (gws_a hsh) rfl hin hd (kk p l e s m args below meth c H locs ls b D cy hC hF hS hW hl)
theorem G_kald {nn r : Nat} {y : Int32} {jj : Nat} (hjj : y.toNatClampNeg = jj) (hsh : sh[x]? = some (4, nn)) (hin : vp_in y nn) (hv : R x jj = some r) (hd : decode M.2.1 pc = .ok (.aaload, 1)) (kk : G d M mc ms k n (pc + 1) L (.ref r :: S) sh R I Q) : G d M mc ms k n pc L (.int y :: .ref x :: S) sh R I Q := by
  subst hjj
  intro p l e s m args below meth c H locs ls b D cy hC hF hS hW hl
  refine va_aldq hC.1 hC.2.1 hF.2.1 hW.2 x 3 (gws_a hsh) rfl hin hd ?_
  rw [hv]
  exact kk p l e s m args below meth c H locs ls b D cy hC hF hS hW hl
theorem G_rald {nn r : Nat} {y : Int32} {jj : Nat} (hjj : y.toNatClampNeg = jj) (hsh : sh[x]? = some (5, nn)) (hin : vp_in y nn) (hv : R x jj = some r) (hd : decode M.2.1 pc = .ok (.aaload, 1)) (kk : G d M mc ms k n (pc + 1) L (.ref r :: S) sh R I Q) : G d M mc ms k n pc L (.int y :: .ref x :: S) sh R I Q := by
  subst hjj
  intro p l e s m args below meth c H locs ls b D cy hC hF hS hW hl
  have hlt : y.toNatClampNeg < nn := Nat.not_le.mp fun q => hin (Or.inr q)
  have hK := (hF.2.1.2 4 _ rfl).1 nn (fun j => va_rf ((R x j).map (b + ·)))
  refine W.aald (v := va_rf ((R x y.toNatClampNeg).map (b + ·))) (ty := .array .int) hC.1 hC.2.1 (hW.2 x _ (gws_a hsh)) hK rfl (fun q => by cases q) (by show ¬ (y < 0 ∨ (arrV _ _ _).slots.size ≤ _); rw [arrV_size]; exact hin) (by show (arrV _ _ _).slots[_]? = _; rw [arrV_read _ _ hlt]) rfl rfl hd ?_
  rw [hv]
  exact kk p l e s m args below meth c H locs ls b D cy hC hF hS hW hl
theorem g_arr_st (cA : ClassId) (nn : Nat) (f : Nat → Int32) (a : Nat) (y : Int32) : (vp_cell cA (nn, .inl f)).setSlot a (.int y) = vp_cell cA (nn, .inl (upd f a y)) := by
  rw [vp_cell_i, vp_cell_i, arrV_store]
  congr 1
  funext q
  by_cases hq : q = a
  · subst hq
    simp [updV, upd]
  · simp [updV, upd, hq]
theorem G_iast {nn : Nat} {y v : Int32} {jj : Nat} (hjj : y.toNatClampNeg = jj) (hsh : sh[x]? = some (1, nn)) (hin : vp_in y nn) (hd : decode M.2.1 pc = .ok (.iastore, 1)) (kk : G d M mc ms k n (pc + 1) L S sh R (gup I x jj v) Q) : G d M mc ms k n pc L (.int v :: .int y :: .ref x :: S) sh R I Q := by
  subst hjj
  intro p l e s m args below meth c H locs ls b D cy hC hF hS hW hl
  refine W.iast hC.1 hC.2.1 (hW.2 x _ (gws_a hsh)) ((hF.2.1.2 0 _ rfl).1 nn (fun j => .int (I x j))) (fun q => by cases q) (by show ¬ (y < 0 ∨ (arrV _ _ _).slots.size ≤ _); rw [arrV_size]; exact hin) rfl rfl hd fun H1 e z oq => ?_
  refine kk p l _ s m args below meth c H1 _ ls b D cy hC hF (hS.put z oq (Nat.le_add_right b x)) (gWd_set hW rfl hsh (fun i sh hi => gcl_up i sh hi) z oq ?_) hl
  show H1[b + x]? = some (vp_cell (cy 0) (nn, .inl (gup I x y.toNatClampNeg v x)))
  rw [gup_self, ← g_arr_st]
  exact e
theorem G_zast {nn : Nat} {y v w : Int32} {jj : Nat} (hjj : y.toNatClampNeg = jj) (hw : vp_nar .boolean v = w) (hsh : sh[x]? = some (2, nn)) (hin : vp_in y nn) (hd : decode M.2.1 pc = .ok (.bastore, 1)) (kk : G d M mc ms k n (pc + 1) L S sh R (gup I x jj w) Q) : G d M mc ms k n pc L (.int v :: .int y :: .ref x :: S) sh R I Q := by
  subst hjj
  subst hw
  intro p l e s m args below meth c H locs ls b D cy hC hF hS hW hl
  refine W.zast hC.1 hC.2.1 (hW.2 x _ (gws_a hsh)) ((hF.2.1.2 1 _ rfl).1 nn (fun j => .int (I x j))) (fun q => by cases q) (by show ¬ (y < 0 ∨ (arrV _ _ _).slots.size ≤ _); rw [arrV_size]; exact hin) rfl rfl hd fun H1 e z oq => ?_
  refine kk p l _ s m args below meth c H1 _ ls b D cy hC hF (hS.put z oq (Nat.le_add_right b x)) (gWd_set hW rfl hsh (fun i sh hi => gcl_up i sh hi) z oq ?_) hl
  show H1[b + x]? = some (vp_cell (cy 1) (nn, .inl (gup I x y.toNatClampNeg (vp_nar .boolean v) x)))
  rw [gup_self, ← g_arr_st]
  exact e
theorem G_cast {nn : Nat} {y v w : Int32} {jj : Nat} (hjj : y.toNatClampNeg = jj) (hw : vp_nar .char v = w) (hsh : sh[x]? = some (3, nn)) (hin : vp_in y nn) (hd : decode M.2.1 pc = .ok (.castore, 1)) (kk : G d M mc ms k n (pc + 1) L S sh R (gup I x jj w) Q) : G d M mc ms k n pc L (.int v :: .int y :: .ref x :: S) sh R I Q := by
  subst hjj
  subst hw
  intro p l e s m args below meth c H locs ls b D cy hC hF hS hW hl
  refine W.cast hC.1 hC.2.1 (hW.2 x _ (gws_a hsh)) ((hF.2.1.2 2 _ rfl).1 nn (fun j => .int (I x j))) (fun q => by cases q) (by show ¬ (y < 0 ∨ (arrV _ _ _).slots.size ≤ _); rw [arrV_size]; exact hin) rfl rfl hd fun H1 e z oq => ?_
  refine kk p l _ s m args below meth c H1 _ ls b D cy hC hF (hS.put z oq (Nat.le_add_right b x)) (gWd_set hW rfl hsh (fun i sh hi => gcl_up i sh hi) z oq ?_) hl
  show H1[b + x]? = some (vp_cell (cy 2) (nn, .inl (gup I x y.toNatClampNeg (vp_nar .char v) x)))
  rw [gup_self, ← g_arr_st]
  exact e
theorem G_alen {nn : Nat} {v : Int32} (hsh : sh[x]? = some (1, nn)) (hv : Int32.ofNat nn = v) (hd : decode M.2.1 pc = .ok (.arraylength, 1)) (kk : G d M mc ms k n (pc + 1) L (.int v :: S) sh R I Q) : G d M mc ms k n pc L (.ref x :: S) sh R I Q := by
  intro p l e s m args below meth c H locs ls b D cy hC hF hS hW hl
  exact va_alen hC.1 hC.2.1 hF.2.1 hW.2 x 0 (gws_a hsh) (ty := .int) rfl hv hd (kk p l e s m args below meth c H locs ls b D cy hC hF hS hW hl)
end GM
