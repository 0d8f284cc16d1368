section OL
variable {mt : List gM} {M : gM} {pc : Nat}
theorem o_look {dflt : Int} {q : Array (Int × Int)} {len tgt : Nat} {ps : List (Int × Nat)} (hd : decode M.2.1 pc = .ok (.lookupswitch dflt q, len)) (hp : q.toList.map (fun r => (r.1, ((pc : Int) + r.2).toNat)) = ps) (ht : (pc : Int) + dflt = (tgt : Int)) (hs : (q.toList.zip (q.toList.drop 1)).all (fun (a, next) => a.1 < next.1) = true) (hn : q.toList.all (fun r => decide (0 ≤ (pc : Int) + r.2)) = true)
    (ho : ∀ x : Int, (∃ r ∈ q.toList, x = r.1 ∧ Op.lookupswitch.offset q.toList dflt x = r.2) ∨ ((∀ r ∈ q.toList, x ≠ r.1) ∧ Op.lookupswitch.offset q.toList dflt x = dflt)) : oP mt M pc (24, len, tgt, 0, ps) := fun d L S I Q x kt kf => by
  subst hp
  rcases ho x.toInt with ⟨r, hr, h1, h2⟩ | ⟨h1, h2⟩
  · have h0 := List.all_eq_true.mp hn r hr
    simp only [decide_eq_true_eq] at h0
    exact G_look (tgt := ((pc : Int) + r.2).toNat) (by omega) hs h2 hd (kt (r.1, ((pc : Int) + r.2).toNat) (List.mem_map.mpr ⟨r, hr, rfl⟩) h1)
  · refine G_look ht hs h2 hd (kf (fun q' hq e => ?_))
    obtain ⟨r, hr, rfl⟩ := List.mem_map.mp hq
    exact h1 r hr e
theorem look2 (a b da db dflt x : Int) (hab : a ≠ b) : (∃ r ∈ [(a, da), (b, db)], x = r.1 ∧ Op.lookupswitch.offset [(a, da), (b, db)] dflt x = r.2) ∨ ((∀ r ∈ [(a, da), (b, db)], x ≠ r.1) ∧ Op.lookupswitch.offset [(a, da), (b, db)] dflt x = dflt) := by
  by_cases h1 : x = a
  · subst h1
    exact Or.inl ⟨(x, da), List.mem_cons_self, rfl, by simp [Op.lookupswitch.offset]⟩
  · by_cases h2 : x = b
    · subst h2
      exact Or.inl ⟨(x, db), by simp, rfl, by simp [Op.lookupswitch.offset, Ne.symm h1, h1, hab]⟩
    · refine Or.inr ⟨fun r hr => ?_, by simp [Op.lookupswitch.offset, h1, h2, Ne.symm h1, Ne.symm h2]⟩
      simp only [List.mem_cons, List.not_mem_nil, or_false] at hr
      rcases hr with rfl | rfl
      · exact h1
      · exact h2
/-! calls -/
section OC
variable {mj : gM} {nv i mi : Nat} {z : Int}
theorem o_len {vs : List Value} {n : Nat} (h : aSG vs) (hn : vs.length ≤ n) : (gen vs).length ≤ n := by
  rw [h.gn, List.length_map]
  exact hn
theorem o_lenr {vs : List Value} {x n : Nat} (h : aSG vs) (hn : vs.length + 1 ≤ n) : (gen (.ref x :: vs)).length ≤ n := o_len (vs := .ref x :: vs) (fun v hv => by
  rcases List.mem_cons.mp hv with rfl | hv
  · exact Or.inr ⟨x, rfl⟩
  · exact h v hv) (by simpa using hn)
theorem o_callS (hd : decode M.2.1 pc = .ok (.invokestatic i, 3)) (hmt : mt[mi]? = some mj) (hm : gcm mj nv) (hw1 : Cond.methodLink M.1.cls i mj.1 ∈ gBIG) (hw2 : Cond.static mj.1 ∈ gBIG) (hz : (nv : Int) = z) (hl : nv ≤ mj.2.2.1) : oP mt M pc (25, 3, mi, z, []) := fun d L vs S I Q Q1 mj' hmj hvz hvs hS hS8 hg k => by
  have e : mj = mj' := Option.some.inj (hmt.symm.trans hmj)
  subst e
  have hvz : (vs.length : Int) = z := hvz
  have e : vs.length = nv := by omega
  subst e
  exact G_callS (mc1 := 0) (ms1 := 0) hd hm hw1 hw2 rfl (by rw [hS.cats]; exact hS8) (o_len hvs hl) (Nat.le_refl _) (Nat.le_refl _) hg k
theorem o_callSN {host : String} (hd : decode M.2.1 pc = .ok (.invokestatic i, 3)) (hmt : mt[mi]? = some mj) (hm : gcm mj nv) (hw1 : (M.1.cls, i, mj.1, host) ∈ gNest) (hw2 : Cond.static mj.1 ∈ gBIG) (hz : (nv : Int) = z) (hl : nv ≤ mj.2.2.1) : oP mt M pc (25, 3, mi, z, []) := fun d L vs S I Q Q1 mj' hmj hvz hvs hS hS8 hg k => by
  have e : mj = mj' := Option.some.inj (hmt.symm.trans hmj)
  subst e
  have hvz : (vs.length : Int) = z := hvz
  have e : vs.length = nv := by omega
  subst e
  exact G_callSN (mc1 := 0) (ms1 := 0) hd hm hw1 hw2 rfl (by rw [hS.cats]; exact hS8) (o_len hvs hl) (Nat.le_refl _) (Nat.le_refl _) hg k
/-- a call of an object of class ci comes to method mi -/
def vP (mt : List gM) (M : gM) (pc : Nat) (z : Int) (q : Int × Nat) : Prop := ∀ (d : Nat) (L : gL) (vs S : List Value) (I : gI) (Q Q1 : Option Value → gH → Prop) (x ci : Nat) (mj : gM), SH0[x]? = some (0, ci) → q.1 = (ci : Int) → mt[q.2]? = some mj → (vs.length : Int) = z → aSG vs → aSG S → S.length ≤ 8 → gg d mj 0 (gent mj.2.2.1 (.ref x :: vs)) [] I Q1 → (∀ (r : Option Value) (h' : gH), Q1 r h' → G (d + 1) M 0 0 0 0 (pc + 3) L (r.toList ++ S) h'.1 h'.2.1 h'.2.2 Q) → gg (d + 1) M pc L (vs.reverse ++ .ref x :: S) I Q
def vA (mt : List gM) (M : gM) (pc : Nat) (z : Int) (ps : List (Int × Nat)) : Prop := ∀ q ∈ ps, vP mt M pc z q
theorem vA.nil : vA mt M pc z [] := fun q h => absurd h List.not_mem_nil
theorem vA.cons {q : Int × Nat} {ps : List (Int × Nat)} (h : vP mt M pc z q) (hl : vA mt M pc z ps) : vA mt M pc z (q :: ps) := fun q' hq => by
  rcases List.mem_cons.mp hq with rfl | hq
  · exact h
  · exact hl q' hq
theorem o_callO {ps : List (Int × Nat)} (h : vA mt M pc z ps) : oP mt M pc (26, 3, 0, z, ps) := fun d L vs S I Q Q1 x ci mi mj hsh hm hmj hvz hvs hS hS8 hg k => h _ hm d L vs S I Q Q1 x ci mj hsh rfl hmj hvz hvs hS hS8 hg k
variable {ci N : Nat} {C : String} {T : u_T} {c : Int}
theorem v_callV (hd : decode M.2.1 pc = .ok (.invokevirtual i, 3)) (hci : c = (ci : Int)) (hc : vwCl[ci]? = some (C, T, N)) (hmt : mt[mi]? = some mj) (hm : gcm mj nv) (hw1 : Cond.methodLink M.1.cls i mj.1 ∈ gBIG) (hw2 : Cond.instanceMethod mj.1 ∈ gBIG) (hw3 : Cond.selects C mj.1 mj.1 ∈ gBIG) (hz : (nv : Int) = z) (hl : nv + 1 ≤ mj.2.2.1) : vP mt M pc z (c, mi) := fun d L vs S I Q Q1 x ci' mj' hsh hcc hmj hvz hvs hS hS8 hg k => by
  have e : mj = mj' := Option.some.inj (hmt.symm.trans hmj)
  subst e
  have e : vs.length = nv := by omega
  subst e
  have e : ci' = ci := by have : c = (ci' : Int) := hcc; omega
  subst e
  exact G_callV (mc1 := 0) (ms1 := 0) hd hc hsh hm hw1 hw2 hw3 rfl (by rw [hS.cats]; exact hS8) (o_lenr hvs hl) (Nat.le_refl _) (Nat.le_refl _) hg k
theorem v_callVN {host : String} (hd : decode M.2.1 pc = .ok (.invokevirtual i, 3)) (hci : c = (ci : Int)) (hc : vwCl[ci]? = some (C, T, N)) (hmt : mt[mi]? = some mj) (hm : gcm mj nv) (hw1 : (M.1.cls, i, mj.1, host) ∈ gNest) (hw2 : Cond.instanceMethod mj.1 ∈ gBIG) (hw3 : Cond.selects C mj.1 mj.1 ∈ gBIG) (hz : (nv : Int) = z) (hl : nv + 1 ≤ mj.2.2.1) : vP mt M pc z (c, mi) := fun d L vs S I Q Q1 x ci' mj' hsh hcc hmj hvz hvs hS hS8 hg k => by
  have e : mj = mj' := Option.some.inj (hmt.symm.trans hmj)
  subst e
  have e : vs.length = nv := by omega
  subst e
  have e : ci' = ci := by have : c = (ci' : Int) := hcc; omega
  subst e
  exact G_callVN (mc1 := 0) (ms1 := 0) hd hc hsh hm hw1 hw2 hw3 rfl (by rw [hS.cats]; exact hS8) (o_lenr hvs hl) (Nat.le_refl _) (Nat.le_refl _) hg k
theorem v_callU {xm : MethodName} {b0 : ByteArray} {m0 : Nat} {r0 : Option FieldType} (hd : decode M.2.1 pc = .ok (.invokevirtual i, 3)) (hci : c = (ci : Int)) (hc : vwCl[ci]? = some (C, T, N)) (hmt : mt[mi]? = some mj) (hm : gcm mj nv) (hw1 : Cond.methodLink M.1.cls i xm ∈ gBIG) (hw2 : Cond.sameMethod xm.cls xm.cls xm.name xm.desc ∈ gBIG) (hw3 : Cond.instanceMethod xm ∈ gBIG) (hw4 : Cond.code xm b0 m0 r0 ∈ gBIG) (hw5 : Cond.selects C xm mj.1 ∈ gBIG) (hw6 : Cond.instanceMethod mj.1 ∈ gBIG)
    (hx1 : xm.cls ≠ "java/lang/invoke/MethodHandle" ∧ xm.cls ≠ "java/lang/invoke/VarHandle" ∧ xm.desc = mj.1.desc) (hz : (nv : Int) = z) (hl : nv + 1 ≤ mj.2.2.1) : vP mt M pc z (c, mi) := fun d L vs S I Q Q1 x ci' mj' hsh hcc hmj hvz hvs hS hS8 hg k => by
  have e : mj = mj' := Option.some.inj (hmt.symm.trans hmj)
  subst e
  have e : vs.length = nv := by omega
  subst e
  have e : ci' = ci := by have : c = (ci' : Int) := hcc; omega
  subst e
  exact G_callU (mc1 := 0) (ms1 := 0) hd hc hsh hm hw1 hw2 hw3 hw4 hw5 hw6 hx1 rfl (by rw [hS.cats]; exact hS8) (o_lenr hvs hl) (Nat.le_refl _) (Nat.le_refl _) hg k
theorem v_callSU (hd : decode M.2.1 pc = .ok (.invokespecial i, 3)) (hci : c = (ci : Int)) (hc : vwCl[ci]? = some (C, T, N)) (hmt : mt[mi]? = some mj) (hm : gcm mj nv) (hw1 : Cond.methodLink M.1.cls i mj.1 ∈ gBIG) (hw2 : Cond.sameMethod mj.1.cls mj.1.cls mj.1.name mj.1.desc ∈ gBIG) (hw3 : Cond.superclass M.1.cls mj.1.cls ∈ gBIG) (hw4 : Cond.instanceMethod mj.1 ∈ gBIG) (hno : mj.1.name ≠ "<init>") (hz : (nv : Int) = z) (hl : nv + 1 ≤ mj.2.2.1) : vP mt M pc z (c, mi) := fun d L vs S I Q Q1 x ci' mj' hsh hcc hmj hvz hvs hS hS8 hg k => by
  have e : mj = mj' := Option.some.inj (hmt.symm.trans hmj)
  subst e
  have e : vs.length = nv := by omega
  subst e
  have e : ci' = ci := by have : c = (ci' : Int) := hcc; omega
  subst e
  exact G_callSU (mc1 := 0) (ms1 := 0) hd hc hsh hm hw1 hw2 hw3 hw4 hno rfl (by rw [hS.cats]; exact hS8) (o_lenr hvs hl) (Nat.le_refl _) (Nat.le_refl _) hg k
end OC
theorem o_max {i : Nat} (hd : decode M.2.1 pc = .ok (.invokestatic i, 3)) (hw1 : Cond.methodLink M.1.cls i Lib.Math.max.name ∈ gBIG) (hw2 : Cond.static Lib.Math.max.name ∈ gBIG) (hw3 : Cond.initialized "java/lang/Math" ∈ gBIG) (hw4 : Cond.code Lib.Math.max.name Lib.Math.max.code 2 (some .int) ∈ gBIG) : oP mt M pc (27, 3, 0, 0, []) := fun _ _ _ _ _ _ _ hS h8 k => G_max hd hw1 hw2 hw3 hw4 (Nat.le_refl _) (Nat.le_refl _) (by rw [hS.cats]; exact h8) k
theorem o_min {i : Nat} (hd : decode M.2.1 pc = .ok (.invokestatic i, 3)) (hw1 : Cond.methodLink M.1.cls i Lib.Math.min.name ∈ gBIG) (hw2 : Cond.static Lib.Math.min.name ∈ gBIG) (hw3 : Cond.initialized "java/lang/Math" ∈ gBIG) (hw4 : Cond.code Lib.Math.min.name Lib.Math.min.code 2 (some .int) ∈ gBIG) : oP mt M pc (27, 3, 1, 0, []) := fun _ _ _ _ _ _ _ hS h8 k => G_min hd hw1 hw2 hw3 hw4 (Nat.le_refl _) (Nat.le_refl _) (by rw [hS.cats]; exact h8) k
theorem o_abs {i : Nat} (hd : decode M.2.1 pc = .ok (.invokestatic i, 3)) (hw1 : Cond.methodLink M.1.cls i Lib.Math.abs.name ∈ gBIG) (hw2 : Cond.static Lib.Math.abs.name ∈ gBIG) (hw3 : Cond.initialized "java/lang/Math" ∈ gBIG) (hw4 : Cond.code Lib.Math.abs.name Lib.Math.abs.code 1 (some .int) ∈ gBIG) : oP mt M pc (28, 3, 0, 0, []) := fun _ _ _ _ _ _ hS h8 k => G_abs hd hw1 hw2 hw3 hw4 (Nat.le_refl _) (Nat.le_refl _) (by rw [hS.cats]; exact h8) k
theorem o_copy {i : Nat} (hd : decode M.2.1 pc = .ok (.invokestatic i, 3)) (hw1 : Cond.methodLink M.1.cls i arraycopyName ∈ gBIG) (hw2 : Cond.native arraycopyName ∈ gBIG) (hw3 : Cond.static arraycopyName ∈ gBIG) (hw4 : Cond.initialized "java/lang/System" ∈ gBIG) : oP mt M pc (29, 3, 0, 0, []) := fun _ _ _ _ _ _ _ _ _ sp dp nn hx hy h1 h2 h3 h4 h5 hS h8 k => by
  have nz : ∀ z : Int32, 0 ≤ z.toInt → ¬ z < 0 := fun z hz hn => by
    rw [Int32.lt_iff_toInt_lt, Int32.toInt_zero] at hn
    omega
  exact G_copy hx hy (nz _ h1) (nz _ h2) (nz _ h3) (by rw [a_nc, a_nc]; omega) (by rw [a_nc, a_nc]; omega) hw1 hw2 hw3 hw4 (by rw [hS.cats]; exact h8) hd (by rw [a_nc, a_nc, a_nc]; exact k)
end OL
section OAB
variable {mt : List gM} {M : gM} {pc : Nat}
theorem gabv_at : ∀ j : Nat, j < 6 → (([(-1, 0), (0, 0), (0, 0), (2, 0), (0, 0), (4, 0)] : List (Int × Nat)).getD j (0, 0)).1 = (gabv.getD j 0).toInt := by decide
theorem o_above {i n : Nat} {a : Fin 4} (hd1 : decode M.2.1 pc = .ok (.getstatic i, 3)) (hw : Cond.fieldLink M.1.cls i "IceKeys" "ABOVE" "[I" ∈ gBIG) (hd2 : decode M.2.1 (pc + 3) = .ok (.iload_n a, 1)) (hd3 : decode M.2.1 (pc + 4) = .ok (.iaload, 1)) (hn : a.val = n) : oP mt M pc (30, 5, n, 0, [(-1, 0), (0, 0), (0, 0), (2, 0), (0, 0), (4, 0)]) := fun d L S I Q x hL h0 h1 kk => by
  subst hn
  have h1 : x.toInt < 6 := h1
  refine G_above hd1 hw hd2 hd3 hL (a_vin h0 h1) ?_
  rw [a_nc]
  exact kk _ (gabv_at _ (by omega))
end OAB
section OIN
variable {mt : List gM} {M mj : gM} {pc nv i mi ci N : Nat} {z c : Int} {C : String} {T : u_T} {xm : MethodName}
theorem v_callUI (hd : decode M.2.1 pc = .ok (.invokevirtual i, 3)) (hci : c = (ci : Int)) (hc : vwCl[ci]? = some (C, T, N)) (hmt : mt[mi]? = some mj) (hm : gcm mj nv) (hw1 : Cond.methodLink M.1.cls i xm ∈ gBIG) (hw2 : Cond.sameMethod xm.cls mj.1.cls xm.name xm.desc ∈ gBIG) (hw5 : Cond.selects C xm mj.1 ∈ gBIG) (hw6 : Cond.instanceMethod mj.1 ∈ gBIG) (hx1 : mj.1 = ⟨mj.1.cls, xm.name, xm.desc⟩) (hz : (nv : Int) = z) (hl : nv + 1 ≤ mj.2.2.1) : vP mt M pc z (c, mi) := fun d L vs S I Q Q1 x ci' mj' hsh hcc hmj hvz hvs hS hS8 hg k => by
  have e : mj = mj' := Option.some.inj (hmt.symm.trans hmj)
  subst e
  have e : vs.length = nv := by omega
  subst e
  have e : ci' = ci := by have : c = (ci' : Int) := hcc; omega
  subst e
  exact G_callUI (mc1 := 0) (ms1 := 0) hd hc hsh hm hw1 hw2 hw5 hw6 hx1 rfl (by rw [hS.cats]; exact hS8) (o_lenr hvs hl) (Nat.le_refl _) (Nat.le_refl _) hg k
theorem v_callSO (hd : decode M.2.1 pc = .ok (.invokespecial i, 3)) (hci : c = (ci : Int)) (hc : vwCl[ci]? = some (C, T, N)) (hmt : mt[mi]? = some mj) (hm : gcm mj nv) (hw1 : Cond.methodLink M.1.cls i xm ∈ gBIG) (hw2 : Cond.sameMethod xm.cls mj.1.cls xm.name xm.desc ∈ gBIG) (hw3 : Cond.superclass M.1.cls xm.cls ∈ gBIG) (hw7 : Cond.superclass xm.cls mj.1.cls ∈ gBIG) (hw4 : Cond.instanceMethod mj.1 ∈ gBIG) (hno : xm.name ≠ "<init>") (hx1 : mj.1 = ⟨mj.1.cls, xm.name, xm.desc⟩) (hz : (nv : Int) = z) (hl : nv + 1 ≤ mj.2.2.1) : vP mt M pc z (c, mi) := fun d L vs S I Q Q1 x ci' mj' hsh hcc hmj hvz hvs hS hS8 hg k => by
  have e : mj = mj' := Option.some.inj (hmt.symm.trans hmj)
  subst e
  have e : vs.length = nv := by omega
  subst e
  have e : ci' = ci := by have : c = (ci' : Int) := hcc; omega
  subst e
  exact G_callSO (mc1 := 0) (ms1 := 0) hd hc hsh hm hw1 hw2 hw3 hw7 hw4 hno hx1 rfl (by rw [hS.cats]; exact hS8) (o_lenr hvs hl) (Nat.le_refl _) (Nat.le_refl _) hg k
end OIN
