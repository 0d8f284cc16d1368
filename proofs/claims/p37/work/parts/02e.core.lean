/-! ===== dispatch, super, new, arrays, library members ===== -/
section GV
variable {d : Nat} {M : gM} {mc ms k n pc : Nat} {L : gL} {S S0 : List Value} {sh : List (Nat × Nat)} {R : gR} {I : gI} {Q : Option Value → gH → Prop}
variable {mj : gM} {mc1 ms1 i : Nat} {vs : List Value} {Q1 : Option Value → gH → Prop} {x ci : Nat} {C : String} {T : u_T} {N : Nat}
/-- invokevirtual of a method that the receiver's class overrides or inherits -/
theorem G_callU {xm : MethodName} {b0 : ByteArray} {m0 : Nat} {r0 : Option FieldType} (hd : decode M.2.1 pc = .ok (.invokevirtual i, 3)) (hc : vwCl[ci]? = some (C, T, N)) (hsh : sh[x]? = some (0, ci)) (hm : gcm mj vs.length) (hw1 : Cond.methodLink M.1.cls i xm ∈ gBIG) (hw2 : Cond.sameMethod xm.cls xm.cls xm.name xm.desc ∈ gBIG) (hw3 : Cond.instanceMethod xm ∈ gBIG) (hw4 : Cond.code xm b0 m0 r0 ∈ gBIG) (hw5 : Cond.selects C xm mj.1 ∈ gBIG) (hw6 : Cond.instanceMethod mj.1 ∈ gBIG)
    (hx1 : xm.cls ≠ "java/lang/invoke/MethodHandle" ∧ xm.cls ≠ "java/lang/invoke/VarHandle" ∧ xm.desc = mj.1.desc)
    (hst : S0 = vs.reverse ++ .ref x :: S) (hcat : (S.map fun v => v.category).sum ≤ 8) (hlen : (gen (.ref x :: vs)).length ≤ mj.2.2.1) (hcl : k + mc1 ≤ mc) (hsl : n + ms1 ≤ ms) (hG : G d mj mc1 ms1 0 0 0 (gent mj.2.2.1 (.ref x :: vs)) [] sh R I Q1)
    (kk : ∀ (r : Option Value) (h' : gH), Q1 r h' → G (d + 1) M mc ms (k + mc1) (n + ms1) (pc + 3) L (r.toList ++ S) h'.1 h'.2.1 h'.2.2 Q) : G (d + 1) M mc ms k n pc L S0 sh R I Q := by
  intro p l e s m args below meth c H locs ls b D cy hC hF hS hW hl
  subst hst
  obtain ⟨hm1, hm2, hm3, hm4, hm5, hm6, hm7⟩ := gcm_inv hm
  have hts := hC.2.2.2.2.2.2.2
  have hlen2 : ∀ sig, parseMethodDescriptor xm.desc = some sig → vs.length = sig.parameters.length := by
    intro sig hsig
    rw [hx1.2.2] at hsig
    rw [hsig] at hm6
    exact (Option.some.inj hm6).symm
  have hcw : va_CU (gRm (d + 1) mc ms) s args M.1.cls C xm.cls i xm mj.1 mj.2.1 mj.2.2.1 mj.2.2.2 (.code mj.1 mj.2.1 mj.2.2.1 mj.2.2.2 :: gBIG) (gRm d mc1 ms1) mc1 ms1 vs.length :=
    ⟨⟨rfl, rfl, Nat.le_refl _, by show 8 + (mj.2.2.1 + 11) + (64 * d + 64) ≤ 64 * (d + 1) + 64; omega, pay_in hts (gGood (gcode_in hm1)), List.mem_cons_self⟩, hts _ hm1, hts _ hm2, ⟨hx1.1, hx1.2.1⟩, hlen2, hts _ hw1, hts _ hw2, va_Decl.of (hts _ hw3) (hts _ hw4), hts _ hw5, hts _ hw6⟩
  refine gAfter (va_runU (b := b + x) (As := vs.map (gtr b)) (rest := S.map (gtr b)) ⟨hC.1, hC.2.1, hC.2.2.1, hC.2.2.2.2.2.1, hts⟩ (gMet hm3 hlen hG l b D cy) hcw (gPreV hc hsh hF hS hW) rfl (by simp) hl.1 g_stk (lv_room (g_cat hcat)) hd ⟨hcl, hsl⟩) hF.1 hS (fun r h' H1 locs1 hq hW1 hS1 => ?_)
  rw [g_ret]
  exact kk r h' hq p l e s m args below meth c H1 locs1 ls b D cy hC hF hS1 hW1 hl
/-- super.m(..) -/
theorem G_callSU (hd : decode M.2.1 pc = .ok (.invokespecial i, 3)) (hc : vwCl[ci]? = some (C, T, N)) (hsh : sh[x]? = some (0, ci)) (hm : gcm mj vs.length) (hw1 : Cond.methodLink M.1.cls i mj.1 ∈ gBIG) (hw2 : Cond.sameMethod mj.1.cls mj.1.cls mj.1.name mj.1.desc ∈ gBIG) (hw3 : Cond.superclass M.1.cls mj.1.cls ∈ gBIG) (hw4 : Cond.instanceMethod mj.1 ∈ gBIG) (hno : mj.1.name ≠ "<init>")
    (hst : S0 = vs.reverse ++ .ref x :: S) (hcat : (S.map fun v => v.category).sum ≤ 8) (hlen : (gen (.ref x :: vs)).length ≤ mj.2.2.1) (hcl : k + mc1 ≤ mc) (hsl : n + ms1 ≤ ms) (hG : G d mj mc1 ms1 0 0 0 (gent mj.2.2.1 (.ref x :: vs)) [] sh R I Q1)
    (kk : ∀ (r : Option Value) (h' : gH), Q1 r h' → G (d + 1) M mc ms (k + mc1) (n + ms1) (pc + 3) L (r.toList ++ S) h'.1 h'.2.1 h'.2.2 Q) : G (d + 1) M mc ms k n pc L S0 sh R I Q := by
  intro p l e s m args below meth c H locs ls b D cy hC hF hS hW hl
  subst hst
  obtain ⟨hm1, hm2, hm3, hm4, hm5, hm6, hm7⟩ := gcm_inv hm
  have hts := hC.2.2.2.2.2.2.2
  have hlen2 : ∀ sig, parseMethodDescriptor mj.1.desc = some sig → vs.length = sig.parameters.length := by
    intro sig hsig
    rw [hsig] at hm6
    exact (Option.some.inj hm6).symm
  have hcw : va_CS (gRm (d + 1) mc ms) s args M.1.cls i mj.1 mj.2.1 mj.2.2.1 mj.2.2.2 (.code mj.1 mj.2.1 mj.2.2.1 mj.2.2.2 :: gBIG) (gRm d mc1 ms1) mc1 ms1 vs.length :=
    ⟨⟨rfl, rfl, Nat.le_refl _, by show 8 + (mj.2.2.1 + 11) + (64 * d + 64) ≤ 64 * (d + 1) + 64; omega, pay_in hts (gGood (gcode_in hm1)), List.mem_cons_self⟩, hts _ hw1, hts _ hw2, hts _ hw3, hts _ hw4, hts _ hm2, hts _ hm1, hno, hlen2⟩
  refine gAfter (va_runSU (b := b + x) (As := vs.map (gtr b)) (rest := S.map (gtr b)) (hF.2.1.1 ci _ hc).2 ⟨hC.1, hC.2.1, hC.2.2.1, hC.2.2.2.2.2.1, hts⟩ (gMet hm3 hlen hG l b D cy) hcw (gPreV hc hsh hF hS hW) rfl (by simp) hl.1 g_stk (lv_room (g_cat hcat)) hd ⟨hcl, hsl⟩) hF.1 hS (fun r h' H1 locs1 hq hW1 hS1 => ?_)
  rw [g_ret]
  exact kk r h' hq p l e s m args below meth c H1 locs1 ls b D cy hC hF hS1 hW1 hl
/-! Math -/
theorem G_max {a y : Int32} (hd : decode M.2.1 pc = .ok (.invokestatic i, 3)) (hw1 : Cond.methodLink M.1.cls i Lib.Math.max.name ∈ gBIG) (hw2 : Cond.static Lib.Math.max.name ∈ gBIG) (hw3 : Cond.initialized "java/lang/Math" ∈ gBIG) (hw4 : Cond.code Lib.Math.max.name Lib.Math.max.code 2 (some .int) ∈ gBIG) (hk : k ≤ mc) (hn : n ≤ ms) (hcat : (S.map fun v => v.category).sum ≤ 8)
    (kk : G (d + 1) M mc ms k n (pc + 3) L (.int (if a < y then y else a) :: S) sh R I Q) : G (d + 1) M mc ms k n pc L (.int y :: .int a :: S) sh R I Q := by
  intro p l e s m args below meth c H locs ls b D cy hC hF hS hW hl
  have hts := hC.2.2.2.2.2.2.2
  have hcat' := g_cat (b := b) hcat
  exact va_mmax hC.1 hC.2.1 (by rw [hC.2.2.1]; exact hl.1.symm) hC.2.2.2.2.2.1 (hts _ hw1) (hts _ hw2) (hts _ hw3) (hts _ hw4) (by show 1 ≤ d + 1; omega) (by show _ + 13 ≤ 64 * (d + 1) + 64; omega) hk hn hd (kk p l e s m args below meth c H locs ls b D cy hC hF hS hW hl)
theorem G_min {a y : Int32} (hd : decode M.2.1 pc = .ok (.invokestatic i, 3)) (hw1 : Cond.methodLink M.1.cls i Lib.Math.min.name ∈ gBIG) (hw2 : Cond.static Lib.Math.min.name ∈ gBIG) (hw3 : Cond.initialized "java/lang/Math" ∈ gBIG) (hw4 : Cond.code Lib.Math.min.name Lib.Math.min.code 2 (some .int) ∈ gBIG) (hk : k ≤ mc) (hn : n ≤ ms) (hcat : (S.map fun v => v.category).sum ≤ 8)
    (kk : G (d + 1) M mc ms k n (pc + 3) L (.int (if y < a then y else a) :: S) sh R I Q) : G (d + 1) M mc ms k n pc L (.int y :: .int a :: S) sh R I Q := by
  intro p l e s m args below meth c H locs ls b D cy hC hF hS hW hl
  have hts := hC.2.2.2.2.2.2.2
  have hcat' := g_cat (b := b) hcat
  exact va_mmin hC.1 hC.2.1 (by rw [hC.2.2.1]; exact hl.1.symm) hC.2.2.2.2.2.1 (hts _ hw1) (hts _ hw2) (hts _ hw3) (hts _ hw4) (by show 1 ≤ d + 1; omega) (by show _ + 13 ≤ 64 * (d + 1) + 64; omega) hk hn hd (kk p l e s m args below meth c H locs ls b D cy hC hF hS hW hl)
theorem G_abs {a : Int32} (hd : decode M.2.1 pc = .ok (.invokestatic i, 3)) (hw1 : Cond.methodLink M.1.cls i Lib.Math.abs.name ∈ gBIG) (hw2 : Cond.static Lib.Math.abs.name ∈ gBIG) (hw3 : Cond.initialized "java/lang/Math" ∈ gBIG) (hw4 : Cond.code Lib.Math.abs.name Lib.Math.abs.code 1 (some .int) ∈ gBIG) (hk : k ≤ mc) (hn : n ≤ ms) (hcat : (S.map fun v => v.category).sum ≤ 8)
    (kk : G (d + 1) M mc ms k n (pc + 3) L (.int (if 0 ≤ a then a else 0 - a) :: S) sh R I Q) : G (d + 1) M mc ms k n pc L (.int a :: S) sh R I Q := by
  intro p l e s m args below meth c H locs ls b D cy hC hF hS hW hl
  have hts := hC.2.2.2.2.2.2.2
  have hcat' := g_cat (b := b) hcat
  exact va_mabs hC.1 hC.2.1 (by rw [hC.2.2.1]; exact hl.1.symm) hC.2.2.2.2.2.1 (hts _ hw1) (hts _ hw2) (hts _ hw3) (hts _ hw4) (by show 1 ≤ d + 1; omega) (by show _ + 13 ≤ 64 * (d + 1) + 64; omega) hk hn hd (kk p l e s m args below meth c H locs ls b D cy hC hF hS hW hl)
/-! System.arraycopy of ints, from one row to another -/
def gcp (I : gI) (x y sp dp nn : Nat) : gI := fun a j => if a = y then va_cpy (I x) (I y) sp dp nn j else I a j
theorem gcl_cp {b : Nat} {cy : Nat → ClassId} {R : gR} {I : gI} {x y sp dp nn : Nat} (a : Nat) (sh : Nat × Nat) (hi : a ≠ y) : gcl b cy R (gcp I x y sp dp nn) a sh = gcl b cy R I a sh := by
  have e : gcp I x y sp dp nn a = I a := by funext j; simp [gcp, hi]
  unfold gcl
  split <;> simp only [gfs, e]
theorem G_copy {y n0 n1 : Nat} {sp dp nn : Int32} (hx : sh[x]? = some (1, n0)) (hy : sh[y]? = some (1, n1)) (h1 : ¬ sp < 0) (h2 : ¬ dp < 0) (h3 : ¬ nn < 0) (h4 : sp.toNatClampNeg + nn.toNatClampNeg ≤ n0) (h5 : dp.toNatClampNeg + nn.toNatClampNeg ≤ n1)
    (hw1 : Cond.methodLink M.1.cls i arraycopyName ∈ gBIG) (hw2 : Cond.native arraycopyName ∈ gBIG) (hw3 : Cond.static arraycopyName ∈ gBIG) (hw4 : Cond.initialized "java/lang/System" ∈ gBIG) (hcat : (S.map fun v => v.category).sum ≤ 8) (hd : decode M.2.1 pc = .ok (.invokestatic i, 3))
    (kk : G (d + 1) M mc ms k n (pc + 3) L S sh R (gcp I x y sp.toNatClampNeg dp.toNatClampNeg nn.toNatClampNeg) Q) : G (d + 1) M mc ms k n pc L (.int nn :: .int dp :: .ref y :: .int sp :: .ref x :: S) sh R I Q := by
  intro p l e s m args below meth c H locs ls b D cy hC hF hS hW hl
  have hts := hC.2.2.2.2.2.2.2
  have hcat' := g_cat (b := b) hcat
  have nz : ∀ z : Int32, ¬ z < 0 → z.toInt = (z.toNatClampNeg : Int) := by
    intro z hz
    have hz0 : (0 : Int) ≤ z.toInt := by
      have := Int32.not_lt.mp hz
      simpa using Int32.le_iff_toInt_le.mp this
    show z.toInt = ((z.toInt.toNat : Nat) : Int)
    omega
  intro U hU X
  have hc0 : H[b + x]? = some (vp_cell (cy 0) (n0, .inl (I x))) := hW.2 x _ (gws_a hx)
  have hc1 : H[b + y]? = some (vp_cell (cy 0) (n1, .inl (I y))) := hW.2 y _ (gws_a hy)
  obtain ⟨-, k0, hk0, cm0, hkk0⟩ := (hF.2.1.2 0 _ rfl).1 n0 (fun j => .int (I x j))
  obtain ⟨-, k1, hk1, cm1, hkk1⟩ := (hF.2.1.2 0 _ rfl).1 n1 (fun j => .int (I y j))
  obtain ⟨vm', X', step⟩ := X.arraycopy hC.1 hC.2.2.2.2.2.1 (hts _ hw1) (hts _ hw2) (hts _ hw3) (hts _ hw4) (src := b + x) (dst := b + y) (cs := vp_cell (cy 0) (n0, .inl (I x))) (cd := vp_cell (cy 0) (n1, .inl (I y))) (srcPos := sp) (destPos := dp) (n := nn) (by rw [hU]; exact hc0) (by rw [hU]; exact hc1)
    (fun _ q => by cases q) (fun _ q => by cases q) (fun q => by cases q) (fun q => by cases q) hk0 hk1 hkk0 hkk1 (by simp [refKind]) h1 h2 h3
    (by rw [nz sp h1, nz nn h3]; show ¬ _ > ((arrV (cy 0) n0 (fun j => .int (I x j))).slots.size : Int); rw [arrV_size]; omega)
    (by rw [nz dp h2, nz nn h3]; show ¬ _ > ((arrV (cy 0) n1 (fun j => .int (I y j))).slots.size : Int); rw [arrV_size]; omega)
    (fun vm₁ _ j hj => by
      have e : (vp_cell (cy 0) (n0, .inl (I x))).slots.getD (sp.toNatClampNeg + j) .null = .int (I x (sp.toNatClampNeg + j)) := by
        show (arrV (cy 0) n0 (fun j => .int (I x j))).slots.getD _ _ = _
        rw [Array.getD_eq_getD_getElem?, arrV_read _ _ (by omega)]
        rfl
      refine ⟨?_, ?_⟩
      · rw [e]
        rfl
      · rw [e]
        exact trivial)
    (g := F0 m pc ls (.int nn :: .int dp :: .ref (b + y) :: .int sp :: .ref (b + x) :: S.map (gtr b))) rfl (by rw [hC.2.2.1]; exact hl.1) (rest := S.map (gtr b)) rfl (by rw [hC.2.1]; exact hd) (by show 1 ≤ d + 1; omega) (by
      show 2 * 0 + ((S.map (gtr b)).map fun v => v.category).sum + (nativeFrameWords "java/lang/System" "arraycopy" 5 + 11) ≤ 64 * (d + 1) + 64
      have : nativeFrameWords "java/lang/System" "arraycopy" 5 ≤ 60 := by decide
      omega)
  have e1 : copied (vp_cell (cy 0) (n0, .inl (I x))) (vp_cell (cy 0) (n1, .inl (I y))) sp dp nn = vp_cell (cy 0) (n1, .inl (va_cpy (I x) (I y) sp.toNatClampNeg dp.toNatClampNeg nn.toNatClampNeg)) := va_copied (fun z => .int z) (cy 0) (cy 0) (I x) (I y) h4
  rw [e1] at X' step
  have hlt : b + y < H.size := (Array.getElem?_eq_some_iff.mp hc1).1
  have hheap : ((U.setVm vm').setCell (b + y) (vp_cell (cy 0) (n1, .inl (va_cpy (I x) (I y) sp.toNatClampNeg dp.toNatClampNeg nn.toNatClampNeg)))).heap = H.setIfInBounds (b + y) (vp_cell (cy 0) (n1, .inl (va_cpy (I x) (I y) sp.toNatClampNeg dp.toNatClampNeg nn.toNatClampNeg))) := by rw [← hU]; rfl
  have oq : ∀ q : Nat, q ≠ b + y → (H.setIfInBounds (b + y) (vp_cell (cy 0) (n1, .inl (va_cpy (I x) (I y) sp.toNatClampNeg dp.toNatClampNeg nn.toNatClampNeg))))[q]? = H[q]? := fun q hq => by simp [Array.getElem?_setIfInBounds, Ne.symm hq]
  have hself : gcp I x y sp.toNatClampNeg dp.toNatClampNeg nn.toNatClampNeg y = va_cpy (I x) (I y) sp.toNatClampNeg dp.toNatClampNeg nn.toNatClampNeg := by funext j; simp [gcp]
  have hwd : gWd b D cy (sh, R, gcp I x y sp.toNatClampNeg dp.toNatClampNeg nn.toNatClampNeg) (H.setIfInBounds (b + y) (vp_cell (cy 0) (n1, .inl (va_cpy (I x) (I y) sp.toNatClampNeg dp.toNatClampNeg nn.toNatClampNeg)))) := by
    refine gWd_set hW rfl hy (fun i sh hi => gcl_cp i sh hi) (by simp) oq ?_
    show (H.setIfInBounds (b + y) _)[b + y]? = some (vp_cell (cy 0) (n1, .inl (gcp I x y sp.toNatClampNeg dp.toNatClampNeg nn.toNatClampNeg y)))
    rw [hself]
    simp [Array.getElem?_setIfInBounds, hlt]
  obtain ⟨t, a1, b1⟩ := kk p l e s m args below meth c _ _ ls b D cy hC hF ⟨by simp; exact hS.1, fun q g1 g2 => by
      rw [oq q (fun z => g2 (by rw [z]; exact Nat.le_add_right b y))]
      exact hS.2.1 q g1 g2, fun q hq => by
      rcases List.mem_append.mp hq with z | z
      · exact hS.2.2 q z
      · obtain ⟨w, -, hz⟩ := List.mem_map.mp z
        rw [← hz]
        exact Nat.le_add_right b y⟩ hwd hl _ hheap X'
  exact ⟨t, step t a1, b1⟩
end GV
