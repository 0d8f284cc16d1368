/-! ===== a place of the static row ABOVE: getstatic, iload, iaload at once ===== -/
theorem G_above {d : Nat} {M : gM} {mc ms k n pc : Nat} {L : gL} {S : List Value} {sh : List (Nat × Nat)} {R : gR} {I : gI} {Q : Option Value → gH → Prop} {i : Nat} {a : Fin 4} {x : Int32} (hd1 : decode M.2.1 pc = .ok (.getstatic i, 3)) (hw : Cond.fieldLink M.1.cls i "IceKeys" "ABOVE" "[I" ∈ gBIG) (hd2 : decode M.2.1 (pc + 3) = .ok (.iload_n a, 1)) (hd3 : decode M.2.1 (pc + 4) = .ok (.iaload, 1)) (hL : L[a.val]? = some (some (.int x))) (hin : vp_in x 6)
    (kk : G d M mc ms k n (pc + 5) L (.int (gabv.getD x.toNatClampNeg 0) :: S) sh R I Q) : G d M mc ms k n pc L S sh R I Q := by
  intro p l e s m args below meth c H locs ls b D cy hC hF hS hW hl
  obtain ⟨t, -, -, hz, ht, -⟩ := hF.2.2.2.2.2.2
  refine va_gets hC.1 hC.2.1 hz hS hC.2.2.2.2.2.1 (hC.2.2.2.2.2.2.2 _ hw) (fun _ hx => hx) hd1 ?_
  refine lv_iload_n hC.1 hC.2.1 hd2 rfl (gLV_at hl hL) ?_
  exact va_ti hC.1 hC.2.1 ht hS hin rfl hd3 (kk p l e s m args below meth c H locs ls b D cy hC hF hS hW hl)
/-! ===== calls of inherited methods ===== -/
section GI
variable {d : Nat} {M mj : gM} {mc ms k n pc : Nat} {L : gL} {S S0 vs : List Value} {sh : List (Nat × Nat)} {R : gR} {I : gI} {Q Q1 : Option Value → gH → Prop}
variable {ci x i N mc1 ms1 : Nat} {C : String} {T : u_T}
/-- invokevirtual by a link to a class that has the method from above: mj is it -/
theorem G_callUI {xm : MethodName} (hd : decode M.2.1 pc = .ok (.invokevirtual i, 3)) (hc : vwCl[ci]? = some (C, T, N)) (hsh : sh[x]? = some (0, ci)) (hm : gcm mj vs.length) (hw1 : Cond.methodLink M.1.cls i xm ∈ gBIG) (hw2 : Cond.sameMethod xm.cls mj.1.cls xm.name xm.desc ∈ gBIG) (hw5 : Cond.selects C xm mj.1 ∈ gBIG) (hw6 : Cond.instanceMethod mj.1 ∈ gBIG)
    (hx1 : mj.1 = ⟨mj.1.cls, xm.name, xm.desc⟩)
    (hst : S0 = vs.reverse ++ .ref x :: S) (hcat : (S.map fun v => v.category).sum ≤ 8) (hlen : (gen (.ref x :: vs)).length ≤ mj.2.2.1) (hcl : k + mc1 ≤ mc) (hsl : n + ms1 ≤ ms) (hG : G d mj mc1 ms1 0 0 0 (gent mj.2.2.1 (.ref x :: vs)) [] sh R I Q1)
    (kk : ∀ (r : Option Value) (h' : gH), Q1 r h' → G (d + 1) M mc ms (k + mc1) (n + ms1) (pc + 3) L (r.toList ++ S) h'.1 h'.2.1 h'.2.2 Q) : G (d + 1) M mc ms k n pc L S0 sh R I Q := by
  intro p l e s m args below meth c H locs ls b D cy hC hF hS hW hl
  subst hst
  obtain ⟨hm1, hm2, hm3, hm4, hm5, hm6, hm7⟩ := gcm_inv hm
  have hts := hC.2.2.2.2.2.2.2
  have hdesc : xm.desc = mj.1.desc := by rw [hx1]
  have hlen2 : ∀ sig, parseMethodDescriptor xm.desc = some sig → vs.length = sig.parameters.length := by
    intro sig hsig
    rw [hdesc] at hsig
    rw [hsig] at hm6
    exact (Option.some.inj hm6).symm
  have hcw : va_CU (gRm (d + 1) mc ms) s args M.1.cls C mj.1.cls i xm mj.1 mj.2.1 mj.2.2.1 mj.2.2.2 (.code mj.1 mj.2.1 mj.2.2.1 mj.2.2.2 :: gBIG) (gRm d mc1 ms1) mc1 ms1 vs.length :=
    ⟨⟨rfl, rfl, Nat.le_refl _, by show 8 + (mj.2.2.1 + 11) + (64 * d + 64) ≤ 64 * (d + 1) + 64; omega, pay_in hts (gGood (gcode_in hm1)), List.mem_cons_self⟩, hts _ hm1, hts _ hm2, ⟨hm4, hm5⟩, hlen2, hts _ hw1, hts _ hw2, by rw [← hx1]; exact va_Decl.of (hts _ hw6) (hts _ hm1), hts _ hw5, hts _ hw6⟩
  refine gAfter (va_runU (b := b + x) (As := vs.map (gtr b)) (rest := S.map (gtr b)) ⟨hC.1, hC.2.1, hC.2.2.1, hC.2.2.2.2.2.1, hts⟩ (gMet hm3 hlen hG l b D cy) hcw (gPreV hc hsh hF hS hW) rfl (by simp) hl.1 g_stk (lv_room (g_cat hcat)) hd ⟨hcl, hsl⟩) hF.1 hS (fun r h' H1 locs1 hq hW1 hS1 => ?_)
  rw [g_ret]
  exact kk r h' hq p l e s m args below meth c H1 locs1 ls b D cy hC hF hS1 hW1 hl
end GI
section GIS
variable {p : Program} {l : Launch} {e : Env} {Rm : Room} {s : State} {m : MethodId} {args : Array Value} {below : List Frame} {meth : Method} {c : Code}
theorem g_subOne {vm : Vm} {a b : ClassId} {ka : Class} (h : vm.classes[a]? = some ka) (hs : ka.super = some b) : vm.isSubclass a b = true := by
  have hz : 0 < vm.classes.size := Nat.lt_of_le_of_lt (Nat.zero_le _) (Array.getElem?_eq_some_iff.mp h).1
  obtain ⟨z, hz⟩ : ∃ z, vm.classes.size = z + 1 := ⟨vm.classes.size - 1, by omega⟩
  unfold Vm.isSubclass
  rw [hz]
  simp [Vm.isSubclassAux, h, hs]
/-- super.m(..) where the class above has m from its own class above -/
theorem g_callSO {T : State} {locs : List Loc} {cells slots : Nat} (X : Stand p l e Rm s m args below meth c T locs cells slots) (hexec : p.tables.exec = Jvm.exec) {own : String} {index : Nat} {x y : MethodName} {bytes : ByteArray} {maxL : Nat} {ret : Option FieldType}
    (hown : s.vm.findClass own = some m.cls) (hlink : (Cond.methodLink own index x).before args s = true) (hsame : (Cond.sameMethod x.cls y.cls x.name x.desc).before args s = true) (hyx : y = ⟨y.cls, x.name, x.desc⟩) (hsup : (Cond.superclass own x.cls).before args s = true) (hsup2 : (Cond.superclass x.cls y.cls).before args s = true)
    (hinst : (Cond.instanceMethod y).before args s = true) (hcode : (Cond.code y bytes maxL ret).before args s = true) (hno : x.name ≠ "<init>")
    {Wn : Nat} {Pre : Pt → Array Value → Prop} {Post : Pt → Array Value → Option Value → Pt → Prop} (hK : Back l Rm p e below s args y 3 Wn Pre Post)
    {b : Addr} {cellB : Cell} {kB : Class} (hcell : T.heap[b]? = some cellB) (hobj : cellB.vm.isStatics = false) (hkB : s.vm.classes[cellB.cls]? = some kB)
    {g : JFrame} (hg : g.method = m) (hsize : g.locals.size = c.maxLocals) {argsL rest : List Value} (hlen : ∀ sig, parseMethodDescriptor y.desc = some sig → argsL.length = sig.parameters.length)
    (hstack : g.stack = argsL.reverse ++ .ref b :: rest) (hW : 2 * g.monitorRoom + (rest.map fun v => v.category).sum ≤ Wn) (hdg : decode c.code g.pc = .ok (.invokespecial index, 3))
    (hpre : ∀ vm₁, s.WarmedH vm₁ → Pre ⟨T.setVm vm₁, locs, cells, slots⟩ (Value.ref b :: argsL).toArray) :
    ∃ (v : Option Value) (vm₁ : Vm) (B : Pt), s.WarmedH vm₁ ∧ Stand p l e Rm s m args below meth c B.U B.locs B.cells B.slots ∧ Post ⟨T.setVm vm₁, locs, cells, slots⟩ (Value.ref b :: argsL).toArray v B ∧
      ∀ target, Steps p.tables e below (B.U.setTop { g with pc := g.pc + 3, stack := v.toList ++ rest }) target → Steps p.tables e below (T.setTop g) target := by
  obtain ⟨mk, methM, hnamed, hmethM, hstM, habM⟩ := Cond.instanceMethod_spec hinst
  obtain ⟨methM', cM, hmethM', -, -, -, -, -, -, hsigM⟩ := Cond.code_spec hnamed hcode
  cases hmethM.symm.trans hmethM'
  obtain ⟨ps, dk, kp, hps, hdk, hkp, hsuper, -, -, hnid⟩ := Cond.superclass_spec hown hsup
  obtain ⟨qs, dq, kq, hqs, hdq, hkq, hsuper2, -, -, -⟩ := Cond.superclass_spec hps hsup2
  have hn : s.methodNamed? ⟨y.cls, x.name, x.desc⟩ = some mk := by rw [← hyx]; exact hnamed
  have hqm : qs = mk.cls := Option.some.inj (hqs.symm.trans (findClass_of_methodNamed hnamed))
  have hsub : s.vm.isSubclass ps mk.cls = true := by rw [← hqm]; exact g_subOne hdq hsuper2
  obtain ⟨vm₁, X₁, hstep₁⟩ := X.invokespecialUp hexec hown hlink hsame hn hmethM hstM habM hno hdk hnid hps hsuper hsub (a := b) (cell := cellB) hcell
    (fun z h => by rw [h] at hobj; cases hobj) hkB (g := g) hg (argsL := argsL) (rest := rest) (hlen _ hsigM) hstack hdg
  obtain ⟨v, B, X', hpost, hsteps⟩ := hK m meth c ⟨T.setVm vm₁, locs, cells, slots⟩ { g with stack := rest } (.invokespecial index) mk (Value.ref b :: argsL).toArray X₁ hg hsize hdg hW (X₁.named hnamed) (hpre vm₁ X₁.warmed)
  exact ⟨v, vm₁, B, X₁.warmed, X', hpost, fun target h => hstep₁ _ (by rw [doInvoke_state]; exact hsteps.trans h)⟩
end GIS
section GSO
variable {d : Nat} {M mj : gM} {mc ms k n pc : Nat} {L : gL} {S S0 vs : List Value} {sh : List (Nat × Nat)} {R : gR} {I : gI} {Q Q1 : Option Value → gH → Prop}
variable {ci x i N mc1 ms1 : Nat} {C : String} {T : u_T}
theorem G_callSO {xm : MethodName} (hd : decode M.2.1 pc = .ok (.invokespecial i, 3)) (hc : vwCl[ci]? = some (C, T, N)) (hsh : sh[x]? = some (0, ci)) (hm : gcm mj vs.length) (hw1 : Cond.methodLink M.1.cls i xm ∈ gBIG) (hw2 : Cond.sameMethod xm.cls mj.1.cls xm.name xm.desc ∈ gBIG) (hw3 : Cond.superclass M.1.cls xm.cls ∈ gBIG) (hw7 : Cond.superclass xm.cls mj.1.cls ∈ gBIG) (hw4 : Cond.instanceMethod mj.1 ∈ gBIG) (hno : xm.name ≠ "<init>") (hx1 : mj.1 = ⟨mj.1.cls, xm.name, xm.desc⟩)
    (hst : S0 = vs.reverse ++ .ref x :: S) (hcat : (S.map fun v => v.category).sum ≤ 8) (hlen : (gen (.ref x :: vs)).length ≤ mj.2.2.1) (hcl : k + mc1 ≤ mc) (hsl : n + ms1 ≤ ms) (hG : G d mj mc1 ms1 0 0 0 (gent mj.2.2.1 (.ref x :: vs)) [] sh R I Q1)
    (kk : ∀ (r : Option Value) (h' : gH), Q1 r h' → G (d + 1) M mc ms (k + mc1) (n + ms1) (pc + 3) L (r.toList ++ S) h'.1 h'.2.1 h'.2.2 Q) : G (d + 1) M mc ms k n pc L S0 sh R I Q := by
  intro p l e s m args below meth c H locs ls b D cy hC hF hS hW hl
  subst hst
  obtain ⟨hm1, hm2, hm3, hm4, hm5, hm6, hm7⟩ := gcm_inv hm
  have hts := hC.2.2.2.2.2.2.2
  have hlen2 : ∀ sig, parseMethodDescriptor mj.1.desc = some sig → (vs.map (gtr b)).length = sig.parameters.length := by
    intro sig hsig
    rw [hsig] at hm6
    rw [List.length_map]
    exact (Option.some.inj hm6).symm
  have hp := gPreV (vs := vs) hc hsh hF hS hW
  have hini := hts _ hm2
  have hK : Back l (gRm (d + 1) mc ms) p e below s args mj.1 3 8 (PreOf (gRm (d + 1) mc ms) mc1 ms1 (va_Pc ((.ref x :: vs).map (gtr b)) (fun U => gFx b D cy U ∧ gWd b D cy (sh, R, I) U.heap))) (PostOf (gQC b D cy Q1) mc1 ms1 (gA b)) := back_of (bytes := mj.2.1) (maxL := mj.2.2.1) (ret := mj.2.2.2) (gMet hm3 hlen hG l b D cy) hp.1 rfl rfl (Nat.le_refl _) (by show 8 + (mj.2.2.1 + 11) + (64 * d + 64) ≤ 64 * (d + 1) + 64; omega) (pay_in hts (gGood (gcode_in hm1))) List.mem_cons_self (fun a' U hWm => word_at hWm (Or.inl (by first | rfl | simp [Cond.onTables, Cond.keeps, Cond.steady])) hini)
  obtain ⟨-, ⟨cellB, hcB, hoB, hclB⟩, hPc⟩ := hp
  obtain ⟨hfc, kB, hkB, -⟩ := (hF.2.1.1 ci _ hc).2
  have ecl : D.1 ci = cellB.cls := Option.some.inj (hfc.symm.trans hclB)
  rw [ecl] at hkB
  refine gAfter (D := D) (cy := cy) (Q1 := Q1) (mc1 := mc1) (ms1 := ms1) (rest := S.map (gtr b)) (a := (Value.ref (b + x) :: vs.map (gtr b)).toArray) ?_ hF.1 hS (fun r h' H1 locs1 hq hW1 hS1 => ?_)
  · intro U hU X
    obtain ⟨v, vm₁, ⟨U', l2, c2, s2⟩, hW₁, X', ⟨g', mk, t, L', e1, e2, hq, h1, hL, h2, h3⟩, st⟩ := g_callSO X hC.1 (bytes := mj.2.1) (maxL := mj.2.2.1) (ret := mj.2.2.2) hC.2.2.2.2.2.1 (hts _ hw1) (hts _ hw2) hx1 (hts _ hw3) (hts _ hw7) (hts _ hw4) (hts _ hm1) hno hK (by rw [hU]; exact hcB) hoB hkB (g := F0 m pc ls ((vs.reverse ++ .ref x :: S).map (gtr b))) rfl (hl.1.trans hC.2.2.1.symm) (argsL := vs.map (gtr b)) (rest := S.map (gtr b)) hlen2 g_stk (lv_room (g_cat hcat)) (by rw [hC.2.1]; exact hd)
      (fun vm₁ hW₁ => ⟨hcl, hsl, hPc (U.setVm vm₁) hU hW₁⟩)
    dsimp only [Pt.U, Pt.locs, Pt.cells, Pt.slots] at X' e1 e2 h1 h2 h3 st
    subst h1; subst h2; subst h3
    exact ⟨v, (U.setVm vm₁).calling g' mk (Value.ref (b + x) :: vs.map (gtr b)).toArray, t, U', L', hU, X', hL, e1, e2, hq, st⟩
  · rw [g_ret]
    exact kk r h' hq p l e s m args below meth c H1 locs1 ls b D cy hC hF hS1 hW1 hl
end GSO
