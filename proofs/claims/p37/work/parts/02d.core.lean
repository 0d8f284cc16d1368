/-! ===== ends, calls ===== -/
theorem gGood {ws : List Cond} (h : ∀ w ∈ ws, w ∈ gBIG) : GoodIn gBIG ws := fun w hw => ⟨h w hw, good_of_word (gAll w (h w hw))⟩
section GE
variable {d : Nat} {M : gM} {mc ms k n pc : Nat} {L : gL} {S : List Value} {sh : List (Nat × Nat)} {R : gR} {I : gI} {Q : Option Value → gH → Prop}
theorem G_iret {v : Int32} (hk : k ≤ mc) (hn : n ≤ ms) (hr : M.2.2.2 = some .int) (hd : decode M.2.1 pc = .ok (.ireturn, 1)) (hq : Q (some (.int v)) (sh, R, I)) : G d M mc ms k n pc L [.int v] sh R I Q := by
  intro p l e s m args below meth c H locs ls b D cy hC hF hS hW hl
  refine W.widen (k := mc) (n := ms) hk hn ?_
  exact W.iret (v := v) hC.1 hC.2.1 (hC.2.2.2.1.trans hr) (fun t ht _ => ⟨some (.int v), (sh, R, I), rfl, hq, by rw [ht]; exact hW, by rw [ht]; exact hS.1, fun q hq => by rw [ht]; exact gA_old hF.1 hS q hq⟩) hS.2.2 hd hC.2.2.2.2.1
theorem G_zret {v : Int32} (hk : k ≤ mc) (hn : n ≤ ms) (hr : M.2.2.2 = some .boolean) (hv : v = 0 ∨ v = 1) (hd : decode M.2.1 pc = .ok (.ireturn, 1)) (hq : Q (some (.int v)) (sh, R, I)) : G d M mc ms k n pc L [.int v] sh R I Q := by
  intro p l e s m args below meth c H locs ls b D cy hC hF hS hW hl
  refine W.widen (k := mc) (n := ms) hk hn ?_
  exact W.zret (v := v) (ty := .boolean) hC.1 hC.2.1 (hC.2.2.2.1.trans hr) (by rcases hv with rfl | rfl <;> decide) (fun t ht _ => ⟨some (.int v), (sh, R, I), rfl, hq, by rw [ht]; exact hW, by rw [ht]; exact hS.1, fun q hq => by rw [ht]; exact gA_old hF.1 hS q hq⟩) hS.2.2 hd hC.2.2.2.2.1
theorem G_vret (hk : k ≤ mc) (hn : n ≤ ms) (hr : M.2.2.2 = none) (hd : decode M.2.1 pc = .ok (.return_, 1)) (hq : Q none (sh, R, I)) : G d M mc ms k n pc L [] sh R I Q := by
  intro p l e s m args below meth c H locs ls b D cy hC hF hS hW hl
  refine W.widen (k := mc) (n := ms) hk hn ?_
  exact W.vret hC.1 hC.2.1 (hC.2.2.2.1.trans hr) (fun t ht _ => ⟨none, (sh, R, I), rfl, hq, by rw [ht]; exact hW, by rw [ht]; exact hS.1, fun q hq => by rw [ht]; exact gA_old hF.1 hS q hq⟩) hS.2.2 hd hC.2.2.2.2.1
theorem G_tabOut {dflt lo hi : Int} {offs : Array Int} {len : Nat} {x : Int32} {tgt : Nat} (ht : (pc : Int) + dflt = (tgt : Int)) (hx : x.toInt < lo ∨ hi < x.toInt) (hd : decode M.2.1 pc = .ok (.tableswitch dflt lo hi offs, len)) (kk : G d M mc ms k n tgt L S sh R I Q) : G d M mc ms k n pc L (.int x :: S) sh R I Q := by
  intro p l e s m args below meth c H locs ls b D cy hC hF hS hW hl
  exact lv_tableOut hC.1 hC.2.1 hd hx ht (kk p l e s m args below meth c H locs ls b D cy hC hF hS hW hl)
theorem G_tabIn {dflt lo hi : Int} {offs : Array Int} {len : Nat} {x : Int32} {off : Int} {tgt : Nat} (ht : (pc : Int) + off = (tgt : Int)) (h1 : ¬ x.toInt < lo) (h2 : ¬ hi < x.toInt) (ho : offs[(x.toInt - lo).toNat]? = some off) (hd : decode M.2.1 pc = .ok (.tableswitch dflt lo hi offs, len)) (kk : G d M mc ms k n tgt L S sh R I Q) : G d M mc ms k n pc L (.int x :: S) sh R I Q := by
  intro p l e s m args below meth c H locs ls b D cy hC hF hS hW hl
  exact lv_tableIn hC.1 hC.2.1 hd h1 h2 ho ht (kk p l e s m args below meth c H locs ls b D cy hC hF hS hW hl)
theorem G_look {dflt : Int} {ps : Array (Int × Int)} {len : Nat} {x : Int32} {off : Int} {tgt : Nat} (ht : (pc : Int) + off = (tgt : Int)) (hp : (ps.toList.zip (ps.toList.drop 1)).all (fun (a, next) => a.1 < next.1) = true) (ho : Op.lookupswitch.offset ps.toList dflt x.toInt = off) (hd : decode M.2.1 pc = .ok (.lookupswitch dflt ps, len)) (kk : G d M mc ms k n tgt L S sh R I Q) : G d M mc ms k n pc L (.int x :: S) sh R I Q := by
  intro p l e s m args below meth c H locs ls b D cy hC hF hS hW hl
  exact lv_lookup hC.1 hC.2.1 hd hp ho ht (kk p l e s m args below meth c H locs ls b D cy hC hF hS hW hl)
end GE
theorem gMet {d : Nat} {M : gM} {mc ms : Nat} {vs : List Value} {sh : List (Nat × Nat)} {R : gR} {I : gI} {Q : Option Value → gH → Prop} (hy : plainName M.1.cls = true) (hn : (gen vs).length ≤ M.2.2.1) (hG : G d M mc ms 0 0 0 (gent M.2.2.1 vs) [] sh R I Q) (l : Launch) (b : Nat) (D : va_G) (cy : Nat → ClassId) :
    Met l M.1 (.code M.1 M.2.1 M.2.2.1 M.2.2.2 :: gBIG) (gRm d mc ms) (va_Pc (vs.map (gtr b)) (fun U => gFx b D cy U ∧ gWd b D cy (sh, R, I) U.heap)) (gQC b D cy Q) mc ms (gA b) := by
  refine Met.ofW (cc := M.2.1) (maxL := M.2.2.1) (ret := M.2.2.2) hy rfl ?_
  intro p e s m args below meth c s₁ B hml hv
  obtain ⟨rfl, hF, hW⟩ := hv
  have hts := atoms_spec (ws := .code M.1 M.2.1 M.2.2.1 M.2.2.2 :: gBIG) B.pre
  rw [lg_entry_eq]
  exact hG p l e s m _ below meth c s.heap [] _ b D cy ⟨B.exec, B.bytes, hml, B.returns, B.notSynchronized, findClass_of_methodNamed B.named, (name_of_methodNamed B.named B.method).1, fun w hw => hts w (List.mem_cons_of_mem _ hw)⟩ hF va_S.rf hW (gent_LV b _ vs hn)
section GC
variable {p : Program} {l : Launch} {e : Env} {R : Room} {s : State} {m : MethodId} {args : Array Value} {below : List Frame} {meth : Method} {c : Code} {H : Heap} {locs : List Loc} {cells slots : Nat} {Qf : State → Prop}
theorem gAfter {b : Nat} {D : va_G} {cy : Nat → ClassId} {Q1 : Option Value → gH → Prop} {mc1 ms1 pc : Nat} {ls : Array Slot} {st0 rest : List Value} {a : Array Value} (hr : va_Run p l e R s m args below meth c H locs cells slots mc1 ms1 (F0 m pc ls st0) rest (gQC b D cy Q1 a) (gA b)) (hb : b ≤ s.heap.size) (hS : va_S (gA b) s.heap H locs)
    (kk : ∀ (r : Option Value) (h' : gH) (H1 : Heap) (locs1 : List Loc), Q1 r h' → gWd b D cy h' H1 → va_S (gA b) s.heap H1 locs1 → W p l e R s m args below meth c H1 locs1 (cells + mc1) (slots + ms1) Qf (F0 m (pc + 3) ls ((r.map (gtr b)).toList ++ rest))) : W p l e R s m args below meth c H locs cells slots Qf (F0 m pc ls st0) := by
  intro T hT X
  obtain ⟨v, st₀, t, T', Lx, h0, X', hL, e1, e2, ⟨r, h', hv, hq, hw, hz, hk⟩, st⟩ := hr T hT X
  cases hv
  rw [h0] at hz hk
  obtain ⟨t2, a1, b1⟩ := kk r h' T'.heap (locs ++ Lx) hq (by rw [e1]; exact hw) ⟨by rw [e1]; exact Nat.le_trans hS.1 hz, fun q h1 h2 => by
      have hq : q < b := Nat.not_le.mp h2
      rw [e1, hk q hq]
      exact hS.2.1 q h1 h2, fun q hq => by
      rcases List.mem_append.mp hq with z | z
      · exact hS.2.2 q z
      · exact hL q z⟩ T' rfl X'
  exact ⟨t2, st t2 a1, b1⟩
theorem gPre {b : Nat} {D : va_G} {cy : Nat → ClassId} {sh : List (Nat × Nat)} {R : gR} {I : gI} {vs : List Value} (hF : gFx b D cy s) (hS : va_S (gA b) s.heap H locs) (hW : gWd b D cy (sh, R, I) H) : PreS s H (va_Pc (vs.map (gtr b)) (fun U => gFx b D cy U ∧ gWd b D cy (sh, R, I) U.heap)) (vs.map (gtr b)) :=
  ⟨fun _ U _ _ q => ⟨q.1, gFx.same rfl rfl q.2.1, q.2.2⟩, fun U hU hWm => ⟨rfl, hF.moved hWm (by rw [hU]; exact Nat.le_trans hF.1 hS.1) (fun q hq => by rw [hU]; exact gA_old hF.1 hS q hq), by rw [hU]; exact hW⟩⟩
theorem gPreV {b : Nat} {D : va_G} {cy : Nat → ClassId} {sh : List (Nat × Nat)} {R : gR} {I : gI} {vs : List Value} {x ci : Nat} {C : String} {T : u_T} {N : Nat} (hc : vwCl[ci]? = some (C, T, N)) (hsh : sh[x]? = some (0, ci)) (hF : gFx b D cy s) (hS : va_S (gA b) s.heap H locs) (hW : gWd b D cy (sh, R, I) H) :
    PreV s H C (b + x) (va_Pc ((.ref x :: vs).map (gtr b)) (fun U => gFx b D cy U ∧ gWd b D cy (sh, R, I) U.heap)) (vs.map (gtr b)) :=
  ⟨(gPre (vs := .ref x :: vs) hF hS hW).1, va_recv hF.2.1 hW.2 hc (gws_a hsh), (gPre (vs := .ref x :: vs) hF hS hW).2⟩
end GC
/-- what a call asks of the callee's own words -/
def gcm (M : gM) (nv : Nat) : Prop := Cond.code M.1 M.2.1 M.2.2.1 M.2.2.2 ∈ gBIG ∧ Cond.initialized M.1.cls ∈ gBIG ∧ plainName M.1.cls = true ∧ M.1.cls ≠ "java/lang/invoke/MethodHandle" ∧ M.1.cls ≠ "java/lang/invoke/VarHandle" ∧ (parseMethodDescriptor M.1.desc).map (fun d => d.parameters.length) = some nv ∧ M.2.2.1 ≤ 45
theorem gcm_inv {M : gM} {nv : Nat} (h : gcm M nv) : Cond.code M.1 M.2.1 M.2.2.1 M.2.2.2 ∈ gBIG ∧ Cond.initialized M.1.cls ∈ gBIG ∧ plainName M.1.cls = true ∧ M.1.cls ≠ "java/lang/invoke/MethodHandle" ∧ M.1.cls ≠ "java/lang/invoke/VarHandle" ∧ (parseMethodDescriptor M.1.desc).map (fun d => d.parameters.length) = some nv ∧ M.2.2.1 ≤ 45 := h
theorem gcode_in {M : gM} (h : Cond.code M.1 M.2.1 M.2.2.1 M.2.2.2 ∈ gBIG) : ∀ w ∈ (Cond.code M.1 M.2.1 M.2.2.1 M.2.2.2 :: gBIG), w ∈ gBIG := fun w hw => (List.mem_cons.mp hw).elim (fun e => e ▸ h) id
section GCa
variable {d : Nat} {M : gM} {mc ms k n pc : Nat} {L : gL} {S S0 : List Value} {sh : List (Nat × Nat)} {R : gR} {I : gI} {Q : Option Value → gH → Prop}
variable {mj : gM} {mc1 ms1 i : Nat} {vs : List Value} {Q1 : Option Value → gH → Prop} {x ci : Nat} {C : String} {T : u_T} {N : Nat}
theorem g_stk {b : Nat} {vs S : List Value} {x : Nat} : (vs.reverse ++ .ref x :: S).map (gtr b) = (vs.map (gtr b)).reverse ++ .ref (b + x) :: S.map (gtr b) := by simp [gtr]
theorem g_stkS {b : Nat} {vs S : List Value} : (vs.reverse ++ S).map (gtr b) = (vs.map (gtr b)).reverse ++ S.map (gtr b) := by simp
theorem g_cat {b : Nat} {S : List Value} (h : (S.map fun v => v.category).sum ≤ 8) : ((S.map (gtr b)).map fun v => v.category).sum ≤ 8 := by
  rw [List.map_map, show ((fun v : Value => v.category) ∘ gtr b) = (fun v : Value => v.category) from funext (gtr_cat b)]
  exact h
theorem g_ret {b : Nat} {S : List Value} {r : Option Value} : (r.map (gtr b)).toList ++ S.map (gtr b) = (r.toList ++ S).map (gtr b) := by cases r <;> simp
/-- invokevirtual of a method of the receiver's own class -/
theorem G_callV (hd : decode M.2.1 pc = .ok (.invokevirtual i, 3)) (hc : vwCl[ci]? = some (C, T, N)) (hsh : sh[x]? = some (0, ci)) (hm : gcm mj vs.length) (hw1 : Cond.methodLink M.1.cls i mj.1 ∈ gBIG) (hw2 : Cond.instanceMethod mj.1 ∈ gBIG) (hw3 : Cond.selects C mj.1 mj.1 ∈ gBIG)
    (hst : S0 = vs.reverse ++ .ref x :: S) (hcat : (S.map fun v => v.category).sum ≤ 8) (hlen : (gen (.ref x :: vs)).length ≤ mj.2.2.1) (hcl : k + mc1 ≤ mc) (hsl : n + ms1 ≤ ms) (hG : G d mj mc1 ms1 0 0 0 (gent mj.2.2.1 (.ref x :: vs)) [] sh R I Q1)
    (kk : ∀ (r : Option Value) (h' : gH), Q1 r h' → G (d + 1) M mc ms (k + mc1) (n + ms1) (pc + 3) L (r.toList ++ S) h'.1 h'.2.1 h'.2.2 Q) : G (d + 1) M mc ms k n pc L S0 sh R I Q := by
  intro p l e s m args below meth c H locs ls b D cy hC hF hS hW hl
  subst hst
  obtain ⟨hm1, hm2, hm3, hm4, hm5, hm6, hm7⟩ := gcm_inv hm
  have hts := hC.2.2.2.2.2.2.2
  have hcw : CallW (gRm (d + 1) mc ms) s args M.1.cls C i mj.1 mj.2.1 mj.2.2.1 mj.2.2.2 (.code mj.1 mj.2.1 mj.2.2.1 mj.2.2.2 :: gBIG) (gRm d mc1 ms1) mc1 ms1 vs.length :=
    ⟨callB_of vs.length hts (gGood (gcode_in hm1)) rfl rfl rfl (hts _ hm2) (hts _ hw1) ⟨hm4, hm5, hm6⟩ ⟨Nat.le_refl _, by show 8 + (mj.2.2.1 + 11) + (64 * d + 64) ≤ 64 * (d + 1) + 64; omega⟩, hts _ hw2, hts _ hw3⟩
  refine gAfter (va_runV (b := b + x) (As := vs.map (gtr b)) (rest := S.map (gtr b)) ⟨hC.1, hC.2.1, hC.2.2.1, hC.2.2.2.2.2.1, hts⟩ (gMet hm3 hlen hG l b D cy) hcw (gPreV hc hsh hF hS hW) rfl (by simp) hl.1 g_stk (lv_room (g_cat hcat)) hd ⟨hcl, hsl⟩) hF.1 hS (fun r h' H1 locs1 hq hW1 hS1 => ?_)
  rw [g_ret]
  exact kk r h' hq p l e s m args below meth c H1 locs1 ls b D cy hC hF hS1 hW1 hl
/-- invokevirtual of a nest mate's private method -/
theorem G_callVN {host : String} (hd : decode M.2.1 pc = .ok (.invokevirtual i, 3)) (hc : vwCl[ci]? = some (C, T, N)) (hsh : sh[x]? = some (0, ci)) (hm : gcm mj vs.length) (hw1 : (M.1.cls, i, mj.1, host) ∈ gNest) (hw2 : Cond.instanceMethod mj.1 ∈ gBIG) (hw3 : Cond.selects C mj.1 mj.1 ∈ gBIG)
    (hst : S0 = vs.reverse ++ .ref x :: S) (hcat : (S.map fun v => v.category).sum ≤ 8) (hlen : (gen (.ref x :: vs)).length ≤ mj.2.2.1) (hcl : k + mc1 ≤ mc) (hsl : n + ms1 ≤ ms) (hG : G d mj mc1 ms1 0 0 0 (gent mj.2.2.1 (.ref x :: vs)) [] sh R I Q1)
    (kk : ∀ (r : Option Value) (h' : gH), Q1 r h' → G (d + 1) M mc ms (k + mc1) (n + ms1) (pc + 3) L (r.toList ++ S) h'.1 h'.2.1 h'.2.2 Q) : G (d + 1) M mc ms k n pc L S0 sh R I Q := by
  intro p l e s m args below meth c H locs ls b D cy hC hF hS hW hl
  subst hst
  obtain ⟨hm1, hm2, hm3, hm4, hm5, hm6, hm7⟩ := gcm_inv hm
  have hts := hC.2.2.2.2.2.2.2
  refine gAfter (va_runVN (b := b + x) (C := C) (As := vs.map (gtr b)) (rest := S.map (gtr b)) ⟨hC.1, hC.2.1, hC.2.2.1, hC.2.2.2.2.2.1, hts⟩ (gMet hm3 hlen hG l b D cy) ⟨va_cnB vs.length hts (gGood (gcode_in hm1)) rfl rfl rfl (hF.2.2.1 _ hw1) (hts _ hm2) ⟨hm4, hm5, hm6⟩ ⟨Nat.le_refl _, by show 8 + (mj.2.2.1 + 11) + (64 * d + 64) ≤ 64 * (d + 1) + 64; omega⟩, hts _ hw2, hts _ hw3⟩ (gPreV hc hsh hF hS hW) rfl (by simp) hl.1 g_stk (lv_room (g_cat hcat)) hd ⟨hcl, hsl⟩) hF.1 hS (fun r h' H1 locs1 hq hW1 hS1 => ?_)
  rw [g_ret]
  exact kk r h' hq p l e s m args below meth c H1 locs1 ls b D cy hC hF hS1 hW1 hl
/-- invokestatic -/
theorem G_callS (hd : decode M.2.1 pc = .ok (.invokestatic i, 3)) (hm : gcm mj vs.length) (hw1 : Cond.methodLink M.1.cls i mj.1 ∈ gBIG) (hw2 : Cond.static mj.1 ∈ gBIG)
    (hst : S0 = vs.reverse ++ S) (hcat : (S.map fun v => v.category).sum ≤ 8) (hlen : (gen vs).length ≤ mj.2.2.1) (hcl : k + mc1 ≤ mc) (hsl : n + ms1 ≤ ms) (hG : G d mj mc1 ms1 0 0 0 (gent mj.2.2.1 vs) [] sh R I Q1)
    (kk : ∀ (r : Option Value) (h' : gH), Q1 r h' → G (d + 1) M mc ms (k + mc1) (n + ms1) (pc + 3) L (r.toList ++ S) h'.1 h'.2.1 h'.2.2 Q) : G (d + 1) M mc ms k n pc L S0 sh R I Q := by
  intro p l e s m args below meth c H locs ls b D cy hC hF hS hW hl
  subst hst
  obtain ⟨hm1, hm2, hm3, hm4, hm5, hm6, hm7⟩ := gcm_inv hm
  have hts := hC.2.2.2.2.2.2.2
  refine gAfter (va_runS (As := vs.map (gtr b)) (rest := S.map (gtr b)) ⟨hC.1, hC.2.1, hC.2.2.1, hC.2.2.2.2.2.1, hts⟩ (gMet hm3 hlen hG l b D cy) ⟨callB_of vs.length hts (gGood (gcode_in hm1)) rfl rfl rfl (hts _ hm2) (hts _ hw1) ⟨hm4, hm5, hm6⟩ ⟨Nat.le_refl _, by show 8 + (mj.2.2.1 + 11) + (64 * d + 64) ≤ 64 * (d + 1) + 64; omega⟩, hts _ hw2⟩ (gPre hF hS hW) rfl (by simp) hl.1 g_stkS (lv_room (g_cat hcat)) hd ⟨hcl, hsl⟩) hF.1 hS (fun r h' H1 locs1 hq hW1 hS1 => ?_)
  rw [g_ret]
  exact kk r h' hq p l e s m args below meth c H1 locs1 ls b D cy hC hF hS1 hW1 hl
/-- invokestatic of a nest mate's private method -/
theorem G_callSN {host : String} (hd : decode M.2.1 pc = .ok (.invokestatic i, 3)) (hm : gcm mj vs.length) (hw1 : (M.1.cls, i, mj.1, host) ∈ gNest) (hw2 : Cond.static mj.1 ∈ gBIG)
    (hst : S0 = vs.reverse ++ S) (hcat : (S.map fun v => v.category).sum ≤ 8) (hlen : (gen vs).length ≤ mj.2.2.1) (hcl : k + mc1 ≤ mc) (hsl : n + ms1 ≤ ms) (hG : G d mj mc1 ms1 0 0 0 (gent mj.2.2.1 vs) [] sh R I Q1)
    (kk : ∀ (r : Option Value) (h' : gH), Q1 r h' → G (d + 1) M mc ms (k + mc1) (n + ms1) (pc + 3) L (r.toList ++ S) h'.1 h'.2.1 h'.2.2 Q) : G (d + 1) M mc ms k n pc L S0 sh R I Q := by
  intro p l e s m args below meth c H locs ls b D cy hC hF hS hW hl
  subst hst
  obtain ⟨hm1, hm2, hm3, hm4, hm5, hm6, hm7⟩ := gcm_inv hm
  have hts := hC.2.2.2.2.2.2.2
  refine gAfter (va_runSN (As := vs.map (gtr b)) (rest := S.map (gtr b)) ⟨hC.1, hC.2.1, hC.2.2.1, hC.2.2.2.2.2.1, hts⟩ (gMet hm3 hlen hG l b D cy) ⟨va_cnB vs.length hts (gGood (gcode_in hm1)) rfl rfl rfl (hF.2.2.1 _ hw1) (hts _ hm2) ⟨hm4, hm5, hm6⟩ ⟨Nat.le_refl _, by show 8 + (mj.2.2.1 + 11) + (64 * d + 64) ≤ 64 * (d + 1) + 64; omega⟩, hts _ hw2, trivial⟩ (gPre hF hS hW) rfl (by simp) hl.1 g_stkS (lv_room (g_cat hcat)) hd ⟨hcl, hsl⟩) hF.1 hS (fun r h' H1 locs1 hq hW1 hS1 => ?_)
  rw [g_ret]
  exact kk r h' hq p l e s m args below meth c H1 locs1 ls b D cy hC hF hS1 hW1 hl
/-- a constructor -/
theorem G_callI (hd : decode M.2.1 pc = .ok (.invokespecial i, 3)) (hm : gcm mj vs.length) (hret : mj.2.2.2 = none) (hini : mj.1.name = "<init>") (hw1 : Cond.methodLink M.1.cls i mj.1 ∈ gBIG) (hw2 : Cond.instanceMethod mj.1 ∈ gBIG)
    (hst : S0 = vs.reverse ++ .ref x :: S) (hcat : (S.map fun v => v.category).sum ≤ 8) (hlen : (gen (.ref x :: vs)).length ≤ mj.2.2.1) (hcl : k + mc1 ≤ mc) (hsl : n + ms1 ≤ ms) (hG : G d mj mc1 ms1 0 0 0 (gent mj.2.2.1 (.ref x :: vs)) [] sh R I Q1)
    (kk : ∀ (r : Option Value) (h' : gH), Q1 r h' → G (d + 1) M mc ms (k + mc1) (n + ms1) (pc + 3) L (r.toList ++ S) h'.1 h'.2.1 h'.2.2 Q) : G (d + 1) M mc ms k n pc L S0 sh R I Q := by
  intro p l e s m args below meth c H locs ls b D cy hC hF hS hW hl
  subst hst
  obtain ⟨hm1, hm2, hm3, hm4, hm5, hm6, hm7⟩ := gcm_inv hm
  have hts := hC.2.2.2.2.2.2.2
  have hm1' : Cond.code mj.1 mj.2.1 mj.2.2.1 none ∈ gBIG := hret ▸ hm1
  have hMt := gMet hm3 hlen hG l b D cy
  rw [hret] at hMt
  refine gAfter (va_runI (b := b + x) (As := vs.map (gtr b)) (rest := S.map (gtr b)) ⟨hC.1, hC.2.1, hC.2.2.1, hC.2.2.2.2.2.1, hts⟩ hMt (cwI vs.length hts (gGood (fun w hw => (List.mem_cons.mp hw).elim (fun e => e ▸ hm1') id)) rfl rfl rfl (hts _ hm2) (hts _ hw1) (hts _ hw2) hini ⟨hm4, hm5, hm6⟩ ⟨Nat.le_refl _, by show 8 + (mj.2.2.1 + 11) + (64 * d + 64) ≤ 64 * (d + 1) + 64; omega⟩) (gPre (vs := .ref x :: vs) hF hS hW) rfl (by simp) hl.1 g_stk (lv_room (g_cat hcat)) hd ⟨hcl, hsl⟩) hF.1 hS (fun r h' H1 locs1 hq hW1 hS1 => ?_)
  rw [g_ret]
  exact kk r h' hq p l e s m args below meth c H1 locs1 ls b D cy hC hF hS1 hW1 hl
/-- a nest mate's private constructor -/
theorem G_callIN {host : String} (hd : decode M.2.1 pc = .ok (.invokespecial i, 3)) (hm : gcm mj vs.length) (hret : mj.2.2.2 = none) (hini : mj.1.name = "<init>") (hw1 : (M.1.cls, i, mj.1, host) ∈ gNest) (hw2 : Cond.instanceMethod mj.1 ∈ gBIG)
    (hst : S0 = vs.reverse ++ .ref x :: S) (hcat : (S.map fun v => v.category).sum ≤ 8) (hlen : (gen (.ref x :: vs)).length ≤ mj.2.2.1) (hcl : k + mc1 ≤ mc) (hsl : n + ms1 ≤ ms) (hG : G d mj mc1 ms1 0 0 0 (gent mj.2.2.1 (.ref x :: vs)) [] sh R I Q1)
    (kk : ∀ (r : Option Value) (h' : gH), Q1 r h' → G (d + 1) M mc ms (k + mc1) (n + ms1) (pc + 3) L (r.toList ++ S) h'.1 h'.2.1 h'.2.2 Q) : G (d + 1) M mc ms k n pc L S0 sh R I Q := by
  intro p l e s m args below meth c H locs ls b D cy hC hF hS hW hl
  subst hst
  obtain ⟨hm1, hm2, hm3, hm4, hm5, hm6, hm7⟩ := gcm_inv hm
  have hts := hC.2.2.2.2.2.2.2
  have hm1' : Cond.code mj.1 mj.2.1 mj.2.2.1 none ∈ gBIG := hret ▸ hm1
  have hMt := gMet hm3 hlen hG l b D cy
  rw [hret] at hMt
  refine gAfter (va_runIN (b := b + x) (As := vs.map (gtr b)) (rest := S.map (gtr b)) ⟨hC.1, hC.2.1, hC.2.2.1, hC.2.2.2.2.2.1, hts⟩ hMt ⟨va_cnB vs.length hts (gGood (fun w hw => (List.mem_cons.mp hw).elim (fun e => e ▸ hm1') id)) rfl rfl rfl (hF.2.2.1 _ hw1) (hts _ hm2) ⟨hm4, hm5, hm6⟩ ⟨Nat.le_refl _, by show 8 + (mj.2.2.1 + 11) + (64 * d + 64) ≤ 64 * (d + 1) + 64; omega⟩, hini, hts _ hw2⟩ (gPre (vs := .ref x :: vs) hF hS hW) rfl (by simp) hl.1 g_stk (lv_room (g_cat hcat)) hd ⟨hcl, hsl⟩) hF.1 hS (fun r h' H1 locs1 hq hW1 hS1 => ?_)
  rw [g_ret]
  exact kk r h' hq p l e s m args below meth c H1 locs1 ls b D cy hC hF hS1 hW1 hl
/-- Object's constructor -/
theorem G_obj (hd : decode M.2.1 pc = .ok (.invokespecial i, 3)) (hw1 : Cond.methodLink M.1.cls i objectInit ∈ gBIG) (hw2 : Cond.instanceMethod objectInit ∈ gBIG) (hw3 : Cond.code objectInit ⟨#[0xb1]⟩ 1 none ∈ gBIG) (hcat : (S.map fun v => v.category).sum ≤ 8)
    (kk : G (d + 1) M mc ms k n (pc + 3) L S sh R I Q) : G (d + 1) M mc ms k n pc L (.ref x :: S) sh R I Q := by
  intro p l e s m args below meth c H locs ls b D cy hC hF hS hW hl
  have hts := hC.2.2.2.2.2.2.2
  have hcat' := g_cat (b := b) hcat
  exact W.objInit hC.1 hC.2.1 hC.2.2.2.2.2.1 (hts _ hw1) (hts _ hw2) (hts _ hw3) rfl (by rw [hC.2.2.1]; exact hl.1) rfl hd (by show 1 ≤ d + 1; omega) (by show 2 * 0 + ((S.map (gtr b)).map fun v => v.category).sum + 12 ≤ 64 * (d + 1) + 64; omega) (kk p l e s m args below meth c H locs ls b D cy hC hF hS hW hl)
end GCa
