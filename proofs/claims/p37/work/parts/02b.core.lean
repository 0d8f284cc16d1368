/-- the words that every method's contract takes -/
def gBIG : List Cond := lw_tbl.filter goodWord
theorem gAll : ∀ w ∈ gBIG, goodWord w = true := fun _ h => (List.mem_filter.mp h).2
theorem gTbl : ∀ w ∈ gBIG, w ∈ lw_tbl := fun _ h => (List.mem_filter.mp h).1
theorem gm_of {w : Cond} (h : w ∈ lw_tbl) (hg : goodWord w = true) : w ∈ gBIG := List.mem_filter.mpr ⟨h, hg⟩
theorem gm_at {l : List Cond} {w : Cond} (i : Nat) (h : (decide (l[i]? = some w) && goodWord w) = true) (hl : ∀ v ∈ l, v ∈ lw_tbl) : w ∈ gBIG := by
  simp only [Bool.and_eq_true, decide_eq_true_eq] at h
  exact gm_of (hl w (List.mem_of_getElem? h.1)) h.2
theorem gs0 : ∀ v ∈ k2_sels lw_privs, v ∈ lw_tbl := fun _ h => List.mem_append_left _ h
theorem gs1 : ∀ v ∈ tables_1_1, v ∈ lw_tbl := fun _ h => List.mem_append_right _ (List.mem_append_left _ h)
theorem gs2 : ∀ v ∈ tables_1_2, v ∈ lw_tbl := fun _ h => List.mem_append_right _ (List.mem_append_right _ (List.mem_append_left _ h))
theorem gs3 : ∀ v ∈ tables_1_3, v ∈ lw_tbl := fun _ h => List.mem_append_right _ (List.mem_append_right _ (List.mem_append_right _ (List.mem_append_left _ h)))
theorem gs4 : ∀ v ∈ tables_1_4, v ∈ lw_tbl := fun _ h => List.mem_append_right _ (List.mem_append_right _ (List.mem_append_right _ (List.mem_append_right _ (List.mem_append_left _ h))))
theorem gs5 : ∀ v ∈ tables_1_5, v ∈ lw_tbl := fun _ h => List.mem_append_right _ (List.mem_append_right _ (List.mem_append_right _ (List.mem_append_right _ (List.mem_append_right _ (List.mem_append_left _ h)))))
theorem gs6 : ∀ v ∈ tables_1_6, v ∈ lw_tbl := fun _ h => List.mem_append_right _ (List.mem_append_right _ (List.mem_append_right _ (List.mem_append_right _ (List.mem_append_right _ (List.mem_append_right _ (List.mem_append_left _ h))))))
theorem gs7 : ∀ v ∈ tables_1_7, v ∈ lw_tbl := fun _ h => List.mem_append_right _ (List.mem_append_right _ (List.mem_append_right _ (List.mem_append_right _ (List.mem_append_right _ (List.mem_append_right _ (List.mem_append_right _ (List.mem_append_left _ h)))))))
theorem gs8 : ∀ v ∈ tables_1_8, v ∈ lw_tbl := fun _ h => List.mem_append_right _ (List.mem_append_right _ (List.mem_append_right _ (List.mem_append_right _ (List.mem_append_right _ (List.mem_append_right _ (List.mem_append_right _ (List.mem_append_right _ h)))))))
theorem gu_in {C : String} {T : u_T} {N : Nat} (pl : List Nat) (h : ((List.range N).all fun k => decide (lw_tbl[pl.getD k 0]? = some (u_lay C T k)) && goodWord (u_lay C T k)) = true) : ∀ w ∈ u_ws C T N, w ∈ gBIG := by
  intro w hw
  obtain ⟨k, hk, rfl⟩ := List.mem_map.mp hw
  have h1 := List.all_eq_true.mp h k hk
  simp only [Bool.and_eq_true, decide_eq_true_eq] at h1
  exact gm_of (List.mem_of_getElem? h1.1) h1.2
/-! ===== what is so at every method's entry, and stays so ===== -/
def gTys (cy : Nat → ClassId) : List (ClassId × FieldType) := [(cy 0, .int), (cy 1, .boolean), (cy 2, .char), (cy 3, .object "IceKeys$Key"), (cy 4, .array .int)]
/-- links to private methods of nest mates -/
def gNest : List (String × Nat × MethodName × String) := [(RX11, 35, yX3_init, "IceKeys"), (RX11, 38, yX2_init, "IceKeys"), (RX2, 1, yX3_init, "IceKeys"), (RX11, 41, yX8_init, "IceKeys"), (RX8, 1, yX3_init, "IceKeys"), (RX11, 44, yX10_init, "IceKeys"), (RX10, 1, yX8_init, "IceKeys"), (RX11, 47, yX7_init, "IceKeys"), (RX7, 1, yX3_init, "IceKeys"), (RX11, 50, yX9_init, "IceKeys"), (RX9, 1, yX7_init, "IceKeys"), (RX1, 42, yX6_init, "IceKeys"), (RX11, 74, yX5_init, "IceKeys"), (RX5, 17, yX6_init, "IceKeys"), (RX11, 81, yX0_init, "IceKeys"), (RX6, 37, yX11_isOf, "IceKeys"), (RX5, 123, yX11_isIn, "IceKeys"), (RX11, 241, yX4_seek, "IceKeys"), (RX11, 260, yX4_fewest, "IceKeys"), (RX11, 264, yX4_reach, "IceKeys"), (RX11, 267, yX4_duel, "IceKeys"), (RX1, 172, yX11_isIn, "IceKeys")]
/-- an array over int[] -/
def gAO (U : State) : Prop := (Cond.arrayOver (.array .int)).before #[] U = true
theorem gAO.moved {u U : State} (hvm : u.vm.Alike U.vm) (h : gAO u) : gAO U := by
  obtain ⟨comp, c, k, h1, h2, h3, h4, h5⟩ := arrayOverA_spec h
  obtain ⟨k', hk', he⟩ := hvm.2.2 _ _ h3
  have e3 : U.vm.bare = u.vm.bare := by first | exact hvm.bare_eq | exact hvm.bare_eq.symm
  have e1 := va_idx_bare U.vm comp
  rw [e3] at e1
  have hi := e1.symm.trans ((va_idx_bare u.vm comp).trans h2)
  have hkind : k'.kind = .array comp (.array .int) := by rw [he]; exact h4
  have f1 : U.vm.findClass (FieldType.array .int).toString = some comp := by rw [hvm.findClass]; exact h1
  have f2 : U.vm.findClass ("[" ++ (FieldType.array .int).toString) = some c := by rw [hvm.findClass]; exact h5
  unfold gAO Cond.before Cond.holds
  simp only [Cond.value]
  rw [f1, Option.bind_some]
  refine (congrArg (fun o : Option Nat => (o.bind (fun c => (U.vm.classes[c]?).map fun (k : Class) => match k.kind with | .array _ ty => decide (ty = FieldType.array .int) && decide (U.vm.findClass ("[" ++ (FieldType.array .int).toString) = some c) | _ => false) == some true)) hi).trans ?_
  simp [hk', hkind, f2]
def gCast : List String := [RX2, RX7, RX8, RX9, RX10]
/-- the static row ABOVE, that nobody writes -/
def gabv : List Int32 := [-1, 0, 0, 2, 0, 4]
/-- the words of THE RULES, a String constant -/
def gwt : String := "key iron sleeve third salt spare turn carry chill halt teeth straw heat number if and or not "
def gwb : List Int32 := [107, 101, 121, 32, 105, 114, 111, 110, 32, 115, 108, 101, 101, 118, 101, 32, 116, 104, 105, 114, 100, 32, 115, 97, 108, 116, 32, 115, 112, 97, 114, 101, 32, 116, 117, 114, 110, 32, 99, 97, 114, 114, 121, 32, 99, 104, 105, 108, 108, 32, 104, 97, 108, 116, 32, 116, 101, 101, 116, 104, 32, 115, 116, 114, 97, 119, 32, 104, 101, 97, 116, 32, 110, 117, 109, 98, 101, 114, 32, 105, 102, 32, 97, 110, 100, 32, 111, 114, 32, 110, 111, 116, 32]
def gST (b : Nat) (s : State) : Prop := ∃ (t : Nat) (aK aV : Nat → Nat), va_Z "IceKeys" "ABOVE" "[I" (.ref t) (gA b) s s.heap ∧ va_T .int t 6 (fun j => .int (gabv.getD j 0)) (gA b) s s.heap ∧ va_Z "java/lang/String" "COMPACT_STRINGS" "Z" (.int 1) (gA b) s s.heap ∧ vk_S 1 [93] [gwb] aK aV (gA b) s s.heap ∧ vk_R "IceKeys$Reader" 77 gwt (aK 0) s ∧ va_Zq "jdk/internal/util/Preconditions" "SIOOBE_FORMATTER" "Ljava/util/function/BiFunction;" (gA b) s s.heap
theorem gST.moved {b : Nat} {s U : State} (h : gST b s) (hvm : s.vm.Alike U.vm) (hR : ∀ q : Nat, vk_R "IceKeys$Reader" 77 gwt q s → vk_R "IceKeys$Reader" 77 gwt q U) (hq : ∀ q : Nat, q < b → U.heap[q]? = s.heap[q]?) : gST b U := by
  obtain ⟨t, aK, aV, h1, h2, h3, h4, h5, h6⟩ := h
  have hk : ∀ a : Nat, a < s.heap.size → ¬ gA b a → U.heap[a]? = s.heap[a]? := fun a _ ha => hq a (Nat.not_le.mp ha)
  exact ⟨t, aK, aV, (va_Z.moved hvm h1).kept hk, (va_T.moved hvm h2).kept hk, (va_Z.moved hvm h3).kept hk, (vk_S.moved hvm h4).kept hk, hR _ h5, (va_Zq.moved hvm h6).kept hk⟩
def gFx (b : Nat) (D : va_G) (cy : Nat → ClassId) (s : State) : Prop :=
  b ≤ s.heap.size ∧ va_K D vwCl (gTys cy) s ∧ (∀ q ∈ gNest, va_Nw (.methodLinkNest q.1 q.2.1 q.2.2.1 q.2.2.2) s) ∧ va_AO "IceKeys$Key" s ∧ gAO s ∧ (∀ C ∈ gCast, va_Nw (.castable C "IceKeys$Key") s) ∧ gST b s
theorem gFx.moved {b : Nat} {D : va_G} {cy : Nat → ClassId} {s U : State} (hF : gFx b D cy s) (hW : s.WarmedH U.vm) (hb : b ≤ U.heap.size) (hq : ∀ q : Nat, q < b → U.heap[q]? = s.heap[q]?) : gFx b D cy U :=
  ⟨hb, va_K.moved hW.alike hF.2.1, fun q h => va_Nw.warmM hW (hF.2.2.1 q h), hF.2.2.2.1.moved hW.alike, hF.2.2.2.2.1.moved hW.alike, fun C h => va_Nw.warmC hW (hF.2.2.2.2.2.1 C h), hF.2.2.2.2.2.2.moved hW.alike (fun q => vk_R.warm hW) hq⟩
theorem gFx.same {b : Nat} {D : va_G} {cy : Nat → ClassId} {U U1 : State} (hv : U.vm = U1.vm) (hh : U.heap = U1.heap) (hF : gFx b D cy U) : gFx b D cy U1 :=
  ⟨by rw [← hh]; exact hF.1, va_K.moved (by rw [hv]; exact Vm.Alike.refl _) hF.2.1, fun q h => va_Nw.same rfl hv (hF.2.2.1 q h), hF.2.2.2.1.moved (by rw [hv]; exact Vm.Alike.refl _), hF.2.2.2.2.1.moved (by rw [hv]; exact Vm.Alike.refl _), fun C h => va_Nw.same rfl hv (hF.2.2.2.2.2.1 C h), hF.2.2.2.2.2.2.moved (by rw [hv]; exact Vm.Alike.refl _) (fun q => vk_R.same hv.symm) (fun q _ => by rw [hh])⟩
def gRm (d mc ms : Nat) : Room := { frames := d, cells := mc, slots := ms, locals := 64 * d + 64 }
def gQC (b : Nat) (D : va_G) (cy : Nat → ClassId) (Q : Option Value → gH → Prop) : Array Value → State → Outcome → State → Prop :=
  fun _ st o t => ∃ (r : Option Value) (h : gH), o = .returned (r.map (gtr b)) ∧ Q r h ∧ gWd b D cy h t.heap ∧ st.heap.size ≤ t.heap.size ∧ ∀ q : Nat, q < b → t.heap[q]? = st.heap[q]?
def gCx (M : gM) (p : Program) (s : State) (m : MethodId) (args : Array Value) (meth : Method) (c : Code) : Prop :=
  p.tables.exec = Jvm.exec ∧ c.code = M.2.1 ∧ c.maxLocals = M.2.2.1 ∧ meth.sig.returnType = M.2.2.2 ∧ meth.locks = false ∧ s.vm.findClass M.1.cls = some m.cls ∧ meth.name = M.1.name ∧ ∀ w ∈ gBIG, w.before args s = true
/-- from pc on, with locals L, stack S, heap h (k cells of n slots made so far), the method M comes to its end with Q; d frames are left for what it calls -/
def G (d : Nat) (M : gM) (mc ms k n pc : Nat) (L : gL) (S : List Value) (sh : List (Nat × Nat)) (R : gR) (I : gI) (Q : Option Value → gH → Prop) : Prop :=
  ∀ (p : Program) (l : Launch) (e : Env) (s : State) (m : MethodId) (args : Array Value) (below : List Frame) (meth : Method) (c : Code) (H : Heap) (locs : List Loc) (ls : Array Slot) (b : Nat) (D : va_G) (cy : Nat → ClassId),
    gCx M p s m args meth c → gFx b D cy s → va_S (gA b) s.heap H locs → gWd b D cy (sh, R, I) H → gLV b ls M.2.2.1 L →
    W p l e (gRm d mc ms) s m args below meth c H locs k n (MQ below (gQC b D cy Q) args s mc ms (gA b)) (F0 m pc ls (S.map (gtr b)))
theorem gA_old {b : Nat} {s : State} {H : Heap} {locs : List Loc} (hb : b ≤ s.heap.size) (hS : va_S (gA b) s.heap H locs) : ∀ q : Nat, q < b → H[q]? = s.heap[q]? :=
  fun q hq => hS.2.1 q (Nat.lt_of_lt_of_le hq hb) (fun z => absurd z (Nat.not_le.mpr hq))
section GR
variable {d : Nat} {M : gM} {mc ms k n pc : Nat} {L : gL} {S : List Value} {sh : List (Nat × Nat)} {R : gR} {I : gI} {Q : Option Value → gH → Prop}
theorem G_iconst {v : Int32} {z : Int} (hz : Int32.ofInt z = v) (hd : decode M.2.1 pc = .ok (.iconst z, 1)) (kk : G d M mc ms k n (pc + 1) L (.int v :: S) sh R I Q) : G d M mc ms k n pc L S sh R I Q := by
  intro p l e s m args below meth c H locs ls b D cy hC hF hS hW hl
  exact lv_iconst hC.1 hC.2.1 hd hz (kk p l e s m args below meth c H locs ls b D cy hC hF hS hW hl)
theorem G_bipush {v : Int32} {z : Int} (hz : (Int8.ofInt z).toInt32 = v) (hd : decode M.2.1 pc = .ok (.bipush z, 2)) (kk : G d M mc ms k n (pc + 2) L (.int v :: S) sh R I Q) : G d M mc ms k n pc L S sh R I Q := by
  intro p l e s m args below meth c H locs ls b D cy hC hF hS hW hl
  exact lv_bipush hC.1 hC.2.1 hd hz (kk p l e s m args below meth c H locs ls b D cy hC hF hS hW hl)
theorem G_sipush {v : Int32} {z : Int} (hz : (Int16.ofInt z).toInt32 = v) (hd : decode M.2.1 pc = .ok (.sipush z, 3)) (kk : G d M mc ms k n (pc + 3) L (.int v :: S) sh R I Q) : G d M mc ms k n pc L S sh R I Q := by
  intro p l e s m args below meth c H locs ls b D cy hC hF hS hW hl
  exact lv_sipush hC.1 hC.2.1 hd hz (kk p l e s m args below meth c H locs ls b D cy hC hF hS hW hl)
theorem G_ldc {v : Int32} {i : Nat} (hw : Cond.constant M.1.cls i v ∈ gBIG) (hd : decode M.2.1 pc = .ok (.ldc i, 2)) (kk : G d M mc ms k n (pc + 2) L (.int v :: S) sh R I Q) : G d M mc ms k n pc L S sh R I Q := by
  intro p l e s m args below meth c H locs ls b D cy hC hF hS hW hl
  exact lv_ldc hC.1 hC.2.1 hC.2.2.2.2.2.1 (hC.2.2.2.2.2.2.2 _ hw) hd (kk p l e s m args below meth c H locs ls b D cy hC hF hS hW hl)
theorem G_ldcw {v : Int32} {i : Nat} (hw : Cond.constant M.1.cls i v ∈ gBIG) (hd : decode M.2.1 pc = .ok (.ldc_w i, 3)) (kk : G d M mc ms k n (pc + 3) L (.int v :: S) sh R I Q) : G d M mc ms k n pc L S sh R I Q := by
  intro p l e s m args below meth c H locs ls b D cy hC hF hS hW hl
  exact lv_ldcw hC.1 hC.2.1 hC.2.2.2.2.2.1 (hC.2.2.2.2.2.2.2 _ hw) hd (kk p l e s m args below meth c H locs ls b D cy hC hF hS hW hl)
theorem G_iload {i : Nat} {x : Int32} (hL : L[i]? = some (some (.int x))) (hd : decode M.2.1 pc = .ok (.iload i, 2)) (kk : G d M mc ms k n (pc + 2) L (.int x :: S) sh R I Q) : G d M mc ms k n pc L S sh R I Q := by
  intro p l e s m args below meth c H locs ls b D cy hC hF hS hW hl
  exact lv_iload hC.1 hC.2.1 hd (gLV_at hl hL) (kk p l e s m args below meth c H locs ls b D cy hC hF hS hW hl)
theorem G_iload_n {i : Fin 4} {x : Int32} (hL : L[i.val]? = some (some (.int x))) (hd : decode M.2.1 pc = .ok (.iload_n i, 1)) (kk : G d M mc ms k n (pc + 1) L (.int x :: S) sh R I Q) : G d M mc ms k n pc L S sh R I Q := by
  intro p l e s m args below meth c H locs ls b D cy hC hF hS hW hl
  exact lv_iload_n hC.1 hC.2.1 hd rfl (gLV_at hl hL) (kk p l e s m args below meth c H locs ls b D cy hC hF hS hW hl)
theorem G_lload_n {i : Fin 4} {x : Int64} (hL : L[i.val]? = some (some (.long x))) (hd : decode M.2.1 pc = .ok (.lload_n i, 1)) (kk : G d M mc ms k n (pc + 1) L (.long x :: S) sh R I Q) : G d M mc ms k n pc L S sh R I Q := by
  intro p l e s m args below meth c H locs ls b D cy hC hF hS hW hl
  exact lv_lload_n hC.1 hC.2.1 hd rfl (gLV_at hl hL) (kk p l e s m args below meth c H locs ls b D cy hC hF hS hW hl)
theorem G_aload {i : Nat} {x : Nat} (hL : L[i]? = some (some (.ref x))) (hd : decode M.2.1 pc = .ok (.aload i, 2)) (kk : G d M mc ms k n (pc + 2) L (.ref x :: S) sh R I Q) : G d M mc ms k n pc L S sh R I Q := by
  intro p l e s m args below meth c H locs ls b D cy hC hF hS hW hl
  exact lv_aload hC.1 hC.2.1 hd (gLV_at hl hL) (kk p l e s m args below meth c H locs ls b D cy hC hF hS hW hl)
theorem G_aload_n {i : Fin 4} {x : Nat} (hL : L[i.val]? = some (some (.ref x))) (hd : decode M.2.1 pc = .ok (.aload_n i, 1)) (kk : G d M mc ms k n (pc + 1) L (.ref x :: S) sh R I Q) : G d M mc ms k n pc L S sh R I Q := by
  intro p l e s m args below meth c H locs ls b D cy hC hF hS hW hl
  exact lv_aload_n hC.1 hC.2.1 hd rfl (gLV_at hl hL) (kk p l e s m args below meth c H locs ls b D cy hC hF hS hW hl)
theorem G_istore {i : Nat} {x : Int32} {L1 : gL} (hL1 : L.set i (some (.int x)) = L1) (hg : gnl L i = true) (hi : i < M.2.2.1) (hd : decode M.2.1 pc = .ok (.istore i, 2)) (kk : G d M mc ms k n (pc + 2) L1 S sh R I Q) : G d M mc ms k n pc L (.int x :: S) sh R I Q := by
  subst hL1
  intro p l e s m args below meth c H locs ls b D cy hC hF hS hW hl
  exact lv_istore hC.1 hC.2.1 hd hl hi rfl (fun ls' hl' => kk p l e s m args below meth c H locs ls' b D cy hC hF hS hW (gLV_set hg hl'))
theorem G_istore_n {i : Fin 4} {x : Int32} {L1 : gL} (hL1 : L.set i.val (some (.int x)) = L1) (hg : gnl L i.val = true) (hi : i.val < M.2.2.1) (hd : decode M.2.1 pc = .ok (.istore_n i, 1)) (kk : G d M mc ms k n (pc + 1) L1 S sh R I Q) : G d M mc ms k n pc L (.int x :: S) sh R I Q := by
  subst hL1
  intro p l e s m args below meth c H locs ls b D cy hC hF hS hW hl
  exact lv_istore_n hC.1 hC.2.1 hd rfl hl hi rfl (fun ls' hl' => kk p l e s m args below meth c H locs ls' b D cy hC hF hS hW (gLV_set hg hl'))
theorem G_astore {i : Nat} {x : Nat} {L1 : gL} (hL1 : L.set i (some (.ref x)) = L1) (hg : gnl L i = true) (hi : i < M.2.2.1) (hd : decode M.2.1 pc = .ok (.astore i, 2)) (kk : G d M mc ms k n (pc + 2) L1 S sh R I Q) : G d M mc ms k n pc L (.ref x :: S) sh R I Q := by
  subst hL1
  intro p l e s m args below meth c H locs ls b D cy hC hF hS hW hl
  exact lv_astore hC.1 hC.2.1 hd hl hi rfl (fun ls' hl' => kk p l e s m args below meth c H locs ls' b D cy hC hF hS hW (gLV_set (v := .ref x) hg hl'))
theorem G_astore_n {i : Fin 4} {x : Nat} {L1 : gL} (hL1 : L.set i.val (some (.ref x)) = L1) (hg : gnl L i.val = true) (hi : i.val < M.2.2.1) (hd : decode M.2.1 pc = .ok (.astore_n i, 1)) (kk : G d M mc ms k n (pc + 1) L1 S sh R I Q) : G d M mc ms k n pc L (.ref x :: S) sh R I Q := by
  subst hL1
  intro p l e s m args below meth c H locs ls b D cy hC hF hS hW hl
  exact lv_astore_n hC.1 hC.2.1 hd rfl hl hi rfl (fun ls' hl' => kk p l e s m args below meth c H locs ls' b D cy hC hF hS hW (gLV_set (v := .ref x) hg hl'))
theorem G_iinc {i : Nat} {x v w : Int32} {z : Int} {L1 : gL} (hw : x + v = w) (hL1 : L.set i (some (.int w)) = L1) (hL : L[i]? = some (some (.int x))) (hz : Int32.ofInt z = v) (hg : gnl L i = true) (hi : i < M.2.2.1) (hd : decode M.2.1 pc = .ok (.iinc i z, 3)) (kk : G d M mc ms k n (pc + 3) L1 S sh R I Q) : G d M mc ms k n pc L S sh R I Q := by
  subst hL1
  subst hw
  intro p l e s m args below meth c H locs ls b D cy hC hF hS hW hl
  subst hz
  obtain ⟨j, hj⟩ := List.getElem?_of_mem (gal_mem.mpr ⟨i, .int x, hL, rfl⟩ : (i, gtr b (.int x)) ∈ gal b L)
  exact lv_iinc hC.1 hC.2.1 hd hl hj rfl hi rfl (fun ls' hl' => kk p l e s m args below meth c H locs ls' b D cy hC hF hS hW (gLV_set hg hl'))
theorem G_iadd {x y z : Int32} (hz : x + y = z) (hd : decode M.2.1 pc = .ok (.iadd, 1)) (kk : G d M mc ms k n (pc + 1) L (.int z :: S) sh R I Q) : G d M mc ms k n pc L (.int y :: .int x :: S) sh R I Q := by
  subst hz
  intro p l e s m args below meth c H locs ls b D cy hC hF hS hW hl
  exact lv_iadd hC.1 hC.2.1 hd (kk p l e s m args below meth c H locs ls b D cy hC hF hS hW hl)
theorem G_isub {x y z : Int32} (hz : x - y = z) (hd : decode M.2.1 pc = .ok (.isub, 1)) (kk : G d M mc ms k n (pc + 1) L (.int z :: S) sh R I Q) : G d M mc ms k n pc L (.int y :: .int x :: S) sh R I Q := by
  subst hz
  intro p l e s m args below meth c H locs ls b D cy hC hF hS hW hl
  exact lv_isub hC.1 hC.2.1 hd (kk p l e s m args below meth c H locs ls b D cy hC hF hS hW hl)
theorem G_imul {x y z : Int32} (hz : x * y = z) (hd : decode M.2.1 pc = .ok (.imul, 1)) (kk : G d M mc ms k n (pc + 1) L (.int z :: S) sh R I Q) : G d M mc ms k n pc L (.int y :: .int x :: S) sh R I Q := by
  subst hz
  intro p l e s m args below meth c H locs ls b D cy hC hF hS hW hl
  exact lv_imul hC.1 hC.2.1 hd (kk p l e s m args below meth c H locs ls b D cy hC hF hS hW hl)
theorem G_iand {x y z : Int32} (hz : x &&& y = z) (hd : decode M.2.1 pc = .ok (.iand, 1)) (kk : G d M mc ms k n (pc + 1) L (.int z :: S) sh R I Q) : G d M mc ms k n pc L (.int y :: .int x :: S) sh R I Q := by
  subst hz
  intro p l e s m args below meth c H locs ls b D cy hC hF hS hW hl
  exact lv_iand hC.1 hC.2.1 hd (kk p l e s m args below meth c H locs ls b D cy hC hF hS hW hl)
theorem G_ior {x y z : Int32} (hz : x ||| y = z) (hd : decode M.2.1 pc = .ok (.ior, 1)) (kk : G d M mc ms k n (pc + 1) L (.int z :: S) sh R I Q) : G d M mc ms k n pc L (.int y :: .int x :: S) sh R I Q := by
  subst hz
  intro p l e s m args below meth c H locs ls b D cy hC hF hS hW hl
  exact lv_ior hC.1 hC.2.1 hd (kk p l e s m args below meth c H locs ls b D cy hC hF hS hW hl)
theorem G_ixor {x y z : Int32} (hz : x ^^^ y = z) (hd : decode M.2.1 pc = .ok (.ixor, 1)) (kk : G d M mc ms k n (pc + 1) L (.int z :: S) sh R I Q) : G d M mc ms k n pc L (.int y :: .int x :: S) sh R I Q := by
  subst hz
  intro p l e s m args below meth c H locs ls b D cy hC hF hS hW hl
  exact lv_ixor hC.1 hC.2.1 hd (kk p l e s m args below meth c H locs ls b D cy hC hF hS hW hl)
theorem G_ishl {x y z : Int32} (hz : x <<< (y &&& 31) = z) (hd : decode M.2.1 pc = .ok (.ishl, 1)) (kk : G d M mc ms k n (pc + 1) L (.int z :: S) sh R I Q) : G d M mc ms k n pc L (.int y :: .int x :: S) sh R I Q := by
  subst hz
  intro p l e s m args below meth c H locs ls b D cy hC hF hS hW hl
  exact lv_ishl hC.1 hC.2.1 hd (kk p l e s m args below meth c H locs ls b D cy hC hF hS hW hl)
theorem G_ishr {x y z : Int32} (hz : x >>> (y &&& 31) = z) (hd : decode M.2.1 pc = .ok (.ishr, 1)) (kk : G d M mc ms k n (pc + 1) L (.int z :: S) sh R I Q) : G d M mc ms k n pc L (.int y :: .int x :: S) sh R I Q := by
  subst hz
  intro p l e s m args below meth c H locs ls b D cy hC hF hS hW hl
  exact lv_ishr hC.1 hC.2.1 hd (kk p l e s m args below meth c H locs ls b D cy hC hF hS hW hl)
theorem G_iushr {x y : Int32} {zz : Value} (hz : Value.int ((x.toUInt32 >>> (y.toUInt32 &&& Int32.toUInt32 31)).toInt32) = zz) (hd : decode M.2.1 pc = .ok (.iushr, 1)) (kk : G d M mc ms k n (pc + 1) L (zz :: S) sh R I Q) : G d M mc ms k n pc L (.int y :: .int x :: S) sh R I Q := by
  subst hz
  intro p l e s m args below meth c H locs ls b D cy hC hF hS hW hl
  exact lv_iushr hC.1 hC.2.1 hd rfl (kk p l e s m args below meth c H locs ls b D cy hC hF hS hW hl)
theorem G_i2l {x : Int32} {zz : Value} (hz : Value.long x.toInt64 = zz) (hd : decode M.2.1 pc = .ok (.i2l, 1)) (kk : G d M mc ms k n (pc + 1) L (zz :: S) sh R I Q) : G d M mc ms k n pc L (.int x :: S) sh R I Q := by
  subst hz
  intro p l e s m args below meth c H locs ls b D cy hC hF hS hW hl
  exact lv_i2l hC.1 hC.2.1 hd rfl (kk p l e s m args below meth c H locs ls b D cy hC hF hS hW hl)
theorem G_l2i {x : Int64} {zz : Value} (hz : Value.int x.toInt32 = zz) (hd : decode M.2.1 pc = .ok (.l2i, 1)) (kk : G d M mc ms k n (pc + 1) L (zz :: S) sh R I Q) : G d M mc ms k n pc L (.long x :: S) sh R I Q := by
  subst hz
  intro p l e s m args below meth c H locs ls b D cy hC hF hS hW hl
  exact lv_l2i hC.1 hC.2.1 hd rfl (kk p l e s m args below meth c H locs ls b D cy hC hF hS hW hl)
theorem G_i2b {x : Int32} {zz : Value} (hz : Value.int x.toInt8.toInt32 = zz) (hd : decode M.2.1 pc = .ok (.i2b, 1)) (kk : G d M mc ms k n (pc + 1) L (zz :: S) sh R I Q) : G d M mc ms k n pc L (.int x :: S) sh R I Q := by
  subst hz
  intro p l e s m args below meth c H locs ls b D cy hC hF hS hW hl
  exact lv_i2b hC.1 hC.2.1 hd rfl (kk p l e s m args below meth c H locs ls b D cy hC hF hS hW hl)
theorem G_i2s {x : Int32} {zz : Value} (hz : Value.int x.toInt16.toInt32 = zz) (hd : decode M.2.1 pc = .ok (.i2s, 1)) (kk : G d M mc ms k n (pc + 1) L (zz :: S) sh R I Q) : G d M mc ms k n pc L (.int x :: S) sh R I Q := by
  subst hz
  intro p l e s m args below meth c H locs ls b D cy hC hF hS hW hl
  exact lv_i2s hC.1 hC.2.1 hd rfl (kk p l e s m args below meth c H locs ls b D cy hC hF hS hW hl)
theorem G_lushr {x : Int64} {y : Int32} {zz : Value} (hz : Value.long ((x.toUInt64 >>> (y.toInt64.toUInt64 &&& Int64.toUInt64 63)).toInt64) = zz) (hd : decode M.2.1 pc = .ok (.lushr, 1)) (kk : G d M mc ms k n (pc + 1) L (zz :: S) sh R I Q) : G d M mc ms k n pc L (.int y :: .long x :: S) sh R I Q := by
  subst hz
  intro p l e s m args below meth c H locs ls b D cy hC hF hS hW hl
  exact lv_lushr hC.1 hC.2.1 hd rfl (kk p l e s m args below meth c H locs ls b D cy hC hF hS hW hl)
theorem G_lshr {x : Int64} {y : Int32} {zz : Value} (hz : Value.long (x >>> (y.toInt64 &&& 63)) = zz) (hd : decode M.2.1 pc = .ok (.lshr, 1)) (kk : G d M mc ms k n (pc + 1) L (zz :: S) sh R I Q) : G d M mc ms k n pc L (.int y :: .long x :: S) sh R I Q := by
  subst hz
  intro p l e s m args below meth c H locs ls b D cy hC hF hS hW hl
  exact lv_lshr hC.1 hC.2.1 hd rfl (kk p l e s m args below meth c H locs ls b D cy hC hF hS hW hl)
theorem G_ineg {x : Int32} {zz : Value} (hz : Value.int (-x) = zz) (hd : decode M.2.1 pc = .ok (.ineg, 1)) (kk : G d M mc ms k n (pc + 1) L (zz :: S) sh R I Q) : G d M mc ms k n pc L (.int x :: S) sh R I Q := by
  subst hz
  intro p l e s m args below meth c H locs ls b D cy hC hF hS hW hl
  exact lv_ineg hC.1 hC.2.1 hd (kk p l e s m args below meth c H locs ls b D cy hC hF hS hW hl)
theorem G_land {x y : Int64} {zz : Value} (hz : Value.long (x &&& y) = zz) (hd : decode M.2.1 pc = .ok (.land, 1)) (kk : G d M mc ms k n (pc + 1) L (zz :: S) sh R I Q) : G d M mc ms k n pc L (.long y :: .long x :: S) sh R I Q := by
  subst hz
  intro p l e s m args below meth c H locs ls b D cy hC hF hS hW hl
  exact lv_land hC.1 hC.2.1 hd (kk p l e s m args below meth c H locs ls b D cy hC hF hS hW hl)
theorem G_idiv {x y z : Int32} (hz : x / y = z) (hy : ¬ y = 0) (hd : decode M.2.1 pc = .ok (.idiv, 1)) (kk : G d M mc ms k n (pc + 1) L (.int z :: S) sh R I Q) : G d M mc ms k n pc L (.int y :: .int x :: S) sh R I Q := by
  subst hz
  intro p l e s m args below meth c H locs ls b D cy hC hF hS hW hl
  exact lv_idiv hC.1 hC.2.1 hd hy (kk p l e s m args below meth c H locs ls b D cy hC hF hS hW hl)
theorem G_irem {x y z : Int32} (hz : x - x / y * y = z) (hy : ¬ y = 0) (hd : decode M.2.1 pc = .ok (.irem, 1)) (kk : G d M mc ms k n (pc + 1) L (.int z :: S) sh R I Q) : G d M mc ms k n pc L (.int y :: .int x :: S) sh R I Q := by
  subst hz
  intro p l e s m args below meth c H locs ls b D cy hC hF hS hW hl
  exact lv_irem hC.1 hC.2.1 hd hy (kk p l e s m args below meth c H locs ls b D cy hC hF hS hW hl)
theorem G_dup {v : Value} (hv : v.category = 1) (hd : decode M.2.1 pc = .ok (.dup, 1)) (kk : G d M mc ms k n (pc + 1) L (v :: v :: S) sh R I Q) : G d M mc ms k n pc L (v :: S) sh R I Q := by
  intro p l e s m args below meth c H locs ls b D cy hC hF hS hW hl
  exact lv_dup hC.1 hC.2.1 hd (by rw [gtr_cat]; exact hv) (kk p l e s m args below meth c H locs ls b D cy hC hF hS hW hl)
theorem G_dup2 {v w : Value} (hv : v.category = 1) (hw : w.category = 1) (hd : decode M.2.1 pc = .ok (.dup2, 1)) (kk : G d M mc ms k n (pc + 1) L (v :: w :: v :: w :: S) sh R I Q) : G d M mc ms k n pc L (v :: w :: S) sh R I Q := by
  intro p l e s m args below meth c H locs ls b D cy hC hF hS hW hl
  exact lv_dup2_11 hC.1 hC.2.1 hd (by rw [gtr_cat]; exact hv) (by rw [gtr_cat]; exact hw) (kk p l e s m args below meth c H locs ls b D cy hC hF hS hW hl)
theorem G_pop {v : Value} (hv : v.category = 1) (hd : decode M.2.1 pc = .ok (.pop, 1)) (kk : G d M mc ms k n (pc + 1) L S sh R I Q) : G d M mc ms k n pc L (v :: S) sh R I Q := by
  intro p l e s m args below meth c H locs ls b D cy hC hF hS hW hl
  exact lv_pop hC.1 hC.2.1 hd (by rw [gtr_cat]; exact hv) (kk p l e s m args below meth c H locs ls b D cy hC hF hS hW hl)
theorem G_goto {off : Int} {tgt : Nat} (ht : (pc : Int) + off = (tgt : Int)) (hd : decode M.2.1 pc = .ok (.goto off, 3)) (kk : G d M mc ms k n tgt L S sh R I Q) : G d M mc ms k n pc L S sh R I Q := by
  intro p l e s m args below meth c H locs ls b D cy hC hF hS hW hl
  exact lv_goto hC.1 hC.2.1 hd ht (kk p l e s m args below meth c H locs ls b D cy hC hF hS hW hl)
theorem G_if_eq {x : Int32} {off : Int} {tgt : Nat} (ht : (pc : Int) + off = (tgt : Int)) (hd : decode M.2.1 pc = .ok (.ifCond .eq off, 3)) (kt : x = 0 → G d M mc ms k n tgt L S sh R I Q) (kf : ¬ x = 0 → G d M mc ms k n (pc + 3) L S sh R I Q) : G d M mc ms k n pc L (.int x :: S) sh R I Q := by
  intro p l e s m args below meth c H locs ls b D cy hC hF hS hW hl
  exact lv_if_eq hC.1 hC.2.1 hd ht (fun z => kt z p l e s m args below meth c H locs ls b D cy hC hF hS hW hl) (fun z => kf z p l e s m args below meth c H locs ls b D cy hC hF hS hW hl)
theorem G_icmp_eq {x y : Int32} {off : Int} {tgt : Nat} (ht : (pc : Int) + off = (tgt : Int)) (hd : decode M.2.1 pc = .ok (.if_icmp .eq off, 3)) (kt : x = y → G d M mc ms k n tgt L S sh R I Q) (kf : ¬ x = y → G d M mc ms k n (pc + 3) L S sh R I Q) : G d M mc ms k n pc L (.int y :: .int x :: S) sh R I Q := by
  intro p l e s m args below meth c H locs ls b D cy hC hF hS hW hl
  exact lv_icmp_eq hC.1 hC.2.1 hd ht (fun z => kt z p l e s m args below meth c H locs ls b D cy hC hF hS hW hl) (fun z => kf z p l e s m args below meth c H locs ls b D cy hC hF hS hW hl)
theorem G_if_ne {x : Int32} {off : Int} {tgt : Nat} (ht : (pc : Int) + off = (tgt : Int)) (hd : decode M.2.1 pc = .ok (.ifCond .ne off, 3)) (kt : ¬ x = 0 → G d M mc ms k n tgt L S sh R I Q) (kf : x = 0 → G d M mc ms k n (pc + 3) L S sh R I Q) : G d M mc ms k n pc L (.int x :: S) sh R I Q := by
  intro p l e s m args below meth c H locs ls b D cy hC hF hS hW hl
  exact lv_if_ne hC.1 hC.2.1 hd ht (fun z => kt z p l e s m args below meth c H locs ls b D cy hC hF hS hW hl) (fun z => kf z p l e s m args below meth c H locs ls b D cy hC hF hS hW hl)
theorem G_icmp_ne {x y : Int32} {off : Int} {tgt : Nat} (ht : (pc : Int) + off = (tgt : Int)) (hd : decode M.2.1 pc = .ok (.if_icmp .ne off, 3)) (kt : ¬ x = y → G d M mc ms k n tgt L S sh R I Q) (kf : x = y → G d M mc ms k n (pc + 3) L S sh R I Q) : G d M mc ms k n pc L (.int y :: .int x :: S) sh R I Q := by
  intro p l e s m args below meth c H locs ls b D cy hC hF hS hW hl
  exact lv_icmp_ne hC.1 hC.2.1 hd ht (fun z => kt z p l e s m args below meth c H locs ls b D cy hC hF hS hW hl) (fun z => kf z p l e s m args below meth c H locs ls b D cy hC hF hS hW hl)
theorem G_if_lt {x : Int32} {off : Int} {tgt : Nat} (ht : (pc : Int) + off = (tgt : Int)) (hd : decode M.2.1 pc = .ok (.ifCond .lt off, 3)) (kt : x < 0 → G d M mc ms k n tgt L S sh R I Q) (kf : ¬ x < 0 → G d M mc ms k n (pc + 3) L S sh R I Q) : G d M mc ms k n pc L (.int x :: S) sh R I Q := by
  intro p l e s m args below meth c H locs ls b D cy hC hF hS hW hl
  exact lv_if_lt hC.1 hC.2.1 hd ht (fun z => kt z p l e s m args below meth c H locs ls b D cy hC hF hS hW hl) (fun z => kf z p l e s m args below meth c H locs ls b D cy hC hF hS hW hl)
theorem G_icmp_lt {x y : Int32} {off : Int} {tgt : Nat} (ht : (pc : Int) + off = (tgt : Int)) (hd : decode M.2.1 pc = .ok (.if_icmp .lt off, 3)) (kt : x < y → G d M mc ms k n tgt L S sh R I Q) (kf : ¬ x < y → G d M mc ms k n (pc + 3) L S sh R I Q) : G d M mc ms k n pc L (.int y :: .int x :: S) sh R I Q := by
  intro p l e s m args below meth c H locs ls b D cy hC hF hS hW hl
  exact lv_icmp_lt hC.1 hC.2.1 hd ht (fun z => kt z p l e s m args below meth c H locs ls b D cy hC hF hS hW hl) (fun z => kf z p l e s m args below meth c H locs ls b D cy hC hF hS hW hl)
theorem G_if_ge {x : Int32} {off : Int} {tgt : Nat} (ht : (pc : Int) + off = (tgt : Int)) (hd : decode M.2.1 pc = .ok (.ifCond .ge off, 3)) (kt : 0 ≤ x → G d M mc ms k n tgt L S sh R I Q) (kf : ¬ 0 ≤ x → G d M mc ms k n (pc + 3) L S sh R I Q) : G d M mc ms k n pc L (.int x :: S) sh R I Q := by
  intro p l e s m args below meth c H locs ls b D cy hC hF hS hW hl
  exact lv_if_ge hC.1 hC.2.1 hd ht (fun z => kt z p l e s m args below meth c H locs ls b D cy hC hF hS hW hl) (fun z => kf z p l e s m args below meth c H locs ls b D cy hC hF hS hW hl)
theorem G_icmp_ge {x y : Int32} {off : Int} {tgt : Nat} (ht : (pc : Int) + off = (tgt : Int)) (hd : decode M.2.1 pc = .ok (.if_icmp .ge off, 3)) (kt : y ≤ x → G d M mc ms k n tgt L S sh R I Q) (kf : ¬ y ≤ x → G d M mc ms k n (pc + 3) L S sh R I Q) : G d M mc ms k n pc L (.int y :: .int x :: S) sh R I Q := by
  intro p l e s m args below meth c H locs ls b D cy hC hF hS hW hl
  exact lv_icmp_ge hC.1 hC.2.1 hd ht (fun z => kt z p l e s m args below meth c H locs ls b D cy hC hF hS hW hl) (fun z => kf z p l e s m args below meth c H locs ls b D cy hC hF hS hW hl)
theorem G_if_gt {x : Int32} {off : Int} {tgt : Nat} (ht : (pc : Int) + off = (tgt : Int)) (hd : decode M.2.1 pc = .ok (.ifCond .gt off, 3)) (kt : 0 < x → G d M mc ms k n tgt L S sh R I Q) (kf : ¬ 0 < x → G d M mc ms k n (pc + 3) L S sh R I Q) : G d M mc ms k n pc L (.int x :: S) sh R I Q := by
  intro p l e s m args below meth c H locs ls b D cy hC hF hS hW hl
  exact lv_if_gt hC.1 hC.2.1 hd ht (fun z => kt z p l e s m args below meth c H locs ls b D cy hC hF hS hW hl) (fun z => kf z p l e s m args below meth c H locs ls b D cy hC hF hS hW hl)
theorem G_icmp_gt {x y : Int32} {off : Int} {tgt : Nat} (ht : (pc : Int) + off = (tgt : Int)) (hd : decode M.2.1 pc = .ok (.if_icmp .gt off, 3)) (kt : y < x → G d M mc ms k n tgt L S sh R I Q) (kf : ¬ y < x → G d M mc ms k n (pc + 3) L S sh R I Q) : G d M mc ms k n pc L (.int y :: .int x :: S) sh R I Q := by
  intro p l e s m args below meth c H locs ls b D cy hC hF hS hW hl
  exact lv_icmp_gt hC.1 hC.2.1 hd ht (fun z => kt z p l e s m args below meth c H locs ls b D cy hC hF hS hW hl) (fun z => kf z p l e s m args below meth c H locs ls b D cy hC hF hS hW hl)
theorem G_if_le {x : Int32} {off : Int} {tgt : Nat} (ht : (pc : Int) + off = (tgt : Int)) (hd : decode M.2.1 pc = .ok (.ifCond .le off, 3)) (kt : x ≤ 0 → G d M mc ms k n tgt L S sh R I Q) (kf : ¬ x ≤ 0 → G d M mc ms k n (pc + 3) L S sh R I Q) : G d M mc ms k n pc L (.int x :: S) sh R I Q := by
  intro p l e s m args below meth c H locs ls b D cy hC hF hS hW hl
  exact lv_if_le hC.1 hC.2.1 hd ht (fun z => kt z p l e s m args below meth c H locs ls b D cy hC hF hS hW hl) (fun z => kf z p l e s m args below meth c H locs ls b D cy hC hF hS hW hl)
theorem G_icmp_le {x y : Int32} {off : Int} {tgt : Nat} (ht : (pc : Int) + off = (tgt : Int)) (hd : decode M.2.1 pc = .ok (.if_icmp .le off, 3)) (kt : x ≤ y → G d M mc ms k n tgt L S sh R I Q) (kf : ¬ x ≤ y → G d M mc ms k n (pc + 3) L S sh R I Q) : G d M mc ms k n pc L (.int y :: .int x :: S) sh R I Q := by
  intro p l e s m args below meth c H locs ls b D cy hC hF hS hW hl
  exact lv_icmp_le hC.1 hC.2.1 hd ht (fun z => kt z p l e s m args below meth c H locs ls b D cy hC hF hS hW hl) (fun z => kf z p l e s m args below meth c H locs ls b D cy hC hF hS hW hl)
end GR
theorem inlX0 : ∀ w ∈ u_ws RX0 TX0 5, w ∈ gBIG := gu_in [386, 388, 390, 392, 394] (by decide +kernel)
theorem inlX1 : ∀ w ∈ u_ws RX1 TX1 19, w ∈ gBIG := gu_in [250, 252, 254, 256, 258, 260, 262, 264, 266, 268, 270, 272, 274, 276, 278, 280, 282, 284, 286] (by decide +kernel)
theorem inlX2 : ∀ w ∈ u_ws RX2 TX2 0, w ∈ gBIG := gu_in [] (by decide +kernel)
theorem inlX3 : ∀ w ∈ u_ws RX3 TX3 0, w ∈ gBIG := gu_in [] (by decide +kernel)
theorem inlX4 : ∀ w ∈ u_ws RX4 TX4 4, w ∈ gBIG := gu_in [302, 304, 306, 308] (by decide +kernel)
theorem inlX5 : ∀ w ∈ u_ws RX5 TX5 15, w ∈ gBIG := gu_in [336, 338, 340, 342, 344, 346, 348, 350, 352, 354, 356, 358, 360, 362, 364] (by decide +kernel)
theorem inlX6 : ∀ w ∈ u_ws RX6 TX6 6, w ∈ gBIG := gu_in [199, 201, 203, 205, 207, 209] (by decide +kernel)
theorem inlX7 : ∀ w ∈ u_ws RX7 TX7 0, w ∈ gBIG := gu_in [] (by decide +kernel)
theorem inlX8 : ∀ w ∈ u_ws RX8 TX8 0, w ∈ gBIG := gu_in [] (by decide +kernel)
theorem inlX9 : ∀ w ∈ u_ws RX9 TX9 0, w ∈ gBIG := gu_in [] (by decide +kernel)
theorem inlX10 : ∀ w ∈ u_ws RX10 TX10 0, w ∈ gBIG := gu_in [] (by decide +kernel)
theorem inlX11 : ∀ w ∈ u_ws RX11 TX11 14, w ∈ gBIG := gu_in [411, 413, 415, 417, 419, 421, 423, 425, 427, 429, 431, 433, 435, 437] (by decide +kernel)
theorem inlX12 : ∀ w ∈ u_ws RX12 TX12 37, w ∈ gBIG := gu_in [1275, 1277, 1279, 1281, 1283, 1285, 1287, 1289, 1291, 1293, 1295, 1297, 1299, 1301, 1303, 1305, 1307, 1309, 1311, 1313, 1315, 1317, 1319, 1321, 1323, 1325, 1327, 1329, 1331, 1333, 1335, 1337, 1339, 1341, 1343, 1345, 1347] (by decide +kernel)
