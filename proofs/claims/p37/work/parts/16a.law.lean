/-! THE CLAIM OUT OF ONE WALK OF THE LAW'S BODY. Your part is whole_start (and what it stands on); all else here is the same for every law, but numbers. -/
def R_law : String := "IceKeysLaw"
def lw_P (b : Addr) (xs : List Int32) (args : Array Value) (s : State) : Prop := args = #[.ref b] ∧ s.IntsAt b xs ∧ xs.length ≤ 2560 ∧ (Jvm.Cond.and given_1 narrow_1).before args s = true
def lw_Q (_ : Array Value) (s : State) (o : Outcome) (t : State) : Prop := o = .returned (some (.int 1)) ∧ Framed s o t [] 600000 7302250
def lw_Z (below : List Frame) (a : Array Value) (s : State) : State → Prop := fun t => ∃ o, t.status = .running ∧ Ended t below o ∧ lw_Q a s o t
/-- the law's own end, with 1 on the stack, nothing written that was there before, its room as the claim has it -/
theorem lw_ret {p : Program} {l : Launch} {e : Env} {s : State} {m : MethodId} {below : List Frame} {meth : Method} {c : Code} {b : Nat} (hx : p.tables.exec = Jvm.exec) (hb : c.code = code) (hr : meth.sig.returnType = ret) (hlocks : meth.locks = false) {pc : Nat} {H : Heap} {ls : Array Slot} (hdg : decode code pc = .ok (.ireturn, 1)) : W p l e room_1 s m #[Value.ref b] below meth c H [] 600000 7302250 (lw_Z below #[Value.ref b] s) (F0 m pc ls [.int 1]) := by
  intro T hT X
  obtain ⟨fs, hret, hrun, hended, hW, hframe⟩ := X.leave (v := some (.int 1)) (hlocks := hlocks) (fun h => by rw [hr] at h; cases h)
  have hmeth' : T.vm.method? m = some meth := X.method'
  refine ⟨T.setFrames fs, ?_, .returned (some (.int 1)), hrun, hended, rfl, ⟨_, rfl⟩, hW, hframe⟩
  jvm_step X.here [X.here.top, hx, hb, hdg, hmeth', hr, ret, narrow_b1]
  (try refine ⟨rfl, ?_⟩); (try refine ⟨rfl, ?_⟩)
  first | (intro acts; rw [hret _ acts rfl rfl rfl]) | rw [hret _ _ rfl rfl rfl]
  exact Steps.refl _
/-- what holds at the law's entry: the machine, the code, the tables' words (any of lw_tbl by 'hts w (by decide +kernel)'), the script of L ints xs at the cell b, what the Statement gives of the start (any of its parts by flat_of_before) -/
def lw_At (p : Program) (s : State) (m : MethodId) (meth : Method) (c : Code) (b L : Nat) (xs : Nat → Int32) : Prop :=
  p.tables.exec = Jvm.exec ∧ c.code = code ∧ meth.sig.returnType = ret ∧ c.maxLocals = 4 ∧ s.vm.findClass R_law = some m.cls ∧ (∀ w ∈ lw_tbl, w.before #[Value.ref b] s = true) ∧ va_X b L xs s s.heap ∧ b < s.heap.size ∧ meth.locks = false ∧ (Jvm.Cond.and given_1 narrow_1).before #[Value.ref b] s = true
theorem wb_run : (List.range 93).map (fun j => Cond.eq (.elem (Jvm.Term.field (Jvm.Term.string "IceKeys$Reader" 77) "java/lang/String" "value" "[B") (.int (Int32.ofNat j))) (.int (gwb.getD j 0))) = ((flatC (Jvm.Cond.and given_1 narrow_1)).drop 22).take 93 := by decide +kernel
theorem wa_run : (List.range 6).map (fun j => Cond.eq (.elem (.static "IceKeys" "ABOVE" "[I") (.int (Int32.ofNat j))) (.int (gabv.getD j 0))) = ((flatC (Jvm.Cond.and given_1 narrow_1)).drop 7).take 6 := by decide +kernel
theorem gST_of {s : State} {args : Array Value} (hts : ∀ w ∈ lw_tbl, w.before args s = true) (hgv : (Jvm.Cond.and given_1 narrow_1).before args s = true) : gST s.heap.size s := by
  have hs := flat_of_before _ hgv
  have hA : ∀ a : Nat, a < s.heap.size → ¬ gA s.heap.size a := fun a h => Nat.not_le.mpr h
  obtain ⟨t, ht, hT⟩ := va_Tof (args := args) (s := s) (tm := .static "IceKeys" "ABOVE" "[I") (ty := .int) (N := 6) (f := fun j => .int (gabv.getD j 0)) (A := gA s.heap.size) (by decide) (hs _ (List.mem_of_getElem? (i := 5) (by decide +kernel))) (va_eqt (hs _ (List.mem_of_getElem? (i := 6) (by decide +kernel)))) (fun j hj => va_eqt (hs _ (va_run wa_run j hj))) hA
  have hZ := va_Zof (hts (.laysStatic "IceKeys" "ABOVE" "[I") (gs2 _ (List.mem_of_getElem? (l := tables_1_2) (i := 227) (by decide +kernel)))) (hts (.initialized "IceKeys") (gs1 _ (List.mem_of_getElem? (l := tables_1_1) (i := 1) (by decide +kernel)))) ht hA
  have hC := va_Zof (hts (.laysStatic "java/lang/String" "COMPACT_STRINGS" "Z") (gs3 _ (List.mem_of_getElem? (l := tables_1_3) (i := 96) (by decide +kernel)))) (hts (.initialized "java/lang/String") (gs1 _ (List.mem_of_getElem? (l := tables_1_1) (i := 15) (by decide +kernel)))) (va_eqi (z := 1) (hs _ (List.mem_of_getElem? (i := 13) (by decide +kernel)))) hA
  have hQ := va_Zqof (hts (.laysStatic "jdk/internal/util/Preconditions" "SIOOBE_FORMATTER" "Ljava/util/function/BiFunction;") (gs3 _ (List.mem_of_getElem? (l := tables_1_3) (i := 112) (by decide +kernel)))) (hts (.initialized "jdk/internal/util/Preconditions") (gs1 _ (List.mem_of_getElem? (l := tables_1_1) (i := 17) (by decide +kernel)))) (hs _ (List.mem_of_getElem? (i := 14) (by decide +kernel))) hA
  have h0 : ∀ i : Nat, i < 1 → i = 0 := fun i hi => by omega
  obtain ⟨aK, aV, hS, hE⟩ := vk_Sof (args := args) (s := s) (N := 1) (tm := fun _ => .string "IceKeys$Reader" 77) (len := [93]) (byt := [gwb]) (A := gA s.heap.size) (fun i hi => by rw [h0 i hi]; decide) (fun i _ => hs _ (List.mem_of_getElem? (i := 18) (by decide +kernel))) (fun i _ => hs _ (List.mem_of_getElem? (i := 19) (by decide +kernel))) (fun i _ => hs _ (List.mem_of_getElem? (i := 20) (by decide +kernel))) (fun i hi => by rw [h0 i hi]; exact hs _ (List.mem_of_getElem? (i := 21) (by decide +kernel))) (fun i hi j hj => by rw [h0 i hi] at hj ⊢; exact hs _ (va_run wb_run j hj)) (fun i j hi hj h => absurd ((h0 i hi).trans (h0 j hj).symm) h) hA
  exact ⟨t, aK, aV, hZ, hT, hC, hS, vk_R.of (hts (.stringRef "IceKeys$Reader" 77 gwt) (gs3 _ (List.mem_of_getElem? (l := tables_1_3) (i := 86) (by decide +kernel)))) (hE 0 (by decide)), hQ⟩
/-! the heap behind the constructors -/
def ainb (p : Int × Int) (x : Int32) : Bool := decide (p.1 ≤ x.toInt) && decide (x.toInt ≤ p.2)
theorem inv_putb {I : gI} {c j : Nat} {v : Int32} (hv : ainb (bnd bT c j) v = true) (h : aInv bT I) : aInv bT (gup I c j v) := inv_put h (by
  simp only [ainb, Bool.and_eq_true, decide_eq_true_eq] at hv
  exact hv)
theorem zeros_inv : aInv bT (fun _ _ => 0) := fun c j => by
  have key : ∀ l : List (Nat × Int × Int), l.all (fun s => ainb s.2 0) = true → ∀ j, ainb (bseg l j) 0 = true := by
    intro l
    induction l with
    | nil =>
      intro _ _
      show ainb (aLo, aHi) 0 = true
      decide
    | cons a r ih =>
      intro h j
      rw [List.all_cons, Bool.and_eq_true] at h
      simp only [bseg]
      split
      · exact h.1
      · exact ih h.2 j
  have hall : bT.all (fun l => l.all (fun s => ainb s.2 0)) = true := by decide +kernel
  have h1 : ainb (bseg (bT.getD c []) j) 0 = true := by
    refine key _ ?_ j
    by_cases hc : c < bT.length
    · have e : bT.getD c [] = bT[c] := by simp [List.getD_eq_getElem?_getD, List.getElem?_eq_getElem hc]
      rw [e]
      exact List.all_eq_true.mp hall _ (List.getElem_mem hc)
    · have e : bT.getD c [] = [] := by simp [List.getD_eq_getElem?_getD, List.getElem?_eq_none (by omega : bT.length ≤ c)]
      rw [e]
      rfl
  simp only [ainb, Bool.and_eq_true, decide_eq_true_eq] at h1
  exact h1
set_option maxRecDepth 100000 in
set_option maxHeartbeats 4000000 in
theorem IC1_inv : aInv bT IC1 := by
  unfold IC1
  repeat (refine inv_putb (by decide +kernel) ?_)
  exact zeros_inv
set_option maxRecDepth 100000 in
set_option maxHeartbeats 4000000 in
theorem IC2_inv : aInv bT IC2 := by
  unfold IC2
  repeat (refine inv_putb (by decide +kernel) ?_)
  exact zeros_inv
set_option maxRecDepth 100000 in
theorem IC2_wf0 : WF0 IC2 := fun c hc r hr hr5 => by
  have e : IC2 68 5 = 0 := by decide +kernel
  have e2 : IC2 69 5 = 0 := by decide +kernel
  rcases hc with rfl | rfl
  · rw [e] at hr5
    have : (0 : Int32).toInt = 0 := rfl
    omega
  · rw [e2] at hr5
    have : (0 : Int32).toInt = 0 := rfl
    omega
theorem IC2_m : (rlM.all (fun q => decide (IC2 q.1 q.2.1 = IC2 68 q.2.2.2.2)) && rlO.all (fun e => decide (IC2 e.1 e.2.1 = IC2 e.2.2.1 e.2.2.2))) = true := by decide +kernel
theorem IC2_wf : WF IC2 := by
  have h := IC2_m
  simp only [Bool.and_eq_true] at h
  exact ⟨IC2_wf0, fun q hq => of_decide_eq_true (List.all_eq_true.mp h.1 q hq), by decide +kernel, fun hk => absurd (by decide +kernel) hk, fun e he => of_decide_eq_true (List.all_eq_true.mp h.2 e he), (fun s hs hn => by
    rcases (by omega : s = 0 ∨ s = 1 ∨ s = 2 ∨ s = 3) with rfl | rfl | rfl | rfl <;> exact absurd (by decide +kernel) hn), hlt_mk (by decide +kernel) (by decide +kernel) (fun h => absurd (by decide +kernel) h)⟩
theorem g_ne {x v : Int32} (h : ¬ x = v) : x.toInt ≠ v.toInt := fun e => h (Int32.toInt_inj.mp e)
theorem N_int {k : Nat} (h : k < 100000) : (Int32.ofNat k).toInt = (k : Int) := Int32.toInt_ofNat_of_lt (by omega)
theorem lw_in {i k L : Nat} (h : i + k < L) (hL : L ≤ 2560) : vp_in (Int32.ofNat i + Int32.ofNat k) L := by
  rw [n_add]
  exact a_vin (by rw [N_int (by omega)]; omega) (by rw [N_int (by omega)]; omega)
theorem lw_gt {i L : Nat} (hi : i < 10000) (hL : L ≤ 2560) : Int32.ofNat L - 5 < Int32.ofNat i ↔ L < i + 5 := by
  rw [Int32.lt_iff_toInt_lt, Int32.toInt_sub, N_int (by omega), N_int (by omega), show (5 : Int32).toInt = 5 from rfl, a_bm (by unfold aLo; omega) (by unfold aHi; omega)]
  omega
set_option maxRecDepth 100000 in
set_option maxHeartbeats 4000000 in
theorem gEntry {s : State} {args : Array Value} (hts : ∀ w ∈ lw_tbl, w.before args s = true) (hgv : (Jvm.Cond.and given_1 narrow_1).before args s = true) : ∃ (D : va_G) (cy : Nat → ClassId), gFx s.heap.size D cy s := by
  have hg : ∀ w ∈ gBIG, w.before args s = true := fun w hw => hts w (gTbl w hw)
  obtain ⟨c0, j0, q0⟩ := u_known (C := RX0) (T := TX0) (N := 5) (n := 5) hg inlX0 (hts (.instantiable RX0 5) (gs2 _ (List.mem_of_getElem? (l := tables_1_2) (i := 25) (by decide +kernel))))
  obtain ⟨c1, j1, q1⟩ := u_known (C := RX1) (T := TX1) (N := 19) (n := 19) hg inlX1 (hts (.instantiable RX1 19) (gs1 _ (List.mem_of_getElem? (l := tables_1_1) (i := 76) (by decide +kernel))))
  obtain ⟨c2, j2, q2⟩ := u_known (C := RX2) (T := TX2) (N := 0) (n := 0) hg inlX2 (hts (.instantiable RX2 0) (gs1 _ (List.mem_of_getElem? (l := tables_1_1) (i := 41) (by decide +kernel))))
  obtain ⟨c3, j3, q3⟩ := u_known (C := RX3) (T := TX3) (N := 0) (n := 0) hg inlX3 (hts (.instantiable RX3 0) (gs1 _ (List.mem_of_getElem? (l := tables_1_1) (i := 33) (by decide +kernel))))
  obtain ⟨c4, j4, q4⟩ := u_known (C := RX4) (T := TX4) (N := 4) (n := 4) hg inlX4 (hts (.instantiable RX4 4) (gs1 _ (List.mem_of_getElem? (l := tables_1_1) (i := 186) (by decide +kernel))))
  obtain ⟨c5, j5, q5⟩ := u_known (C := RX5) (T := TX5) (N := 15) (n := 15) hg inlX5 (hts (.instantiable RX5 15) (gs1 _ (List.mem_of_getElem? (l := tables_1_1) (i := 208) (by decide +kernel))))
  obtain ⟨c6, j6, q6⟩ := u_known (C := RX6) (T := TX6) (N := 6) (n := 6) hg inlX6 (hts (.instantiable RX6 6) (gs1 _ (List.mem_of_getElem? (l := tables_1_1) (i := 82) (by decide +kernel))))
  obtain ⟨c7, j7, q7⟩ := u_known (C := RX7) (T := TX7) (N := 0) (n := 0) hg inlX7 (hts (.instantiable RX7 0) (gs1 _ (List.mem_of_getElem? (l := tables_1_1) (i := 62) (by decide +kernel))))
  obtain ⟨c8, j8, q8⟩ := u_known (C := RX8) (T := TX8) (N := 0) (n := 0) hg inlX8 (hts (.instantiable RX8 0) (gs1 _ (List.mem_of_getElem? (l := tables_1_1) (i := 48) (by decide +kernel))))
  obtain ⟨c9, j9, q9⟩ := u_known (C := RX9) (T := TX9) (N := 0) (n := 0) hg inlX9 (hts (.instantiable RX9 0) (gs1 _ (List.mem_of_getElem? (l := tables_1_1) (i := 69) (by decide +kernel))))
  obtain ⟨c10, j10, q10⟩ := u_known (C := RX10) (T := TX10) (N := 0) (n := 0) hg inlX10 (hts (.instantiable RX10 0) (gs1 _ (List.mem_of_getElem? (l := tables_1_1) (i := 55) (by decide +kernel))))
  obtain ⟨c11, j11, q11⟩ := u_known (C := RX11) (T := TX11) (N := 14) (n := 14) hg inlX11 (hts (.instantiable RX11 14) (gs1 _ (List.mem_of_getElem? (l := tables_1_1) (i := 22) (by decide +kernel))))
  obtain ⟨c12, j12, q12⟩ := u_known (C := RX12) (T := TX12) (N := 37) (n := 37) hg inlX12 (hts (.instantiable RX12 37) (gs5 _ (List.mem_of_getElem? (l := tables_1_5) (i := 169) (by decide +kernel))))
  obtain ⟨a0, b0, d0, e0, f0, g0⟩ := Cond.arrayClass_spec (type := .int) (hts (.arrayClass .int) (gs1 _ (List.mem_of_getElem? (l := tables_1_1) (i := 39) (by decide +kernel))))
  obtain ⟨a1, b1, d1, e1, f1, g1⟩ := Cond.arrayClass_spec (type := .boolean) (hts (.arrayClass .boolean) (gs2 _ (List.mem_of_getElem? (l := tables_1_2) (i := 23) (by decide +kernel))))
  obtain ⟨a2, b2, d2, e2, f2, g2⟩ := Cond.arrayClass_spec (type := .char) (hts (.arrayClass .char) (gs6 _ (List.mem_of_getElem? (l := tables_1_6) (i := 46) (by decide +kernel))))
  have ho := hts (.arrayOver (.object "IceKeys$Key")) (gs1 _ (List.mem_of_getElem? (l := tables_1_1) (i := 32) (by decide +kernel)))
  obtain ⟨d3, a3, b3, z3, -, f3, g3, e3⟩ := Cond.arrayOver_spec ho
  have hp := hts (.arrayOver (.array .int)) (gs1 _ (List.mem_of_getElem? (l := tables_1_1) (i := 30) (by decide +kernel)))
  obtain ⟨d4, a4, b4, z4, -, f4, g4, e4⟩ := arrayOverA_spec hp
  refine ⟨(fun k => [c0, c1, c2, c3, c4, c5, c6, c7, c8, c9, c10, c11, c12].getD k c0, fun k => [j0, j1, j2, j3, j4, j5, j6, j7, j8, j9, j10, j11, j12].getD k j0), fun k => [a0, a1, a2, a3, a4].getD k a0, Nat.le_refl _, ⟨?_, ?_⟩, ?_, ho, hp, ?_, gST_of hts hgv⟩
  · intro k q hq
    match k, hq with
    | 0, hq => cases hq; exact q0
    | 1, hq => cases hq; exact q1
    | 2, hq => cases hq; exact q2
    | 3, hq => cases hq; exact q3
    | 4, hq => cases hq; exact q4
    | 5, hq => cases hq; exact q5
    | 6, hq => cases hq; exact q6
    | 7, hq => cases hq; exact q7
    | 8, hq => cases hq; exact q8
    | 9, hq => cases hq; exact q9
    | 10, hq => cases hq; exact q10
    | 11, hq => cases hq; exact q11
    | 12, hq => cases hq; exact q12
    | k + 13, hq => simp [vwCl] at hq
  · intro k q hq
    match k, hq with
    | 0, hq => cases hq; exact ⟨fun n z => ⟨fun k h => (by cases h), b0, f0, d0, g0⟩, e0⟩
    | 1, hq => cases hq; exact ⟨fun n z => ⟨fun k h => (by cases h), b1, f1, d1, g1⟩, e1⟩
    | 2, hq => cases hq; exact ⟨fun n z => ⟨fun k h => (by cases h), b2, f2, d2, g2⟩, e2⟩
    | 3, hq => cases hq; exact ⟨fun n z => ⟨fun k h => (by cases h), b3, f3, d3, g3⟩, ⟨b3, d3, f3, g3, z3, e3⟩⟩
    | 4, hq => cases hq; exact ⟨fun n z => ⟨fun k h => (by cases h), b4, f4, d4, g4⟩, e4⟩
    | k + 5, hq => simp [gTys] at hq
  · intro q hq
    simp only [gNest, List.mem_cons, List.not_mem_nil, or_false] at hq
    rcases hq with rfl | rfl | rfl | rfl | rfl | rfl | rfl | rfl | rfl | rfl | rfl | rfl | rfl | rfl | rfl | rfl | rfl | rfl | rfl | rfl | rfl | rfl
    · exact va_Nw.of rfl (hts _ (gs1 _ (List.mem_of_getElem? (l := tables_1_1) (i := 34) (by decide +kernel))))
    · exact va_Nw.of rfl (hts _ (gs1 _ (List.mem_of_getElem? (l := tables_1_1) (i := 42) (by decide +kernel))))
    · exact va_Nw.of rfl (hts _ (gs1 _ (List.mem_of_getElem? (l := tables_1_1) (i := 45) (by decide +kernel))))
    · exact va_Nw.of rfl (hts _ (gs1 _ (List.mem_of_getElem? (l := tables_1_1) (i := 49) (by decide +kernel))))
    · exact va_Nw.of rfl (hts _ (gs1 _ (List.mem_of_getElem? (l := tables_1_1) (i := 52) (by decide +kernel))))
    · exact va_Nw.of rfl (hts _ (gs1 _ (List.mem_of_getElem? (l := tables_1_1) (i := 56) (by decide +kernel))))
    · exact va_Nw.of rfl (hts _ (gs1 _ (List.mem_of_getElem? (l := tables_1_1) (i := 59) (by decide +kernel))))
    · exact va_Nw.of rfl (hts _ (gs1 _ (List.mem_of_getElem? (l := tables_1_1) (i := 63) (by decide +kernel))))
    · exact va_Nw.of rfl (hts _ (gs1 _ (List.mem_of_getElem? (l := tables_1_1) (i := 66) (by decide +kernel))))
    · exact va_Nw.of rfl (hts _ (gs1 _ (List.mem_of_getElem? (l := tables_1_1) (i := 70) (by decide +kernel))))
    · exact va_Nw.of rfl (hts _ (gs1 _ (List.mem_of_getElem? (l := tables_1_1) (i := 73) (by decide +kernel))))
    · exact va_Nw.of rfl (hts _ (gs1 _ (List.mem_of_getElem? (l := tables_1_1) (i := 83) (by decide +kernel))))
    · exact va_Nw.of rfl (hts _ (gs1 _ (List.mem_of_getElem? (l := tables_1_1) (i := 209) (by decide +kernel))))
    · exact va_Nw.of rfl (hts _ (gs1 _ (List.mem_of_getElem? (l := tables_1_1) (i := 214) (by decide +kernel))))
    · exact va_Nw.of rfl (hts _ (gs2 _ (List.mem_of_getElem? (l := tables_1_2) (i := 26) (by decide +kernel))))
    · exact va_Nw.of rfl (hts _ (gs2 _ (List.mem_of_getElem? (l := tables_1_2) (i := 223) (by decide +kernel))))
    · exact va_Nw.of rfl (hts _ (gs3 _ (List.mem_of_getElem? (l := tables_1_3) (i := 157) (by decide +kernel))))
    · exact va_Nw.of rfl (hts _ (gs4 _ (List.mem_of_getElem? (l := tables_1_4) (i := 87) (by decide +kernel))))
    · exact va_Nw.of rfl (hts _ (gs4 _ (List.mem_of_getElem? (l := tables_1_4) (i := 125) (by decide +kernel))))
    · exact va_Nw.of rfl (hts _ (gs4 _ (List.mem_of_getElem? (l := tables_1_4) (i := 135) (by decide +kernel))))
    · exact va_Nw.of rfl (hts _ (gs4 _ (List.mem_of_getElem? (l := tables_1_4) (i := 144) (by decide +kernel))))
    · exact va_Nw.of rfl (hts _ (gs4 _ (List.mem_of_getElem? (l := tables_1_4) (i := 182) (by decide +kernel))))
  · intro C hC
    simp only [gCast, List.mem_cons, List.not_mem_nil, or_false] at hC
    rcases hC with rfl | rfl | rfl | rfl | rfl
    · exact va_Nw.of rfl (hts _ (gs8 _ (List.mem_of_getElem? (l := tables_1_8) (i := 73) (by decide +kernel))))
    · exact va_Nw.of rfl (hts _ (gs8 _ (List.mem_of_getElem? (l := tables_1_8) (i := 76) (by decide +kernel))))
    · exact va_Nw.of rfl (hts _ (gs8 _ (List.mem_of_getElem? (l := tables_1_8) (i := 74) (by decide +kernel))))
    · exact va_Nw.of rfl (hts _ (gs8 _ (List.mem_of_getElem? (l := tables_1_8) (i := 77) (by decide +kernel))))
    · exact va_Nw.of rfl (hts _ (gs8 _ (List.mem_of_getElem? (l := tables_1_8) (i := 75) (by decide +kernel))))
section LAW
variable {p : Program} {l : Launch} {e : Env} {s : State} {m : MethodId} {below : List Frame} {meth : Method} {c : Code} {args : Array Value} {H : Heap} {locs : List Loc} {ls : Array Slot} {D : va_G} {cy : Nat → ClassId} {Z : State → Prop} {k n pc : Nat} {S S0 : List Value} {sh : List (Nat × Nat)} {R : gR} {I : gI} {mj : gM} {mc1 ms1 i : Nat} {vs : List Value} {Q1 : Option Value → gH → Prop} {x ci d nL : Nat} {C : String} {T : u_T} {N : Nat}
theorem law_call (hx : p.tables.exec = Jvm.exec) (hb : c.code = code) (hml : c.maxLocals = 4) (hown : s.vm.findClass R_law = some m.cls) (hts : ∀ w ∈ lw_tbl, w.before args s = true) (hF : gFx s.heap.size D cy s) (hS : va_S (gA s.heap.size) s.heap H locs) (hW : gWd s.heap.size D cy (sh, R, I) H) {al : List (Nat × Value)} (hl : lv_has ls 4 al)
    (hd : decode code pc = .ok (.invokevirtual i, 3)) (hc : vwCl[ci]? = some (C, T, N)) (hsh : sh[x]? = some (0, ci)) (hm : gcm mj vs.length) (hw1 : Cond.methodLink R_law i mj.1 ∈ gBIG) (hw2 : Cond.instanceMethod mj.1 ∈ gBIG) (hw3 : Cond.selects C mj.1 mj.1 ∈ gBIG)
    (hst : S0 = (vs.map (gtr s.heap.size)).reverse ++ .ref (s.heap.size + x) :: S) (hcat : (S.map fun v => v.category).sum ≤ 8) (hlen : (gen (.ref x :: vs)).length ≤ mj.2.2.1) (hdd : d ≤ 100) (hcl : k + mc1 ≤ room_1.cells) (hsl : n + ms1 ≤ room_1.slots) (hG : G d mj mc1 ms1 0 0 0 (gent mj.2.2.1 (.ref x :: vs)) [] sh R I Q1)
    (kk : ∀ (r : Option Value) (h' : gH) (H1 : Heap) (locs1 : List Loc), Q1 r h' → gWd s.heap.size D cy h' H1 → va_S (gA s.heap.size) s.heap H1 locs1 → W p l e room_1 s m args below meth c H1 locs1 (k + mc1) (n + ms1) Z (F0 m (pc + 3) ls ((r.map (gtr s.heap.size)).toList ++ S))) : W p l e room_1 s m args below meth c H locs k n Z (F0 m pc ls S0) := by
  subst hst
  obtain ⟨hm1, hm2, hm3, hm4, hm5, hm6, hm7⟩ := gcm_inv hm
  have hg : ∀ w ∈ gBIG, w.before args s = true := fun w hw => hts w (gTbl w hw)
  have hcw : CallW room_1 s args R_law C i mj.1 mj.2.1 mj.2.2.1 mj.2.2.2 (.code mj.1 mj.2.1 mj.2.2.1 mj.2.2.2 :: gBIG) (gRm d mc1 ms1) mc1 ms1 vs.length :=
    ⟨callB_of vs.length hg (gGood (gcode_in hm1)) rfl rfl rfl (hg _ hm2) (hg _ hw1) ⟨hm4, hm5, hm6⟩ ⟨by show d + 1 ≤ 2048; omega, by show 8 + (mj.2.2.1 + 11) + (64 * d + 64) ≤ 84000; omega⟩, hg _ hw2, hg _ hw3⟩
  exact gAfter (va_runV (b := s.heap.size + x) (As := vs.map (gtr s.heap.size)) (rest := S) ⟨hx, hb, hml, hown, hg⟩ (gMet hm3 hlen hG l s.heap.size D cy) hcw (gPreV hc hsh hF hS hW) rfl (by simp) hl.1 rfl (lv_room hcat) hd ⟨hcl, hsl⟩) hF.1 hS kk
theorem law_init (hx : p.tables.exec = Jvm.exec) (hb : c.code = code) (hml : c.maxLocals = 4) (hown : s.vm.findClass R_law = some m.cls) (hts : ∀ w ∈ lw_tbl, w.before args s = true) (hF : gFx s.heap.size D cy s) (hS : va_S (gA s.heap.size) s.heap H locs) (hW : gWd s.heap.size D cy (sh, R, I) H) {al : List (Nat × Value)} (hl : lv_has ls 4 al)
    (hd : decode code pc = .ok (.invokespecial i, 3)) (hm : gcm mj vs.length) (hret : mj.2.2.2 = none) (hini : mj.1.name = "<init>") (hw1 : Cond.methodLink R_law i mj.1 ∈ gBIG) (hw2 : Cond.instanceMethod mj.1 ∈ gBIG)
    (hst : S0 = (vs.map (gtr s.heap.size)).reverse ++ .ref (s.heap.size + x) :: S) (hcat : (S.map fun v => v.category).sum ≤ 8) (hlen : (gen (.ref x :: vs)).length ≤ mj.2.2.1) (hdd : d ≤ 100) (hcl : k + mc1 ≤ room_1.cells) (hsl : n + ms1 ≤ room_1.slots) (hG : G d mj mc1 ms1 0 0 0 (gent mj.2.2.1 (.ref x :: vs)) [] sh R I Q1)
    (kk : ∀ (r : Option Value) (h' : gH) (H1 : Heap) (locs1 : List Loc), Q1 r h' → gWd s.heap.size D cy h' H1 → va_S (gA s.heap.size) s.heap H1 locs1 → W p l e room_1 s m args below meth c H1 locs1 (k + mc1) (n + ms1) Z (F0 m (pc + 3) ls ((r.map (gtr s.heap.size)).toList ++ S))) : W p l e room_1 s m args below meth c H locs k n Z (F0 m pc ls S0) := by
  subst hst
  obtain ⟨hm1, hm2, hm3, hm4, hm5, hm6, hm7⟩ := gcm_inv hm
  have hg : ∀ w ∈ gBIG, w.before args s = true := fun w hw => hts w (gTbl w hw)
  have hm1' : Cond.code mj.1 mj.2.1 mj.2.2.1 none ∈ gBIG := hret ▸ hm1
  have hMt := gMet hm3 hlen hG l s.heap.size D cy
  rw [hret] at hMt
  exact gAfter (va_runI (b := s.heap.size + x) (As := vs.map (gtr s.heap.size)) (rest := S) ⟨hx, hb, hml, hown, hg⟩ hMt (cwI vs.length hg (gGood (fun w hw => (List.mem_cons.mp hw).elim (fun e => e ▸ hm1') id)) rfl rfl rfl (hg _ hm2) (hg _ hw1) (hg _ hw2) hini ⟨hm4, hm5, hm6⟩ ⟨by show d + 1 ≤ 2048; omega, by show 8 + (mj.2.2.1 + 11) + (64 * d + 64) ≤ 84000; omega⟩) (gPre (vs := .ref x :: vs) hF hS hW) rfl (by simp) hl.1 rfl (lv_room hcat) hd ⟨hcl, hsl⟩) hF.1 hS kk
theorem law_new (hx : p.tables.exec = Jvm.exec) (hb : c.code = code) (hown : s.vm.findClass R_law = some m.cls) (hts : ∀ w ∈ lw_tbl, w.before args s = true) (hF : gFx s.heap.size D cy s) (hS : va_S (gA s.heap.size) s.heap H locs) (hW : gWd s.heap.size D cy (sh, R, I) H)
    (hc : vwCl[ci]? = some (C, T, N)) (hw1 : Cond.classLink R_law i C ∈ gBIG) (hw2 : Cond.instantiable C N ∈ gBIG) (hw3 : Cond.initialized C ∈ gBIG) {sh1 : List (Nat × Nat)} {len : Nat} (hlen : sh.length = len) (hs1 : sh ++ [(0, ci)] = sh1) (hI : ∀ j, I len j = 0) (hR : ∀ j, R len j = none) (hk : k + 1 ≤ room_1.cells) (hn : n + N ≤ room_1.slots) (hd : decode code pc = .ok (.new i, 3))
    (kk : ∀ H1 : Heap, va_S (gA s.heap.size) s.heap H1 locs → gWd s.heap.size D cy (sh1, R, I) H1 → W p l e room_1 s m args below meth c H1 locs (k + 1) (n + N) Z (F0 m (pc + 3) ls (.ref (s.heap.size + len) :: S))) : W p l e room_1 s m args below meth c H locs k n Z (F0 m pc ls S) := by
  subst hs1
  subst hlen
  have hsz0 : H.size = s.heap.size + sh.length := hW.1
  have hg : ∀ w ∈ gBIG, w.before args s = true := fun w hw => hts w (gTbl w hw)
  have hKn := hF.2.1.1 ci _ hc
  obtain ⟨ty, hty, -, hdf⟩ := gcls_ty hc
  refine W.newcK hx hb hown (hg _ hw1) (hg _ hw2) (hg _ hw3) rfl hd hk hn hKn.2.1 hsz0 fun H1 kC hkC e1 z1 o1 => ?_
  refine kk H1 ⟨by rw [z1, ← hsz0]; exact Nat.le_succ_of_le hS.1, fun q g1 g2 => (o1 q (by rw [← hsz0]; exact Nat.lt_of_lt_of_le g1 hS.1)).trans (hS.2.1 q g1 g2), hS.2.2⟩ (gWd_grow hW (by rw [z1, hsz0]) (fun q hq => o1 q (by rw [← hsz0]; exact hq)) ⟨_, hc, (u_born ty hg (gcls_in hc) hKn hkC e1 hty).to (fun j hj => ?_)⟩)
  rw [hdf j hj]
  have hlj : j < (gF.getD ci []).length := by rw [gcls_len hc]; exact hj
  obtain ⟨r, hget⟩ : ∃ r, (gF.getD ci [])[j]? = some r := ⟨_, List.getElem?_eq_getElem hlj⟩
  rw [hget]
  show _ = (gfs s.heap.size R I sh.length (gF.getD ci [])).getD j .null
  rw [List.getD_eq_getElem?_getD, gfs_at hget, hI, hR]
  cases r <;> rfl
end LAW
