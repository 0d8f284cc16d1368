/-! ===== what constructors make ===== -/
theorem gWd_grow {b : Nat} {D : va_G} {cy : Nat → ClassId} {h : gH} {sh : Nat × Nat} {H H1 : Heap} (hW : gWd b D cy h H) (hz : H1.size = H.size + 1) (o1 : ∀ q, q < H.size → H1[q]? = H[q]?) (he : va_at D vwCl (b + h.1.length, gcl b cy h.2.1 h.2.2 h.1.length sh) H1) : gWd b D cy (h.1 ++ [sh], h.2.1, h.2.2) H1 := by
  refine ⟨by rw [hz, hW.1]; simp; omega, fun i q hi => ?_⟩
  obtain ⟨sh', h1, rfl⟩ := gws_inv hi
  by_cases hl : i < h.1.length
  · have h2 : h.1[i]? = some sh' := by rw [← List.getElem?_append_left (l₂ := [sh]) hl]; exact h1
    exact (hW.2 i _ (gws_at h2)).kept (o1 _ (by show b + i < H.size; rw [hW.1]; omega))
  · have h2 : ([sh] : List (Nat × Nat))[i - h.1.length]? = some sh' := by rw [← List.getElem?_append_right (l₁ := h.1) (by omega)]; exact h1
    have h3 : i - h.1.length < 1 := (List.getElem?_eq_some_iff.mp h2).1
    have e : i = h.1.length := by omega
    subst e
    rw [Nat.sub_self] at h2
    cases h2
    exact he
section GN
variable {d : Nat} {M : gM} {mc ms k n pc : Nat} {L : gL} {S : List Value} {sh : List (Nat × Nat)} {R : gR} {I : gI} {Q : Option Value → gH → Prop}
variable {ci x j i : Nat} {C : String} {T : u_T} {N : Nat}
theorem G_new (hc : vwCl[ci]? = some (C, T, N)) (hw1 : Cond.classLink M.1.cls i C ∈ gBIG) (hw2 : Cond.instantiable C N ∈ gBIG) (hw3 : Cond.initialized C ∈ gBIG) {sh1 : List (Nat × Nat)} {len : Nat} (hlen : sh.length = len) (hs1 : sh ++ [(0, ci)] = sh1) (hI : ∀ j, I len j = 0) (hR : ∀ j, R len j = none) (hk : k + 1 ≤ mc) (hn : n + N ≤ ms) (hd : decode M.2.1 pc = .ok (.new i, 3))
    (kk : G d M mc ms (k + 1) (n + N) (pc + 3) L (.ref len :: S) sh1 R I Q) : G d M mc ms k n pc L S sh R I Q := by
  subst hs1
  subst hlen
  intro p l e s m args below meth c H locs ls b D cy hC hF hS hW hl
  have hsz0 : H.size = b + sh.length := hW.1
  have hts := hC.2.2.2.2.2.2.2
  have hKn := hF.2.1.1 ci _ hc
  obtain ⟨ty, hty, -, hdf⟩ := gcls_ty hc
  refine W.newcK hC.1 hC.2.1 hC.2.2.2.2.2.1 (hts _ hw1) (hts _ hw2) (hts _ hw3) rfl hd hk hn hKn.2.1 hsz0 fun H1 kC hkC e1 z1 o1 => ?_
  refine kk p l e s m args below meth c H1 locs ls b D cy hC hF ⟨by rw [z1, ← hsz0]; exact Nat.le_succ_of_le hS.1, fun q g1 g2 => (o1 q (by rw [← hsz0]; exact Nat.lt_of_lt_of_le g1 hS.1)).trans (hS.2.1 q g1 g2), hS.2.2⟩ (gWd_grow hW (by rw [z1, hsz0]) (fun q hq => o1 q (by rw [← hsz0]; exact hq)) ⟨_, hc, (u_born ty hts (gcls_in hc) hKn hkC e1 hty).to (fun j hj => ?_)⟩) hl
  rw [hdf j hj]
  have hlj : j < (gF.getD ci []).length := by rw [gcls_len hc]; exact hj
  obtain ⟨r, hget⟩ : ∃ r, (gF.getD ci [])[j]? = some r := ⟨_, List.getElem?_eq_getElem hlj⟩
  rw [hget]
  show _ = (gfs b R I sh.length (gF.getD ci [])).getD j .null
  rw [List.getD_eq_getElem?_getD, gfs_at hget, hI, hR]
  cases r <;> rfl
theorem G_new_int {nn : Int32} {N : Nat} (hw : Cond.arrayClass .int ∈ gBIG) (h0 : ¬ nn < 0) (hN : nn.toNatClampNeg = N) (hbig : N ≤ 100000) {sh1 : List (Nat × Nat)} {len : Nat} (hlen : sh.length = len) (hs1 : sh ++ [(1, N)] = sh1) (hI : ∀ j, I len j = 0) (hk : k + 1 ≤ mc) (hn : n + N ≤ ms) (hd : decode M.2.1 pc = .ok (.newarray .int, 2))
    (kk : G d M mc ms (k + 1) (n + N) (pc + 2) L (.ref len :: S) sh1 R I Q) : G d M mc ms k n pc L (.int nn :: S) sh R I Q := by
  subst hs1
  subst hlen
  intro p l e s m args below meth c H locs ls b D cy hC hF hS hW hl
  have hsz0 : H.size = b + sh.length := hW.1
  have hts := hC.2.2.2.2.2.2.2
  refine va_newaK (atype := .int) hC.1 hC.2.1 (hts _ hw) rfl hd rfl h0 hN (by show N * _ ≤ _; simp only [newarray.typeOf, componentBytes]; omega) hk hn hsz0 fun H1 cA e1 z1 o1 hAr hNm => ?_
  have hcA : cA = cy 0 := Option.some.inj (hNm.symm.trans (hF.2.1.2 0 _ rfl).2)
  subst hcA
  refine kk p l e s m args below meth c H1 locs ls b D cy hC hF ⟨by rw [z1, ← hsz0]; exact Nat.le_succ_of_le hS.1, fun q g1 g2 => (o1 q (by rw [← hsz0]; exact Nat.lt_of_lt_of_le g1 hS.1)).trans (hS.2.1 q g1 g2), hS.2.2⟩ (gWd_grow hW (by rw [z1, hsz0]) (fun q hq => o1 q (by rw [← hsz0]; exact hq)) ?_) hl
  show H1[b + sh.length]? = some (vp_cell (cy 0) (N, .inl (I sh.length)))
  rw [show I sh.length = (fun _ => 0) from funext hI]
  exact e1
theorem G_new_boolean {nn : Int32} {N : Nat} (hw : Cond.arrayClass .boolean ∈ gBIG) (h0 : ¬ nn < 0) (hN : nn.toNatClampNeg = N) (hbig : N ≤ 100000) {sh1 : List (Nat × Nat)} {len : Nat} (hlen : sh.length = len) (hs1 : sh ++ [(2, N)] = sh1) (hI : ∀ j, I len j = 0) (hk : k + 1 ≤ mc) (hn : n + N ≤ ms) (hd : decode M.2.1 pc = .ok (.newarray .boolean, 2))
    (kk : G d M mc ms (k + 1) (n + N) (pc + 2) L (.ref len :: S) sh1 R I Q) : G d M mc ms k n pc L (.int nn :: S) sh R I Q := by
  subst hs1
  subst hlen
  intro p l e s m args below meth c H locs ls b D cy hC hF hS hW hl
  have hsz0 : H.size = b + sh.length := hW.1
  have hts := hC.2.2.2.2.2.2.2
  refine va_newaK (atype := .boolean) hC.1 hC.2.1 (hts _ hw) rfl hd rfl h0 hN (by show N * _ ≤ _; simp only [newarray.typeOf, componentBytes]; omega) hk hn hsz0 fun H1 cA e1 z1 o1 hAr hNm => ?_
  have hcA : cA = cy 1 := Option.some.inj (hNm.symm.trans (hF.2.1.2 1 _ rfl).2)
  subst hcA
  refine kk p l e s m args below meth c H1 locs ls b D cy hC hF ⟨by rw [z1, ← hsz0]; exact Nat.le_succ_of_le hS.1, fun q g1 g2 => (o1 q (by rw [← hsz0]; exact Nat.lt_of_lt_of_le g1 hS.1)).trans (hS.2.1 q g1 g2), hS.2.2⟩ (gWd_grow hW (by rw [z1, hsz0]) (fun q hq => o1 q (by rw [← hsz0]; exact hq)) ?_) hl
  show H1[b + sh.length]? = some (vp_cell (cy 1) (N, .inl (I sh.length)))
  rw [show I sh.length = (fun _ => 0) from funext hI]
  exact e1
theorem G_new_char {nn : Int32} {N : Nat} (hw : Cond.arrayClass .char ∈ gBIG) (h0 : ¬ nn < 0) (hN : nn.toNatClampNeg = N) (hbig : N ≤ 100000) {sh1 : List (Nat × Nat)} {len : Nat} (hlen : sh.length = len) (hs1 : sh ++ [(3, N)] = sh1) (hI : ∀ j, I len j = 0) (hk : k + 1 ≤ mc) (hn : n + N ≤ ms) (hd : decode M.2.1 pc = .ok (.newarray .char, 2))
    (kk : G d M mc ms (k + 1) (n + N) (pc + 2) L (.ref len :: S) sh1 R I Q) : G d M mc ms k n pc L (.int nn :: S) sh R I Q := by
  subst hs1
  subst hlen
  intro p l e s m args below meth c H locs ls b D cy hC hF hS hW hl
  have hsz0 : H.size = b + sh.length := hW.1
  have hts := hC.2.2.2.2.2.2.2
  refine va_newaK (atype := .char) hC.1 hC.2.1 (hts _ hw) rfl hd rfl h0 hN (by show N * _ ≤ _; simp only [newarray.typeOf, componentBytes]; omega) hk hn hsz0 fun H1 cA e1 z1 o1 hAr hNm => ?_
  have hcA : cA = cy 2 := Option.some.inj (hNm.symm.trans (hF.2.1.2 2 _ rfl).2)
  subst hcA
  refine kk p l e s m args below meth c H1 locs ls b D cy hC hF ⟨by rw [z1, ← hsz0]; exact Nat.le_succ_of_le hS.1, fun q g1 g2 => (o1 q (by rw [← hsz0]; exact Nat.lt_of_lt_of_le g1 hS.1)).trans (hS.2.1 q g1 g2), hS.2.2⟩ (gWd_grow hW (by rw [z1, hsz0]) (fun q hq => o1 q (by rw [← hsz0]; exact hq)) ?_) hl
  show H1[b + sh.length]? = some (vp_cell (cy 2) (N, .inl (I sh.length)))
  rw [show I sh.length = (fun _ => 0) from funext hI]
  exact e1
theorem G_new_keys {nn : Int32} {N : Nat} (hw : Cond.classLink M.1.cls i "IceKeys$Key" ∈ gBIG) (h0 : ¬ nn < 0) (hN : nn.toNatClampNeg = N) (hbig : N ≤ 100000) {sh1 : List (Nat × Nat)} {len : Nat} (hlen : sh.length = len) (hs1 : sh ++ [(4, N)] = sh1) (hR : ∀ j, R len j = none) (hk : k + 1 ≤ mc) (hn : n + N ≤ ms) (hd : decode M.2.1 pc = .ok (.anewarray i, 3))
    (kk : G d M mc ms (k + 1) (n + N) (pc + 3) L (.ref len :: S) sh1 R I Q) : G d M mc ms k n pc L (.int nn :: S) sh R I Q := by
  subst hs1
  subst hlen
  intro p l e s m args below meth c H locs ls b D cy hC hF hS hW hl
  have hsz0 : H.size = b + sh.length := hW.1
  have hts := hC.2.2.2.2.2.2.2
  subst hN
  refine W.anew hC.1 hC.2.1 hC.2.2.2.2.2.1 (hts _ hw) (va_AO.use hF.2.2.2.1) rfl hd rfl h0 (by omega) hk hn fun cA kA comp h1 h2 h3 h4 => ?_
  obtain ⟨kB, cB, g1, g2, g3, g4⟩ := (hF.2.1.2 3 _ rfl).2
  have hcA : cA = cy 3 := Option.some.inj (h1.symm.trans g4)
  subst hcA
  rw [hsz0]
  refine kk p l e s m args below meth c _ locs ls b D cy hC hF ⟨by simp; exact Nat.le_succ_of_le hS.1, fun q w1 w2 => ?_, hS.2.2⟩ (gWd_grow hW (by simp) (fun q hq => by rw [Array.getElem?_push, if_neg (Nat.ne_of_lt hq)]) ?_) hl
  · rw [Array.getElem?_push, if_neg (Nat.ne_of_lt (Nat.lt_of_lt_of_le w1 hS.1))]
    exact hS.2.1 q w1 w2
  · show (H.push _)[b + sh.length]? = some (vp_cell (cy 3) (nn.toNatClampNeg, .inr (.inr (.inr (.inr (fun j => (R sh.length j).map (b + ·)))))))
    rw [show (fun j => (R sh.length j).map (b + ·)) = (fun _ => none) from funext fun j => by rw [hR j]; rfl, ← hsz0, arrV_new]
    simp [vp_cell_q, va_rf]
theorem G_kast {nn v jj : Nat} {w : Int32} (hjj : w.toNatClampNeg = jj) (hc : vwCl[ci]? = some (C, T, N)) (hca : C = "IceKeys$Key" ∨ C ∈ gCast) (hsh : sh[x]? = some (4, nn)) (hv : sh[v]? = some (0, ci)) (hin : vp_in w nn) (hd : decode M.2.1 pc = .ok (.aastore, 1)) (kk : G d M mc ms k n (pc + 1) L S sh (gupR R x jj (some v)) I Q) : G d M mc ms k n pc L (.ref v :: .int w :: .ref x :: S) sh R I Q := by
  subst hjj
  intro p l e s m args below meth c H locs ls b D cy hC hF hS hW hl
  have hsz0 : H.size = b + sh.length := hW.1
  have hlt : w.toNatClampNeg < nn := Nat.not_le.mp fun q => hin (Or.inr q)
  have h0 : ¬ w < 0 := fun q => hin (Or.inl q)
  obtain ⟨cellV, g1, g3, g4⟩ := va_recv hF.2.1 hW.2 hc (gws_a hv)
  obtain ⟨kC, hkC, -⟩ := Vm.findClass_spec g4
  obtain ⟨kA, comp, k1, k2, k3, -⟩ := (hF.2.1.2 3 _ rfl).2
  obtain ⟨kE, hkE, -⟩ := Vm.findClass_spec k3
  have hasg : s.vm.assignable cellV.cls comp = true := by
    rcases hca with rfl | hca
    · have e : comp = cellV.cls := Option.some.inj (k3.symm.trans g4)
      have hat := (hF.2.1.1 ci _ hc).2
      have e2 : D.1 ci = cellV.cls := Option.some.inj (hat.1.symm.trans g4)
      rw [e, ← e2]
      exact va_assign hat
    · exact vb_asgC (hF.2.2.2.2.2.1 C hca) comp cellV.cls k3 g4
  refine W.aast hC.1 hC.2.1 (hW.2 x _ (gws_a hsh)) (fun q h => by cases h) (fun h => by cases h) k1 k2 rfl hkE ⟨h0, by show _ < (arrV _ _ _).slots.size; rw [arrV_size]; exact hlt⟩ g1 (fun q h => by rw [h] at g3; cases g3) hkC hasg rfl rfl hd fun H1 e z oq => ?_
  refine kk p l _ s m args below meth c H1 _ ls b D cy hC hF (hS.put z oq (Nat.le_add_right b x)) (gWd_set hW rfl hsh (fun i sh hi => gcl_upR i sh hi) z oq ?_) hl
  show H1[b + x]? = some (vp_cell (cy 3) (nn, .inr (.inr (.inr (.inr (fun j => (gupR R x w.toNatClampNeg (some v) x j).map (b + ·)))))))
  rw [e]
  show some ((vp_cell (cy 3) (nn, .inr (.inr (.inr (.inr (fun j => (R x j).map (b + ·))))))).setSlot _ _) = _
  rw [vp_cell_q, vp_cell_q, arrV_store]
  congr 2
  funext q
  by_cases hq : q = w.toNatClampNeg
  · subst hq
    simp [updV, gupR, va_rf]
  · simp [updV, gupR, hq]
end GN
/-! ===== new int[n][k], walked here: the outer row is made, then row by row ===== -/
def gmO (cA : ClassId) (N h i : Nat) : Cell := arrV cA N (fun j => va_rf (if j < i then some (h + 1 + j) else none))
def gmR (cI : ClassId) (K : Nat) : Cell := { cls := cI, slots := Array.replicate K (.int 0), vm := .none }
def gmS (U : State) (cA cI : ClassId) (N K : Nat) : Nat → State
  | 0 => U.pushCell (gmO cA N U.heap.size 0)
  | i + 1 => ((gmS U cA cI N K i).pushCell (gmR cI K)).setCell U.heap.size (gmO cA N U.heap.size (i + 1))
theorem gmO_zero (cA : ClassId) (N h : Nat) : ({ cls := cA, slots := Array.replicate N .null, vm := .none } : Cell) = gmO cA N h 0 := by
  rw [arrV_new]
  refine congrArg (arrV cA N) (funext fun j => ?_)
  simp [va_rf]
theorem gmO_next (cA : ClassId) (N h i : Nat) : (gmO cA N h i).setSlot i (.ref (h + 1 + i)) = gmO cA N h (i + 1) := by
  show (arrV cA N _).setSlot i _ = arrV cA N _
  rw [arrV_store]
  refine congrArg (arrV cA N) (funext fun j => ?_)
  by_cases ej : j = i
  · subst ej
    simp [updV, va_rf]
  · by_cases hj : j < i
    · simp [updV, ej, hj, Nat.lt_succ_of_lt hj]
    · simp [updV, ej, hj, show ¬ j < i + 1 by omega]
theorem gmR_size (cI : ClassId) (K : Nat) : (gmR cI K).slots.size = K := by simp [gmR]
theorem gmS_size (U : State) (cA cI : ClassId) (N K : Nat) : ∀ i, (gmS U cA cI N K i).heap.size = U.heap.size + 1 + i
  | 0 => by simp [gmS]
  | i + 1 => by
    have := gmS_size U cA cI N K i
    simp [gmS, this]
    omega
theorem gmS_vm (U : State) (cA cI : ClassId) (N K : Nat) : ∀ i, (gmS U cA cI N K i).vm = U.vm
  | 0 => rfl
  | i + 1 => gmS_vm U cA cI N K i
theorem gmS_used (U : State) (cA cI : ClassId) (N K : Nat) : ∀ i, (gmS U cA cI N K i).slotsUsed = U.slotsUsed + N + i * K
  | 0 => by
    show U.slotsUsed + (gmO cA N U.heap.size 0).slots.size = _
    rw [gmO, arrV_size]
    omega
  | i + 1 => by
    show (gmS U cA cI N K i).slotsUsed + (gmR cI K).slots.size = _
    rw [gmS_used U cA cI N K i, gmR_size, Nat.succ_mul]
    omega
theorem gmS_top (U : State) (f : JFrame) (cA cI : ClassId) (N K : Nat) : ∀ i, gmS (U.setTop f) cA cI N K i = (gmS U cA cI N K i).setTop f
  | 0 => rfl
  | i + 1 => by
    show ((gmS (U.setTop f) cA cI N K i).pushCell (gmR cI K)).setCell _ _ = _
    rw [gmS_top U f cA cI N K i]
    rfl
theorem gmS_out (U : State) (cA cI : ClassId) (N K : Nat) : ∀ i, (gmS U cA cI N K i).heap[U.heap.size]? = some (gmO cA N U.heap.size i)
  | 0 => State.heap_pushCell_size _ _
  | i + 1 => by
    have hz := gmS_size U cA cI N K i
    have hb : ((gmS U cA cI N K i).pushCell (gmR cI K)).heap[U.heap.size]? = some (gmO cA N U.heap.size i) := by
      rw [State.heap_pushCell_of_lt (h := (by rw [hz]; omega : U.heap.size < (gmS U cA cI N K i).heap.size))]
      exact gmS_out U cA cI N K i
    exact State.heap_setCell_self hb
theorem gmS_low (U : State) (cA cI : ClassId) (N K q : Nat) (hq : q < U.heap.size) : ∀ i, (gmS U cA cI N K i).heap[q]? = U.heap[q]?
  | 0 => State.heap_pushCell_of_lt _ _ hq
  | i + 1 => by
    have hz := gmS_size U cA cI N K i
    show (((gmS U cA cI N K i).pushCell (gmR cI K)).setCell U.heap.size _).heap[q]? = _
    rw [State.heap_setCell_other (Nat.ne_of_gt hq), State.heap_pushCell_of_lt (h := (by rw [hz]; omega : q < (gmS U cA cI N K i).heap.size))]
    exact gmS_low U cA cI N K q hq i
theorem gmS_row (U : State) (cA cI : ClassId) (N K j : Nat) : ∀ i, j < i → (gmS U cA cI N K i).heap[U.heap.size + 1 + j]? = some (gmR cI K)
  | 0, h => absurd h (Nat.not_lt_zero _)
  | i + 1, h => by
    have hz := gmS_size U cA cI N K i
    show (((gmS U cA cI N K i).pushCell (gmR cI K)).setCell U.heap.size _).heap[U.heap.size + 1 + j]? = _
    rw [State.heap_setCell_other (show U.heap.size ≠ U.heap.size + 1 + j by omega)]
    by_cases hj : j = i
    · subst hj
      rw [← hz]
      exact State.heap_pushCell_size _ _
    · rw [State.heap_pushCell_of_lt (h := (by rw [hz]; omega : U.heap.size + 1 + j < (gmS U cA cI N K i).heap.size))]
      exact gmS_row U cA cI N K j i (by omega)
theorem gm_new {E : CtlPost} {e : Env} {dd : Bool} {acts : List Action} {U : State} {c comp : ClassId} {kc : Class} {ty : FieldType} {len : Nat} {v : Value} (hk : U.vm.classes[c]? = some kc) (hkind : kc.kind = .array comp ty)
    (hl : ¬ len > e.platform.arrayLengthLimit) (hh : ¬ len * componentBytes ty > e.platform.maxHeapBytes) (hf : fits ty v = true) (hv : v.isDefault = true) {P : Addr → Pre}
    (h1 : U.heap.size < e.platform.maxCells) (h2 : U.slotsUsed + len ≤ e.platform.maxSlots) (hq : P U.heap.size dd acts (U.pushCell { cls := c, slots := Array.replicate len v, vm := .none })) : Sem.wp (Jvm.newArray c len v) P E e dd acts U := by
  have hall : ((Array.replicate len v).all (·.isDefault)) = true := by
    rw [Array.all_replicate]
    split <;> simp [hv]
  have hfit : ∀ i w, (Array.replicate len v)[i]? = some w → U.fitsSlot c .none i w = true := fun i w hw => by
    rw [Array.getElem?_replicate] at hw
    split at hw
    · cases hw
      simp [State.fitsSlot, State.slotType?, hk, hkind, hf]
    · cases hw
  have hact : allocActs (Array.replicate len v) U.heap.size acts = acts := by
    unfold allocActs
    rw [if_pos hall]
  simp only [Jvm.newArray, Jvm.arrayFits, Sem.wp_bind', Jvm.W.ask, Jvm.W.ite, hl, if_false, Sem.wp_pure', Jvm.W.theClass, hk, hkind, hh, Jvm.W.alloc, Jvm.W.stop, Option.some.injEq, exists_eq_left', Array.size_replicate, hact]
  rw [if_neg (by omega)]
  exact ⟨h1, h2, hfit, hq⟩
theorem gm_make {E : CtlPost} {e : Env} {dd : Bool} {acts : List Action} {U : State} {cA cI cE : ClassId} {kA kI : Class} {nn kk0 : Int32} {N K : Nat} (hkA : U.vm.classes[cA]? = some kA) (hA : kA.kind = .array cI (.array .int)) (hkI : U.vm.classes[cI]? = some kI) (hI : kI.kind = .array cE .int)
    (h0 : ¬ nn < 0) (h1 : ¬ kk0 < 0) (hN : nn.toNatClampNeg = N) (hK : kk0.toNatClampNeg = K) (l1 : ¬ N > e.platform.arrayLengthLimit) (l2 : ¬ K > e.platform.arrayLengthLimit) (b1 : ¬ N * 4 > e.platform.maxHeapBytes) (b2 : ¬ K * 4 > e.platform.maxHeapBytes)
    (hc : U.heap.size + 1 + N ≤ e.platform.maxCells) (hs : U.slotsUsed + N + N * K ≤ e.platform.maxSlots) {P : Addr → Pre} (hq : ∀ d1 a1, P U.heap.size d1 a1 (gmS U cA cI N K N)) : Sem.wp (multianewarray.make cA [nn, kk0]) P E e dd acts U := by
  rw [multianewarray.make]
  simp only [Sem.wp_bind', Jvm.W.ite, h0, if_false, Sem.wp_pure', Jvm.W.theClass, hkA, hA, Option.some.injEq, exists_eq_left', hN]
  refine gm_new hkA hA l1 b1 rfl rfl (by omega) (by omega) ?_
  rw [gmO_zero cA N U.heap.size]
  have hfind : ([kk0].find? (· < 0)) = none := by simp [h1]
  simp only [hfind]
  rw [ite_self, Sem.wp_bind', Std.Legacy.Range.forIn_eq_forIn_range']
  have hr : ([:N] : Std.Legacy.Range).size = N := by simp [Std.Legacy.Range.size]
  rw [hr]
  refine wp_forIn_inv (fun rest V => ∃ i, i + rest.length = N ∧ rest = List.range' i rest.length ∧ V = gmS U cA cI N K i) _ _ ⟨0, by simp, by simp, rfl⟩ ?_ ?_
  · rintro x rest V d1 a1 P1 ⟨i, hi, hl, rfl⟩ next
    simp only [List.length_cons] at hi hl
    rw [List.range'_succ] at hl
    obtain ⟨rfl, hrest⟩ := List.cons.inj hl
    have hz := gmS_size U cA cI N K x
    have hm : x * K + K ≤ N * K := by
      have := Nat.mul_le_mul_right K (show x + 1 ≤ N by omega)
      rw [Nat.succ_mul] at this
      exact this
    simp only [Sem.wp_bind']
    rw [multianewarray.make]
    simp only [Sem.wp_bind', Jvm.W.ite, h1, if_false, Sem.wp_pure', Jvm.W.theClass, gmS_vm, hkI, hI, Option.some.injEq, exists_eq_left', hK]
    refine gm_new (by rw [gmS_vm]; exact hkI) hI l2 b2 rfl rfl (by rw [hz]; omega) (by rw [gmS_used]; omega) ?_
    simp only [Sem.wp_bind', Jvm.W.writeLoc, Sem.wp_pure']
    refine ⟨gmO cA N U.heap.size x, by rw [State.heap_pushCell_of_lt (h := (by rw [hz]; omega : U.heap.size < (gmS U cA cI N K x).heap.size))]; exact gmS_out U cA cI N K x, by simp [gmO, arrV], by rw [gmO, arrV_size]; omega, ?_, next _ _ _ ⟨x + 1, by omega, hrest, ?_⟩⟩
    · show State.fitsSlot _ cA .none x _ = true
      simp [State.fitsSlot, State.slotType?, gmS_vm, hkA, hA, fits]
    · rw [hz, gmO_next]
      rfl
  · rintro V d1 a1 ⟨i, hi, -, rfl⟩
    simp only [List.length_nil, Nat.add_zero] at hi
    subst hi
    simp only [Sem.wp_pure']
    exact hq _ _
section GMS
variable {p : Program} {l : Launch} {e : Env} {Rm : Room} {s : State} {m : MethodId} {args : Array Value} {below : List Frame} {meth : Method} {c : Code} {U : State} {locs : List Loc} {cells slots : Nat}
theorem gm_stand (X : Stand p l e Rm s m args below meth c U locs cells slots) (cA cI : ClassId) (N K : Nat) : ∀ i, Stand p l e Rm s m args below meth c (gmS U cA cI N K i) locs (cells + 1 + i) (slots + N + i * K)
  | 0 => by
    have h := X.pushed (gmO cA N U.heap.size 0)
    rw [show (gmO cA N U.heap.size 0).slots.size = N from arrV_size _ _ _] at h
    simpa [gmS] using h
  | i + 1 => by
    have Xi := (gm_stand X cA cI N K i).pushed (gmR cI K)
    have hz := gmS_size U cA cI N K i
    have hb : ((gmS U cA cI N K i).pushCell (gmR cI K)).heap[U.heap.size]? = some (gmO cA N U.heap.size i) := by
      rw [State.heap_pushCell_of_lt (h := (by rw [hz]; omega : U.heap.size < (gmS U cA cI N K i).heap.size))]
      exact gmS_out U cA cI N K i
    have h := Stand.dropFresh (Xi.stored hb i (.ref (U.heap.size + 1 + i))) (fun x hx => by
      cases List.mem_singleton.mp hx
      exact X.heapGrown)
    rw [gmO_next, gmR_size] at h
    rw [Nat.succ_mul, ← Nat.add_assoc (slots + N)]
    exact h
theorem gm_step (X : Stand p l e Rm s m args below meth c U locs cells slots) (hexec : p.tables.exec = Jvm.exec) {own : String} {i : Nat} (hown : s.vm.findClass own = some m.cls) (hcl : (Cond.classLink own i "[[I").before args s = true)
    (hov : (Cond.arrayOver (.array .int)).before args s = true) (har : (Cond.arrayClass .int).before args s = true) {g : JFrame} (hg : g.method = m) (hd : decode c.code g.pc = .ok (.multianewarray i 2, 4)) {nn kk0 : Int32} {rest : List Value} (hst : g.stack = .int kk0 :: .int nn :: rest)
    (h0 : ¬ nn < 0) (h1 : ¬ kk0 < 0) {N K : Nat} (hN : nn.toNatClampNeg = N) (hK : kk0.toNatClampNeg = K) (b1 : N ≤ 100000) (b2 : K ≤ 100000) (hcells : cells + (1 + N) ≤ Rm.cells) (hslots : slots + (N + N * K) ≤ Rm.slots) :
    ∃ (vm1 : Vm) (cA cI : ClassId), s.vm.findClass "[[I" = some cA ∧ s.vm.findClass "[I" = some cI ∧ Stand p l e Rm s m args below meth c (gmS (U.setVm vm1) cA cI N K N) locs (cells + 1 + N) (slots + N + N * K) ∧
      ∀ t, Steps p.tables e below ((gmS (U.setVm vm1) cA cI N K N).setTop { g with pc := g.pc + 4, stack := .ref U.heap.size :: rest }) t → Steps p.tables e below (U.setTop g) t := by
  subst hg
  have hpl : e.platform.magicAccessors = ({} : Platform).magicAccessors := by rw [X.admits.platform]
  obtain ⟨cI, cA, kA, hfI, -, hkA, hkindA, hfA⟩ := arrayOverA_spec hov
  obtain ⟨cI2, kI, cE, hfI2, hkI, hkindI⟩ := Cond.arrayClass_spec har
  obtain rfl : cI2 = cI := Option.some.inj (hfI2.symm.trans hfI)
  obtain ⟨cA2, hfA2, hlk⟩ := Cond.classLink_spec hown hcl e.platform hpl
  obtain rfl : cA2 = cA := Option.some.inj (hfA2.symm.trans hfA)
  obtain ⟨hg1, hw1, -⟩ := State.classEntry (e := e) X.warmed hlk
  generalize U.vm.noted g.method.cls i (.cls cA2) = vm1 at hg1 hw1
  obtain ⟨kA1, hkA1, eA⟩ := hw1.alike.2.2 _ _ hkA
  obtain ⟨kI1, hkI1, eI⟩ := hw1.alike.2.2 _ _ hkI
  obtain ⟨r1, r2⟩ := X.roomAbove hcells hslots
  have X1 := X.noted hw1
  have XF := gm_stand X1 cA2 cI2 N K N
  refine ⟨vm1, cA2, cI2, hfA, hfI, XF, fun t ht => ?_⟩
  have lim : e.platform.arrayLengthLimit = _ := Launch.admits_arrayLengthLimit X.admits
  have byt : e.platform.maxHeapBytes = _ := Launch.admits_maxHeapBytes X.admits
  jvm_step X.here [hexec, hd]
  simp only [multianewarray.sem, Sem.wp_bind', Jvm.W.resolveClassAt_links (State.method?_setTop g X.here.top) hg1]
  rw [Jvm.W.popN, if_neg (by decide)]
  refine ⟨g, State.topJava?_setTop' (s := U.setVm vm1) g X.here.top, [.int nn, .int kk0], rest, rfl, hst, ?_⟩
  simp only [List.mapM_cons, List.mapM_nil, Sem.wp_bind', Sem.wp_pure']
  refine gm_make (kA := kA1) (kI := kI1) (cI := cI2) (cE := cE) hkA1 (by rw [eA]; exact hkindA) hkI1 (by rw [eI]; exact hkindI) h0 h1 hN hK (by rw [lim]; omega) (by rw [lim]; omega) (by rw [byt]; omega) (by rw [byt]; omega) (by show U.heap.size + 1 + N ≤ _; omega) (by show U.slotsUsed + N + N * K ≤ _; omega) (fun d1 a1 => ?_)
  have eS : ((U.setTop g).setVm vm1).setTop { g with stack := rest } = (U.setVm vm1).setTop { g with stack := rest } := by
    show ((U.setVm vm1).setTop g).setTop _ = _
    rw [State.setTop_setTop]
  rw [eS, gmS_top]
  simp only [Sem.wp_bind', Jvm.W.mark, Jvm.W.pushRef, State.topJava?_setTop' _ XF.here.top, Option.some.injEq, exists_eq_left', State.setTop_setTop, State.heap_setTop]
  intro acts
  simp [jvm, XF.here.top]
  exact ht
end GMS
section GN2
variable {d : Nat} {M : gM} {mc ms k n pc : Nat} {L : gL} {S : List Value} {sh : List (Nat × Nat)} {R : gR} {I : gI} {Q : Option Value → gH → Prop}
variable {i : Nat}
/-- new int[4][40]: the outer row, then the inner ones -/
def gmna (R : gR) (x N : Nat) : gR := fun a j => if a = x then (if j < N then some (x + 1 + j) else none) else R a j
theorem G_mna {nn kk0 : Int32} {N K : Nat} (hw1 : Cond.classLink M.1.cls i "[[I" ∈ gBIG) (hw2 : Cond.arrayClass .int ∈ gBIG) (h0 : ¬ nn < 0) (h1 : ¬ kk0 < 0) (hN : nn.toNatClampNeg = N) (hK0 : kk0.toNatClampNeg = K) (hb1 : N ≤ 100000) (hb2 : K ≤ 100000) {sh1 : List (Nat × Nat)} {len kk1 nn1 : Nat} (hlen : sh.length = len) (hs1 : sh ++ ((5, N) :: List.replicate N (1, K)) = sh1) (hI : ∀ a j, len ≤ a → I a j = 0) (hR : ∀ a j, len ≤ a → R a j = none) (hk1 : k + 1 + N = kk1) (hn1 : n + N + N * K = nn1) (hk : k + (1 + N) ≤ mc) (hn : n + (N + N * K) ≤ ms) (hd : decode M.2.1 pc = .ok (.multianewarray i 2, 4))
    (kk : G d M mc ms kk1 nn1 (pc + 4) L (.ref len :: S) sh1 (gmna R len N) I Q) : G d M mc ms k n pc L (.int kk0 :: .int nn :: S) sh R I Q := by
  subst hs1
  subst hlen
  subst hk1
  subst hn1
  intro p l e s m args below meth c H locs ls b D cy hC hF hS hW hl
  have hsz0 : H.size = b + sh.length := hW.1
  have hts := hC.2.2.2.2.2.2.2
  subst hN
  subst hK0
  intro U hU Xs
  obtain ⟨vm₁, cA, comp, fA, fC, X', step⟩ := gm_step Xs hC.1 hC.2.2.2.2.2.1 (hts _ hw1) hF.2.2.2.2.1 (hts _ hw2) (g := F0 m pc ls (.int kk0 :: .int nn :: S.map (gtr b))) rfl (by rw [hC.2.1]; exact hd) rfl h0 h1 rfl rfl hb1 hb2 hk hn
  have hcA : cA = cy 4 := Option.some.inj (fA.symm.trans (hF.2.1.2 4 _ rfl).2)
  have hcI : comp = cy 0 := Option.some.inj (fC.symm.trans (hF.2.1.2 0 _ rfl).2)
  subst hcA
  subst hcI
  have hTh : (U.setVm vm₁).heap = H := hU
  have f1 := gmS_size (U.setVm vm₁) (cy 4) (cy 0) nn.toNatClampNeg kk0.toNatClampNeg nn.toNatClampNeg
  have f2 := gmS_out (U.setVm vm₁) (cy 4) (cy 0) nn.toNatClampNeg kk0.toNatClampNeg nn.toNatClampNeg
  have hold := fun q hq => gmS_low (U.setVm vm₁) (cy 4) (cy 0) nn.toNatClampNeg kk0.toNatClampNeg q hq nn.toNatClampNeg
  have hrow := fun j hj => gmS_row (U.setVm vm₁) (cy 4) (cy 0) nn.toNatClampNeg kk0.toNatClampNeg j nn.toNatClampNeg hj
  generalize gmS (U.setVm vm₁) (cy 4) (cy 0) nn.toNatClampNeg kk0.toNatClampNeg nn.toNatClampNeg = F at X' step f1 f2 hold hrow
  rw [hTh] at f1 f2
  simp only [hTh] at hold hrow
  have hwd : gWd b D cy (sh ++ ((5, nn.toNatClampNeg) :: List.replicate nn.toNatClampNeg (1, kk0.toNatClampNeg)), gmna R sh.length nn.toNatClampNeg, I) F.heap := by
    refine ⟨by rw [f1, hsz0]; simp; omega, fun i q hi => ?_⟩
    obtain ⟨sh', g1, rfl⟩ := gws_inv hi
    have g1 : (sh ++ ((5, nn.toNatClampNeg) :: List.replicate nn.toNatClampNeg (1, kk0.toNatClampNeg)))[i]? = some sh' := g1
    by_cases hl1 : i < sh.length
    · rw [List.getElem?_append_left hl1] at g1
      have e0 : gcl b cy (gmna R sh.length nn.toNatClampNeg) I i sh' = gcl b cy R I i sh' := by
        have e : gmna R sh.length nn.toNatClampNeg i = R i := by funext a; simp [gmna, Nat.ne_of_lt hl1]
        unfold gcl
        split <;> simp only [gfs, e]
      show va_at D vwCl (b + i, gcl b cy (gmna R sh.length nn.toNatClampNeg) I i sh') F.heap
      rw [e0]
      exact (hW.2 i _ (gws_a g1)).kept (hold _ (by show b + i < H.size; rw [hsz0]; omega))
    · rw [List.getElem?_append_right (by omega)] at g1
      by_cases hi0 : i = sh.length
      · subst hi0
        rw [Nat.sub_self] at g1
        cases g1
        show F.heap[b + sh.length]? = some (vp_cell (cy 4) (nn.toNatClampNeg, .inr (.inr (.inr (.inr (fun j => (gmna R sh.length nn.toNatClampNeg sh.length j).map (b + ·)))))))
        rw [← hsz0, f2, vp_cell_q]
        show some (arrV (cy 4) nn.toNatClampNeg (fun j => va_rf (if j < nn.toNatClampNeg then some (H.size + 1 + j) else none))) = _
        refine congrArg (fun f => some (arrV (cy 4) nn.toNatClampNeg f)) (funext fun j => ?_)
        by_cases hj : j < nn.toNatClampNeg
        · have e9 : H.size + 1 + j = b + (sh.length + 1 + j) := by rw [hsz0]; omega
          simp [gmna, hj, va_rf, e9]
        · simp [gmna, hj, va_rf]
      · obtain ⟨t, ht⟩ : ∃ t, i = sh.length + 1 + t := ⟨i - sh.length - 1, by omega⟩
        subst ht
        rw [show sh.length + 1 + t - sh.length = t + 1 by omega, List.getElem?_cons_succ, List.getElem?_replicate] at g1
        split at g1
        next htn =>
          cases g1
          show F.heap[b + (sh.length + 1 + t)]? = some (vp_cell (cy 0) (kk0.toNatClampNeg, .inl (I (sh.length + 1 + t))))
          rw [show I (sh.length + 1 + t) = (fun _ => 0) from funext fun j => hI _ j (by omega), show b + (sh.length + 1 + t) = H.size + 1 + t by rw [hsz0]; omega, hrow t htn]
          show some ({ cls := cy 0, slots := Array.replicate kk0.toNatClampNeg (.int 0), vm := .none } : Cell) = _
          rw [arrV_new, vp_cell_i]
        next => cases g1
  have hsz : U.heap.size = b + sh.length := by rw [hU]; exact hsz0
  obtain ⟨t, a1, b1⟩ := kk p l e s m args below meth c F.heap _ ls b D cy hC hF ⟨by rw [f1]; have := hS.1; omega, fun q w1 w2 => (hold q (Nat.lt_of_lt_of_le w1 hS.1)).trans (hS.2.1 q w1 w2), hS.2.2⟩ hwd hl F rfl X'
  refine ⟨t, step t ?_, b1⟩
  rw [hsz]
  exact a1
end GN2
