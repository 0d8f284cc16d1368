/-! ===== what constructors make ===== -/
theorem gWd_grow {b : Nat} {D : va_G} {cy : Nat → ClassId} {h : gH} {sh : Nat × Nat} {H H1 : Heap} (hW : gWd b D cy h H) (hz : H1.size = H.size + 1) (o1 : ∀ q, q < H.size → H1[q]? = H[q]?) (he : va_at D vwCl (b + h.1.length, gcl b cy h.2.1 h.2.2 h.1.length sh) H1) : gWd b D cy (h.1 ++ [sh], h.2.1, h.2.2) H1 := by
  refine ⟨by rw [hz, hW.1]; simp; omega, fun i q hi => ?_⟩
  obtain ⟨sh', h1, rfl⟩ := gws_inv hi
  by_cases hl : i < h.1.length
  · have h2 : h.1[i]? = some sh' := by rw [← List.getElem?_append_left (l₂ := [sh]) hl]; exact h1
    exact (hW.2 i _ (gws_at h2)).kept (o1 _ (by show b + i < H.size; rw [hW.1]; omega))
  · have h2 : ([sh] : List (Nat × Nat))[i - h.1.length]? = some sh' := by rw [← List.getElem?_append_right (l₁ := h.1) (by omega)]; exact h1
    have h3 : i - h.1.length < 1 := (List.getElem?_eq_some_iff.mp h2).1
    have e : i = h.1.length := by omega
    subst e
    rw [Nat.sub_self] at h2
    cases h2
    exact he
section GN
variable {d : Nat} {M : gM} {mc ms k n pc : Nat} {L : gL} {S : List Value} {sh : List (Nat × Nat)} {R : gR} {I : gI} {Q : Option Value → gH → Prop}
variable {ci x j i : Nat} {C : String} {T : u_T} {N : Nat}
theorem G_new (hc : vwCl[ci]? = some (C, T, N)) (hw1 : Cond.classLink M.1.cls i C ∈ gBIG) (hw2 : Cond.instantiable C N ∈ gBIG) (hw3 : Cond.initialized C ∈ gBIG) {sh1 : List (Nat × Nat)} {len : Nat} (hlen : sh.length = len) (hs1 : sh ++ [(0, ci)] = sh1) (hI : ∀ j, I len j = 0) (hR : ∀ j, R len j = none) (hk : k + 1 ≤ mc) (hn : n + N ≤ ms) (hd : decode M.2.1 pc = .ok (.new i, 3))
    (kk : G d M mc ms (k + 1) (n + N) (pc + 3) L (.ref len :: S) sh1 R I Q) : G d M mc ms k n pc L S sh R I Q := by
  subst hs1
  subst hlen
  intro p l e s m args below meth c H locs ls b D cy hC hF hS hW hl
  have hsz0 : H.size = b + sh.length := hW.1
  have hts := hC.2.2.2.2.2.2.2
  have hKn := hF.2.1.1 ci _ hc
  obtain ⟨ty, hty, -, hdf⟩ := gcls_ty hc
  refine W.newcK hC.1 hC.2.1 hC.2.2.2.2.2.1 (hts _ hw1) (hts _ hw2) (hts _ hw3) rfl hd hk hn hKn.2.1 hsz0 fun H1 kC hkC e1 z1 o1 => ?_
  refine kk p l e s m args below meth c H1 locs ls b D cy hC hF ⟨by rw [z1, ← hsz0]; exact Nat.le_succ_of_le hS.1, fun q g1 g2 => (o1 q (by rw [← hsz0]; exact Nat.lt_of_lt_of_le g1 hS.1)).trans (hS.2.1 q g1 g2), hS.2.2⟩ (gWd_grow hW (by rw [z1, hsz0]) (fun q hq => o1 q (by rw [← hsz0]; exact hq)) ⟨_, hc, (u_born ty hts (gcls_in hc) hKn hkC e1 hty).to (fun j hj => ?_)⟩) hl
  rw [hdf j hj]
  have hlj : j < (gF.getD ci []).length := by rw [gcls_len hc]; exact hj
  obtain ⟨r, hget⟩ : ∃ r, (gF.getD ci [])[j]? = some r := ⟨_, List.getElem?_eq_getElem hlj⟩
  rw [hget]
  show _ = (gfs b R I sh.length (gF.getD ci [])).getD j .null
  rw [List.getD_eq_getElem?_getD, gfs_at hget, hI, hR]
  cases r <;> rfl
theorem G_new_int {nn : Int32} {N : Nat} (hw : Cond.arrayClass .int ∈ gBIG) (h0 : ¬ nn < 0) (hN : nn.toNatClampNeg = N) (hbig : N ≤ 100000) {sh1 : List (Nat × Nat)} {len : Nat} (hlen : sh.length = len) (hs1 : sh ++ [(1, N)] = sh1) (hI : ∀ j, I len j = 0) (hk : k + 1 ≤ mc) (hn : n + N ≤ ms) (hd : decode M.2.1 pc = .ok (.newarray .int, 2))
    (kk : G d M mc ms (k + 1) (n + N) (pc + 2) L (.ref len :: S) sh1 R I Q) : G d M mc ms k n pc L (.int nn :: S) sh R I Q := by
  subst hs1
  subst hlen
  intro p l e s m args below meth c H locs ls b D cy hC hF hS hW hl
  have hsz0 : H.size = b + sh.length := hW.1
  have hts := hC.2.2.2.2.2.2.2
  refine va_newaK (atype := .int) hC.1 hC.2.1 (hts _ hw) rfl hd rfl h0 hN (by show N * _ ≤ _; simp only [newarray.typeOf, componentBytes]; omega) hk hn hsz0 fun H1 cA e1 z1 o1 hAr hNm => ?_
  have hcA : cA = cy 0 := Option.some.inj (hNm.symm.trans (hF.2.1.2 0 _ rfl).2)
  subst hcA
  refine kk p l e s m args below meth c H1 locs ls b D cy hC hF ⟨by rw [z1, ← hsz0]; exact Nat.le_succ_of_le hS.1, fun q g1 g2 => (o1 q (by rw [← hsz0]; exact Nat.lt_of_lt_of_le g1 hS.1)).trans (hS.2.1 q g1 g2), hS.2.2⟩ (gWd_grow hW (by rw [z1, hsz0]) (fun q hq => o1 q (by rw [← hsz0]; exact hq)) ?_) hl
  show H1[b + sh.length]? = some (vp_cell (cy 0) (N, .inl (I sh.length)))
  rw [show I sh.length = (fun _ => 0) from funext hI]
  exact e1
theorem G_new_boolean {nn : Int32} {N : Nat} (hw : Cond.arrayClass .boolean ∈ gBIG) (h0 : ¬ nn < 0) (hN : nn.toNatClampNeg = N) (hbig : N ≤ 100000) {sh1 : List (Nat × Nat)} {len : Nat} (hlen : sh.length = len) (hs1 : sh ++ [(2, N)] = sh1) (hI : ∀ j, I len j = 0) (hk : k + 1 ≤ mc) (hn : n + N ≤ ms) (hd : decode M.2.1 pc = .ok (.newarray .boolean, 2))
    (kk : G d M mc ms (k + 1) (n + N) (pc + 2) L (.ref len :: S) sh1 R I Q) : G d M mc ms k n pc L (.int nn :: S) sh R I Q := by
  subst hs1
  subst hlen
  intro p l e s m args below meth c H locs ls b D cy hC hF hS hW hl
  have hsz0 : H.size = b + sh.length := hW.1
  have hts := hC.2.2.2.2.2.2.2
  refine va_newaK (atype := .boolean) hC.1 hC.2.1 (hts _ hw) rfl hd rfl h0 hN (by show N * _ ≤ _; simp only [newarray.typeOf, componentBytes]; omega) hk hn hsz0 fun H1 cA e1 z1 o1 hAr hNm => ?_
  have hcA : cA = cy 1 := Option.some.inj (hNm.symm.trans (hF.2.1.2 1 _ rfl).2)
  subst hcA
  refine kk p l e s m args below meth c H1 locs ls b D cy hC hF ⟨by rw [z1, ← hsz0]; exact Nat.le_succ_of_le hS.1, fun q g1 g2 => (o1 q (by rw [← hsz0]; exact Nat.lt_of_lt_of_le g1 hS.1)).trans (hS.2.1 q g1 g2), hS.2.2⟩ (gWd_grow hW (by rw [z1, hsz0]) (fun q hq => o1 q (by rw [← hsz0]; exact hq)) ?_) hl
  show H1[b + sh.length]? = some (vp_cell (cy 1) (N, .inl (I sh.length)))
  rw [show I sh.length = (fun _ => 0) from funext hI]
  exact e1
theorem G_new_char {nn : Int32} {N : Nat} (hw : Cond.arrayClass .char ∈ gBIG) (h0 : ¬ nn < 0) (hN : nn.toNatClampNeg = N) (hbig : N ≤ 100000) {sh1 : List (Nat × Nat)} {len : Nat} (hlen : sh.length = len) (hs1 : sh ++ [(3, N)] = sh1) (hI : ∀ j, I len j = 0) (hk : k + 1 ≤ mc) (hn : n + N ≤ ms) (hd : decode M.2.1 pc = .ok (.newarray .char, 2))
    (kk : G d M mc ms (k + 1) (n + N) (pc + 2) L (.ref len :: S) sh1 R I Q) : G d M mc ms k n pc L (.int nn :: S) sh R I Q := by
  subst hs1
  subst hlen
  intro p l e s m args below meth c H locs ls b D cy hC hF hS hW hl
  have hsz0 : H.size = b + sh.length := hW.1
  have hts := hC.2.2.2.2.2.2.2
  refine va_newaK (atype := .char) hC.1 hC.2.1 (hts _ hw) rfl hd rfl h0 hN (by show N * _ ≤ _; simp only [newarray.typeOf, componentBytes]; omega) hk hn hsz0 fun H1 cA e1 z1 o1 hAr hNm => ?_
  have hcA : cA = cy 2 := Option.some.inj (hNm.symm.trans (hF.2.1.2 2 _ rfl).2)
  subst hcA
  refine kk p l e s m args below meth c H1 locs ls b D cy hC hF ⟨by rw [z1, ← hsz0]; exact Nat.le_succ_of_le hS.1, fun q g1 g2 => (o1 q (by rw [← hsz0]; exact Nat.lt_of_lt_of_le g1 hS.1)).trans (hS.2.1 q g1 g2), hS.2.2⟩ (gWd_grow hW (by rw [z1, hsz0]) (fun q hq => o1 q (by rw [← hsz0]; exact hq)) ?_) hl
  show H1[b + sh.length]? = some (vp_cell (cy 2) (N, .inl (I sh.length)))
  rw [show I sh.length = (fun _ => 0) from funext hI]
  exact e1
theorem G_new_keys {nn : Int32} {N : Nat} (hw : Cond.classLink M.1.cls i "IceKeys$Key" ∈ gBIG) (h0 : ¬ nn < 0) (hN : nn.toNatClampNeg = N) (hbig : N ≤ 100000) {sh1 : List (Nat × Nat)} {len : Nat} (hlen : sh.length = len) (hs1 : sh ++ [(4, N)] = sh1) (hR : ∀ j, R len j = none) (hk : k + 1 ≤ mc) (hn : n + N ≤ ms) (hd : decode M.2.1 pc = .ok (.anewarray i, 3))
    (kk : G d M mc ms (k + 1) (n + N) (pc + 3) L (.ref len :: S) sh1 R I Q) : G d M mc ms k n pc L (.int nn :: S) sh R I Q := by
  subst hs1
  subst hlen
  intro p l e s m args below meth c H locs ls b D cy hC hF hS hW hl
  have hsz0 : H.size = b + sh.length := hW.1
  have hts := hC.2.2.2.2.2.2.2
  subst hN
  refine W.anew hC.1 hC.2.1 hC.2.2.2.2.2.1 (hts _ hw) (va_AO.use hF.2.2.2.1) rfl hd rfl h0 (by omega) hk hn fun cA kA comp h1 h2 h3 h4 => ?_
  obtain ⟨kB, cB, g1, g2, g3, g4⟩ := (hF.2.1.2 3 _ rfl).2
  have hcA : cA = cy 3 := Option.some.inj (h1.symm.trans g4)
  subst hcA
  rw [hsz0]
  refine kk p l e s m args below meth c _ locs ls b D cy hC hF ⟨by simp; exact Nat.le_succ_of_le hS.1, fun q w1 w2 => ?_, hS.2.2⟩ (gWd_grow hW (by simp) (fun q hq => by rw [Array.getElem?_push, if_neg (Nat.ne_of_lt hq)]) ?_) hl
  · rw [Array.getElem?_push, if_neg (Nat.ne_of_lt (Nat.lt_of_lt_of_le w1 hS.1))]
    exact hS.2.1 q w1 w2
  · show (H.push _)[b + sh.length]? = some (vp_cell (cy 3) (nn.toNatClampNeg, .inr (.inr (.inr (.inr (fun j => (R sh.length j).map (b + ·)))))))
    rw [show (fun j => (R sh.length j).map (b + ·)) = (fun _ => none) from funext fun j => by rw [hR j]; rfl, ← hsz0, arrV_new]
    simp [vp_cell_q, va_rf]
theorem G_kast {nn v jj : Nat} {w : Int32} (hjj : w.toNatClampNeg = jj) (hc : vwCl[ci]? = some (C, T, N)) (hca : C = "IceKeys$Key" ∨ C ∈ gCast) (hsh : sh[x]? = some (4, nn)) (hv : sh[v]? = some (0, ci)) (hin : vp_in w nn) (hd : decode M.2.1 pc = .ok (.aastore, 1)) (kk : G d M mc ms k n (pc + 1) L S sh (gupR R x jj (some v)) I Q) : G d M mc ms k n pc L (.ref v :: .int w :: .ref x :: S) sh R I Q := by
  subst hjj
  intro p l e s m args below meth c H locs ls b D cy hC hF hS hW hl
  have hsz0 : H.size = b + sh.length := hW.1
  have hlt : w.toNatClampNeg < nn := Nat.not_le.mp fun q => hin (Or.inr q)
  have h0 : ¬ w < 0 := fun q => hin (Or.inl q)
  obtain ⟨cellV, g1, g3, g4⟩ := va_recv hF.2.1 hW.2 hc (gws_a hv)
  obtain ⟨kC, hkC, -⟩ := Vm.findClass_spec g4
  obtain ⟨kA, comp, k1, k2, k3, -⟩ := (hF.2.1.2 3 _ rfl).2
  obtain ⟨kE, hkE, -⟩ := Vm.findClass_spec k3
  have hasg : s.vm.assignable cellV.cls comp = true := by
    rcases hca with rfl | hca
    · have e : comp = cellV.cls := Option.some.inj (k3.symm.trans g4)
      have hat := (hF.2.1.1 ci _ hc).2
      have e2 : D.1 ci = cellV.cls := Option.some.inj (hat.1.symm.trans g4)
      rw [e, ← e2]
      exact va_assign hat
    · exact vb_asgC (hF.2.2.2.2.2 C hca) comp cellV.cls k3 g4
  refine W.aast hC.1 hC.2.1 (hW.2 x _ (gws_a hsh)) (fun q h => by cases h) (fun h => by cases h) k1 k2 rfl hkE ⟨h0, by show _ < (arrV _ _ _).slots.size; rw [arrV_size]; exact hlt⟩ g1 (fun q h => by rw [h] at g3; cases g3) hkC hasg rfl rfl hd fun H1 e z oq => ?_
  refine kk p l _ s m args below meth c H1 _ ls b D cy hC hF (hS.put z oq (Nat.le_add_right b x)) (gWd_set hW rfl hsh (fun i sh hi => gcl_upR i sh hi) z oq ?_) hl
  show H1[b + x]? = some (vp_cell (cy 3) (nn, .inr (.inr (.inr (.inr (fun j => (gupR R x w.toNatClampNeg (some v) x j).map (b + ·)))))))
  rw [e]
  show some ((vp_cell (cy 3) (nn, .inr (.inr (.inr (.inr (fun j => (R x j).map (b + ·))))))).setSlot _ _) = _
  rw [vp_cell_q, vp_cell_q, arrV_store]
  congr 2
  funext q
  by_cases hq : q = w.toNatClampNeg
  · subst hq
    simp [updV, gupR, va_rf]
  · simp [updV, gupR, hq]
/-- new int[4][40]: the outer row, then the inner ones -/
def gmna (R : gR) (x N : Nat) : gR := fun a j => if a = x then (if j < N then some (x + 1 + j) else none) else R a j
theorem G_mna {nn kk0 : Int32} {N K : Nat} (hw1 : Cond.classLink M.1.cls i "[[I" ∈ gBIG) (hw2 : Cond.arrayClass .int ∈ gBIG) (h0 : ¬ nn < 0) (h1 : ¬ kk0 < 0) (hN : nn.toNatClampNeg = N) (hK0 : kk0.toNatClampNeg = K) (hb1 : N ≤ 100000) (hb2 : K ≤ 100000) {sh1 : List (Nat × Nat)} {len kk1 nn1 : Nat} (hlen : sh.length = len) (hs1 : sh ++ ((5, N) :: List.replicate N (1, K)) = sh1) (hI : ∀ a j, len ≤ a → I a j = 0) (hR : ∀ a j, len ≤ a → R a j = none) (hk1 : k + 1 + N = kk1) (hn1 : n + N + N * K = nn1) (hk : k + (1 + N) ≤ mc) (hn : n + (N + N * K) ≤ ms) (hd : decode M.2.1 pc = .ok (.multianewarray i 2, 4))
    (kk : G d M mc ms kk1 nn1 (pc + 4) L (.ref len :: S) sh1 (gmna R len N) I Q) : G d M mc ms k n pc L (.int kk0 :: .int nn :: S) sh R I Q := by
  subst hs1
  subst hlen
  subst hk1
  subst hn1
  intro p l e s m args below meth c H locs ls b D cy hC hF hS hW hl
  have hsz0 : H.size = b + sh.length := hW.1
  have hts := hC.2.2.2.2.2.2.2
  subst hN
  subst hK0
  intro U hU Xs
  obtain ⟨vm₁, cA, comp, -, fA, fC, hO, -, X', step⟩ := Jvm.Stand.multianewarray2F Xs hC.1 hC.2.2.2.2.2.1 (ty := .int) (hts _ hw1) hF.2.2.2.2.1 (hts _ hw2) (g := F0 m pc ls (.int kk0 :: .int nn :: S.map (gtr b))) rfl (by rw [hC.2.1]; exact hd) rfl h0 h1 (by omega) (by show _ * 4 ≤ _; omega) (by omega) rfl rfl hk hn
  have hcA : cA = cy 4 := Option.some.inj (fA.symm.trans (hF.2.1.2 4 _ rfl).2)
  have hcI : comp = cy 0 := Option.some.inj (fC.symm.trans (hF.2.1.2 0 _ rfl).2)
  subst hcA
  subst hcI
  generalize hFl : Jvm.Free.Multi.fill (U.setVm vm₁) (cy 4) (cy 0) nn.toNatClampNeg kk0.toNatClampNeg (defaultValue .int) nn.toNatClampNeg = F at X' step
  have hTh : (U.setVm vm₁).heap = H := hU
  obtain ⟨f1, f2, -, -⟩ := Jvm.Free.Multi.fill_facts (U.setVm vm₁) (cy 4) (cy 0) nn.toNatClampNeg kk0.toNatClampNeg (defaultValue .int) nn.toNatClampNeg
  rw [hFl, hTh] at f1 f2
  have hold : ∀ q : Nat, q < H.size → F.heap[q]? = H[q]? := fun q hq => by
    have := Jvm.Free.Multi.fill_old (U.setVm vm₁) (cy 4) (cy 0) nn.toNatClampNeg kk0.toNatClampNeg (defaultValue .int) (a := q) (by rw [hTh]; exact hq) nn.toNatClampNeg
    rw [hFl, hTh] at this
    exact this
  have hrow : ∀ j : Nat, j < nn.toNatClampNeg → F.heap[H.size + 1 + j]? = some (Jvm.Free.Multi.innerC (cy 0) kk0.toNatClampNeg (defaultValue .int)) := fun j hj => by
    have := Jvm.Free.Multi.fill_inner (U.setVm vm₁) (cy 4) (cy 0) nn.toNatClampNeg kk0.toNatClampNeg (defaultValue .int) nn.toNatClampNeg j hj
    rw [hFl, hTh] at this
    exact this
  have hwd : gWd b D cy (sh ++ ((5, nn.toNatClampNeg) :: List.replicate nn.toNatClampNeg (1, kk0.toNatClampNeg)), gmna R sh.length nn.toNatClampNeg, I) F.heap := by
    refine ⟨by rw [f1, hsz0]; simp; omega, fun i q hi => ?_⟩
    obtain ⟨sh', g1, rfl⟩ := gws_inv hi
    have g1 : (sh ++ ((5, nn.toNatClampNeg) :: List.replicate nn.toNatClampNeg (1, kk0.toNatClampNeg)))[i]? = some sh' := g1
    by_cases hl1 : i < sh.length
    · rw [List.getElem?_append_left hl1] at g1
      have e0 : gcl b cy (gmna R sh.length nn.toNatClampNeg) I i sh' = gcl b cy R I i sh' := by
        have e : gmna R sh.length nn.toNatClampNeg i = R i := by funext a; simp [gmna, Nat.ne_of_lt hl1]
        unfold gcl
        split <;> simp only [gfs, e]
      show va_at D vwCl (b + i, gcl b cy (gmna R sh.length nn.toNatClampNeg) I i sh') F.heap
      rw [e0]
      exact (hW.2 i _ (gws_a g1)).kept (hold _ (by show b + i < H.size; rw [hsz0]; omega))
    · rw [List.getElem?_append_right (by omega)] at g1
      by_cases hi0 : i = sh.length
      · subst hi0
        rw [Nat.sub_self] at g1
        cases g1
        show F.heap[b + sh.length]? = some (vp_cell (cy 4) (nn.toNatClampNeg, .inr (.inr (.inr (.inr (fun j => (gmna R sh.length nn.toNatClampNeg sh.length j).map (b + ·)))))))
        rw [← hsz0, f2, vp_cell_q]
        have key : ∀ t : Nat, Jvm.Free.Multi.outerC (cy 4) nn.toNatClampNeg H.size t = arrV (cy 4) nn.toNatClampNeg (fun j => va_rf (if j < t then some (H.size + 1 + j) else none)) := by
          intro t
          induction t with
          | zero =>
            show ({ cls := cy 4, slots := Array.replicate nn.toNatClampNeg .null, vm := .none } : Cell) = _
            rw [arrV_new]
            refine congrArg (arrV (cy 4) nn.toNatClampNeg) (funext fun j => ?_)
            simp [va_rf]
          | succ t ih =>
            show (Jvm.Free.Multi.outerC (cy 4) nn.toNatClampNeg H.size t).setSlot t (.ref (H.size + 1 + t)) = _
            rw [ih, arrV_store]
            refine congrArg (arrV (cy 4) nn.toNatClampNeg) (funext fun j => ?_)
            by_cases ej : j = t
            · subst ej
              simp [updV, va_rf]
            · by_cases hj : j < t
              · simp [updV, ej, hj, Nat.lt_succ_of_lt hj]
              · simp [updV, ej, hj, show ¬ j < t + 1 by omega]
        rw [key]
        refine congrArg (fun f => some (arrV (cy 4) nn.toNatClampNeg f)) (funext fun j => ?_)
        by_cases hj : j < nn.toNatClampNeg
        · have e9 : H.size + 1 + j = b + (sh.length + 1 + j) := by rw [hsz0]; omega
          simp [gmna, hj, va_rf, e9]
        · simp [gmna, hj, va_rf]
      · obtain ⟨t, ht⟩ : ∃ t, i = sh.length + 1 + t := ⟨i - sh.length - 1, by omega⟩
        subst ht
        rw [show sh.length + 1 + t - sh.length = t + 1 by omega, List.getElem?_cons_succ, List.getElem?_replicate] at g1
        split at g1
        next htn =>
          cases g1
          show F.heap[b + (sh.length + 1 + t)]? = some (vp_cell (cy 0) (kk0.toNatClampNeg, .inl (I (sh.length + 1 + t))))
          rw [show I (sh.length + 1 + t) = (fun _ => 0) from funext fun j => hI _ j (by omega), show b + (sh.length + 1 + t) = H.size + 1 + t by rw [hsz0]; omega, hrow t htn]
          show some ({ cls := cy 0, slots := Array.replicate kk0.toNatClampNeg (defaultValue .int), vm := .none } : Cell) = _
          rw [arrV_new, vp_cell_i]
          rfl
        next => cases g1
  have hsz : U.heap.size = b + sh.length := by rw [hU]; exact hsz0
  obtain ⟨t, a1, b1⟩ := kk p l e s m args below meth c F.heap _ ls b D cy hC hF ⟨by rw [f1]; have := hS.1; omega, fun q w1 w2 => (hold q (Nat.lt_of_lt_of_le w1 hS.1)).trans (hS.2.1 q w1 w2), hS.2.2⟩ hwd hl F rfl X'
  refine ⟨t, step t ?_, b1⟩
  rw [hsz]
  exact a1
end GN
