/-! ===== cells are numbered: cell k of the system lies at b + k, b the size of the heap at the law's entry ===== -/
abbrev gI : Type := Nat → Nat → Int32
abbrev gR : Type := Nat → Nat → Option Nat
/-- shapes (0: an object of a class; 1 int[], 2 boolean[], 3 char[], 4 Key[], 5 int[][]: a length), references, ints -/
abbrev gH : Type := List (Nat × Nat) × gR × gI
abbrev gL : Type := List (Option Value)
abbrev gM : Type := MethodName × ByteArray × Nat × Option FieldType
def gtr (b : Nat) : Value → Value
  | .ref k => .ref (b + k)
  | v => v
theorem gtr_cat (b : Nat) (v : Value) : (gtr b v).category = v.category := by cases v <;> rfl
theorem gtr_rf (b : Nat) (o : Option Nat) : gtr b (va_rf o) = va_rf (o.map (b + ·)) := by cases o <;> rfl
def gup (I : gI) (k j : Nat) (x : Int32) : gI := fun a i => if a = k then (if i = j then x else I a i) else I a i
def gupR (R : gR) (k j : Nat) (x : Option Nat) : gR := fun a i => if a = k then (if i = j then x else R a i) else R a i
/-- which fields of a class are references -/
def gF : List (List Bool) := [[false, false, false, false, true], [true, false, false, false, false, true, true, true, false, false, true, true, true, true, true, true, false, true, true], [], [], [true, true, true, true], [true, false, true, false, false, false, false, false, false, false, false, false, true, true, true], [false, false, true, true, true, true], [], [], [], [], [true, true, false, true, true, true, true, false, true, true, true, true, true, true], [true, true, true, false, true, true, false, true, false, false, false, false, false, false, true, true, true, true, true, false, false, false, false, true, true, false, true, false, true, true, true, true, true, true, false, false, false]]
/-- the types of fields -/
def gTy : List (List FieldType) := [[.int, .int, .boolean, .int, .array .int], [.array (.object "IceKeys$Key"), .int, .int, .int, .int, .array .int, .array .int, .array .int, .int, .int, .array .int, .array .int, .array .int, .array .int, .object "IceKeys$Rules", .array .int, .int, .array .int, .array .int], [], [], [.object "IceKeys$Fort", .array .int, .array .int, .array .int], [.array .int, .int, .object "IceKeys$Rules", .int, .int, .int, .int, .int, .int, .int, .int, .int, .array .boolean, .array .boolean, .array .boolean], [.int, .int, .array .int, .array .int, .array .int, .array .int], [], [], [], [], [.object "IceKeys$Fort", .object "IceKeys$Fort", .boolean, .object "IceKeys$Plans", .object "IceKeys$Reader", .object "IceKeys$Deed", .array .int, .int, .array .int, .array .int, .array (.array .int), .array .int, .array .int, .array .int], [.array .int, .array .int, .array .int, .boolean, .array .int, .array .int, .int, .array .char, .int, .int, .int, .int, .int, .int, .array .int, .array .int, .array .int, .array .int, .array .int, .int, .int, .int, .int, .array .int, .array .int, .int, .array .int, .int, .array .int, .array .int, .array .int, .array .int, .array .int, .array .int, .int, .int, .boolean]]
def gfs (b : Nat) (R : gR) (I : gI) (k : Nat) (fl : List Bool) : List Value := fl.mapIdx (fun j r => if r = true then va_rf ((R k j).map (b + ·)) else .int (I k j))
def gcl (b : Nat) (cy : Nat → ClassId) (R : gR) (I : gI) (k : Nat) (sh : Nat × Nat) : va_E := match sh with
  | (0, ci) => .inr (ci, gfs b R I k (gF.getD ci []))
  | (1, n) => .inl (cy 0, n, .inl (I k))
  | (2, n) => .inl (cy 1, n, .inl (I k))
  | (3, n) => .inl (cy 2, n, .inl (I k))
  | (4, n) => .inl (cy 3, n, .inr (.inr (.inr (.inr (fun j => (R k j).map (b + ·))))))
  | (_, n) => .inl (cy 4, n, .inr (.inr (.inr (.inr (fun j => (R k j).map (b + ·))))))
def gws (b : Nat) (cy : Nat → ClassId) (h : gH) : va_W := h.1.mapIdx (fun k sh => (b + k, gcl b cy h.2.1 h.2.2 k sh))
theorem gws_at {b : Nat} {cy : Nat → ClassId} {h : gH} {k : Nat} {sh : Nat × Nat} (hk : h.1[k]? = some sh) : (gws b cy h)[k]? = some (b + k, gcl b cy h.2.1 h.2.2 k sh) := by
  simp [gws, List.getElem?_mapIdx, hk]
theorem gws_a {b : Nat} {cy : Nat → ClassId} {shs : List (Nat × Nat)} {R : gR} {I : gI} {k : Nat} {sh : Nat × Nat} (hk : shs[k]? = some sh) : (gws b cy (shs, R, I))[k]? = some (b + k, gcl b cy R I k sh) := gws_at (h := (shs, R, I)) hk
theorem gws_inv {b : Nat} {cy : Nat → ClassId} {h : gH} {k : Nat} {q : Nat × va_E} (hk : (gws b cy h)[k]? = some q) : ∃ sh, h.1[k]? = some sh ∧ q = (b + k, gcl b cy h.2.1 h.2.2 k sh) := by
  simp only [gws, List.getElem?_mapIdx, Option.map_eq_some_iff] at hk
  obtain ⟨sh, h1, h2⟩ := hk
  exact ⟨sh, h1, h2.symm⟩
def gA (b : Nat) : Nat → Prop := fun q => b ≤ q
theorem gD (b : Nat) (cy : Nat → ClassId) (h : gH) : va_D (gA b) (gws b cy h) := by
  refine ⟨fun i j x y hi hj hxy => ?_, fun k q hk => ?_⟩
  · obtain ⟨s1, -, rfl⟩ := gws_inv hi
    obtain ⟨s2, -, rfl⟩ := gws_inv hj
    have : b + i = b + j := hxy
    omega
  · obtain ⟨s1, -, rfl⟩ := gws_inv hk
    exact Nat.le_add_right b k
def gWd (b : Nat) (D : va_G) (cy : Nat → ClassId) (h : gH) (H : Heap) : Prop := H.size = b + h.1.length ∧ va_P D vwCl (gws b cy h) H
/-- one cell was written -/
theorem gWd_set {b : Nat} {D : va_G} {cy : Nat → ClassId} {h h' : gH} {k : Nat} {sh : Nat × Nat} {H H1 : Heap} (hW : gWd b D cy h H) (hs : h'.1 = h.1) (hk : h.1[k]? = some sh) (hne : ∀ i sh', i ≠ k → gcl b cy h'.2.1 h'.2.2 i sh' = gcl b cy h.2.1 h.2.2 i sh')
    (hz : H1.size = H.size) (oq : ∀ q, q ≠ b + k → H1[q]? = H[q]?) (he : va_at D vwCl (b + k, gcl b cy h'.2.1 h'.2.2 k sh) H1) : gWd b D cy h' H1 := by
  refine ⟨by rw [hz, hs]; exact hW.1, fun i q hi => ?_⟩
  obtain ⟨sh', h1, rfl⟩ := gws_inv hi
  rw [hs] at h1
  by_cases hik : i = k
  · subst hik
    rw [hk] at h1
    cases h1
    exact he
  · rw [hne i sh' hik]
    exact (hW.2 i _ (gws_at h1)).kept (oq _ (by show b + i ≠ b + k; omega))
theorem gcl_up {b : Nat} {cy : Nat → ClassId} {R : gR} {I : gI} {k j : Nat} {x : Int32} (i : Nat) (sh : Nat × Nat) (hi : i ≠ k) : gcl b cy R (gup I k j x) i sh = gcl b cy R I i sh := by
  have e : gup I k j x i = I i := by funext a; simp [gup, hi]
  unfold gcl
  split <;> simp only [gfs, e]
theorem gcl_upR {b : Nat} {cy : Nat → ClassId} {R : gR} {I : gI} {k j : Nat} {x : Option Nat} (i : Nat) (sh : Nat × Nat) (hi : i ≠ k) : gcl b cy (gupR R k j x) I i sh = gcl b cy R I i sh := by
  have e : gupR R k j x i = R i := by funext a; simp [gupR, hi]
  unfold gcl
  split <;> simp only [gfs, e]
theorem gup_self (I : gI) (k j : Nat) (x : Int32) : gup I k j x k = upd (I k) j x := by funext a; simp [gup, upd]
theorem gupR_self (R : gR) (k j : Nat) (x : Option Nat) : gupR R k j x k = va_up (R k) j x := by funext a; simp [gupR, va_up]
theorem gfs_at {b : Nat} {R : gR} {I : gI} {k j : Nat} {fl : List Bool} {r : Bool} (hj : fl[j]? = some r) : (gfs b R I k fl)[j]? = some (if r = true then va_rf ((R k j).map (b + ·)) else .int (I k j)) := by
  simp [gfs, List.getElem?_mapIdx, hj]
theorem gfs_len {b : Nat} {R : gR} {I : gI} {k : Nat} {fl : List Bool} : (gfs b R I k fl).length = fl.length := by simp [gfs]
/-- a field's put, in the list of fields -/
theorem gfs_set {b : Nat} {R : gR} {I : gI} {k j : Nat} {fl : List Bool} {x : Int32} (hj : fl[j]? = some false) : (gfs b R I k fl).set j (.int x) = gfs b R (gup I k j x) k fl := by
  apply List.ext_getElem?
  intro i
  by_cases hij : j = i
  · subst hij
    have hl : j < (gfs b R I k fl).length := by rw [gfs_len]; exact (List.getElem?_eq_some_iff.mp hj).1
    rw [List.getElem?_set_self hl, gfs_at hj]
    simp [gup]
  · rw [List.getElem?_set_ne hij]
    simp only [gfs, List.getElem?_mapIdx]
    congr 1
    funext r
    simp [gup, Ne.symm hij]
theorem gfs_setR {b : Nat} {R : gR} {I : gI} {k j : Nat} {fl : List Bool} {x : Option Nat} (hj : fl[j]? = some true) : (gfs b R I k fl).set j (va_rf (x.map (b + ·))) = gfs b (gupR R k j x) I k fl := by
  apply List.ext_getElem?
  intro i
  by_cases hij : j = i
  · subst hij
    have hl : j < (gfs b R I k fl).length := by rw [gfs_len]; exact (List.getElem?_eq_some_iff.mp hj).1
    rw [List.getElem?_set_self hl, gfs_at hj]
    simp [gupR]
  · rw [List.getElem?_set_ne hij]
    simp only [gfs, List.getElem?_mapIdx]
    congr 1
    funext r
    simp [gupR, Ne.symm hij]
/-! the locals -/
def gal (b : Nat) (L : gL) : List (Nat × Value) := L.zipIdx.filterMap (fun q => q.1.map (fun v => (q.2, gtr b v)))
theorem gal_mem {b : Nat} {L : gL} {q : Nat × Value} : q ∈ gal b L ↔ ∃ (k : Nat) (v : Value), L[k]? = some (some v) ∧ q = (k, gtr b v) := by
  simp only [gal, List.mem_filterMap, Option.map_eq_some_iff]
  constructor
  · rintro ⟨⟨o, k⟩, h1, v, h2, h3⟩
    rw [List.mem_zipIdx_iff_getElem?] at h1
    have h2' : o = some v := h2
    subst h2'
    exact ⟨k, v, h1, h3.symm⟩
  · rintro ⟨k, v, h1, rfl⟩
    exact ⟨(some v, k), List.mem_zipIdx_iff_getElem?.mpr h1, v, rfl, rfl⟩
def gLV (b : Nat) (ls : Array Slot) (n : Nat) (L : gL) : Prop := lv_has ls n (gal b L)
theorem gLV_at {b : Nat} {ls : Array Slot} {n i : Nat} {L : gL} {v : Value} (h : gLV b ls n L) (hi : L[i]? = some (some v)) : ls[i]? = some (.val (gtr b v)) := h.2.2 (i, gtr b v) (gal_mem.mpr ⟨i, v, hi, rfl⟩)
/-- no long or double stands right ahead of place i -/
def gnl (L : gL) (i : Nat) : Bool := match i with
  | 0 => true
  | i + 1 => match L[i]? with
    | some (some v) => v.category == 1
    | _ => true
theorem gLV_set {b : Nat} {ls' : Array Slot} {n i : Nat} {L : gL} {v : Value} (hg : gnl L i = true) (h : lv_has ls' n ((i, gtr b v) :: (gal b L).filter (fun q => !(q.1 == i) && !(q.1 + 1 == i && q.2.category == 2)))) : gLV b ls' n (L.set i (some v)) := by
  refine ⟨h.1, h.2.1, fun q hq => ?_⟩
  obtain ⟨k, w, h1, rfl⟩ := gal_mem.mp hq
  by_cases hk : i = k
  · subst hk
    have hl : i < L.length := by
      have := (List.getElem?_eq_some_iff.mp h1).1
      simpa using this
    rw [List.getElem?_set_self hl] at h1
    cases h1
    exact h.2.2 _ List.mem_cons_self
  · rw [List.getElem?_set_ne hk] at h1
    refine h.2.2 _ (List.mem_cons_of_mem _ (List.mem_filter.mpr ⟨gal_mem.mpr ⟨k, w, h1, rfl⟩, ?_⟩))
    have e1 : (k == i) = false := by simpa using Ne.symm hk
    have e2 : (k + 1 == i && (gtr b w).category == 2) = false := by
      by_cases hki : k + 1 = i
      · subst hki
        simp only [gnl, h1, beq_iff_eq] at hg
        simp [gtr_cat, hg]
      · simp [hki]
    simp [e1, e2]
/-! the entry -/
def gen : List Value → gL
  | [] => []
  | v :: vs => if v.category = 2 then some v :: none :: gen vs else some v :: gen vs
def gent (n : Nat) (vs : List Value) : gL := gen vs ++ List.replicate (n - (gen vs).length) none
theorem gen_args (b : Nat) : ∀ (vs : List Value) (i k : Nat) (v : Value), (gen vs)[k]? = some (some v) → (i + k, gtr b v) ∈ lv_args i (vs.map (gtr b))
  | [], i, k, v, h => by simp [gen] at h
  | w :: vs, i, k, v, h => by
    simp only [List.map_cons, lv_args, gtr_cat]
    by_cases hc : w.category = 2
    · simp only [gen, hc, if_true] at h ⊢
      match k, h with
      | 0, h => simp at h; subst h; simp
      | 1, h => simp at h
      | k + 2, h =>
        simp at h
        have := gen_args b vs (i + 2) k v h
        rw [show i + (k + 2) = i + 2 + k by omega]
        exact List.mem_cons_of_mem _ this
    · simp only [gen, hc, if_false] at h ⊢
      match k, h with
      | 0, h => simp at h; subst h; simp
      | k + 1, h =>
        simp at h
        have := gen_args b vs (i + 1) k v h
        rw [show i + (k + 1) = i + 1 + k by omega]
        exact List.mem_cons_of_mem _ this
theorem gen_len (b : Nat) : ∀ vs : List Value, (lg_sl (vs.map (gtr b))).length = (gen vs).length
  | [] => rfl
  | v :: vs => by
    have ih := gen_len b vs
    simp only [lg_sl] at ih
    simp only [lg_sl, List.map_cons, List.flatMap_cons, gtr_cat, List.length_append, ih, gen]
    split <;> simp <;> omega
theorem gent_LV (b n : Nat) (vs : List Value) (hn : (gen vs).length ≤ n) : gLV b ((lg_sl (vs.map (gtr b)) ++ List.replicate (n - (lg_sl (vs.map (gtr b))).length) Slot.unset).toArray) n (gent n vs) := by
  have h := lv_entry (vs.map (gtr b)) (n := n) (by rw [gen_len]; exact hn)
  refine ⟨h.1, h.2.1, fun q hq => ?_⟩
  obtain ⟨k, v, h1, rfl⟩ := gal_mem.mp hq
  refine h.2.2 _ ?_
  have h2 : (gen vs)[k]? = some (some v) := by
    by_cases hk : k < (gen vs).length
    · rw [gent, List.getElem?_append_left hk] at h1
      exact h1
    · rw [gent, List.getElem?_append_right (by omega)] at h1
      rw [List.getElem?_replicate] at h1
      split at h1 <;> simp at h1
  have := gen_args b vs 0 k v h2
  simpa using this
