def F_key (kind : Int32) (teeth : Int32) (straw : Int32) (gate : Int32) : Int32 := if (1 ≤ kind ∧ kind ≤ 5) ∧ (0 ≤ teeth ∧ teeth ≤ 99) ∧ (0 ≤ straw ∧ straw ≤ 9) ∧ (0 ≤ gate ∧ gate ≤ 5) then 0 else -1
set_option maxRecDepth 100000 in
set_option maxHeartbeats 4000000 in
theorem x_key (d : Nat) (kind : Int32) (teeth : Int32) (straw : Int32) (gate : Int32) : G (d + 2) mX11_key 0 0 0 0 0 (gent 6 [.ref 0, .int kind, .int teeth, .int straw, .int gate]) [] SH0 RF0 I0 (fun r h => ∃ I1, r = some (.int (F_key kind teeth straw gate)) ∧ h = (SH0, RF0, I1) ∧ ∀ a, 67 ≤ a → I1 a = I0 a) := by
  refine G_iload_n (pc := 0) rfl dX11_key_0 ?_
  refine G_callS (pc := 1) (mc1 := 0) (ms1 := 0) (mj := mX11_isKeyKind) (vs := [_]) dX11_key_1 cm_X11_isKeyKind wf_0 wf_3 rfl (Nat.le_of_ble_eq_true rfl) (Nat.le_of_ble_eq_true rfl) (Nat.le_of_ble_eq_true rfl) (Nat.le_of_ble_eq_true rfl) (isKeyKind_s d kind) ?_
  rintro _ _ ⟨rfl, rfl⟩
  dsimp only [Option.toList, List.cons_append, List.nil_append]
  refine G_if_eq (pc := 4) (tgt := 35) (by decide) dX11_key_4 (fun c1 => ?_) (fun c1 => ?_)
  · have c1 := gB_z c1
    refine G_iconst (pc := 35) (v := (-1)) (by decide) dX11_key_35 ?_
    exact G_iret (pc := 36) (Nat.le_of_ble_eq_true rfl) (Nat.le_of_ble_eq_true rfl) rfl dX11_key_36 ⟨_, by first | rfl | (simp [F_key, *]; done) | (have : ¬ (1 ≤ (kind).toInt ∧ (kind).toInt ≤ 5) := fun z => c1 ⟨Int32.le_iff_toInt_le.mpr z.1, Int32.le_iff_toInt_le.mpr z.2⟩; simp only [F_key, Int32.le_iff_toInt_le, Int32.lt_iff_toInt_lt, ← Int32.toInt_inj]; simp; omega) | (have : ¬ (1 ≤ (kind).toInt ∧ (kind).toInt ≤ 5) := fun z => c1 ⟨Int32.le_iff_toInt_le.mpr z.1, Int32.le_iff_toInt_le.mpr z.2⟩; simp only [F_key, Int32.le_iff_toInt_le, Int32.lt_iff_toInt_lt, ← Int32.toInt_inj]; split <;> first | rfl | (exfalso; simp at *; omega)) | (have : ¬ (1 ≤ (kind).toInt ∧ (kind).toInt ≤ 5) := fun z => c1 ⟨Int32.le_iff_toInt_le.mpr z.1, Int32.le_iff_toInt_le.mpr z.2⟩; unfold F_key; (repeat' split) <;> first | rfl | (exfalso; (try simp only [Int32.le_iff_toInt_le, Int32.lt_iff_toInt_lt, ← Int32.toInt_inj] at *); first | omega | (simp at *; done) | (simp at *; omega))), rfl, fun _ _ => rfl⟩
  · have c1 := gB_o c1
    refine G_iload_n (pc := 7) rfl dX11_key_7 ?_
    refine G_iconst (pc := 8) (v := 0) (by decide) dX11_key_8 ?_
    refine G_bipush (pc := 9) (v := 99) (by decide) dX11_key_9 ?_
    refine G_callS (pc := 11) (mc1 := 0) (ms1 := 0) (mj := mX11_isIn) (vs := [_, _, _]) dX11_key_11 cm_X11_isIn wf_4 wf_6 rfl (Nat.le_of_ble_eq_true rfl) (Nat.le_of_ble_eq_true rfl) (Nat.le_of_ble_eq_true rfl) (Nat.le_of_ble_eq_true rfl) (isIn_s (d + 1) teeth 0 99) ?_
    rintro _ _ ⟨rfl, rfl⟩
    dsimp only [Option.toList, List.cons_append, List.nil_append]
    refine G_if_eq (pc := 14) (tgt := 35) (by decide) dX11_key_14 (fun c2 => ?_) (fun c2 => ?_)
    · have c2 := gB_z c2
      refine G_iconst (pc := 35) (v := (-1)) (by decide) dX11_key_35 ?_
      exact G_iret (pc := 36) (Nat.le_of_ble_eq_true rfl) (Nat.le_of_ble_eq_true rfl) rfl dX11_key_36 ⟨_, by first | rfl | (simp [F_key, *]; done) | (have : 1 ≤ (kind).toInt := Int32.le_iff_toInt_le.mp (c1.1); have : (kind).toInt ≤ 5 := Int32.le_iff_toInt_le.mp (c1.2); have : ¬ (0 ≤ (teeth).toInt ∧ (teeth).toInt ≤ 99) := fun z => c2 ⟨Int32.le_iff_toInt_le.mpr z.1, Int32.le_iff_toInt_le.mpr z.2⟩; simp only [F_key, Int32.le_iff_toInt_le, Int32.lt_iff_toInt_lt, ← Int32.toInt_inj]; simp; omega) | (have : 1 ≤ (kind).toInt := Int32.le_iff_toInt_le.mp (c1.1); have : (kind).toInt ≤ 5 := Int32.le_iff_toInt_le.mp (c1.2); have : ¬ (0 ≤ (teeth).toInt ∧ (teeth).toInt ≤ 99) := fun z => c2 ⟨Int32.le_iff_toInt_le.mpr z.1, Int32.le_iff_toInt_le.mpr z.2⟩; simp only [F_key, Int32.le_iff_toInt_le, Int32.lt_iff_toInt_lt, ← Int32.toInt_inj]; split <;> first | rfl | (exfalso; simp at *; omega)) | (have : 1 ≤ (kind).toInt := Int32.le_iff_toInt_le.mp (c1.1); have : (kind).toInt ≤ 5 := Int32.le_iff_toInt_le.mp (c1.2); have : ¬ (0 ≤ (teeth).toInt ∧ (teeth).toInt ≤ 99) := fun z => c2 ⟨Int32.le_iff_toInt_le.mpr z.1, Int32.le_iff_toInt_le.mpr z.2⟩; unfold F_key; (repeat' split) <;> first | rfl | (exfalso; (try simp only [Int32.le_iff_toInt_le, Int32.lt_iff_toInt_lt, ← Int32.toInt_inj] at *); first | omega | (simp at *; done) | (simp at *; omega))), rfl, fun _ _ => rfl⟩
    · have c2 := gB_o c2
      refine G_iload_n (pc := 17) rfl dX11_key_17 ?_
      refine G_iconst (pc := 18) (v := 0) (by decide) dX11_key_18 ?_
      refine G_bipush (pc := 19) (v := 9) (by decide) dX11_key_19 ?_
      refine G_callS (pc := 21) (mc1 := 0) (ms1 := 0) (mj := mX11_isIn) (vs := [_, _, _]) dX11_key_21 cm_X11_isIn wf_4 wf_6 rfl (Nat.le_of_ble_eq_true rfl) (Nat.le_of_ble_eq_true rfl) (Nat.le_of_ble_eq_true rfl) (Nat.le_of_ble_eq_true rfl) (isIn_s (d + 1) straw 0 9) ?_
      rintro _ _ ⟨rfl, rfl⟩
      dsimp only [Option.toList, List.cons_append, List.nil_append]
      refine G_if_eq (pc := 24) (tgt := 35) (by decide) dX11_key_24 (fun c3 => ?_) (fun c3 => ?_)
      · have c3 := gB_z c3
        refine G_iconst (pc := 35) (v := (-1)) (by decide) dX11_key_35 ?_
        exact G_iret (pc := 36) (Nat.le_of_ble_eq_true rfl) (Nat.le_of_ble_eq_true rfl) rfl dX11_key_36 ⟨_, by first | rfl | (simp [F_key, *]; done) | (have : 1 ≤ (kind).toInt := Int32.le_iff_toInt_le.mp (c1.1); have : (kind).toInt ≤ 5 := Int32.le_iff_toInt_le.mp (c1.2); have : 0 ≤ (teeth).toInt := Int32.le_iff_toInt_le.mp (c2.1); have : (teeth).toInt ≤ 99 := Int32.le_iff_toInt_le.mp (c2.2); have : ¬ (0 ≤ (straw).toInt ∧ (straw).toInt ≤ 9) := fun z => c3 ⟨Int32.le_iff_toInt_le.mpr z.1, Int32.le_iff_toInt_le.mpr z.2⟩; simp only [F_key, Int32.le_iff_toInt_le, Int32.lt_iff_toInt_lt, ← Int32.toInt_inj]; simp; omega) | (have : 1 ≤ (kind).toInt := Int32.le_iff_toInt_le.mp (c1.1); have : (kind).toInt ≤ 5 := Int32.le_iff_toInt_le.mp (c1.2); have : 0 ≤ (teeth).toInt := Int32.le_iff_toInt_le.mp (c2.1); have : (teeth).toInt ≤ 99 := Int32.le_iff_toInt_le.mp (c2.2); have : ¬ (0 ≤ (straw).toInt ∧ (straw).toInt ≤ 9) := fun z => c3 ⟨Int32.le_iff_toInt_le.mpr z.1, Int32.le_iff_toInt_le.mpr z.2⟩; simp only [F_key, Int32.le_iff_toInt_le, Int32.lt_iff_toInt_lt, ← Int32.toInt_inj]; split <;> first | rfl | (exfalso; simp at *; omega)) | (have : 1 ≤ (kind).toInt := Int32.le_iff_toInt_le.mp (c1.1); have : (kind).toInt ≤ 5 := Int32.le_iff_toInt_le.mp (c1.2); have : 0 ≤ (teeth).toInt := Int32.le_iff_toInt_le.mp (c2.1); have : (teeth).toInt ≤ 99 := Int32.le_iff_toInt_le.mp (c2.2); have : ¬ (0 ≤ (straw).toInt ∧ (straw).toInt ≤ 9) := fun z => c3 ⟨Int32.le_iff_toInt_le.mpr z.1, Int32.le_iff_toInt_le.mpr z.2⟩; unfold F_key; (repeat' split) <;> first | rfl | (exfalso; (try simp only [Int32.le_iff_toInt_le, Int32.lt_iff_toInt_lt, ← Int32.toInt_inj] at *); first | omega | (simp at *; done) | (simp at *; omega))), rfl, fun _ _ => rfl⟩
      · have c3 := gB_o c3
        refine G_iload (pc := 27) rfl dX11_key_27 ?_
        refine G_callS (pc := 29) (mc1 := 0) (ms1 := 0) (mj := mX11_isGate) (vs := [_]) dX11_key_29 cm_X11_isGate wf_7 wf_9 rfl (Nat.le_of_ble_eq_true rfl) (Nat.le_of_ble_eq_true rfl) (Nat.le_of_ble_eq_true rfl) (Nat.le_of_ble_eq_true rfl) (isGate_s d gate) ?_
        rintro _ _ ⟨rfl, rfl⟩
        dsimp only [Option.toList, List.cons_append, List.nil_append]
        refine G_if_ne (pc := 32) (tgt := 37) (by decide) dX11_key_32 (fun c4 => ?_) (fun c4 => ?_)
        · have c4 := gB_o c4
          refine G_aload_n (pc := 37) rfl dX11_key_37 ?_
          refine G_getR (pc := 38) (r := 19) (ci := 11) (j := 0) rfl lk_RX11_56 rfl rfl rfl dX11_key_38 ?_
          refine G_getI (pc := 41) (v := 0) (ci := 1) (j := 8) rfl rfl lk_RX11_97 rfl rfl dX11_key_41 ?_
          refine G_bipush (pc := 44) (v := 6) (by decide) dX11_key_44 ?_
          refine G_icmp_lt (pc := 46) (tgt := 52) (by decide) dX11_key_46 (fun _ => ?_) (fun z => absurd (by decide) z)
          refine G_aload_n (pc := 52) rfl dX11_key_52 ?_
          refine G_getR (pc := 53) (r := 19) (ci := 11) (j := 0) rfl lk_RX11_56 rfl rfl rfl dX11_key_53 ?_
          refine G_getI (pc := 56) (v := 0) (ci := 1) (j := 8) rfl rfl lk_RX11_97 rfl rfl dX11_key_56 ?_
          refine G_istore (pc := 59) (L1 := [some (.ref 0), some (.int kind), some (.int teeth), some (.int straw), some (.int gate), some (.int 0)]) rfl rfl (by decide) dX11_key_59 ?_
          refine G_aload_n (pc := 61) rfl dX11_key_61 ?_
          refine G_getR (pc := 62) (r := 19) (ci := 11) (j := 0) rfl lk_RX11_56 rfl rfl rfl dX11_key_62 ?_
          refine G_getR (pc := 65) (r := 23) (ci := 1) (j := 10) rfl lk_RX11_101 rfl rfl rfl dX11_key_65 ?_
          refine G_iload (pc := 68) rfl dX11_key_68 ?_
          refine G_iload_n (pc := 70) rfl dX11_key_70 ?_
          refine G_iast (pc := 71) (jj := 0) (by decide) rfl (by unfold vp_in; decide) dX11_key_71 ?_
          refine G_aload_n (pc := 72) rfl dX11_key_72 ?_
          refine G_getR (pc := 73) (r := 19) (ci := 11) (j := 0) rfl lk_RX11_56 rfl rfl rfl dX11_key_73 ?_
          refine G_getR (pc := 76) (r := 24) (ci := 1) (j := 11) rfl lk_RX11_104 rfl rfl rfl dX11_key_76 ?_
          refine G_iload (pc := 79) rfl dX11_key_79 ?_
          refine G_iload_n (pc := 81) rfl dX11_key_81 ?_
          refine G_iast (pc := 82) (jj := 0) (by decide) rfl (by unfold vp_in; decide) dX11_key_82 ?_
          refine G_aload_n (pc := 83) rfl dX11_key_83 ?_
          refine G_getR (pc := 84) (r := 19) (ci := 11) (j := 0) rfl lk_RX11_56 rfl rfl rfl dX11_key_84 ?_
          refine G_getR (pc := 87) (r := 25) (ci := 1) (j := 12) rfl lk_RX11_107 rfl rfl rfl dX11_key_87 ?_
          refine G_iload (pc := 90) rfl dX11_key_90 ?_
          refine G_iload_n (pc := 92) rfl dX11_key_92 ?_
          refine G_iast (pc := 93) (jj := 0) (by decide) rfl (by unfold vp_in; decide) dX11_key_93 ?_
          refine G_aload_n (pc := 94) rfl dX11_key_94 ?_
          refine G_getR (pc := 95) (r := 19) (ci := 11) (j := 0) rfl lk_RX11_56 rfl rfl rfl dX11_key_95 ?_
          refine G_getR (pc := 98) (r := 26) (ci := 1) (j := 13) rfl lk_RX11_110 rfl rfl rfl dX11_key_98 ?_
          refine G_iload (pc := 101) rfl dX11_key_101 ?_
          refine G_iload (pc := 103) rfl dX11_key_103 ?_
          refine G_iast (pc := 105) (jj := 0) (by decide) rfl (by unfold vp_in; decide) dX11_key_105 ?_
          refine G_aload_n (pc := 106) rfl dX11_key_106 ?_
          refine G_getR (pc := 107) (r := 19) (ci := 11) (j := 0) rfl lk_RX11_56 rfl rfl rfl dX11_key_107 ?_
          refine G_iload (pc := 110) rfl dX11_key_110 ?_
          refine G_iconst (pc := 112) (v := 1) (by decide) dX11_key_112 ?_
          refine G_iadd (pc := 113) (z := 1) (by decide) dX11_key_113 ?_
          refine G_putI (pc := 114) (ci := 1) (j := 8) rfl lk_RX11_97 rfl rfl rfl trivial dX11_key_114 ?_
          refine G_iload (pc := 117) rfl dX11_key_117 ?_
          exact G_iret (pc := 119) (Nat.le_of_ble_eq_true rfl) (Nat.le_of_ble_eq_true rfl) rfl dX11_key_119 ⟨_, by first | rfl | (simp [F_key, *]; done) | (have : 1 ≤ (kind).toInt := Int32.le_iff_toInt_le.mp (c1.1); have : (kind).toInt ≤ 5 := Int32.le_iff_toInt_le.mp (c1.2); have : 0 ≤ (teeth).toInt := Int32.le_iff_toInt_le.mp (c2.1); have : (teeth).toInt ≤ 99 := Int32.le_iff_toInt_le.mp (c2.2); have : 0 ≤ (straw).toInt := Int32.le_iff_toInt_le.mp (c3.1); have : (straw).toInt ≤ 9 := Int32.le_iff_toInt_le.mp (c3.2); have : 0 ≤ (gate).toInt := Int32.le_iff_toInt_le.mp (c4.1); have : (gate).toInt ≤ 5 := Int32.le_iff_toInt_le.mp (c4.2); simp only [F_key, Int32.le_iff_toInt_le, Int32.lt_iff_toInt_lt, ← Int32.toInt_inj]; simp; omega) | (have : 1 ≤ (kind).toInt := Int32.le_iff_toInt_le.mp (c1.1); have : (kind).toInt ≤ 5 := Int32.le_iff_toInt_le.mp (c1.2); have : 0 ≤ (teeth).toInt := Int32.le_iff_toInt_le.mp (c2.1); have : (teeth).toInt ≤ 99 := Int32.le_iff_toInt_le.mp (c2.2); have : 0 ≤ (straw).toInt := Int32.le_iff_toInt_le.mp (c3.1); have : (straw).toInt ≤ 9 := Int32.le_iff_toInt_le.mp (c3.2); have : 0 ≤ (gate).toInt := Int32.le_iff_toInt_le.mp (c4.1); have : (gate).toInt ≤ 5 := Int32.le_iff_toInt_le.mp (c4.2); simp only [F_key, Int32.le_iff_toInt_le, Int32.lt_iff_toInt_lt, ← Int32.toInt_inj]; split <;> first | rfl | (exfalso; simp at *; omega)) | (have : 1 ≤ (kind).toInt := Int32.le_iff_toInt_le.mp (c1.1); have : (kind).toInt ≤ 5 := Int32.le_iff_toInt_le.mp (c1.2); have : 0 ≤ (teeth).toInt := Int32.le_iff_toInt_le.mp (c2.1); have : (teeth).toInt ≤ 99 := Int32.le_iff_toInt_le.mp (c2.2); have : 0 ≤ (straw).toInt := Int32.le_iff_toInt_le.mp (c3.1); have : (straw).toInt ≤ 9 := Int32.le_iff_toInt_le.mp (c3.2); have : 0 ≤ (gate).toInt := Int32.le_iff_toInt_le.mp (c4.1); have : (gate).toInt ≤ 5 := Int32.le_iff_toInt_le.mp (c4.2); unfold F_key; (repeat' split) <;> first | rfl | (exfalso; (try simp only [Int32.le_iff_toInt_le, Int32.lt_iff_toInt_lt, ← Int32.toInt_inj] at *); first | omega | (simp at *; done) | (simp at *; omega))), rfl, fun a ha => by funext j; simp (disch := omega) only [gup_off, gcp_off]⟩
        · have c4 := gB_z c4
          refine G_iconst (pc := 35) (v := (-1)) (by decide) dX11_key_35 ?_
          exact G_iret (pc := 36) (Nat.le_of_ble_eq_true rfl) (Nat.le_of_ble_eq_true rfl) rfl dX11_key_36 ⟨_, by first | rfl | (simp [F_key, *]; done) | (have : 1 ≤ (kind).toInt := Int32.le_iff_toInt_le.mp (c1.1); have : (kind).toInt ≤ 5 := Int32.le_iff_toInt_le.mp (c1.2); have : 0 ≤ (teeth).toInt := Int32.le_iff_toInt_le.mp (c2.1); have : (teeth).toInt ≤ 99 := Int32.le_iff_toInt_le.mp (c2.2); have : 0 ≤ (straw).toInt := Int32.le_iff_toInt_le.mp (c3.1); have : (straw).toInt ≤ 9 := Int32.le_iff_toInt_le.mp (c3.2); have : ¬ (0 ≤ (gate).toInt ∧ (gate).toInt ≤ 5) := fun z => c4 ⟨Int32.le_iff_toInt_le.mpr z.1, Int32.le_iff_toInt_le.mpr z.2⟩; simp only [F_key, Int32.le_iff_toInt_le, Int32.lt_iff_toInt_lt, ← Int32.toInt_inj]; simp; omega) | (have : 1 ≤ (kind).toInt := Int32.le_iff_toInt_le.mp (c1.1); have : (kind).toInt ≤ 5 := Int32.le_iff_toInt_le.mp (c1.2); have : 0 ≤ (teeth).toInt := Int32.le_iff_toInt_le.mp (c2.1); have : (teeth).toInt ≤ 99 := Int32.le_iff_toInt_le.mp (c2.2); have : 0 ≤ (straw).toInt := Int32.le_iff_toInt_le.mp (c3.1); have : (straw).toInt ≤ 9 := Int32.le_iff_toInt_le.mp (c3.2); have : ¬ (0 ≤ (gate).toInt ∧ (gate).toInt ≤ 5) := fun z => c4 ⟨Int32.le_iff_toInt_le.mpr z.1, Int32.le_iff_toInt_le.mpr z.2⟩; simp only [F_key, Int32.le_iff_toInt_le, Int32.lt_iff_toInt_lt, ← Int32.toInt_inj]; split <;> first | rfl | (exfalso; simp at *; omega)) | (have : 1 ≤ (kind).toInt := Int32.le_iff_toInt_le.mp (c1.1); have : (kind).toInt ≤ 5 := Int32.le_iff_toInt_le.mp (c1.2); have : 0 ≤ (teeth).toInt := Int32.le_iff_toInt_le.mp (c2.1); have : (teeth).toInt ≤ 99 := Int32.le_iff_toInt_le.mp (c2.2); have : 0 ≤ (straw).toInt := Int32.le_iff_toInt_le.mp (c3.1); have : (straw).toInt ≤ 9 := Int32.le_iff_toInt_le.mp (c3.2); have : ¬ (0 ≤ (gate).toInt ∧ (gate).toInt ≤ 5) := fun z => c4 ⟨Int32.le_iff_toInt_le.mpr z.1, Int32.le_iff_toInt_le.mpr z.2⟩; unfold F_key; (repeat' split) <;> first | rfl | (exfalso; (try simp only [Int32.le_iff_toInt_le, Int32.lt_iff_toInt_lt, ← Int32.toInt_inj] at *); first | omega | (simp at *; done) | (simp at *; omega))), rfl, fun _ _ => rfl⟩
set_option maxRecDepth 100000 in
set_option maxHeartbeats 4000000 in
theorem s1_X1_isKey  (d : Nat)  (a0 : Int32) : G (d) mX1_isKey 0 0 0 0 0 (gent 2 [.ref 19, .int a0]) [] SH0 RF0 I0 (fun r h => r = some (.int 0) ∧ h = (SH0, RF0, I0)) := by
  refine G_iload_n (pc := 0) rfl dX1_isKey_0 ?_
  refine G_if_lt (pc := 1) (tgt := 16) (by decide) dX1_isKey_1 (fun c5 => ?_) (fun c5 => ?_)
  · refine G_iconst (pc := 16) (v := 0) (by decide) dX1_isKey_16 ?_
    exact G_zret (pc := 17) (Nat.le_of_ble_eq_true rfl) (Nat.le_of_ble_eq_true rfl) rfl (by decide) dX1_isKey_17 ⟨rfl, rfl⟩
  · refine G_iload_n (pc := 4) rfl dX1_isKey_4 ?_
    refine G_aload_n (pc := 5) rfl dX1_isKey_5 ?_
    refine G_getI (pc := 6) (v := 0) (ci := 1) (j := 8) rfl rfl lk_RX1_72 rfl rfl dX1_isKey_6 ?_
    refine G_icmp_ge (pc := 9) (tgt := 16) (by decide) dX1_isKey_9 (fun c6 => ?_) (fun c6 => ?_)
    · refine G_iconst (pc := 16) (v := 0) (by decide) dX1_isKey_16 ?_
      exact G_zret (pc := 17) (Nat.le_of_ble_eq_true rfl) (Nat.le_of_ble_eq_true rfl) rfl (by decide) dX1_isKey_17 ⟨rfl, rfl⟩
    · exfalso; have : 0 ≤ (a0).toInt := Int32.le_iff_toInt_le.mp (Int32.not_lt.mp c5); have : (a0).toInt < 0 := Int32.lt_iff_toInt_lt.mp (Int32.not_le.mp c6); omega
def F_keyOf (k : Int32) (what : Int32) : Int32 := -1
set_option maxRecDepth 100000 in
set_option maxHeartbeats 4000000 in
theorem x_keyOf (d : Nat) (k : Int32) (what : Int32) : G (d + 1) mX11_keyOf 0 0 0 0 0 (gent 3 [.ref 0, .int k, .int what]) [] SH0 RF0 I0 (fun r h => ∃ I1, r = some (.int (F_keyOf k what)) ∧ h = (SH0, RF0, I1) ∧ ∀ a, 67 ≤ a → I1 a = I0 a) := by
  refine G_aload_n (pc := 0) rfl dX11_keyOf_0 ?_
  refine G_getR (pc := 1) (r := 19) (ci := 11) (j := 0) rfl lk_RX11_56 rfl rfl rfl dX11_keyOf_1 ?_
  refine G_iload_n (pc := 4) rfl dX11_keyOf_4 ?_
  refine G_callV (pc := 5) (mc1 := 0) (ms1 := 0) (ci := 1) (mj := mX1_isKey) (vs := [_]) dX11_keyOf_5 rfl rfl cm_X1_isKey wf_10 wf_13 wf_14 rfl (Nat.le_of_ble_eq_true rfl) (Nat.le_of_ble_eq_true rfl) (Nat.le_of_ble_eq_true rfl) (Nat.le_of_ble_eq_true rfl) (s1_X1_isKey  d  _) ?_
  rintro _ _ ⟨rfl, rfl⟩
  dsimp only [Option.toList, List.cons_append, List.nil_append]
  refine G_if_ne (pc := 8) (tgt := 13) (by decide) dX11_keyOf_8 (fun z => absurd (by decide) z) (fun _ => ?_)
  refine G_iconst (pc := 11) (v := (-1)) (by decide) dX11_keyOf_11 ?_
  exact G_iret (pc := 12) (Nat.le_of_ble_eq_true rfl) (Nat.le_of_ble_eq_true rfl) rfl dX11_keyOf_12 ⟨_, by first | rfl | (simp [F_keyOf, *]; done) | (simp only [F_keyOf, Int32.le_iff_toInt_le, Int32.lt_iff_toInt_lt, ← Int32.toInt_inj]; simp; omega) | (simp only [F_keyOf, Int32.le_iff_toInt_le, Int32.lt_iff_toInt_lt, ← Int32.toInt_inj]; split <;> first | rfl | (exfalso; simp at *; omega)) | (unfold F_keyOf; (repeat' split) <;> first | rfl | (exfalso; (try simp only [Int32.le_iff_toInt_le, Int32.lt_iff_toInt_lt, ← Int32.toInt_inj] at *); first | omega | (simp at *; done) | (simp at *; omega))), rfl, fun _ _ => rfl⟩
def F_change (k : Int32) (what : Int32) (v : Int32) : Int32 := -1
set_option maxRecDepth 100000 in
set_option maxHeartbeats 4000000 in
theorem x_change (d : Nat) (k : Int32) (what : Int32) (v : Int32) : G (d + 1) mX11_change 0 0 0 0 0 (gent 4 [.ref 0, .int k, .int what, .int v]) [] SH0 RF0 I0 (fun r h => ∃ I1, r = some (.int (F_change k what v)) ∧ h = (SH0, RF0, I1) ∧ ∀ a, 67 ≤ a → I1 a = I0 a) := by
  refine G_aload_n (pc := 0) rfl dX11_change_0 ?_
  refine G_getR (pc := 1) (r := 19) (ci := 11) (j := 0) rfl lk_RX11_56 rfl rfl rfl dX11_change_1 ?_
  refine G_iload_n (pc := 4) rfl dX11_change_4 ?_
  refine G_callV (pc := 5) (mc1 := 0) (ms1 := 0) (ci := 1) (mj := mX1_isKey) (vs := [_]) dX11_change_5 rfl rfl cm_X1_isKey wf_10 wf_13 wf_14 rfl (Nat.le_of_ble_eq_true rfl) (Nat.le_of_ble_eq_true rfl) (Nat.le_of_ble_eq_true rfl) (Nat.le_of_ble_eq_true rfl) (s1_X1_isKey  d  _) ?_
  rintro _ _ ⟨rfl, rfl⟩
  dsimp only [Option.toList, List.cons_append, List.nil_append]
  refine G_if_ne (pc := 8) (tgt := 13) (by decide) dX11_change_8 (fun z => absurd (by decide) z) (fun _ => ?_)
  refine G_iconst (pc := 11) (v := (-1)) (by decide) dX11_change_11 ?_
  exact G_iret (pc := 12) (Nat.le_of_ble_eq_true rfl) (Nat.le_of_ble_eq_true rfl) rfl dX11_change_12 ⟨_, by first | rfl | (simp [F_change, *]; done) | (simp only [F_change, Int32.le_iff_toInt_le, Int32.lt_iff_toInt_lt, ← Int32.toInt_inj]; simp; omega) | (simp only [F_change, Int32.le_iff_toInt_le, Int32.lt_iff_toInt_lt, ← Int32.toInt_inj]; split <;> first | rfl | (exfalso; simp at *; omega)) | (unfold F_change; (repeat' split) <;> first | rfl | (exfalso; (try simp only [Int32.le_iff_toInt_le, Int32.lt_iff_toInt_lt, ← Int32.toInt_inj] at *); first | omega | (simp at *; done) | (simp at *; omega))), rfl, fun _ _ => rfl⟩
def F_remake (k : Int32) (kind : Int32) : Int32 := -1
set_option maxRecDepth 100000 in
set_option maxHeartbeats 4000000 in
theorem x_remake (d : Nat) (k : Int32) (kind : Int32) : G (d + 1) mX11_remake 0 0 0 0 0 (gent 4 [.ref 0, .int k, .int kind]) [] SH0 RF0 I0 (fun r h => ∃ I1, r = some (.int (F_remake k kind)) ∧ h = (SH0, RF0, I1) ∧ ∀ a, 67 ≤ a → I1 a = I0 a) := by
  refine G_aload_n (pc := 0) rfl dX11_remake_0 ?_
  refine G_getR (pc := 1) (r := 19) (ci := 11) (j := 0) rfl lk_RX11_56 rfl rfl rfl dX11_remake_1 ?_
  refine G_iload_n (pc := 4) rfl dX11_remake_4 ?_
  refine G_callV (pc := 5) (mc1 := 0) (ms1 := 0) (ci := 1) (mj := mX1_isKey) (vs := [_]) dX11_remake_5 rfl rfl cm_X1_isKey wf_10 wf_13 wf_14 rfl (Nat.le_of_ble_eq_true rfl) (Nat.le_of_ble_eq_true rfl) (Nat.le_of_ble_eq_true rfl) (Nat.le_of_ble_eq_true rfl) (s1_X1_isKey  d  _) ?_
  rintro _ _ ⟨rfl, rfl⟩
  dsimp only [Option.toList, List.cons_append, List.nil_append]
  refine G_if_eq (pc := 8) (tgt := 18) (by decide) dX11_remake_8 (fun _ => ?_) (fun z => absurd (by decide) z)
  refine G_iconst (pc := 18) (v := (-1)) (by decide) dX11_remake_18 ?_
  exact G_iret (pc := 19) (Nat.le_of_ble_eq_true rfl) (Nat.le_of_ble_eq_true rfl) rfl dX11_remake_19 ⟨_, by first | rfl | (simp [F_remake, *]; done) | (simp only [F_remake, Int32.le_iff_toInt_le, Int32.lt_iff_toInt_lt, ← Int32.toInt_inj]; simp; omega) | (simp only [F_remake, Int32.le_iff_toInt_le, Int32.lt_iff_toInt_lt, ← Int32.toInt_inj]; split <;> first | rfl | (exfalso; simp at *; omega)) | (unfold F_remake; (repeat' split) <;> first | rfl | (exfalso; (try simp only [Int32.le_iff_toInt_le, Int32.lt_iff_toInt_lt, ← Int32.toInt_inj] at *); first | omega | (simp at *; done) | (simp at *; omega))), rfl, fun _ _ => rfl⟩
def F_ends (v : Int32) : Int32 := if 1 ≤ v ∧ v ≤ 16 then 12 else -1
set_option maxRecDepth 100000 in
set_option maxHeartbeats 4000000 in
theorem x_ends (d : Nat) (v : Int32) : G (d + 1) mX11_ends 0 0 0 0 0 (gent 3 [.ref 0, .int v]) [] SH0 RF0 I0 (fun r h => ∃ I1, r = some (.int (F_ends v)) ∧ h = (SH0, RF0, I1) ∧ ∀ a, 67 ≤ a → I1 a = I0 a) := by
  refine G_iload_n (pc := 0) rfl dX11_ends_0 ?_
  refine G_iconst (pc := 1) (v := 1) (by decide) dX11_ends_1 ?_
  refine G_bipush (pc := 2) (v := 16) (by decide) dX11_ends_2 ?_
  refine G_callS (pc := 4) (mc1 := 0) (ms1 := 0) (mj := mX11_isIn) (vs := [_, _, _]) dX11_ends_4 cm_X11_isIn wf_4 wf_6 rfl (Nat.le_of_ble_eq_true rfl) (Nat.le_of_ble_eq_true rfl) (Nat.le_of_ble_eq_true rfl) (Nat.le_of_ble_eq_true rfl) (isIn_s d v 1 16) ?_
  rintro _ _ ⟨rfl, rfl⟩
  dsimp only [Option.toList, List.cons_append, List.nil_append]
  refine G_if_ne (pc := 7) (tgt := 12) (by decide) dX11_ends_7 (fun c7 => ?_) (fun c7 => ?_)
  · have c7 := gB_o c7
    refine G_iload_n (pc := 12) rfl dX11_ends_12 ?_
    refine G_aload_n (pc := 13) rfl dX11_ends_13 ?_
    refine G_getR (pc := 14) (r := 19) (ci := 11) (j := 0) rfl lk_RX11_56 rfl rfl rfl dX11_ends_14 ?_
    refine G_getI (pc := 17) (v := 0) (ci := 1) (j := 1) rfl rfl lk_RX11_156 rfl rfl dX11_ends_17 ?_
    refine G_icmp_ge (pc := 20) (tgt := 26) (by decide) dX11_ends_20 (fun c8 => ?_) (fun c8 => ?_)
    · refine G_aload_n (pc := 26) rfl dX11_ends_26 ?_
      refine G_getR (pc := 27) (r := 19) (ci := 11) (j := 0) rfl lk_RX11_56 rfl rfl rfl dX11_ends_27 ?_
      refine G_getI (pc := 30) (v := 12) (ci := 1) (j := 2) rfl rfl lk_RX11_159 rfl rfl dX11_ends_30 ?_
      refine G_istore_n (pc := 33) (L1 := [some (.ref 0), some (.int v), some (.int 12)]) rfl rfl (by decide) dX11_ends_33 ?_
      refine G_aload_n (pc := 34) rfl dX11_ends_34 ?_
      refine G_getR (pc := 35) (r := 19) (ci := 11) (j := 0) rfl lk_RX11_56 rfl rfl rfl dX11_ends_35 ?_
      refine G_iload_n (pc := 38) rfl dX11_ends_38 ?_
      refine G_putI (pc := 39) (ci := 1) (j := 2) rfl lk_RX11_159 rfl rfl rfl trivial dX11_ends_39 ?_
      refine G_iload_n (pc := 42) rfl dX11_ends_42 ?_
      exact G_iret (pc := 43) (Nat.le_of_ble_eq_true rfl) (Nat.le_of_ble_eq_true rfl) rfl dX11_ends_43 ⟨_, by first | rfl | (simp [F_ends, *]; done) | (have : 1 ≤ (v).toInt := Int32.le_iff_toInt_le.mp (c7.1); have : (v).toInt ≤ 16 := Int32.le_iff_toInt_le.mp (c7.2); have : 0 ≤ (v).toInt := Int32.le_iff_toInt_le.mp (c8); simp only [F_ends, Int32.le_iff_toInt_le, Int32.lt_iff_toInt_lt, ← Int32.toInt_inj]; simp; omega) | (have : 1 ≤ (v).toInt := Int32.le_iff_toInt_le.mp (c7.1); have : (v).toInt ≤ 16 := Int32.le_iff_toInt_le.mp (c7.2); have : 0 ≤ (v).toInt := Int32.le_iff_toInt_le.mp (c8); simp only [F_ends, Int32.le_iff_toInt_le, Int32.lt_iff_toInt_lt, ← Int32.toInt_inj]; split <;> first | rfl | (exfalso; simp at *; omega)) | (have : 1 ≤ (v).toInt := Int32.le_iff_toInt_le.mp (c7.1); have : (v).toInt ≤ 16 := Int32.le_iff_toInt_le.mp (c7.2); have : 0 ≤ (v).toInt := Int32.le_iff_toInt_le.mp (c8); unfold F_ends; (repeat' split) <;> first | rfl | (exfalso; (try simp only [Int32.le_iff_toInt_le, Int32.lt_iff_toInt_lt, ← Int32.toInt_inj] at *); first | omega | (simp at *; done) | (simp at *; omega))), rfl, fun a ha => by funext j; simp (disch := omega) only [gup_off, gcp_off]⟩
    · exfalso; have : 1 ≤ (v).toInt := Int32.le_iff_toInt_le.mp (c7.1); have : (v).toInt ≤ 16 := Int32.le_iff_toInt_le.mp (c7.2); have : (v).toInt < 0 := Int32.lt_iff_toInt_lt.mp (Int32.not_le.mp c8); omega
  · have c7 := gB_z c7
    refine G_iconst (pc := 10) (v := (-1)) (by decide) dX11_ends_10 ?_
    exact G_iret (pc := 11) (Nat.le_of_ble_eq_true rfl) (Nat.le_of_ble_eq_true rfl) rfl dX11_ends_11 ⟨_, by first | rfl | (simp [F_ends, *]; done) | (have : ¬ (1 ≤ (v).toInt ∧ (v).toInt ≤ 16) := fun z => c7 ⟨Int32.le_iff_toInt_le.mpr z.1, Int32.le_iff_toInt_le.mpr z.2⟩; simp only [F_ends, Int32.le_iff_toInt_le, Int32.lt_iff_toInt_lt, ← Int32.toInt_inj]; simp; omega) | (have : ¬ (1 ≤ (v).toInt ∧ (v).toInt ≤ 16) := fun z => c7 ⟨Int32.le_iff_toInt_le.mpr z.1, Int32.le_iff_toInt_le.mpr z.2⟩; simp only [F_ends, Int32.le_iff_toInt_le, Int32.lt_iff_toInt_lt, ← Int32.toInt_inj]; split <;> first | rfl | (exfalso; simp at *; omega)) | (have : ¬ (1 ≤ (v).toInt ∧ (v).toInt ≤ 16) := fun z => c7 ⟨Int32.le_iff_toInt_le.mpr z.1, Int32.le_iff_toInt_le.mpr z.2⟩; unfold F_ends; (repeat' split) <;> first | rfl | (exfalso; (try simp only [Int32.le_iff_toInt_le, Int32.lt_iff_toInt_lt, ← Int32.toInt_inj] at *); first | omega | (simp at *; done) | (simp at *; omega))), rfl, fun _ _ => rfl⟩
def F_anew  : Int32 := 0
set_option maxRecDepth 100000 in
set_option maxHeartbeats 4000000 in
theorem x_anew (d : Nat)  : G (d) mX11_anew 0 0 0 0 0 (gent 2 [.ref 0]) [] SH0 RF0 I0 (fun r h => ∃ I1, r = some (.int (F_anew )) ∧ h = (SH0, RF0, I1) ∧ ∀ a, 67 ≤ a → I1 a = I0 a) := by
  refine G_aload_n (pc := 0) rfl dX11_anew_0 ?_
  refine G_getR (pc := 1) (r := 19) (ci := 11) (j := 0) rfl lk_RX11_56 rfl rfl rfl dX11_anew_1 ?_
  refine G_getI (pc := 4) (v := 0) (ci := 1) (j := 1) rfl rfl lk_RX11_156 rfl rfl dX11_anew_4 ?_
  refine G_istore_n (pc := 7) (L1 := [some (.ref 0), some (.int 0)]) rfl rfl (by decide) dX11_anew_7 ?_
  refine G_aload_n (pc := 8) rfl dX11_anew_8 ?_
  refine G_getR (pc := 9) (r := 19) (ci := 11) (j := 0) rfl lk_RX11_56 rfl rfl rfl dX11_anew_9 ?_
  refine G_iconst (pc := 12) (v := 0) (by decide) dX11_anew_12 ?_
  refine G_putI (pc := 13) (ci := 1) (j := 1) rfl lk_RX11_156 rfl rfl rfl trivial dX11_anew_13 ?_
  refine G_aload_n (pc := 16) rfl dX11_anew_16 ?_
  refine G_getR (pc := 17) (r := 19) (ci := 11) (j := 0) rfl lk_RX11_56 rfl rfl rfl dX11_anew_17 ?_
  refine G_iconst (pc := 20) (v := 0) (by decide) dX11_anew_20 ?_
  refine G_putI (pc := 21) (ci := 1) (j := 3) rfl lk_RX11_162 rfl rfl rfl trivial dX11_anew_21 ?_
  refine G_aload_n (pc := 24) rfl dX11_anew_24 ?_
  refine G_getR (pc := 25) (r := 19) (ci := 11) (j := 0) rfl lk_RX11_56 rfl rfl rfl dX11_anew_25 ?_
  refine G_iconst (pc := 28) (v := 0) (by decide) dX11_anew_28 ?_
  refine G_putI (pc := 29) (ci := 1) (j := 9) rfl lk_RX11_165 rfl rfl rfl trivial dX11_anew_29 ?_
  refine G_iload_n (pc := 32) rfl dX11_anew_32 ?_
  exact G_iret (pc := 33) (Nat.le_of_ble_eq_true rfl) (Nat.le_of_ble_eq_true rfl) rfl dX11_anew_33 ⟨_, by first | rfl | (simp [F_anew, *]; done) | (simp only [F_anew, Int32.le_iff_toInt_le, Int32.lt_iff_toInt_lt, ← Int32.toInt_inj]; simp; omega) | (simp only [F_anew, Int32.le_iff_toInt_le, Int32.lt_iff_toInt_lt, ← Int32.toInt_inj]; split <;> first | rfl | (exfalso; simp at *; omega)) | (unfold F_anew; (repeat' split) <;> first | rfl | (exfalso; (try simp only [Int32.le_iff_toInt_le, Int32.lt_iff_toInt_lt, ← Int32.toInt_inj] at *); first | omega | (simp at *; done) | (simp at *; omega))), rfl, fun a ha => by funext j; simp (disch := omega) only [gup_off, gcp_off]⟩
set_option maxRecDepth 100000 in
set_option maxHeartbeats 4000000 in
theorem s2_X1_isOver  (d : Nat)   : G (d) mX1_isOver 0 0 0 0 0 (gent 1 [.ref 19]) [] SH0 RF0 I0 (fun r h => r = some (.int 0) ∧ h = (SH0, RF0, I0)) := by
  refine G_aload_n (pc := 0) rfl dX1_isOver_0 ?_
  refine G_getI (pc := 1) (v := 0) (ci := 1) (j := 1) rfl rfl lk_RX1_60 rfl rfl dX1_isOver_1 ?_
  refine G_aload_n (pc := 4) rfl dX1_isOver_4 ?_
  refine G_getI (pc := 5) (v := 12) (ci := 1) (j := 2) rfl rfl lk_RX1_9 rfl rfl dX1_isOver_5 ?_
  refine G_icmp_lt (pc := 8) (tgt := 15) (by decide) dX1_isOver_8 (fun _ => ?_) (fun z => absurd (by decide) z)
  refine G_iconst (pc := 15) (v := 0) (by decide) dX1_isOver_15 ?_
  exact G_zret (pc := 16) (Nat.le_of_ble_eq_true rfl) (Nat.le_of_ble_eq_true rfl) rfl (by decide) dX1_isOver_16 ⟨rfl, rfl⟩
set_option maxRecDepth 100000 in
set_option maxHeartbeats 4000000 in
theorem s3_X1_sunAt  (d : Nat)   : G (d) mX1_sunAt 0 0 0 0 0 (gent 2 [.ref 19, .int 0]) [] SH0 RF0 I0 (fun r h => r = some (.int 5) ∧ h = (SH0, RF0, I0)) := by
  refine G_iload_n (pc := 0) rfl dX1_sunAt_0 ?_
  refine G_if_lt (pc := 1) (tgt := 19) (by decide) dX1_sunAt_1 (fun z => absurd z (by decide)) (fun _ => ?_)
  refine G_iload_n (pc := 4) rfl dX1_sunAt_4 ?_
  refine G_bipush (pc := 5) (v := 16) (by decide) dX1_sunAt_5 ?_
  refine G_icmp_ge (pc := 7) (tgt := 19) (by decide) dX1_sunAt_7 (fun z => absurd z (by decide)) (fun _ => ?_)
  refine G_aload_n (pc := 10) rfl dX1_sunAt_10 ?_
  refine G_getR (pc := 11) (r := 20) (ci := 1) (j := 5) rfl lk_RX1_18 rfl rfl rfl dX1_sunAt_11 ?_
  refine G_iload_n (pc := 14) rfl dX1_sunAt_14 ?_
  refine G_iald (pc := 15) (jj := 0) (v := 5) (by decide) rfl rfl (by unfold vp_in; decide) dX1_sunAt_15 ?_
  refine G_goto (pc := 16) (tgt := 20) (by decide) dX1_sunAt_16 ?_
  exact G_iret (pc := 20) (Nat.le_of_ble_eq_true rfl) (Nat.le_of_ble_eq_true rfl) rfl dX1_sunAt_20 ⟨rfl, rfl⟩
set_option maxRecDepth 100000 in
set_option maxHeartbeats 4000000 in
theorem s4_X1_allTeeth  (d : Nat)   : G (d) mX1_allTeeth 0 0 0 0 0 (gent 3 [.ref 19]) [] SH0 RF0 I0 (fun r h => r = some (.int 0) ∧ h = (SH0, RF0, I0)) := by
  refine G_iconst (pc := 0) (v := 0) (by decide) dX1_allTeeth_0 ?_
  refine G_istore_n (pc := 1) (L1 := [some (.ref 19), some (.int 0), none]) rfl rfl (by decide) dX1_allTeeth_1 ?_
  refine G_iconst (pc := 2) (v := 0) (by decide) dX1_allTeeth_2 ?_
  refine G_istore_n (pc := 3) (L1 := [some (.ref 19), some (.int 0), some (.int 0)]) rfl rfl (by decide) dX1_allTeeth_3 ?_
  refine G_iload_n (pc := 4) rfl dX1_allTeeth_4 ?_
  refine G_aload_n (pc := 5) rfl dX1_allTeeth_5 ?_
  refine G_getI (pc := 6) (v := 0) (ci := 1) (j := 8) rfl rfl lk_RX1_72 rfl rfl dX1_allTeeth_6 ?_
  refine G_icmp_ge (pc := 9) (tgt := 27) (by decide) dX1_allTeeth_9 (fun _ => ?_) (fun z => absurd (by decide) z)
  refine G_iload_n (pc := 27) rfl dX1_allTeeth_27 ?_
  exact G_iret (pc := 28) (Nat.le_of_ble_eq_true rfl) (Nat.le_of_ble_eq_true rfl) rfl dX1_allTeeth_28 ⟨rfl, rfl⟩
def F_state (what : Int32) : Int32 := if what = 0 then 0 else if what = 1 then 12 else if what = 2 then 0 else if what = 3 then 0 else if what = 4 then 0 else if what = 5 then 5 else if what = 6 then 0 else -1
set_option maxRecDepth 100000 in
set_option maxHeartbeats 4000000 in
theorem x_state (d : Nat) (what : Int32) : G (d + 1) mX11_state 0 0 0 0 0 (gent 2 [.ref 0, .int what]) [] SH0 RF0 I0 (fun r h => ∃ I1, r = some (.int (F_state what)) ∧ h = (SH0, RF0, I1) ∧ ∀ a, 67 ≤ a → I1 a = I0 a) := by
  refine G_iload_n (pc := 0) rfl dX11_state_0 ?_
  by_cases c9 : what = 0
  · subst c9
    refine G_tabIn (pc := 1) (tgt := 44) (off := 43) (by decide) (by decide) (by decide) (by decide) dX11_state_1 ?_
    refine G_aload_n (pc := 44) rfl dX11_state_44 ?_
    refine G_getR (pc := 45) (r := 19) (ci := 11) (j := 0) rfl lk_RX11_56 rfl rfl rfl dX11_state_45 ?_
    refine G_getI (pc := 48) (v := 0) (ci := 1) (j := 1) rfl rfl lk_RX11_156 rfl rfl dX11_state_48 ?_
    exact G_iret (pc := 51) (Nat.le_of_ble_eq_true rfl) (Nat.le_of_ble_eq_true rfl) rfl dX11_state_51 ⟨_, by first | rfl | (simp [F_state, *]; done) | (simp only [F_state, Int32.le_iff_toInt_le, Int32.lt_iff_toInt_lt, ← Int32.toInt_inj]; simp; omega) | (simp only [F_state, Int32.le_iff_toInt_le, Int32.lt_iff_toInt_lt, ← Int32.toInt_inj]; split <;> first | rfl | (exfalso; simp at *; omega)) | (unfold F_state; (repeat' split) <;> first | rfl | (exfalso; (try simp only [Int32.le_iff_toInt_le, Int32.lt_iff_toInt_lt, ← Int32.toInt_inj] at *); first | omega | (simp at *; done) | (simp at *; omega))), rfl, fun _ _ => rfl⟩
  by_cases c10 : what = 1
  · subst c10
    refine G_tabIn (pc := 1) (tgt := 52) (off := 51) (by decide) (by decide) (by decide) (by decide) dX11_state_1 ?_
    refine G_aload_n (pc := 52) rfl dX11_state_52 ?_
    refine G_getR (pc := 53) (r := 19) (ci := 11) (j := 0) rfl lk_RX11_56 rfl rfl rfl dX11_state_53 ?_
    refine G_getI (pc := 56) (v := 12) (ci := 1) (j := 2) rfl rfl lk_RX11_159 rfl rfl dX11_state_56 ?_
    exact G_iret (pc := 59) (Nat.le_of_ble_eq_true rfl) (Nat.le_of_ble_eq_true rfl) rfl dX11_state_59 ⟨_, by first | rfl | (simp [F_state, *]; done) | (simp only [F_state, Int32.le_iff_toInt_le, Int32.lt_iff_toInt_lt, ← Int32.toInt_inj]; simp; omega) | (simp only [F_state, Int32.le_iff_toInt_le, Int32.lt_iff_toInt_lt, ← Int32.toInt_inj]; split <;> first | rfl | (exfalso; simp at *; omega)) | (unfold F_state; (repeat' split) <;> first | rfl | (exfalso; (try simp only [Int32.le_iff_toInt_le, Int32.lt_iff_toInt_lt, ← Int32.toInt_inj] at *); first | omega | (simp at *; done) | (simp at *; omega))), rfl, fun _ _ => rfl⟩
  by_cases c11 : what = 2
  · subst c11
    refine G_tabIn (pc := 1) (tgt := 60) (off := 59) (by decide) (by decide) (by decide) (by decide) dX11_state_1 ?_
    refine G_aload_n (pc := 60) rfl dX11_state_60 ?_
    refine G_getR (pc := 61) (r := 19) (ci := 11) (j := 0) rfl lk_RX11_56 rfl rfl rfl dX11_state_61 ?_
    refine G_getI (pc := 64) (v := 0) (ci := 1) (j := 3) rfl rfl lk_RX11_162 rfl rfl dX11_state_64 ?_
    exact G_iret (pc := 67) (Nat.le_of_ble_eq_true rfl) (Nat.le_of_ble_eq_true rfl) rfl dX11_state_67 ⟨_, by first | rfl | (simp [F_state, *]; done) | (simp only [F_state, Int32.le_iff_toInt_le, Int32.lt_iff_toInt_lt, ← Int32.toInt_inj]; simp; omega) | (simp only [F_state, Int32.le_iff_toInt_le, Int32.lt_iff_toInt_lt, ← Int32.toInt_inj]; split <;> first | rfl | (exfalso; simp at *; omega)) | (unfold F_state; (repeat' split) <;> first | rfl | (exfalso; (try simp only [Int32.le_iff_toInt_le, Int32.lt_iff_toInt_lt, ← Int32.toInt_inj] at *); first | omega | (simp at *; done) | (simp at *; omega))), rfl, fun _ _ => rfl⟩
  by_cases c12 : what = 3
  · subst c12
    refine G_tabIn (pc := 1) (tgt := 68) (off := 67) (by decide) (by decide) (by decide) (by decide) dX11_state_1 ?_
    refine G_aload_n (pc := 68) rfl dX11_state_68 ?_
    refine G_getR (pc := 69) (r := 19) (ci := 11) (j := 0) rfl lk_RX11_56 rfl rfl rfl dX11_state_69 ?_
    refine G_callV (pc := 72) (mc1 := 0) (ms1 := 0) (ci := 1) (mj := mX1_isOver) (vs := []) dX11_state_72 rfl rfl cm_X1_isOver wf_15 wf_17 wf_18 rfl (Nat.le_of_ble_eq_true rfl) (Nat.le_of_ble_eq_true rfl) (Nat.le_of_ble_eq_true rfl) (Nat.le_of_ble_eq_true rfl) (s2_X1_isOver  d  ) ?_
    rintro _ _ ⟨rfl, rfl⟩
    dsimp only [Option.toList, List.cons_append, List.nil_append]
    refine G_if_eq (pc := 75) (tgt := 82) (by decide) dX11_state_75 (fun _ => ?_) (fun z => absurd (by decide) z)
    refine G_iconst (pc := 82) (v := 0) (by decide) dX11_state_82 ?_
    exact G_iret (pc := 83) (Nat.le_of_ble_eq_true rfl) (Nat.le_of_ble_eq_true rfl) rfl dX11_state_83 ⟨_, by first | rfl | (simp [F_state, *]; done) | (simp only [F_state, Int32.le_iff_toInt_le, Int32.lt_iff_toInt_lt, ← Int32.toInt_inj]; simp; omega) | (simp only [F_state, Int32.le_iff_toInt_le, Int32.lt_iff_toInt_lt, ← Int32.toInt_inj]; split <;> first | rfl | (exfalso; simp at *; omega)) | (unfold F_state; (repeat' split) <;> first | rfl | (exfalso; (try simp only [Int32.le_iff_toInt_le, Int32.lt_iff_toInt_lt, ← Int32.toInt_inj] at *); first | omega | (simp at *; done) | (simp at *; omega))), rfl, fun _ _ => rfl⟩
  by_cases c13 : what = 4
  · subst c13
    refine G_tabIn (pc := 1) (tgt := 84) (off := 83) (by decide) (by decide) (by decide) (by decide) dX11_state_1 ?_
    refine G_aload_n (pc := 84) rfl dX11_state_84 ?_
    refine G_getR (pc := 85) (r := 19) (ci := 11) (j := 0) rfl lk_RX11_56 rfl rfl rfl dX11_state_85 ?_
    refine G_getI (pc := 88) (v := 0) (ci := 1) (j := 9) rfl rfl lk_RX11_165 rfl rfl dX11_state_88 ?_
    exact G_iret (pc := 91) (Nat.le_of_ble_eq_true rfl) (Nat.le_of_ble_eq_true rfl) rfl dX11_state_91 ⟨_, by first | rfl | (simp [F_state, *]; done) | (simp only [F_state, Int32.le_iff_toInt_le, Int32.lt_iff_toInt_lt, ← Int32.toInt_inj]; simp; omega) | (simp only [F_state, Int32.le_iff_toInt_le, Int32.lt_iff_toInt_lt, ← Int32.toInt_inj]; split <;> first | rfl | (exfalso; simp at *; omega)) | (unfold F_state; (repeat' split) <;> first | rfl | (exfalso; (try simp only [Int32.le_iff_toInt_le, Int32.lt_iff_toInt_lt, ← Int32.toInt_inj] at *); first | omega | (simp at *; done) | (simp at *; omega))), rfl, fun _ _ => rfl⟩
  by_cases c14 : what = 5
  · subst c14
    refine G_tabIn (pc := 1) (tgt := 92) (off := 91) (by decide) (by decide) (by decide) (by decide) dX11_state_1 ?_
    refine G_aload_n (pc := 92) rfl dX11_state_92 ?_
    refine G_getR (pc := 93) (r := 19) (ci := 11) (j := 0) rfl lk_RX11_56 rfl rfl rfl dX11_state_93 ?_
    refine G_aload_n (pc := 96) rfl dX11_state_96 ?_
    refine G_getR (pc := 97) (r := 19) (ci := 11) (j := 0) rfl lk_RX11_56 rfl rfl rfl dX11_state_97 ?_
    refine G_getI (pc := 100) (v := 0) (ci := 1) (j := 1) rfl rfl lk_RX11_156 rfl rfl dX11_state_100 ?_
    refine G_callV (pc := 103) (mc1 := 0) (ms1 := 0) (ci := 1) (mj := mX1_sunAt) (vs := [_]) dX11_state_103 rfl rfl cm_X1_sunAt wf_19 wf_21 wf_22 rfl (Nat.le_of_ble_eq_true rfl) (Nat.le_of_ble_eq_true rfl) (Nat.le_of_ble_eq_true rfl) (Nat.le_of_ble_eq_true rfl) (s3_X1_sunAt  d  ) ?_
    rintro _ _ ⟨rfl, rfl⟩
    dsimp only [Option.toList, List.cons_append, List.nil_append]
    exact G_iret (pc := 106) (Nat.le_of_ble_eq_true rfl) (Nat.le_of_ble_eq_true rfl) rfl dX11_state_106 ⟨_, by first | rfl | (simp [F_state, *]; done) | (simp only [F_state, Int32.le_iff_toInt_le, Int32.lt_iff_toInt_lt, ← Int32.toInt_inj]; simp; omega) | (simp only [F_state, Int32.le_iff_toInt_le, Int32.lt_iff_toInt_lt, ← Int32.toInt_inj]; split <;> first | rfl | (exfalso; simp at *; omega)) | (unfold F_state; (repeat' split) <;> first | rfl | (exfalso; (try simp only [Int32.le_iff_toInt_le, Int32.lt_iff_toInt_lt, ← Int32.toInt_inj] at *); first | omega | (simp at *; done) | (simp at *; omega))), rfl, fun _ _ => rfl⟩
  by_cases c15 : what = 6
  · subst c15
    refine G_tabIn (pc := 1) (tgt := 107) (off := 106) (by decide) (by decide) (by decide) (by decide) dX11_state_1 ?_
    refine G_aload_n (pc := 107) rfl dX11_state_107 ?_
    refine G_getR (pc := 108) (r := 19) (ci := 11) (j := 0) rfl lk_RX11_56 rfl rfl rfl dX11_state_108 ?_
    refine G_callV (pc := 111) (mc1 := 0) (ms1 := 0) (ci := 1) (mj := mX1_allTeeth) (vs := []) dX11_state_111 rfl rfl cm_X1_allTeeth wf_23 wf_25 wf_26 rfl (Nat.le_of_ble_eq_true rfl) (Nat.le_of_ble_eq_true rfl) (Nat.le_of_ble_eq_true rfl) (Nat.le_of_ble_eq_true rfl) (s4_X1_allTeeth  d  ) ?_
    rintro _ _ ⟨rfl, rfl⟩
    dsimp only [Option.toList, List.cons_append, List.nil_append]
    exact G_iret (pc := 114) (Nat.le_of_ble_eq_true rfl) (Nat.le_of_ble_eq_true rfl) rfl dX11_state_114 ⟨_, by first | rfl | (simp [F_state, *]; done) | (simp only [F_state, Int32.le_iff_toInt_le, Int32.lt_iff_toInt_lt, ← Int32.toInt_inj]; simp; omega) | (simp only [F_state, Int32.le_iff_toInt_le, Int32.lt_iff_toInt_lt, ← Int32.toInt_inj]; split <;> first | rfl | (exfalso; simp at *; omega)) | (unfold F_state; (repeat' split) <;> first | rfl | (exfalso; (try simp only [Int32.le_iff_toInt_le, Int32.lt_iff_toInt_lt, ← Int32.toInt_inj] at *); first | omega | (simp at *; done) | (simp at *; omega))), rfl, fun _ _ => rfl⟩
  refine G_tabOut (pc := 1) (tgt := 115) (by decide) (by have : (what).toInt ≠ 0 := g_ne c9; have : (what).toInt ≠ 1 := g_ne c10; have : (what).toInt ≠ 2 := g_ne c11; have : (what).toInt ≠ 3 := g_ne c12; have : (what).toInt ≠ 4 := g_ne c13; have : (what).toInt ≠ 5 := g_ne c14; have : (what).toInt ≠ 6 := g_ne c15; omega) dX11_state_1 ?_
  refine G_iconst (pc := 115) (v := (-1)) (by decide) dX11_state_115 ?_
  exact G_iret (pc := 116) (Nat.le_of_ble_eq_true rfl) (Nat.le_of_ble_eq_true rfl) rfl dX11_state_116 ⟨_, by first | rfl | (simp [F_state, *]; done) | (have : (what).toInt ≠ 0 := g_ne (c9); have : (what).toInt ≠ 1 := g_ne (c10); have : (what).toInt ≠ 2 := g_ne (c11); have : (what).toInt ≠ 3 := g_ne (c12); have : (what).toInt ≠ 4 := g_ne (c13); have : (what).toInt ≠ 5 := g_ne (c14); have : (what).toInt ≠ 6 := g_ne (c15); simp only [F_state, Int32.le_iff_toInt_le, Int32.lt_iff_toInt_lt, ← Int32.toInt_inj]; simp; omega) | (have : (what).toInt ≠ 0 := g_ne (c9); have : (what).toInt ≠ 1 := g_ne (c10); have : (what).toInt ≠ 2 := g_ne (c11); have : (what).toInt ≠ 3 := g_ne (c12); have : (what).toInt ≠ 4 := g_ne (c13); have : (what).toInt ≠ 5 := g_ne (c14); have : (what).toInt ≠ 6 := g_ne (c15); simp only [F_state, Int32.le_iff_toInt_le, Int32.lt_iff_toInt_lt, ← Int32.toInt_inj]; split <;> first | rfl | (exfalso; simp at *; omega)) | (have : (what).toInt ≠ 0 := g_ne (c9); have : (what).toInt ≠ 1 := g_ne (c10); have : (what).toInt ≠ 2 := g_ne (c11); have : (what).toInt ≠ 3 := g_ne (c12); have : (what).toInt ≠ 4 := g_ne (c13); have : (what).toInt ≠ 5 := g_ne (c14); have : (what).toInt ≠ 6 := g_ne (c15); unfold F_state; (repeat' split) <;> first | rfl | (exfalso; (try simp only [Int32.le_iff_toInt_le, Int32.lt_iff_toInt_lt, ← Int32.toInt_inj] at *); first | omega | (simp at *; done) | (simp at *; omega))), rfl, fun _ _ => rfl⟩
def F_gateOf (f : Int32) (what : Int32) : Int32 := if (0 ≤ f ∧ f ≤ 5) ∧ (what = 0 ∨ what = 1) then 0 else -1
set_option maxRecDepth 100000 in
set_option maxHeartbeats 4000000 in
theorem x_gateOf (d : Nat) (f : Int32) (what : Int32) : G (d + 2) mX11_gateOf 0 0 0 0 0 (gent 3 [.ref 0, .int f, .int what]) [] SH0 RF0 I0 (fun r h => ∃ I1, r = some (.int (F_gateOf f what)) ∧ h = (SH0, RF0, I1) ∧ ∀ a, 67 ≤ a → I1 a = I0 a) := by
  refine G_iload_n (pc := 0) rfl dX11_gateOf_0 ?_
  refine G_callS (pc := 1) (mc1 := 0) (ms1 := 0) (mj := mX11_isGate) (vs := [_]) dX11_gateOf_1 cm_X11_isGate wf_7 wf_9 rfl (Nat.le_of_ble_eq_true rfl) (Nat.le_of_ble_eq_true rfl) (Nat.le_of_ble_eq_true rfl) (Nat.le_of_ble_eq_true rfl) (isGate_s d f) ?_
  rintro _ _ ⟨rfl, rfl⟩
  dsimp only [Option.toList, List.cons_append, List.nil_append]
  refine G_if_ne (pc := 4) (tgt := 9) (by decide) dX11_gateOf_4 (fun c16 => ?_) (fun c16 => ?_)
  · have c16 := gB_o c16
    refine G_iload_n (pc := 9) rfl dX11_gateOf_9 ?_
    by_cases c17 : what = 0
    · subst c17
      refine G_look (pc := 10) (tgt := 36) (off := 26) (by decide) (by decide) (by decide) dX11_gateOf_10 ?_
      refine G_aload_n (pc := 36) rfl dX11_gateOf_36 ?_
      refine G_getR (pc := 37) (r := 19) (ci := 11) (j := 0) rfl lk_RX11_56 rfl rfl rfl dX11_gateOf_37 ?_
      refine G_getR (pc := 40) (r := 21) (ci := 1) (j := 6) rfl lk_RX11_150 rfl rfl rfl dX11_gateOf_40 ?_
      refine G_iload_n (pc := 43) rfl dX11_gateOf_43 ?_
      by_cases c18 : f = 0
      · subst c18
        refine G_iald (pc := 44) (jj := 0) (v := 0) (by decide) rfl rfl (by unfold vp_in; decide) dX11_gateOf_44 ?_
        exact G_iret (pc := 45) (Nat.le_of_ble_eq_true rfl) (Nat.le_of_ble_eq_true rfl) rfl dX11_gateOf_45 ⟨_, by first | rfl | (simp [F_gateOf, *]; done) | (simp only [F_gateOf, Int32.le_iff_toInt_le, Int32.lt_iff_toInt_lt, ← Int32.toInt_inj]; simp; omega) | (simp only [F_gateOf, Int32.le_iff_toInt_le, Int32.lt_iff_toInt_lt, ← Int32.toInt_inj]; split <;> first | rfl | (exfalso; simp at *; omega)) | (unfold F_gateOf; (repeat' split) <;> first | rfl | (exfalso; (try simp only [Int32.le_iff_toInt_le, Int32.lt_iff_toInt_lt, ← Int32.toInt_inj] at *); first | omega | (simp at *; done) | (simp at *; omega))), rfl, fun _ _ => rfl⟩
      by_cases c19 : f = 1
      · subst c19
        refine G_iald (pc := 44) (jj := 1) (v := 0) (by decide) rfl rfl (by unfold vp_in; decide) dX11_gateOf_44 ?_
        exact G_iret (pc := 45) (Nat.le_of_ble_eq_true rfl) (Nat.le_of_ble_eq_true rfl) rfl dX11_gateOf_45 ⟨_, by first | rfl | (simp [F_gateOf, *]; done) | (simp only [F_gateOf, Int32.le_iff_toInt_le, Int32.lt_iff_toInt_lt, ← Int32.toInt_inj]; simp; omega) | (simp only [F_gateOf, Int32.le_iff_toInt_le, Int32.lt_iff_toInt_lt, ← Int32.toInt_inj]; split <;> first | rfl | (exfalso; simp at *; omega)) | (unfold F_gateOf; (repeat' split) <;> first | rfl | (exfalso; (try simp only [Int32.le_iff_toInt_le, Int32.lt_iff_toInt_lt, ← Int32.toInt_inj] at *); first | omega | (simp at *; done) | (simp at *; omega))), rfl, fun _ _ => rfl⟩
      by_cases c20 : f = 2
      · subst c20
        refine G_iald (pc := 44) (jj := 2) (v := 0) (by decide) rfl rfl (by unfold vp_in; decide) dX11_gateOf_44 ?_
        exact G_iret (pc := 45) (Nat.le_of_ble_eq_true rfl) (Nat.le_of_ble_eq_true rfl) rfl dX11_gateOf_45 ⟨_, by first | rfl | (simp [F_gateOf, *]; done) | (simp only [F_gateOf, Int32.le_iff_toInt_le, Int32.lt_iff_toInt_lt, ← Int32.toInt_inj]; simp; omega) | (simp only [F_gateOf, Int32.le_iff_toInt_le, Int32.lt_iff_toInt_lt, ← Int32.toInt_inj]; split <;> first | rfl | (exfalso; simp at *; omega)) | (unfold F_gateOf; (repeat' split) <;> first | rfl | (exfalso; (try simp only [Int32.le_iff_toInt_le, Int32.lt_iff_toInt_lt, ← Int32.toInt_inj] at *); first | omega | (simp at *; done) | (simp at *; omega))), rfl, fun _ _ => rfl⟩
      by_cases c21 : f = 3
      · subst c21
        refine G_iald (pc := 44) (jj := 3) (v := 0) (by decide) rfl rfl (by unfold vp_in; decide) dX11_gateOf_44 ?_
        exact G_iret (pc := 45) (Nat.le_of_ble_eq_true rfl) (Nat.le_of_ble_eq_true rfl) rfl dX11_gateOf_45 ⟨_, by first | rfl | (simp [F_gateOf, *]; done) | (simp only [F_gateOf, Int32.le_iff_toInt_le, Int32.lt_iff_toInt_lt, ← Int32.toInt_inj]; simp; omega) | (simp only [F_gateOf, Int32.le_iff_toInt_le, Int32.lt_iff_toInt_lt, ← Int32.toInt_inj]; split <;> first | rfl | (exfalso; simp at *; omega)) | (unfold F_gateOf; (repeat' split) <;> first | rfl | (exfalso; (try simp only [Int32.le_iff_toInt_le, Int32.lt_iff_toInt_lt, ← Int32.toInt_inj] at *); first | omega | (simp at *; done) | (simp at *; omega))), rfl, fun _ _ => rfl⟩
      by_cases c22 : f = 4
      · subst c22
        refine G_iald (pc := 44) (jj := 4) (v := 0) (by decide) rfl rfl (by unfold vp_in; decide) dX11_gateOf_44 ?_
        exact G_iret (pc := 45) (Nat.le_of_ble_eq_true rfl) (Nat.le_of_ble_eq_true rfl) rfl dX11_gateOf_45 ⟨_, by first | rfl | (simp [F_gateOf, *]; done) | (simp only [F_gateOf, Int32.le_iff_toInt_le, Int32.lt_iff_toInt_lt, ← Int32.toInt_inj]; simp; omega) | (simp only [F_gateOf, Int32.le_iff_toInt_le, Int32.lt_iff_toInt_lt, ← Int32.toInt_inj]; split <;> first | rfl | (exfalso; simp at *; omega)) | (unfold F_gateOf; (repeat' split) <;> first | rfl | (exfalso; (try simp only [Int32.le_iff_toInt_le, Int32.lt_iff_toInt_lt, ← Int32.toInt_inj] at *); first | omega | (simp at *; done) | (simp at *; omega))), rfl, fun _ _ => rfl⟩
      by_cases c23 : f = 5
      · subst c23
        refine G_iald (pc := 44) (jj := 5) (v := 0) (by decide) rfl rfl (by unfold vp_in; decide) dX11_gateOf_44 ?_
        exact G_iret (pc := 45) (Nat.le_of_ble_eq_true rfl) (Nat.le_of_ble_eq_true rfl) rfl dX11_gateOf_45 ⟨_, by first | rfl | (simp [F_gateOf, *]; done) | (simp only [F_gateOf, Int32.le_iff_toInt_le, Int32.lt_iff_toInt_lt, ← Int32.toInt_inj]; simp; omega) | (simp only [F_gateOf, Int32.le_iff_toInt_le, Int32.lt_iff_toInt_lt, ← Int32.toInt_inj]; split <;> first | rfl | (exfalso; simp at *; omega)) | (unfold F_gateOf; (repeat' split) <;> first | rfl | (exfalso; (try simp only [Int32.le_iff_toInt_le, Int32.lt_iff_toInt_lt, ← Int32.toInt_inj] at *); first | omega | (simp at *; done) | (simp at *; omega))), rfl, fun _ _ => rfl⟩
      exfalso
      have : 0 ≤ (f).toInt := Int32.le_iff_toInt_le.mp (c16.1)
      have : (f).toInt ≤ 5 := Int32.le_iff_toInt_le.mp (c16.2)
      have : (f).toInt ≠ 0 := g_ne (c18)
      have : (f).toInt ≠ 1 := g_ne (c19)
      have : (f).toInt ≠ 2 := g_ne (c20)
      have : (f).toInt ≠ 3 := g_ne (c21)
      have : (f).toInt ≠ 4 := g_ne (c22)
      have : (f).toInt ≠ 5 := g_ne (c23)
      omega
    by_cases c24 : what = 1
    · subst c24
      refine G_look (pc := 10) (tgt := 46) (off := 36) (by decide) (by decide) (by decide) dX11_gateOf_10 ?_
      refine G_aload_n (pc := 46) rfl dX11_gateOf_46 ?_
      refine G_getR (pc := 47) (r := 19) (ci := 11) (j := 0) rfl lk_RX11_56 rfl rfl rfl dX11_gateOf_47 ?_
      refine G_getR (pc := 50) (r := 22) (ci := 1) (j := 7) rfl lk_RX11_153 rfl rfl rfl dX11_gateOf_50 ?_
      refine G_iload_n (pc := 53) rfl dX11_gateOf_53 ?_
      by_cases c25 : f = 0
      · subst c25
        refine G_iald (pc := 54) (jj := 0) (v := 0) (by decide) rfl rfl (by unfold vp_in; decide) dX11_gateOf_54 ?_
        exact G_iret (pc := 55) (Nat.le_of_ble_eq_true rfl) (Nat.le_of_ble_eq_true rfl) rfl dX11_gateOf_55 ⟨_, by first | rfl | (simp [F_gateOf, *]; done) | (simp only [F_gateOf, Int32.le_iff_toInt_le, Int32.lt_iff_toInt_lt, ← Int32.toInt_inj]; simp; omega) | (simp only [F_gateOf, Int32.le_iff_toInt_le, Int32.lt_iff_toInt_lt, ← Int32.toInt_inj]; split <;> first | rfl | (exfalso; simp at *; omega)) | (unfold F_gateOf; (repeat' split) <;> first | rfl | (exfalso; (try simp only [Int32.le_iff_toInt_le, Int32.lt_iff_toInt_lt, ← Int32.toInt_inj] at *); first | omega | (simp at *; done) | (simp at *; omega))), rfl, fun _ _ => rfl⟩
      by_cases c26 : f = 1
      · subst c26
        refine G_iald (pc := 54) (jj := 1) (v := 0) (by decide) rfl rfl (by unfold vp_in; decide) dX11_gateOf_54 ?_
        exact G_iret (pc := 55) (Nat.le_of_ble_eq_true rfl) (Nat.le_of_ble_eq_true rfl) rfl dX11_gateOf_55 ⟨_, by first | rfl | (simp [F_gateOf, *]; done) | (simp only [F_gateOf, Int32.le_iff_toInt_le, Int32.lt_iff_toInt_lt, ← Int32.toInt_inj]; simp; omega) | (simp only [F_gateOf, Int32.le_iff_toInt_le, Int32.lt_iff_toInt_lt, ← Int32.toInt_inj]; split <;> first | rfl | (exfalso; simp at *; omega)) | (unfold F_gateOf; (repeat' split) <;> first | rfl | (exfalso; (try simp only [Int32.le_iff_toInt_le, Int32.lt_iff_toInt_lt, ← Int32.toInt_inj] at *); first | omega | (simp at *; done) | (simp at *; omega))), rfl, fun _ _ => rfl⟩
      by_cases c27 : f = 2
      · subst c27
        refine G_iald (pc := 54) (jj := 2) (v := 0) (by decide) rfl rfl (by unfold vp_in; decide) dX11_gateOf_54 ?_
        exact G_iret (pc := 55) (Nat.le_of_ble_eq_true rfl) (Nat.le_of_ble_eq_true rfl) rfl dX11_gateOf_55 ⟨_, by first | rfl | (simp [F_gateOf, *]; done) | (simp only [F_gateOf, Int32.le_iff_toInt_le, Int32.lt_iff_toInt_lt, ← Int32.toInt_inj]; simp; omega) | (simp only [F_gateOf, Int32.le_iff_toInt_le, Int32.lt_iff_toInt_lt, ← Int32.toInt_inj]; split <;> first | rfl | (exfalso; simp at *; omega)) | (unfold F_gateOf; (repeat' split) <;> first | rfl | (exfalso; (try simp only [Int32.le_iff_toInt_le, Int32.lt_iff_toInt_lt, ← Int32.toInt_inj] at *); first | omega | (simp at *; done) | (simp at *; omega))), rfl, fun _ _ => rfl⟩
      by_cases c28 : f = 3
      · subst c28
        refine G_iald (pc := 54) (jj := 3) (v := 0) (by decide) rfl rfl (by unfold vp_in; decide) dX11_gateOf_54 ?_
        exact G_iret (pc := 55) (Nat.le_of_ble_eq_true rfl) (Nat.le_of_ble_eq_true rfl) rfl dX11_gateOf_55 ⟨_, by first | rfl | (simp [F_gateOf, *]; done) | (simp only [F_gateOf, Int32.le_iff_toInt_le, Int32.lt_iff_toInt_lt, ← Int32.toInt_inj]; simp; omega) | (simp only [F_gateOf, Int32.le_iff_toInt_le, Int32.lt_iff_toInt_lt, ← Int32.toInt_inj]; split <;> first | rfl | (exfalso; simp at *; omega)) | (unfold F_gateOf; (repeat' split) <;> first | rfl | (exfalso; (try simp only [Int32.le_iff_toInt_le, Int32.lt_iff_toInt_lt, ← Int32.toInt_inj] at *); first | omega | (simp at *; done) | (simp at *; omega))), rfl, fun _ _ => rfl⟩
      by_cases c29 : f = 4
      · subst c29
        refine G_iald (pc := 54) (jj := 4) (v := 0) (by decide) rfl rfl (by unfold vp_in; decide) dX11_gateOf_54 ?_
        exact G_iret (pc := 55) (Nat.le_of_ble_eq_true rfl) (Nat.le_of_ble_eq_true rfl) rfl dX11_gateOf_55 ⟨_, by first | rfl | (simp [F_gateOf, *]; done) | (simp only [F_gateOf, Int32.le_iff_toInt_le, Int32.lt_iff_toInt_lt, ← Int32.toInt_inj]; simp; omega) | (simp only [F_gateOf, Int32.le_iff_toInt_le, Int32.lt_iff_toInt_lt, ← Int32.toInt_inj]; split <;> first | rfl | (exfalso; simp at *; omega)) | (unfold F_gateOf; (repeat' split) <;> first | rfl | (exfalso; (try simp only [Int32.le_iff_toInt_le, Int32.lt_iff_toInt_lt, ← Int32.toInt_inj] at *); first | omega | (simp at *; done) | (simp at *; omega))), rfl, fun _ _ => rfl⟩
      by_cases c30 : f = 5
      · subst c30
        refine G_iald (pc := 54) (jj := 5) (v := 0) (by decide) rfl rfl (by unfold vp_in; decide) dX11_gateOf_54 ?_
        exact G_iret (pc := 55) (Nat.le_of_ble_eq_true rfl) (Nat.le_of_ble_eq_true rfl) rfl dX11_gateOf_55 ⟨_, by first | rfl | (simp [F_gateOf, *]; done) | (simp only [F_gateOf, Int32.le_iff_toInt_le, Int32.lt_iff_toInt_lt, ← Int32.toInt_inj]; simp; omega) | (simp only [F_gateOf, Int32.le_iff_toInt_le, Int32.lt_iff_toInt_lt, ← Int32.toInt_inj]; split <;> first | rfl | (exfalso; simp at *; omega)) | (unfold F_gateOf; (repeat' split) <;> first | rfl | (exfalso; (try simp only [Int32.le_iff_toInt_le, Int32.lt_iff_toInt_lt, ← Int32.toInt_inj] at *); first | omega | (simp at *; done) | (simp at *; omega))), rfl, fun _ _ => rfl⟩
      exfalso
      have : 0 ≤ (f).toInt := Int32.le_iff_toInt_le.mp (c16.1)
      have : (f).toInt ≤ 5 := Int32.le_iff_toInt_le.mp (c16.2)
      have : (f).toInt ≠ 0 := g_ne (c25)
      have : (f).toInt ≠ 1 := g_ne (c26)
      have : (f).toInt ≠ 2 := g_ne (c27)
      have : (f).toInt ≠ 3 := g_ne (c28)
      have : (f).toInt ≠ 4 := g_ne (c29)
      have : (f).toInt ≠ 5 := g_ne (c30)
      omega
    refine G_look (pc := 10) (tgt := 56) (off := 46) (by decide) (by decide) (by show Op.lookupswitch.offset [(0, 26), (1, 36)] 46 _ = _; rw [lv_osw (a := 0) c17 rfl, lv_osw (a := 1) c24 rfl]; rfl) dX11_gateOf_10 ?_
    refine G_iconst (pc := 56) (v := (-1)) (by decide) dX11_gateOf_56 ?_
    exact G_iret (pc := 57) (Nat.le_of_ble_eq_true rfl) (Nat.le_of_ble_eq_true rfl) rfl dX11_gateOf_57 ⟨_, by first | rfl | (simp [F_gateOf, *]; done) | (have : 0 ≤ (f).toInt := Int32.le_iff_toInt_le.mp (c16.1); have : (f).toInt ≤ 5 := Int32.le_iff_toInt_le.mp (c16.2); have : (what).toInt ≠ 0 := g_ne (c17); have : (what).toInt ≠ 1 := g_ne (c24); simp only [F_gateOf, Int32.le_iff_toInt_le, Int32.lt_iff_toInt_lt, ← Int32.toInt_inj]; simp; omega) | (have : 0 ≤ (f).toInt := Int32.le_iff_toInt_le.mp (c16.1); have : (f).toInt ≤ 5 := Int32.le_iff_toInt_le.mp (c16.2); have : (what).toInt ≠ 0 := g_ne (c17); have : (what).toInt ≠ 1 := g_ne (c24); simp only [F_gateOf, Int32.le_iff_toInt_le, Int32.lt_iff_toInt_lt, ← Int32.toInt_inj]; split <;> first | rfl | (exfalso; simp at *; omega)) | (have : 0 ≤ (f).toInt := Int32.le_iff_toInt_le.mp (c16.1); have : (f).toInt ≤ 5 := Int32.le_iff_toInt_le.mp (c16.2); have : (what).toInt ≠ 0 := g_ne (c17); have : (what).toInt ≠ 1 := g_ne (c24); unfold F_gateOf; (repeat' split) <;> first | rfl | (exfalso; (try simp only [Int32.le_iff_toInt_le, Int32.lt_iff_toInt_lt, ← Int32.toInt_inj] at *); first | omega | (simp at *; done) | (simp at *; omega))), rfl, fun _ _ => rfl⟩
  · have c16 := gB_z c16
    refine G_iconst (pc := 7) (v := (-1)) (by decide) dX11_gateOf_7 ?_
    exact G_iret (pc := 8) (Nat.le_of_ble_eq_true rfl) (Nat.le_of_ble_eq_true rfl) rfl dX11_gateOf_8 ⟨_, by first | rfl | (simp [F_gateOf, *]; done) | (have : ¬ (0 ≤ (f).toInt ∧ (f).toInt ≤ 5) := fun z => c16 ⟨Int32.le_iff_toInt_le.mpr z.1, Int32.le_iff_toInt_le.mpr z.2⟩; simp only [F_gateOf, Int32.le_iff_toInt_le, Int32.lt_iff_toInt_lt, ← Int32.toInt_inj]; simp; omega) | (have : ¬ (0 ≤ (f).toInt ∧ (f).toInt ≤ 5) := fun z => c16 ⟨Int32.le_iff_toInt_le.mpr z.1, Int32.le_iff_toInt_le.mpr z.2⟩; simp only [F_gateOf, Int32.le_iff_toInt_le, Int32.lt_iff_toInt_lt, ← Int32.toInt_inj]; split <;> first | rfl | (exfalso; simp at *; omega)) | (have : ¬ (0 ≤ (f).toInt ∧ (f).toInt ≤ 5) := fun z => c16 ⟨Int32.le_iff_toInt_le.mpr z.1, Int32.le_iff_toInt_le.mpr z.2⟩; unfold F_gateOf; (repeat' split) <;> first | rfl | (exfalso; (try simp only [Int32.le_iff_toInt_le, Int32.lt_iff_toInt_lt, ← Int32.toInt_inj] at *); first | omega | (simp at *; done) | (simp at *; omega))), rfl, fun _ _ => rfl⟩
def F_when (k : Int32) : Int32 := -1
set_option maxRecDepth 100000 in
set_option maxHeartbeats 4000000 in
theorem x_when (d : Nat) (k : Int32) : G (d + 1) mX11_when 0 0 0 0 0 (gent 5 [.ref 0, .int k]) [] SH0 RF0 I0 (fun r h => ∃ I1, r = some (.int (F_when k)) ∧ h = (SH0, RF0, I1) ∧ ∀ a, 67 ≤ a → I1 a = I0 a) := by
  refine G_aload_n (pc := 0) rfl dX11_when_0 ?_
  refine G_getR (pc := 1) (r := 19) (ci := 11) (j := 0) rfl lk_RX11_56 rfl rfl rfl dX11_when_1 ?_
  refine G_iload_n (pc := 4) rfl dX11_when_4 ?_
  refine G_callV (pc := 5) (mc1 := 0) (ms1 := 0) (ci := 1) (mj := mX1_isKey) (vs := [_]) dX11_when_5 rfl rfl cm_X1_isKey wf_10 wf_13 wf_14 rfl (Nat.le_of_ble_eq_true rfl) (Nat.le_of_ble_eq_true rfl) (Nat.le_of_ble_eq_true rfl) (Nat.le_of_ble_eq_true rfl) (s1_X1_isKey  d  _) ?_
  rintro _ _ ⟨rfl, rfl⟩
  dsimp only [Option.toList, List.cons_append, List.nil_append]
  refine G_if_ne (pc := 8) (tgt := 13) (by decide) dX11_when_8 (fun z => absurd (by decide) z) (fun _ => ?_)
  refine G_iconst (pc := 11) (v := (-1)) (by decide) dX11_when_11 ?_
  exact G_iret (pc := 12) (Nat.le_of_ble_eq_true rfl) (Nat.le_of_ble_eq_true rfl) rfl dX11_when_12 ⟨_, by first | rfl | (simp [F_when, *]; done) | (simp only [F_when, Int32.le_iff_toInt_le, Int32.lt_iff_toInt_lt, ← Int32.toInt_inj]; simp; omega) | (simp only [F_when, Int32.le_iff_toInt_le, Int32.lt_iff_toInt_lt, ← Int32.toInt_inj]; split <;> first | rfl | (exfalso; simp at *; omega)) | (unfold F_when; (repeat' split) <;> first | rfl | (exfalso; (try simp only [Int32.le_iff_toInt_le, Int32.lt_iff_toInt_lt, ← Int32.toInt_inj] at *); first | omega | (simp at *; done) | (simp at *; omega))), rfl, fun _ _ => rfl⟩
def F_strawFor (k : Int32) : Int32 := -1
set_option maxRecDepth 100000 in
set_option maxHeartbeats 4000000 in
theorem x_strawFor (d : Nat) (k : Int32) : G (d + 1) mX11_strawFor 0 0 0 0 0 (gent 2 [.ref 0, .int k]) [] SH0 RF0 I0 (fun r h => ∃ I1, r = some (.int (F_strawFor k)) ∧ h = (SH0, RF0, I1) ∧ ∀ a, 67 ≤ a → I1 a = I0 a) := by
  refine G_aload_n (pc := 0) rfl dX11_strawFor_0 ?_
  refine G_getR (pc := 1) (r := 19) (ci := 11) (j := 0) rfl lk_RX11_56 rfl rfl rfl dX11_strawFor_1 ?_
  refine G_iload_n (pc := 4) rfl dX11_strawFor_4 ?_
  refine G_callV (pc := 5) (mc1 := 0) (ms1 := 0) (ci := 1) (mj := mX1_isKey) (vs := [_]) dX11_strawFor_5 rfl rfl cm_X1_isKey wf_10 wf_13 wf_14 rfl (Nat.le_of_ble_eq_true rfl) (Nat.le_of_ble_eq_true rfl) (Nat.le_of_ble_eq_true rfl) (Nat.le_of_ble_eq_true rfl) (s1_X1_isKey  d  _) ?_
  rintro _ _ ⟨rfl, rfl⟩
  dsimp only [Option.toList, List.cons_append, List.nil_append]
  refine G_if_eq (pc := 8) (tgt := 28) (by decide) dX11_strawFor_8 (fun _ => ?_) (fun z => absurd (by decide) z)
  refine G_iconst (pc := 28) (v := (-1)) (by decide) dX11_strawFor_28 ?_
  exact G_iret (pc := 29) (Nat.le_of_ble_eq_true rfl) (Nat.le_of_ble_eq_true rfl) rfl dX11_strawFor_29 ⟨_, by first | rfl | (simp [F_strawFor, *]; done) | (simp only [F_strawFor, Int32.le_iff_toInt_le, Int32.lt_iff_toInt_lt, ← Int32.toInt_inj]; simp; omega) | (simp only [F_strawFor, Int32.le_iff_toInt_le, Int32.lt_iff_toInt_lt, ← Int32.toInt_inj]; split <;> first | rfl | (exfalso; simp at *; omega)) | (unfold F_strawFor; (repeat' split) <;> first | rfl | (exfalso; (try simp only [Int32.le_iff_toInt_le, Int32.lt_iff_toInt_lt, ← Int32.toInt_inj] at *); first | omega | (simp at *; done) | (simp at *; omega))), rfl, fun _ _ => rfl⟩
def F_gateFor (k : Int32) : Int32 := -1
set_option maxRecDepth 100000 in
set_option maxHeartbeats 4000000 in
theorem x_gateFor (d : Nat) (k : Int32) : G (d + 1) mX11_gateFor 0 0 0 0 0 (gent 2 [.ref 0, .int k]) [] SH0 RF0 I0 (fun r h => ∃ I1, r = some (.int (F_gateFor k)) ∧ h = (SH0, RF0, I1) ∧ ∀ a, 67 ≤ a → I1 a = I0 a) := by
  refine G_aload_n (pc := 0) rfl dX11_gateFor_0 ?_
  refine G_getR (pc := 1) (r := 19) (ci := 11) (j := 0) rfl lk_RX11_56 rfl rfl rfl dX11_gateFor_1 ?_
  refine G_iload_n (pc := 4) rfl dX11_gateFor_4 ?_
  refine G_callV (pc := 5) (mc1 := 0) (ms1 := 0) (ci := 1) (mj := mX1_isKey) (vs := [_]) dX11_gateFor_5 rfl rfl cm_X1_isKey wf_10 wf_13 wf_14 rfl (Nat.le_of_ble_eq_true rfl) (Nat.le_of_ble_eq_true rfl) (Nat.le_of_ble_eq_true rfl) (Nat.le_of_ble_eq_true rfl) (s1_X1_isKey  d  _) ?_
  rintro _ _ ⟨rfl, rfl⟩
  dsimp only [Option.toList, List.cons_append, List.nil_append]
  refine G_if_eq (pc := 8) (tgt := 27) (by decide) dX11_gateFor_8 (fun _ => ?_) (fun z => absurd (by decide) z)
  refine G_iconst (pc := 27) (v := (-1)) (by decide) dX11_gateFor_27 ?_
  exact G_iret (pc := 28) (Nat.le_of_ble_eq_true rfl) (Nat.le_of_ble_eq_true rfl) rfl dX11_gateFor_28 ⟨_, by first | rfl | (simp [F_gateFor, *]; done) | (simp only [F_gateFor, Int32.le_iff_toInt_le, Int32.lt_iff_toInt_lt, ← Int32.toInt_inj]; simp; omega) | (simp only [F_gateFor, Int32.le_iff_toInt_le, Int32.lt_iff_toInt_lt, ← Int32.toInt_inj]; split <;> first | rfl | (exfalso; simp at *; omega)) | (unfold F_gateFor; (repeat' split) <;> first | rfl | (exfalso; (try simp only [Int32.le_iff_toInt_le, Int32.lt_iff_toInt_lt, ← Int32.toInt_inj] at *); first | omega | (simp at *; done) | (simp at *; omega))), rfl, fun _ _ => rfl⟩
def F_gone (k : Int32) : Int32 := -1
set_option maxRecDepth 100000 in
set_option maxHeartbeats 4000000 in
theorem x_gone (d : Nat) (k : Int32) : G (d + 1) mX11_gone 0 0 0 0 0 (gent 3 [.ref 0, .int k]) [] SH0 RF0 I0 (fun r h => ∃ I1, r = some (.int (F_gone k)) ∧ h = (SH0, RF0, I1) ∧ ∀ a, 67 ≤ a → I1 a = I0 a) := by
  refine G_aload_n (pc := 0) rfl dX11_gone_0 ?_
  refine G_getR (pc := 1) (r := 19) (ci := 11) (j := 0) rfl lk_RX11_56 rfl rfl rfl dX11_gone_1 ?_
  refine G_iload_n (pc := 4) rfl dX11_gone_4 ?_
  refine G_callV (pc := 5) (mc1 := 0) (ms1 := 0) (ci := 1) (mj := mX1_isKey) (vs := [_]) dX11_gone_5 rfl rfl cm_X1_isKey wf_10 wf_13 wf_14 rfl (Nat.le_of_ble_eq_true rfl) (Nat.le_of_ble_eq_true rfl) (Nat.le_of_ble_eq_true rfl) (Nat.le_of_ble_eq_true rfl) (s1_X1_isKey  d  _) ?_
  rintro _ _ ⟨rfl, rfl⟩
  dsimp only [Option.toList, List.cons_append, List.nil_append]
  refine G_if_ne (pc := 8) (tgt := 13) (by decide) dX11_gone_8 (fun z => absurd (by decide) z) (fun _ => ?_)
  refine G_iconst (pc := 11) (v := (-1)) (by decide) dX11_gone_11 ?_
  exact G_iret (pc := 12) (Nat.le_of_ble_eq_true rfl) (Nat.le_of_ble_eq_true rfl) rfl dX11_gone_12 ⟨_, by first | rfl | (simp [F_gone, *]; done) | (simp only [F_gone, Int32.le_iff_toInt_le, Int32.lt_iff_toInt_lt, ← Int32.toInt_inj]; simp; omega) | (simp only [F_gone, Int32.le_iff_toInt_le, Int32.lt_iff_toInt_lt, ← Int32.toInt_inj]; split <;> first | rfl | (exfalso; simp at *; omega)) | (unfold F_gone; (repeat' split) <;> first | rfl | (exfalso; (try simp only [Int32.le_iff_toInt_le, Int32.lt_iff_toInt_lt, ← Int32.toInt_inj] at *); first | omega | (simp at *; done) | (simp at *; omega))), rfl, fun _ _ => rfl⟩
def F_opens (k : Int32) : Int32 := -1
set_option maxRecDepth 100000 in
set_option maxHeartbeats 4000000 in
theorem x_opens (d : Nat) (k : Int32) : G (d + 1) mX11_opens 0 0 0 0 0 (gent 4 [.ref 0, .int k]) [] SH0 RF0 I0 (fun r h => ∃ I1, r = some (.int (F_opens k)) ∧ h = (SH0, RF0, I1) ∧ ∀ a, 67 ≤ a → I1 a = I0 a) := by
  refine G_aload_n (pc := 0) rfl dX11_opens_0 ?_
  refine G_getR (pc := 1) (r := 19) (ci := 11) (j := 0) rfl lk_RX11_56 rfl rfl rfl dX11_opens_1 ?_
  refine G_iload_n (pc := 4) rfl dX11_opens_4 ?_
  refine G_callV (pc := 5) (mc1 := 0) (ms1 := 0) (ci := 1) (mj := mX1_isKey) (vs := [_]) dX11_opens_5 rfl rfl cm_X1_isKey wf_10 wf_13 wf_14 rfl (Nat.le_of_ble_eq_true rfl) (Nat.le_of_ble_eq_true rfl) (Nat.le_of_ble_eq_true rfl) (Nat.le_of_ble_eq_true rfl) (s1_X1_isKey  d  _) ?_
  rintro _ _ ⟨rfl, rfl⟩
  dsimp only [Option.toList, List.cons_append, List.nil_append]
  refine G_if_ne (pc := 8) (tgt := 13) (by decide) dX11_opens_8 (fun z => absurd (by decide) z) (fun _ => ?_)
  refine G_iconst (pc := 11) (v := (-1)) (by decide) dX11_opens_11 ?_
  exact G_iret (pc := 12) (Nat.le_of_ble_eq_true rfl) (Nat.le_of_ble_eq_true rfl) rfl dX11_opens_12 ⟨_, by first | rfl | (simp [F_opens, *]; done) | (simp only [F_opens, Int32.le_iff_toInt_le, Int32.lt_iff_toInt_lt, ← Int32.toInt_inj]; simp; omega) | (simp only [F_opens, Int32.le_iff_toInt_le, Int32.lt_iff_toInt_lt, ← Int32.toInt_inj]; split <;> first | rfl | (exfalso; simp at *; omega)) | (unfold F_opens; (repeat' split) <;> first | rfl | (exfalso; (try simp only [Int32.le_iff_toInt_le, Int32.lt_iff_toInt_lt, ← Int32.toInt_inj] at *); first | omega | (simp at *; done) | (simp at *; omega))), rfl, fun _ _ => rfl⟩
set_option maxRecDepth 100000 in
set_option maxHeartbeats 4000000 in
theorem s5_X1_isKey  (d : Nat)  (a0 : Int32) : G (d) mX1_isKey 0 0 0 0 0 (gent 2 [.ref 19, .int a0]) [] SH0 RF0 I0 (fun r h => r = some (.int 0) ∧ h = (SH0, RF0, I0)) := by
  refine G_iload_n (pc := 0) rfl dX1_isKey_0 ?_
  refine G_if_lt (pc := 1) (tgt := 16) (by decide) dX1_isKey_1 (fun c32 => ?_) (fun c32 => ?_)
  · refine G_iconst (pc := 16) (v := 0) (by decide) dX1_isKey_16 ?_
    exact G_zret (pc := 17) (Nat.le_of_ble_eq_true rfl) (Nat.le_of_ble_eq_true rfl) rfl (by decide) dX1_isKey_17 ⟨rfl, rfl⟩
  · refine G_iload_n (pc := 4) rfl dX1_isKey_4 ?_
    refine G_aload_n (pc := 5) rfl dX1_isKey_5 ?_
    refine G_getI (pc := 6) (v := 0) (ci := 1) (j := 8) rfl rfl lk_RX1_72 rfl rfl dX1_isKey_6 ?_
    refine G_icmp_ge (pc := 9) (tgt := 16) (by decide) dX1_isKey_9 (fun c33 => ?_) (fun c33 => ?_)
    · refine G_iconst (pc := 16) (v := 0) (by decide) dX1_isKey_16 ?_
      exact G_zret (pc := 17) (Nat.le_of_ble_eq_true rfl) (Nat.le_of_ble_eq_true rfl) rfl (by decide) dX1_isKey_17 ⟨rfl, rfl⟩
    · exfalso; have : 0 ≤ (a0).toInt := Int32.le_iff_toInt_le.mp (Int32.not_lt.mp c32); have : (a0).toInt < 0 := Int32.lt_iff_toInt_lt.mp (Int32.not_le.mp c33); omega
set_option maxRecDepth 100000 in
set_option maxHeartbeats 4000000 in
theorem s6_X11_countBunches  (d : Nat)   : G (d) mX11_countBunches 0 0 0 0 0 (gent 4 [.ref 0]) [] SH0 RF0 I0 (fun r h => r = some (.int 0) ∧ h = (SH0, RF0, I0)) := by
  refine G_iconst (pc := 0) (v := 0) (by decide) dX11_countBunches_0 ?_
  refine G_istore_n (pc := 1) (L1 := [some (.ref 0), some (.int 0), none, none]) rfl rfl (by decide) dX11_countBunches_1 ?_
  refine G_iconst (pc := 2) (v := 0) (by decide) dX11_countBunches_2 ?_
  refine G_istore_n (pc := 3) (L1 := [some (.ref 0), some (.int 0), some (.int 0), none]) rfl rfl (by decide) dX11_countBunches_3 ?_
  refine G_iload_n (pc := 4) rfl dX11_countBunches_4 ?_
  refine G_aload_n (pc := 5) rfl dX11_countBunches_5 ?_
  refine G_getR (pc := 6) (r := 19) (ci := 11) (j := 0) rfl lk_RX11_56 rfl rfl rfl dX11_countBunches_6 ?_
  refine G_getI (pc := 9) (v := 0) (ci := 1) (j := 8) rfl rfl lk_RX11_97 rfl rfl dX11_countBunches_9 ?_
  refine G_icmp_ge (pc := 12) (tgt := 45) (by decide) dX11_countBunches_12 (fun _ => ?_) (fun z => absurd (by decide) z)
  refine G_iload_n (pc := 45) rfl dX11_countBunches_45 ?_
  exact G_iret (pc := 46) (Nat.le_of_ble_eq_true rfl) (Nat.le_of_ble_eq_true rfl) rfl dX11_countBunches_46 ⟨rfl, rfl⟩
def F_bunches (what : Int32) : Int32 := if what = -1 then 0 else -1
set_option maxRecDepth 100000 in
set_option maxHeartbeats 4000000 in
theorem x_bunches (d : Nat) (what : Int32) : G (d + 1) mX11_bunches 0 0 0 0 0 (gent 2 [.ref 0, .int what]) [] SH0 RF0 I0 (fun r h => ∃ I1, r = some (.int (F_bunches what)) ∧ h = (SH0, RF0, I1) ∧ ∀ a, 67 ≤ a → I1 a = I0 a) := by
  refine G_iload_n (pc := 0) rfl dX11_bunches_0 ?_
  refine G_iconst (pc := 1) (v := (-1)) (by decide) dX11_bunches_1 ?_
  refine G_icmp_ne (pc := 2) (tgt := 10) (by decide) dX11_bunches_2 (fun c31 => ?_) (fun c31 => ?_)
  · refine G_aload_n (pc := 10) rfl dX11_bunches_10 ?_
    refine G_getR (pc := 11) (r := 19) (ci := 11) (j := 0) rfl lk_RX11_56 rfl rfl rfl dX11_bunches_11 ?_
    refine G_iload_n (pc := 14) rfl dX11_bunches_14 ?_
    refine G_callV (pc := 15) (mc1 := 0) (ms1 := 0) (ci := 1) (mj := mX1_isKey) (vs := [_]) dX11_bunches_15 rfl rfl cm_X1_isKey wf_10 wf_13 wf_14 rfl (Nat.le_of_ble_eq_true rfl) (Nat.le_of_ble_eq_true rfl) (Nat.le_of_ble_eq_true rfl) (Nat.le_of_ble_eq_true rfl) (s5_X1_isKey  d  _) ?_
    rintro _ _ ⟨rfl, rfl⟩
    dsimp only [Option.toList, List.cons_append, List.nil_append]
    refine G_if_eq (pc := 18) (tgt := 32) (by decide) dX11_bunches_18 (fun _ => ?_) (fun z => absurd (by decide) z)
    refine G_iconst (pc := 32) (v := (-1)) (by decide) dX11_bunches_32 ?_
    exact G_iret (pc := 33) (Nat.le_of_ble_eq_true rfl) (Nat.le_of_ble_eq_true rfl) rfl dX11_bunches_33 ⟨_, by first | rfl | (simp [F_bunches, *]; done) | (have : (what).toInt ≠ -1 := g_ne (c31); simp only [F_bunches, Int32.le_iff_toInt_le, Int32.lt_iff_toInt_lt, ← Int32.toInt_inj]; simp; omega) | (have : (what).toInt ≠ -1 := g_ne (c31); simp only [F_bunches, Int32.le_iff_toInt_le, Int32.lt_iff_toInt_lt, ← Int32.toInt_inj]; split <;> first | rfl | (exfalso; simp at *; omega)) | (have : (what).toInt ≠ -1 := g_ne (c31); unfold F_bunches; (repeat' split) <;> first | rfl | (exfalso; (try simp only [Int32.le_iff_toInt_le, Int32.lt_iff_toInt_lt, ← Int32.toInt_inj] at *); first | omega | (simp at *; done) | (simp at *; omega))), rfl, fun _ _ => rfl⟩
  · refine G_aload_n (pc := 5) rfl dX11_bunches_5 ?_
    refine G_callV (pc := 6) (mc1 := 0) (ms1 := 0) (ci := 11) (mj := mX11_countBunches) (vs := []) dX11_bunches_6 rfl rfl cm_X11_countBunches wf_27 wf_29 wf_30 rfl (Nat.le_of_ble_eq_true rfl) (Nat.le_of_ble_eq_true rfl) (Nat.le_of_ble_eq_true rfl) (Nat.le_of_ble_eq_true rfl) (s6_X11_countBunches  d  ) ?_
    rintro _ _ ⟨rfl, rfl⟩
    dsimp only [Option.toList, List.cons_append, List.nil_append]
    exact G_iret (pc := 9) (Nat.le_of_ble_eq_true rfl) (Nat.le_of_ble_eq_true rfl) rfl dX11_bunches_9 ⟨_, by first | rfl | (simp [F_bunches, *]; done) | (have : (what).toInt = -1 := congrArg Int32.toInt (c31); simp only [F_bunches, Int32.le_iff_toInt_le, Int32.lt_iff_toInt_lt, ← Int32.toInt_inj]; simp; omega) | (have : (what).toInt = -1 := congrArg Int32.toInt (c31); simp only [F_bunches, Int32.le_iff_toInt_le, Int32.lt_iff_toInt_lt, ← Int32.toInt_inj]; split <;> first | rfl | (exfalso; simp at *; omega)) | (have : (what).toInt = -1 := congrArg Int32.toInt (c31); unfold F_bunches; (repeat' split) <;> first | rfl | (exfalso; (try simp only [Int32.le_iff_toInt_le, Int32.lt_iff_toInt_lt, ← Int32.toInt_inj] at *); first | omega | (simp at *; done) | (simp at *; omega))), rfl, fun _ _ => rfl⟩
def F_forget  : Int32 := 0
set_option maxRecDepth 100000 in
set_option maxHeartbeats 4000000 in
theorem x_forget (d : Nat)  : G (d) mX11_forget 0 0 0 0 0 (gent 2 [.ref 0]) [] SH0 RF0 I0 (fun r h => ∃ I1, r = some (.int (F_forget )) ∧ h = (SH0, RF0, I1) ∧ ∀ a, 67 ≤ a → I1 a = I0 a) := by
  refine G_aload_n (pc := 0) rfl dX11_forget_0 ?_
  refine G_getR (pc := 1) (r := 19) (ci := 11) (j := 0) rfl lk_RX11_56 rfl rfl rfl dX11_forget_1 ?_
  refine G_getI (pc := 4) (v := 0) (ci := 1) (j := 16) rfl rfl lk_RX11_270 rfl rfl dX11_forget_4 ?_
  refine G_istore_n (pc := 7) (L1 := [some (.ref 0), some (.int 0)]) rfl rfl (by decide) dX11_forget_7 ?_
  refine G_aload_n (pc := 8) rfl dX11_forget_8 ?_
  refine G_getR (pc := 9) (r := 19) (ci := 11) (j := 0) rfl lk_RX11_56 rfl rfl rfl dX11_forget_9 ?_
  refine G_iconst (pc := 12) (v := 0) (by decide) dX11_forget_12 ?_
  refine G_putI (pc := 13) (ci := 1) (j := 16) rfl lk_RX11_270 rfl rfl rfl trivial dX11_forget_13 ?_
  refine G_iload_n (pc := 16) rfl dX11_forget_16 ?_
  exact G_iret (pc := 17) (Nat.le_of_ble_eq_true rfl) (Nat.le_of_ble_eq_true rfl) rfl dX11_forget_17 ⟨_, by first | rfl | (simp [F_forget, *]; done) | (simp only [F_forget, Int32.le_iff_toInt_le, Int32.lt_iff_toInt_lt, ← Int32.toInt_inj]; simp; omega) | (simp only [F_forget, Int32.le_iff_toInt_le, Int32.lt_iff_toInt_lt, ← Int32.toInt_inj]; split <;> first | rfl | (exfalso; simp at *; omega)) | (unfold F_forget; (repeat' split) <;> first | rfl | (exfalso; (try simp only [Int32.le_iff_toInt_le, Int32.lt_iff_toInt_lt, ← Int32.toInt_inj] at *); first | omega | (simp at *; done) | (simp at *; omega))), rfl, fun a ha => by funext j; simp (disch := omega) only [gup_off, gcp_off]⟩
def F_seed (v : Int32) : Int32 := 1
set_option maxRecDepth 100000 in
set_option maxHeartbeats 4000000 in
theorem x_seed (d : Nat) (v : Int32) : G (d) mX11_seed 0 0 0 0 0 (gent 3 [.ref 0, .int v]) [] SH0 RF0 I0 (fun r h => ∃ I1, r = some (.int (F_seed v)) ∧ h = (SH0, RF0, I1) ∧ ∀ a, 67 ≤ a → I1 a = I0 a) := by
  refine G_aload_n (pc := 0) rfl dX11_seed_0 ?_
  refine G_getR (pc := 1) (r := 19) (ci := 11) (j := 0) rfl lk_RX11_56 rfl rfl rfl dX11_seed_1 ?_
  refine G_getI (pc := 4) (v := 1) (ci := 1) (j := 4) rfl rfl lk_RX11_298 rfl rfl dX11_seed_4 ?_
  refine G_istore_n (pc := 7) (L1 := [some (.ref 0), some (.int v), some (.int 1)]) rfl rfl (by decide) dX11_seed_7 ?_
  refine G_aload_n (pc := 8) rfl dX11_seed_8 ?_
  refine G_getR (pc := 9) (r := 19) (ci := 11) (j := 0) rfl lk_RX11_56 rfl rfl rfl dX11_seed_9 ?_
  refine G_iload_n (pc := 12) rfl dX11_seed_12 ?_
  refine G_putI (pc := 13) (ci := 1) (j := 4) rfl lk_RX11_298 rfl rfl rfl trivial dX11_seed_13 ?_
  refine G_iload_n (pc := 16) rfl dX11_seed_16 ?_
  exact G_iret (pc := 17) (Nat.le_of_ble_eq_true rfl) (Nat.le_of_ble_eq_true rfl) rfl dX11_seed_17 ⟨_, by first | rfl | (simp [F_seed, *]; done) | (simp only [F_seed, Int32.le_iff_toInt_le, Int32.lt_iff_toInt_lt, ← Int32.toInt_inj]; simp; omega) | (simp only [F_seed, Int32.le_iff_toInt_le, Int32.lt_iff_toInt_lt, ← Int32.toInt_inj]; split <;> first | rfl | (exfalso; simp at *; omega)) | (unfold F_seed; (repeat' split) <;> first | rfl | (exfalso; (try simp only [Int32.le_iff_toInt_le, Int32.lt_iff_toInt_lt, ← Int32.toInt_inj] at *); first | omega | (simp at *; done) | (simp at *; omega))), rfl, fun a ha => by funext j; simp (disch := omega) only [gup_off, gcp_off]⟩
set_option maxRecDepth 100000 in
set_option maxHeartbeats 4000000 in
theorem s7_X11_isRowField  (d : Nat)  (a0 : Int32) (a1 : Int32) : G (d + 1) mX11_isRowField 0 0 0 0 0 (gent 3 [.ref 0, .int a0, .int a1]) [] SH0 RF0 I0 (fun r h => r = some (.int 0) ∧ h = (SH0, RF0, I0)) := by
  refine G_iload_n (pc := 0) rfl dX11_isRowField_0 ?_
  refine G_iconst (pc := 1) (v := 0) (by decide) dX11_isRowField_1 ?_
  refine G_aload_n (pc := 2) rfl dX11_isRowField_2 ?_
  refine G_getI (pc := 3) (v := 0) (ci := 11) (j := 7) rfl rfl lk_RX11_307 rfl rfl dX11_isRowField_3 ?_
  refine G_iconst (pc := 6) (v := 1) (by decide) dX11_isRowField_6 ?_
  refine G_isub (pc := 7) (z := (-1)) (by decide) dX11_isRowField_7 ?_
  refine G_callS (pc := 8) (mc1 := 0) (ms1 := 0) (mj := mX11_isIn) (vs := [_, _, _]) dX11_isRowField_8 cm_X11_isIn wf_4 wf_6 rfl (Nat.le_of_ble_eq_true rfl) (Nat.le_of_ble_eq_true rfl) (Nat.le_of_ble_eq_true rfl) (Nat.le_of_ble_eq_true rfl) (isIn_s d a0 0 ((-1))) ?_
  rintro _ _ ⟨rfl, rfl⟩
  dsimp only [Option.toList, List.cons_append, List.nil_append]
  refine G_if_eq (pc := 11) (tgt := 27) (by decide) dX11_isRowField_11 (fun c34 => ?_) (fun c34 => ?_)
  · have c34 := gB_z c34
    refine G_iconst (pc := 27) (v := 0) (by decide) dX11_isRowField_27 ?_
    exact G_zret (pc := 28) (Nat.le_of_ble_eq_true rfl) (Nat.le_of_ble_eq_true rfl) rfl (by decide) dX11_isRowField_28 ⟨rfl, rfl⟩
  · have c34 := gB_o c34
    exfalso; have : 0 ≤ (a0).toInt := Int32.le_iff_toInt_le.mp (c34.1); have : (a0).toInt ≤ -1 := Int32.le_iff_toInt_le.mp (c34.2); omega
def F_row (k : Int32) (what : Int32) : Int32 := -9
set_option maxRecDepth 100000 in
set_option maxHeartbeats 4000000 in
theorem x_row (d : Nat) (k : Int32) (what : Int32) : G (d + 2) mX11_row 0 0 0 0 0 (gent 3 [.ref 0, .int k, .int what]) [] SH0 RF0 I0 (fun r h => ∃ I1, r = some (.int (F_row k what)) ∧ h = (SH0, RF0, I1) ∧ ∀ a, 67 ≤ a → I1 a = I0 a) := by
  refine G_aload_n (pc := 0) rfl dX11_row_0 ?_
  refine G_iload_n (pc := 1) rfl dX11_row_1 ?_
  refine G_iload_n (pc := 2) rfl dX11_row_2 ?_
  refine G_callV (pc := 3) (mc1 := 0) (ms1 := 0) (ci := 11) (mj := mX11_isRowField) (vs := [_, _]) dX11_row_3 rfl rfl cm_X11_isRowField wf_31 wf_33 wf_34 rfl (Nat.le_of_ble_eq_true rfl) (Nat.le_of_ble_eq_true rfl) (Nat.le_of_ble_eq_true rfl) (Nat.le_of_ble_eq_true rfl) (s7_X11_isRowField  d  _ _) ?_
  rintro _ _ ⟨rfl, rfl⟩
  dsimp only [Option.toList, List.cons_append, List.nil_append]
  refine G_if_eq (pc := 6) (tgt := 22) (by decide) dX11_row_6 (fun _ => ?_) (fun z => absurd (by decide) z)
  refine G_bipush (pc := 22) (v := (-9)) (by decide) dX11_row_22 ?_
  exact G_iret (pc := 24) (Nat.le_of_ble_eq_true rfl) (Nat.le_of_ble_eq_true rfl) rfl dX11_row_24 ⟨_, by first | rfl | (simp [F_row, *]; done) | (simp only [F_row, Int32.le_iff_toInt_le, Int32.lt_iff_toInt_lt, ← Int32.toInt_inj]; simp; omega) | (simp only [F_row, Int32.le_iff_toInt_le, Int32.lt_iff_toInt_lt, ← Int32.toInt_inj]; split <;> first | rfl | (exfalso; simp at *; omega)) | (unfold F_row; (repeat' split) <;> first | rfl | (exfalso; (try simp only [Int32.le_iff_toInt_le, Int32.lt_iff_toInt_lt, ← Int32.toInt_inj] at *); first | omega | (simp at *; done) | (simp at *; omega))), rfl, fun _ _ => rfl⟩
def F_alterRow (k : Int32) (what : Int32) (v : Int32) : Int32 := -9
set_option maxRecDepth 100000 in
set_option maxHeartbeats 4000000 in
theorem x_alterRow (d : Nat) (k : Int32) (what : Int32) (v : Int32) : G (d + 2) mX11_alterRow 0 0 0 0 0 (gent 5 [.ref 0, .int k, .int what, .int v]) [] SH0 RF0 I0 (fun r h => ∃ I1, r = some (.int (F_alterRow k what v)) ∧ h = (SH0, RF0, I1) ∧ ∀ a, 67 ≤ a → I1 a = I0 a) := by
  refine G_aload_n (pc := 0) rfl dX11_alterRow_0 ?_
  refine G_iload_n (pc := 1) rfl dX11_alterRow_1 ?_
  refine G_iload_n (pc := 2) rfl dX11_alterRow_2 ?_
  refine G_callV (pc := 3) (mc1 := 0) (ms1 := 0) (ci := 11) (mj := mX11_isRowField) (vs := [_, _]) dX11_alterRow_3 rfl rfl cm_X11_isRowField wf_31 wf_33 wf_34 rfl (Nat.le_of_ble_eq_true rfl) (Nat.le_of_ble_eq_true rfl) (Nat.le_of_ble_eq_true rfl) (Nat.le_of_ble_eq_true rfl) (s7_X11_isRowField  d  _ _) ?_
  rintro _ _ ⟨rfl, rfl⟩
  dsimp only [Option.toList, List.cons_append, List.nil_append]
  refine G_if_ne (pc := 6) (tgt := 12) (by decide) dX11_alterRow_6 (fun z => absurd (by decide) z) (fun _ => ?_)
  refine G_bipush (pc := 9) (v := (-9)) (by decide) dX11_alterRow_9 ?_
  exact G_iret (pc := 11) (Nat.le_of_ble_eq_true rfl) (Nat.le_of_ble_eq_true rfl) rfl dX11_alterRow_11 ⟨_, by first | rfl | (simp [F_alterRow, *]; done) | (simp only [F_alterRow, Int32.le_iff_toInt_le, Int32.lt_iff_toInt_lt, ← Int32.toInt_inj]; simp; omega) | (simp only [F_alterRow, Int32.le_iff_toInt_le, Int32.lt_iff_toInt_lt, ← Int32.toInt_inj]; split <;> first | rfl | (exfalso; simp at *; omega)) | (unfold F_alterRow; (repeat' split) <;> first | rfl | (exfalso; (try simp only [Int32.le_iff_toInt_le, Int32.lt_iff_toInt_lt, ← Int32.toInt_inj] at *); first | omega | (simp at *; done) | (simp at *; omega))), rfl, fun _ _ => rfl⟩
def F_write (sheet : Int32) (i : Int32) (v : Int32) : Int32 := if 0 ≤ sheet ∧ sheet ≤ 3 then -11 else -1
set_option maxRecDepth 100000 in
set_option maxHeartbeats 4000000 in
theorem x_write (d : Nat) (sheet : Int32) (i : Int32) (v : Int32) : G (d + 2) mX11_write 0 0 0 0 0 (gent 4 [.ref 0, .int sheet, .int i, .int v]) [] SH0 RF0 I0 (fun r h => ∃ I1, r = some (.int (F_write sheet i v)) ∧ h = (SH0, RF0, I1) ∧ ∀ a, 67 ≤ a → I1 a = I0 a) := by
  refine G_iload_n (pc := 0) rfl dX11_write_0 ?_
  refine G_callS (pc := 1) (mc1 := 0) (ms1 := 0) (mj := mX11_isPlace) (vs := [_]) dX11_write_1 cm_X11_isPlace wf_35 wf_37 rfl (Nat.le_of_ble_eq_true rfl) (Nat.le_of_ble_eq_true rfl) (Nat.le_of_ble_eq_true rfl) (Nat.le_of_ble_eq_true rfl) (isPlace_s d sheet) ?_
  rintro _ _ ⟨rfl, rfl⟩
  dsimp only [Option.toList, List.cons_append, List.nil_append]
  refine G_if_ne (pc := 4) (tgt := 9) (by decide) dX11_write_4 (fun c35 => ?_) (fun c35 => ?_)
  · have c35 := gB_o c35
    refine G_aload_n (pc := 9) rfl dX11_write_9 ?_
    refine G_getR (pc := 10) (r := 2) (ci := 11) (j := 8) rfl lk_RX11_13 rfl rfl rfl dX11_write_10 ?_
    refine G_iload_n (pc := 13) rfl dX11_write_13 ?_
    by_cases c36 : sheet = 0
    · subst c36
      refine G_iald (pc := 14) (jj := 0) (v := (-1)) (by decide) rfl rfl (by unfold vp_in; decide) dX11_write_14 ?_
      refine G_iconst (pc := 15) (v := (-1)) (by decide) dX11_write_15 ?_
      refine G_icmp_ne (pc := 16) (tgt := 22) (by decide) dX11_write_16 (fun z => absurd (by decide) z) (fun _ => ?_)
      refine G_bipush (pc := 19) (v := (-11)) (by decide) dX11_write_19 ?_
      exact G_iret (pc := 21) (Nat.le_of_ble_eq_true rfl) (Nat.le_of_ble_eq_true rfl) rfl dX11_write_21 ⟨_, by first | rfl | (simp [F_write, *]; done) | (simp only [F_write, Int32.le_iff_toInt_le, Int32.lt_iff_toInt_lt, ← Int32.toInt_inj]; simp; omega) | (simp only [F_write, Int32.le_iff_toInt_le, Int32.lt_iff_toInt_lt, ← Int32.toInt_inj]; split <;> first | rfl | (exfalso; simp at *; omega)) | (unfold F_write; (repeat' split) <;> first | rfl | (exfalso; (try simp only [Int32.le_iff_toInt_le, Int32.lt_iff_toInt_lt, ← Int32.toInt_inj] at *); first | omega | (simp at *; done) | (simp at *; omega))), rfl, fun _ _ => rfl⟩
    by_cases c37 : sheet = 1
    · subst c37
      refine G_iald (pc := 14) (jj := 1) (v := (-1)) (by decide) rfl rfl (by unfold vp_in; decide) dX11_write_14 ?_
      refine G_iconst (pc := 15) (v := (-1)) (by decide) dX11_write_15 ?_
      refine G_icmp_ne (pc := 16) (tgt := 22) (by decide) dX11_write_16 (fun z => absurd (by decide) z) (fun _ => ?_)
      refine G_bipush (pc := 19) (v := (-11)) (by decide) dX11_write_19 ?_
      exact G_iret (pc := 21) (Nat.le_of_ble_eq_true rfl) (Nat.le_of_ble_eq_true rfl) rfl dX11_write_21 ⟨_, by first | rfl | (simp [F_write, *]; done) | (simp only [F_write, Int32.le_iff_toInt_le, Int32.lt_iff_toInt_lt, ← Int32.toInt_inj]; simp; omega) | (simp only [F_write, Int32.le_iff_toInt_le, Int32.lt_iff_toInt_lt, ← Int32.toInt_inj]; split <;> first | rfl | (exfalso; simp at *; omega)) | (unfold F_write; (repeat' split) <;> first | rfl | (exfalso; (try simp only [Int32.le_iff_toInt_le, Int32.lt_iff_toInt_lt, ← Int32.toInt_inj] at *); first | omega | (simp at *; done) | (simp at *; omega))), rfl, fun _ _ => rfl⟩
    by_cases c38 : sheet = 2
    · subst c38
      refine G_iald (pc := 14) (jj := 2) (v := (-1)) (by decide) rfl rfl (by unfold vp_in; decide) dX11_write_14 ?_
      refine G_iconst (pc := 15) (v := (-1)) (by decide) dX11_write_15 ?_
      refine G_icmp_ne (pc := 16) (tgt := 22) (by decide) dX11_write_16 (fun z => absurd (by decide) z) (fun _ => ?_)
      refine G_bipush (pc := 19) (v := (-11)) (by decide) dX11_write_19 ?_
      exact G_iret (pc := 21) (Nat.le_of_ble_eq_true rfl) (Nat.le_of_ble_eq_true rfl) rfl dX11_write_21 ⟨_, by first | rfl | (simp [F_write, *]; done) | (simp only [F_write, Int32.le_iff_toInt_le, Int32.lt_iff_toInt_lt, ← Int32.toInt_inj]; simp; omega) | (simp only [F_write, Int32.le_iff_toInt_le, Int32.lt_iff_toInt_lt, ← Int32.toInt_inj]; split <;> first | rfl | (exfalso; simp at *; omega)) | (unfold F_write; (repeat' split) <;> first | rfl | (exfalso; (try simp only [Int32.le_iff_toInt_le, Int32.lt_iff_toInt_lt, ← Int32.toInt_inj] at *); first | omega | (simp at *; done) | (simp at *; omega))), rfl, fun _ _ => rfl⟩
    by_cases c39 : sheet = 3
    · subst c39
      refine G_iald (pc := 14) (jj := 3) (v := (-1)) (by decide) rfl rfl (by unfold vp_in; decide) dX11_write_14 ?_
      refine G_iconst (pc := 15) (v := (-1)) (by decide) dX11_write_15 ?_
      refine G_icmp_ne (pc := 16) (tgt := 22) (by decide) dX11_write_16 (fun z => absurd (by decide) z) (fun _ => ?_)
      refine G_bipush (pc := 19) (v := (-11)) (by decide) dX11_write_19 ?_
      exact G_iret (pc := 21) (Nat.le_of_ble_eq_true rfl) (Nat.le_of_ble_eq_true rfl) rfl dX11_write_21 ⟨_, by first | rfl | (simp [F_write, *]; done) | (simp only [F_write, Int32.le_iff_toInt_le, Int32.lt_iff_toInt_lt, ← Int32.toInt_inj]; simp; omega) | (simp only [F_write, Int32.le_iff_toInt_le, Int32.lt_iff_toInt_lt, ← Int32.toInt_inj]; split <;> first | rfl | (exfalso; simp at *; omega)) | (unfold F_write; (repeat' split) <;> first | rfl | (exfalso; (try simp only [Int32.le_iff_toInt_le, Int32.lt_iff_toInt_lt, ← Int32.toInt_inj] at *); first | omega | (simp at *; done) | (simp at *; omega))), rfl, fun _ _ => rfl⟩
    exfalso
    have : 0 ≤ (sheet).toInt := Int32.le_iff_toInt_le.mp (c35.1)
    have : (sheet).toInt ≤ 3 := Int32.le_iff_toInt_le.mp (c35.2)
    have : (sheet).toInt ≠ 0 := g_ne (c36)
    have : (sheet).toInt ≠ 1 := g_ne (c37)
    have : (sheet).toInt ≠ 2 := g_ne (c38)
    have : (sheet).toInt ≠ 3 := g_ne (c39)
    omega
  · have c35 := gB_z c35
    refine G_iconst (pc := 7) (v := (-1)) (by decide) dX11_write_7 ?_
    exact G_iret (pc := 8) (Nat.le_of_ble_eq_true rfl) (Nat.le_of_ble_eq_true rfl) rfl dX11_write_8 ⟨_, by first | rfl | (simp [F_write, *]; done) | (have : ¬ (0 ≤ (sheet).toInt ∧ (sheet).toInt ≤ 3) := fun z => c35 ⟨Int32.le_iff_toInt_le.mpr z.1, Int32.le_iff_toInt_le.mpr z.2⟩; simp only [F_write, Int32.le_iff_toInt_le, Int32.lt_iff_toInt_lt, ← Int32.toInt_inj]; simp; omega) | (have : ¬ (0 ≤ (sheet).toInt ∧ (sheet).toInt ≤ 3) := fun z => c35 ⟨Int32.le_iff_toInt_le.mpr z.1, Int32.le_iff_toInt_le.mpr z.2⟩; simp only [F_write, Int32.le_iff_toInt_le, Int32.lt_iff_toInt_lt, ← Int32.toInt_inj]; split <;> first | rfl | (exfalso; simp at *; omega)) | (have : ¬ (0 ≤ (sheet).toInt ∧ (sheet).toInt ≤ 3) := fun z => c35 ⟨Int32.le_iff_toInt_le.mpr z.1, Int32.le_iff_toInt_le.mpr z.2⟩; unfold F_write; (repeat' split) <;> first | rfl | (exfalso; (try simp only [Int32.le_iff_toInt_le, Int32.lt_iff_toInt_lt, ← Int32.toInt_inj] at *); first | omega | (simp at *; done) | (simp at *; omega))), rfl, fun _ _ => rfl⟩
set_option maxRecDepth 100000 in
set_option maxHeartbeats 4000000 in
theorem s9_X11_refusalOf  (d : Nat)  (a0 : Int32) : G (d) mX11_refusalOf 0 0 0 0 0 (gent 3 [.ref 0, .int 0, .int a0]) [] SH0 RF0 I0 (fun r h => r = some (.int (-11)) ∧ h = (SH0, RF0, I0)) := by
  refine G_aload_n (pc := 0) rfl dX11_refusalOf_0 ?_
  refine G_getR (pc := 1) (r := 2) (ci := 11) (j := 8) rfl lk_RX11_13 rfl rfl rfl dX11_refusalOf_1 ?_
  refine G_iload_n (pc := 4) rfl dX11_refusalOf_4 ?_
  refine G_iald (pc := 5) (jj := 0) (v := (-1)) (by decide) rfl rfl (by unfold vp_in; decide) dX11_refusalOf_5 ?_
  refine G_iconst (pc := 6) (v := (-1)) (by decide) dX11_refusalOf_6 ?_
  refine G_icmp_ne (pc := 7) (tgt := 13) (by decide) dX11_refusalOf_7 (fun z => absurd (by decide) z) (fun _ => ?_)
  refine G_bipush (pc := 10) (v := (-11)) (by decide) dX11_refusalOf_10 ?_
  exact G_iret (pc := 12) (Nat.le_of_ble_eq_true rfl) (Nat.le_of_ble_eq_true rfl) rfl dX11_refusalOf_12 ⟨rfl, rfl⟩
set_option maxRecDepth 100000 in
set_option maxHeartbeats 4000000 in
theorem s10_X11_refusalOf  (d : Nat)  (a0 : Int32) : G (d) mX11_refusalOf 0 0 0 0 0 (gent 3 [.ref 0, .int 1, .int a0]) [] SH0 RF0 I0 (fun r h => r = some (.int (-11)) ∧ h = (SH0, RF0, I0)) := by
  refine G_aload_n (pc := 0) rfl dX11_refusalOf_0 ?_
  refine G_getR (pc := 1) (r := 2) (ci := 11) (j := 8) rfl lk_RX11_13 rfl rfl rfl dX11_refusalOf_1 ?_
  refine G_iload_n (pc := 4) rfl dX11_refusalOf_4 ?_
  refine G_iald (pc := 5) (jj := 1) (v := (-1)) (by decide) rfl rfl (by unfold vp_in; decide) dX11_refusalOf_5 ?_
  refine G_iconst (pc := 6) (v := (-1)) (by decide) dX11_refusalOf_6 ?_
  refine G_icmp_ne (pc := 7) (tgt := 13) (by decide) dX11_refusalOf_7 (fun z => absurd (by decide) z) (fun _ => ?_)
  refine G_bipush (pc := 10) (v := (-11)) (by decide) dX11_refusalOf_10 ?_
  exact G_iret (pc := 12) (Nat.le_of_ble_eq_true rfl) (Nat.le_of_ble_eq_true rfl) rfl dX11_refusalOf_12 ⟨rfl, rfl⟩
set_option maxRecDepth 100000 in
set_option maxHeartbeats 4000000 in
theorem s11_X11_refusalOf  (d : Nat)  (a0 : Int32) : G (d) mX11_refusalOf 0 0 0 0 0 (gent 3 [.ref 0, .int 2, .int a0]) [] SH0 RF0 I0 (fun r h => r = some (.int (-11)) ∧ h = (SH0, RF0, I0)) := by
  refine G_aload_n (pc := 0) rfl dX11_refusalOf_0 ?_
  refine G_getR (pc := 1) (r := 2) (ci := 11) (j := 8) rfl lk_RX11_13 rfl rfl rfl dX11_refusalOf_1 ?_
  refine G_iload_n (pc := 4) rfl dX11_refusalOf_4 ?_
  refine G_iald (pc := 5) (jj := 2) (v := (-1)) (by decide) rfl rfl (by unfold vp_in; decide) dX11_refusalOf_5 ?_
  refine G_iconst (pc := 6) (v := (-1)) (by decide) dX11_refusalOf_6 ?_
  refine G_icmp_ne (pc := 7) (tgt := 13) (by decide) dX11_refusalOf_7 (fun z => absurd (by decide) z) (fun _ => ?_)
  refine G_bipush (pc := 10) (v := (-11)) (by decide) dX11_refusalOf_10 ?_
  exact G_iret (pc := 12) (Nat.le_of_ble_eq_true rfl) (Nat.le_of_ble_eq_true rfl) rfl dX11_refusalOf_12 ⟨rfl, rfl⟩
set_option maxRecDepth 100000 in
set_option maxHeartbeats 4000000 in
theorem s12_X11_refusalOf  (d : Nat)  (a0 : Int32) : G (d) mX11_refusalOf 0 0 0 0 0 (gent 3 [.ref 0, .int 3, .int a0]) [] SH0 RF0 I0 (fun r h => r = some (.int (-11)) ∧ h = (SH0, RF0, I0)) := by
  refine G_aload_n (pc := 0) rfl dX11_refusalOf_0 ?_
  refine G_getR (pc := 1) (r := 2) (ci := 11) (j := 8) rfl lk_RX11_13 rfl rfl rfl dX11_refusalOf_1 ?_
  refine G_iload_n (pc := 4) rfl dX11_refusalOf_4 ?_
  refine G_iald (pc := 5) (jj := 3) (v := (-1)) (by decide) rfl rfl (by unfold vp_in; decide) dX11_refusalOf_5 ?_
  refine G_iconst (pc := 6) (v := (-1)) (by decide) dX11_refusalOf_6 ?_
  refine G_icmp_ne (pc := 7) (tgt := 13) (by decide) dX11_refusalOf_7 (fun z => absurd (by decide) z) (fun _ => ?_)
  refine G_bipush (pc := 10) (v := (-11)) (by decide) dX11_refusalOf_10 ?_
  exact G_iret (pc := 12) (Nat.le_of_ble_eq_true rfl) (Nat.le_of_ble_eq_true rfl) rfl dX11_refusalOf_12 ⟨rfl, rfl⟩
def F_item (sheet : Int32) (sort : Int32) (i : Int32) : Int32 := if (0 ≤ sheet ∧ sheet ≤ 3) ∧ (0 ≤ sort ∧ sort ≤ 4) then -11 else -1
set_option maxRecDepth 100000 in
set_option maxHeartbeats 4000000 in
theorem x_item (d : Nat) (sheet : Int32) (sort : Int32) (i : Int32) : G (d + 2) mX11_item 0 0 0 0 0 (gent 5 [.ref 0, .int sheet, .int sort, .int i]) [] SH0 RF0 I0 (fun r h => ∃ I1, r = some (.int (F_item sheet sort i)) ∧ h = (SH0, RF0, I1) ∧ ∀ a, 67 ≤ a → I1 a = I0 a) := by
  refine G_iload_n (pc := 0) rfl dX11_item_0 ?_
  refine G_callS (pc := 1) (mc1 := 0) (ms1 := 0) (mj := mX11_isPlace) (vs := [_]) dX11_item_1 cm_X11_isPlace wf_35 wf_37 rfl (Nat.le_of_ble_eq_true rfl) (Nat.le_of_ble_eq_true rfl) (Nat.le_of_ble_eq_true rfl) (Nat.le_of_ble_eq_true rfl) (isPlace_s d sheet) ?_
  rintro _ _ ⟨rfl, rfl⟩
  dsimp only [Option.toList, List.cons_append, List.nil_append]
  refine G_if_eq (pc := 4) (tgt := 16) (by decide) dX11_item_4 (fun c40 => ?_) (fun c40 => ?_)
  · have c40 := gB_z c40
    refine G_iconst (pc := 16) (v := (-1)) (by decide) dX11_item_16 ?_
    exact G_iret (pc := 17) (Nat.le_of_ble_eq_true rfl) (Nat.le_of_ble_eq_true rfl) rfl dX11_item_17 ⟨_, by first | rfl | (simp [F_item, *]; done) | (have : ¬ (0 ≤ (sheet).toInt ∧ (sheet).toInt ≤ 3) := fun z => c40 ⟨Int32.le_iff_toInt_le.mpr z.1, Int32.le_iff_toInt_le.mpr z.2⟩; simp only [F_item, Int32.le_iff_toInt_le, Int32.lt_iff_toInt_lt, ← Int32.toInt_inj]; simp; omega) | (have : ¬ (0 ≤ (sheet).toInt ∧ (sheet).toInt ≤ 3) := fun z => c40 ⟨Int32.le_iff_toInt_le.mpr z.1, Int32.le_iff_toInt_le.mpr z.2⟩; simp only [F_item, Int32.le_iff_toInt_le, Int32.lt_iff_toInt_lt, ← Int32.toInt_inj]; split <;> first | rfl | (exfalso; simp at *; omega)) | (have : ¬ (0 ≤ (sheet).toInt ∧ (sheet).toInt ≤ 3) := fun z => c40 ⟨Int32.le_iff_toInt_le.mpr z.1, Int32.le_iff_toInt_le.mpr z.2⟩; unfold F_item; (repeat' split) <;> first | rfl | (exfalso; (try simp only [Int32.le_iff_toInt_le, Int32.lt_iff_toInt_lt, ← Int32.toInt_inj] at *); first | omega | (simp at *; done) | (simp at *; omega))), rfl, fun _ _ => rfl⟩
  · have c40 := gB_o c40
    refine G_iload_n (pc := 7) rfl dX11_item_7 ?_
    refine G_iconst (pc := 8) (v := 0) (by decide) dX11_item_8 ?_
    refine G_iconst (pc := 9) (v := 4) (by decide) dX11_item_9 ?_
    refine G_callS (pc := 10) (mc1 := 0) (ms1 := 0) (mj := mX11_isIn) (vs := [_, _, _]) dX11_item_10 cm_X11_isIn wf_4 wf_6 rfl (Nat.le_of_ble_eq_true rfl) (Nat.le_of_ble_eq_true rfl) (Nat.le_of_ble_eq_true rfl) (Nat.le_of_ble_eq_true rfl) (isIn_s (d + 1) sort 0 4) ?_
    rintro _ _ ⟨rfl, rfl⟩
    dsimp only [Option.toList, List.cons_append, List.nil_append]
    refine G_if_ne (pc := 13) (tgt := 18) (by decide) dX11_item_13 (fun c41 => ?_) (fun c41 => ?_)
    · have c41 := gB_o c41
      refine G_aload_n (pc := 18) rfl dX11_item_18 ?_
      refine G_iload_n (pc := 19) rfl dX11_item_19 ?_
      refine G_iload_n (pc := 20) rfl dX11_item_20 ?_
      by_cases c42 : sheet = 0
      · subst c42
        refine G_callV (pc := 21) (mc1 := 0) (ms1 := 0) (ci := 11) (mj := mX11_refusalOf) (vs := [_, _]) dX11_item_21 rfl rfl cm_X11_refusalOf wf_38 wf_40 wf_41 rfl (Nat.le_of_ble_eq_true rfl) (Nat.le_of_ble_eq_true rfl) (Nat.le_of_ble_eq_true rfl) (Nat.le_of_ble_eq_true rfl) (s9_X11_refusalOf  (d + 1)  _) ?_
        rintro _ _ ⟨rfl, rfl⟩
        dsimp only [Option.toList, List.cons_append, List.nil_append]
        refine G_istore (pc := 24) (L1 := [some (.ref 0), some (.int 0), some (.int sort), some (.int i), some (.int (-11))]) rfl rfl (by decide) dX11_item_24 ?_
        refine G_iload (pc := 26) rfl dX11_item_26 ?_
        refine G_if_eq (pc := 28) (tgt := 34) (by decide) dX11_item_28 (fun z => absurd z (by decide)) (fun _ => ?_)
        refine G_iload (pc := 31) rfl dX11_item_31 ?_
        exact G_iret (pc := 33) (Nat.le_of_ble_eq_true rfl) (Nat.le_of_ble_eq_true rfl) rfl dX11_item_33 ⟨_, by first | rfl | (simp [F_item, *]; done) | (have : 0 ≤ (sort).toInt := Int32.le_iff_toInt_le.mp (c41.1); have : (sort).toInt ≤ 4 := Int32.le_iff_toInt_le.mp (c41.2); simp only [F_item, Int32.le_iff_toInt_le, Int32.lt_iff_toInt_lt, ← Int32.toInt_inj]; simp; omega) | (have : 0 ≤ (sort).toInt := Int32.le_iff_toInt_le.mp (c41.1); have : (sort).toInt ≤ 4 := Int32.le_iff_toInt_le.mp (c41.2); simp only [F_item, Int32.le_iff_toInt_le, Int32.lt_iff_toInt_lt, ← Int32.toInt_inj]; split <;> first | rfl | (exfalso; simp at *; omega)) | (have : 0 ≤ (sort).toInt := Int32.le_iff_toInt_le.mp (c41.1); have : (sort).toInt ≤ 4 := Int32.le_iff_toInt_le.mp (c41.2); unfold F_item; (repeat' split) <;> first | rfl | (exfalso; (try simp only [Int32.le_iff_toInt_le, Int32.lt_iff_toInt_lt, ← Int32.toInt_inj] at *); first | omega | (simp at *; done) | (simp at *; omega))), rfl, fun _ _ => rfl⟩
      by_cases c43 : sheet = 1
      · subst c43
        refine G_callV (pc := 21) (mc1 := 0) (ms1 := 0) (ci := 11) (mj := mX11_refusalOf) (vs := [_, _]) dX11_item_21 rfl rfl cm_X11_refusalOf wf_38 wf_40 wf_41 rfl (Nat.le_of_ble_eq_true rfl) (Nat.le_of_ble_eq_true rfl) (Nat.le_of_ble_eq_true rfl) (Nat.le_of_ble_eq_true rfl) (s10_X11_refusalOf  (d + 1)  _) ?_
        rintro _ _ ⟨rfl, rfl⟩
        dsimp only [Option.toList, List.cons_append, List.nil_append]
        refine G_istore (pc := 24) (L1 := [some (.ref 0), some (.int 1), some (.int sort), some (.int i), some (.int (-11))]) rfl rfl (by decide) dX11_item_24 ?_
        refine G_iload (pc := 26) rfl dX11_item_26 ?_
        refine G_if_eq (pc := 28) (tgt := 34) (by decide) dX11_item_28 (fun z => absurd z (by decide)) (fun _ => ?_)
        refine G_iload (pc := 31) rfl dX11_item_31 ?_
        exact G_iret (pc := 33) (Nat.le_of_ble_eq_true rfl) (Nat.le_of_ble_eq_true rfl) rfl dX11_item_33 ⟨_, by first | rfl | (simp [F_item, *]; done) | (have : 0 ≤ (sort).toInt := Int32.le_iff_toInt_le.mp (c41.1); have : (sort).toInt ≤ 4 := Int32.le_iff_toInt_le.mp (c41.2); simp only [F_item, Int32.le_iff_toInt_le, Int32.lt_iff_toInt_lt, ← Int32.toInt_inj]; simp; omega) | (have : 0 ≤ (sort).toInt := Int32.le_iff_toInt_le.mp (c41.1); have : (sort).toInt ≤ 4 := Int32.le_iff_toInt_le.mp (c41.2); simp only [F_item, Int32.le_iff_toInt_le, Int32.lt_iff_toInt_lt, ← Int32.toInt_inj]; split <;> first | rfl | (exfalso; simp at *; omega)) | (have : 0 ≤ (sort).toInt := Int32.le_iff_toInt_le.mp (c41.1); have : (sort).toInt ≤ 4 := Int32.le_iff_toInt_le.mp (c41.2); unfold F_item; (repeat' split) <;> first | rfl | (exfalso; (try simp only [Int32.le_iff_toInt_le, Int32.lt_iff_toInt_lt, ← Int32.toInt_inj] at *); first | omega | (simp at *; done) | (simp at *; omega))), rfl, fun _ _ => rfl⟩
      by_cases c44 : sheet = 2
      · subst c44
        refine G_callV (pc := 21) (mc1 := 0) (ms1 := 0) (ci := 11) (mj := mX11_refusalOf) (vs := [_, _]) dX11_item_21 rfl rfl cm_X11_refusalOf wf_38 wf_40 wf_41 rfl (Nat.le_of_ble_eq_true rfl) (Nat.le_of_ble_eq_true rfl) (Nat.le_of_ble_eq_true rfl) (Nat.le_of_ble_eq_true rfl) (s11_X11_refusalOf  (d + 1)  _) ?_
        rintro _ _ ⟨rfl, rfl⟩
        dsimp only [Option.toList, List.cons_append, List.nil_append]
        refine G_istore (pc := 24) (L1 := [some (.ref 0), some (.int 2), some (.int sort), some (.int i), some (.int (-11))]) rfl rfl (by decide) dX11_item_24 ?_
        refine G_iload (pc := 26) rfl dX11_item_26 ?_
        refine G_if_eq (pc := 28) (tgt := 34) (by decide) dX11_item_28 (fun z => absurd z (by decide)) (fun _ => ?_)
        refine G_iload (pc := 31) rfl dX11_item_31 ?_
        exact G_iret (pc := 33) (Nat.le_of_ble_eq_true rfl) (Nat.le_of_ble_eq_true rfl) rfl dX11_item_33 ⟨_, by first | rfl | (simp [F_item, *]; done) | (have : 0 ≤ (sort).toInt := Int32.le_iff_toInt_le.mp (c41.1); have : (sort).toInt ≤ 4 := Int32.le_iff_toInt_le.mp (c41.2); simp only [F_item, Int32.le_iff_toInt_le, Int32.lt_iff_toInt_lt, ← Int32.toInt_inj]; simp; omega) | (have : 0 ≤ (sort).toInt := Int32.le_iff_toInt_le.mp (c41.1); have : (sort).toInt ≤ 4 := Int32.le_iff_toInt_le.mp (c41.2); simp only [F_item, Int32.le_iff_toInt_le, Int32.lt_iff_toInt_lt, ← Int32.toInt_inj]; split <;> first | rfl | (exfalso; simp at *; omega)) | (have : 0 ≤ (sort).toInt := Int32.le_iff_toInt_le.mp (c41.1); have : (sort).toInt ≤ 4 := Int32.le_iff_toInt_le.mp (c41.2); unfold F_item; (repeat' split) <;> first | rfl | (exfalso; (try simp only [Int32.le_iff_toInt_le, Int32.lt_iff_toInt_lt, ← Int32.toInt_inj] at *); first | omega | (simp at *; done) | (simp at *; omega))), rfl, fun _ _ => rfl⟩
      by_cases c45 : sheet = 3
      · subst c45
        refine G_callV (pc := 21) (mc1 := 0) (ms1 := 0) (ci := 11) (mj := mX11_refusalOf) (vs := [_, _]) dX11_item_21 rfl rfl cm_X11_refusalOf wf_38 wf_40 wf_41 rfl (Nat.le_of_ble_eq_true rfl) (Nat.le_of_ble_eq_true rfl) (Nat.le_of_ble_eq_true rfl) (Nat.le_of_ble_eq_true rfl) (s12_X11_refusalOf  (d + 1)  _) ?_
        rintro _ _ ⟨rfl, rfl⟩
        dsimp only [Option.toList, List.cons_append, List.nil_append]
        refine G_istore (pc := 24) (L1 := [some (.ref 0), some (.int 3), some (.int sort), some (.int i), some (.int (-11))]) rfl rfl (by decide) dX11_item_24 ?_
        refine G_iload (pc := 26) rfl dX11_item_26 ?_
        refine G_if_eq (pc := 28) (tgt := 34) (by decide) dX11_item_28 (fun z => absurd z (by decide)) (fun _ => ?_)
        refine G_iload (pc := 31) rfl dX11_item_31 ?_
        exact G_iret (pc := 33) (Nat.le_of_ble_eq_true rfl) (Nat.le_of_ble_eq_true rfl) rfl dX11_item_33 ⟨_, by first | rfl | (simp [F_item, *]; done) | (have : 0 ≤ (sort).toInt := Int32.le_iff_toInt_le.mp (c41.1); have : (sort).toInt ≤ 4 := Int32.le_iff_toInt_le.mp (c41.2); simp only [F_item, Int32.le_iff_toInt_le, Int32.lt_iff_toInt_lt, ← Int32.toInt_inj]; simp; omega) | (have : 0 ≤ (sort).toInt := Int32.le_iff_toInt_le.mp (c41.1); have : (sort).toInt ≤ 4 := Int32.le_iff_toInt_le.mp (c41.2); simp only [F_item, Int32.le_iff_toInt_le, Int32.lt_iff_toInt_lt, ← Int32.toInt_inj]; split <;> first | rfl | (exfalso; simp at *; omega)) | (have : 0 ≤ (sort).toInt := Int32.le_iff_toInt_le.mp (c41.1); have : (sort).toInt ≤ 4 := Int32.le_iff_toInt_le.mp (c41.2); unfold F_item; (repeat' split) <;> first | rfl | (exfalso; (try simp only [Int32.le_iff_toInt_le, Int32.lt_iff_toInt_lt, ← Int32.toInt_inj] at *); first | omega | (simp at *; done) | (simp at *; omega))), rfl, fun _ _ => rfl⟩
      exfalso
      have : 0 ≤ (sheet).toInt := Int32.le_iff_toInt_le.mp (c40.1)
      have : (sheet).toInt ≤ 3 := Int32.le_iff_toInt_le.mp (c40.2)
      have : (sheet).toInt ≠ 0 := g_ne (c42)
      have : (sheet).toInt ≠ 1 := g_ne (c43)
      have : (sheet).toInt ≠ 2 := g_ne (c44)
      have : (sheet).toInt ≠ 3 := g_ne (c45)
      omega
    · have c41 := gB_z c41
      refine G_iconst (pc := 16) (v := (-1)) (by decide) dX11_item_16 ?_
      exact G_iret (pc := 17) (Nat.le_of_ble_eq_true rfl) (Nat.le_of_ble_eq_true rfl) rfl dX11_item_17 ⟨_, by first | rfl | (simp [F_item, *]; done) | (have : 0 ≤ (sheet).toInt := Int32.le_iff_toInt_le.mp (c40.1); have : (sheet).toInt ≤ 3 := Int32.le_iff_toInt_le.mp (c40.2); have : ¬ (0 ≤ (sort).toInt ∧ (sort).toInt ≤ 4) := fun z => c41 ⟨Int32.le_iff_toInt_le.mpr z.1, Int32.le_iff_toInt_le.mpr z.2⟩; simp only [F_item, Int32.le_iff_toInt_le, Int32.lt_iff_toInt_lt, ← Int32.toInt_inj]; simp; omega) | (have : 0 ≤ (sheet).toInt := Int32.le_iff_toInt_le.mp (c40.1); have : (sheet).toInt ≤ 3 := Int32.le_iff_toInt_le.mp (c40.2); have : ¬ (0 ≤ (sort).toInt ∧ (sort).toInt ≤ 4) := fun z => c41 ⟨Int32.le_iff_toInt_le.mpr z.1, Int32.le_iff_toInt_le.mpr z.2⟩; simp only [F_item, Int32.le_iff_toInt_le, Int32.lt_iff_toInt_lt, ← Int32.toInt_inj]; split <;> first | rfl | (exfalso; simp at *; omega)) | (have : 0 ≤ (sheet).toInt := Int32.le_iff_toInt_le.mp (c40.1); have : (sheet).toInt ≤ 3 := Int32.le_iff_toInt_le.mp (c40.2); have : ¬ (0 ≤ (sort).toInt ∧ (sort).toInt ≤ 4) := fun z => c41 ⟨Int32.le_iff_toInt_le.mpr z.1, Int32.le_iff_toInt_le.mpr z.2⟩; unfold F_item; (repeat' split) <;> first | rfl | (exfalso; (try simp only [Int32.le_iff_toInt_le, Int32.lt_iff_toInt_lt, ← Int32.toInt_inj] at *); first | omega | (simp at *; done) | (simp at *; omega))), rfl, fun _ _ => rfl⟩
set_option maxRecDepth 100000 in
set_option maxHeartbeats 4000000 in
theorem s14_X11_refusalOf  (d : Nat)   : G (d) mX11_refusalOf 0 0 0 0 0 (gent 3 [.ref 0, .int 0, .int 0]) [] SH0 RF0 I0 (fun r h => r = some (.int (-11)) ∧ h = (SH0, RF0, I0)) := by
  refine G_aload_n (pc := 0) rfl dX11_refusalOf_0 ?_
  refine G_getR (pc := 1) (r := 2) (ci := 11) (j := 8) rfl lk_RX11_13 rfl rfl rfl dX11_refusalOf_1 ?_
  refine G_iload_n (pc := 4) rfl dX11_refusalOf_4 ?_
  refine G_iald (pc := 5) (jj := 0) (v := (-1)) (by decide) rfl rfl (by unfold vp_in; decide) dX11_refusalOf_5 ?_
  refine G_iconst (pc := 6) (v := (-1)) (by decide) dX11_refusalOf_6 ?_
  refine G_icmp_ne (pc := 7) (tgt := 13) (by decide) dX11_refusalOf_7 (fun z => absurd (by decide) z) (fun _ => ?_)
  refine G_bipush (pc := 10) (v := (-11)) (by decide) dX11_refusalOf_10 ?_
  exact G_iret (pc := 12) (Nat.le_of_ble_eq_true rfl) (Nat.le_of_ble_eq_true rfl) rfl dX11_refusalOf_12 ⟨rfl, rfl⟩
set_option maxRecDepth 100000 in
set_option maxHeartbeats 4000000 in
theorem s15_X11_refusalOf  (d : Nat)   : G (d) mX11_refusalOf 0 0 0 0 0 (gent 3 [.ref 0, .int 1, .int 0]) [] SH0 RF0 I0 (fun r h => r = some (.int (-11)) ∧ h = (SH0, RF0, I0)) := by
  refine G_aload_n (pc := 0) rfl dX11_refusalOf_0 ?_
  refine G_getR (pc := 1) (r := 2) (ci := 11) (j := 8) rfl lk_RX11_13 rfl rfl rfl dX11_refusalOf_1 ?_
  refine G_iload_n (pc := 4) rfl dX11_refusalOf_4 ?_
  refine G_iald (pc := 5) (jj := 1) (v := (-1)) (by decide) rfl rfl (by unfold vp_in; decide) dX11_refusalOf_5 ?_
  refine G_iconst (pc := 6) (v := (-1)) (by decide) dX11_refusalOf_6 ?_
  refine G_icmp_ne (pc := 7) (tgt := 13) (by decide) dX11_refusalOf_7 (fun z => absurd (by decide) z) (fun _ => ?_)
  refine G_bipush (pc := 10) (v := (-11)) (by decide) dX11_refusalOf_10 ?_
  exact G_iret (pc := 12) (Nat.le_of_ble_eq_true rfl) (Nat.le_of_ble_eq_true rfl) rfl dX11_refusalOf_12 ⟨rfl, rfl⟩
set_option maxRecDepth 100000 in
set_option maxHeartbeats 4000000 in
theorem s16_X11_refusalOf  (d : Nat)   : G (d) mX11_refusalOf 0 0 0 0 0 (gent 3 [.ref 0, .int 2, .int 0]) [] SH0 RF0 I0 (fun r h => r = some (.int (-11)) ∧ h = (SH0, RF0, I0)) := by
  refine G_aload_n (pc := 0) rfl dX11_refusalOf_0 ?_
  refine G_getR (pc := 1) (r := 2) (ci := 11) (j := 8) rfl lk_RX11_13 rfl rfl rfl dX11_refusalOf_1 ?_
  refine G_iload_n (pc := 4) rfl dX11_refusalOf_4 ?_
  refine G_iald (pc := 5) (jj := 2) (v := (-1)) (by decide) rfl rfl (by unfold vp_in; decide) dX11_refusalOf_5 ?_
  refine G_iconst (pc := 6) (v := (-1)) (by decide) dX11_refusalOf_6 ?_
  refine G_icmp_ne (pc := 7) (tgt := 13) (by decide) dX11_refusalOf_7 (fun z => absurd (by decide) z) (fun _ => ?_)
  refine G_bipush (pc := 10) (v := (-11)) (by decide) dX11_refusalOf_10 ?_
  exact G_iret (pc := 12) (Nat.le_of_ble_eq_true rfl) (Nat.le_of_ble_eq_true rfl) rfl dX11_refusalOf_12 ⟨rfl, rfl⟩
set_option maxRecDepth 100000 in
set_option maxHeartbeats 4000000 in
theorem s17_X11_refusalOf  (d : Nat)   : G (d) mX11_refusalOf 0 0 0 0 0 (gent 3 [.ref 0, .int 3, .int 0]) [] SH0 RF0 I0 (fun r h => r = some (.int (-11)) ∧ h = (SH0, RF0, I0)) := by
  refine G_aload_n (pc := 0) rfl dX11_refusalOf_0 ?_
  refine G_getR (pc := 1) (r := 2) (ci := 11) (j := 8) rfl lk_RX11_13 rfl rfl rfl dX11_refusalOf_1 ?_
  refine G_iload_n (pc := 4) rfl dX11_refusalOf_4 ?_
  refine G_iald (pc := 5) (jj := 3) (v := (-1)) (by decide) rfl rfl (by unfold vp_in; decide) dX11_refusalOf_5 ?_
  refine G_iconst (pc := 6) (v := (-1)) (by decide) dX11_refusalOf_6 ?_
  refine G_icmp_ne (pc := 7) (tgt := 13) (by decide) dX11_refusalOf_7 (fun z => absurd (by decide) z) (fun _ => ?_)
  refine G_bipush (pc := 10) (v := (-11)) (by decide) dX11_refusalOf_10 ?_
  exact G_iret (pc := 12) (Nat.le_of_ble_eq_true rfl) (Nat.le_of_ble_eq_true rfl) rfl dX11_refusalOf_12 ⟨rfl, rfl⟩
def F_goAll (sheet : Int32) (i : Int32) (n : Int32) : Int32 := if (0 ≤ sheet ∧ sheet ≤ 3) ∧ (0 ≤ n ∧ n ≤ 20) then -11 else -1
set_option maxRecDepth 100000 in
set_option maxHeartbeats 4000000 in
theorem x_goAll (d : Nat) (sheet : Int32) (i : Int32) (n : Int32) : G (d + 2) mX11_goAll 0 0 0 0 0 (gent 8 [.ref 0, .int sheet, .int i, .int n]) [] SH0 RF0 I0 (fun r h => ∃ I1, r = some (.int (F_goAll sheet i n)) ∧ h = (SH0, RF0, I1) ∧ ∀ a, 67 ≤ a → I1 a = I0 a) := by
  refine G_iload_n (pc := 0) rfl dX11_goAll_0 ?_
  refine G_callS (pc := 1) (mc1 := 0) (ms1 := 0) (mj := mX11_isPlace) (vs := [_]) dX11_goAll_1 cm_X11_isPlace wf_35 wf_37 rfl (Nat.le_of_ble_eq_true rfl) (Nat.le_of_ble_eq_true rfl) (Nat.le_of_ble_eq_true rfl) (Nat.le_of_ble_eq_true rfl) (isPlace_s d sheet) ?_
  rintro _ _ ⟨rfl, rfl⟩
  dsimp only [Option.toList, List.cons_append, List.nil_append]
  refine G_if_eq (pc := 4) (tgt := 17) (by decide) dX11_goAll_4 (fun c46 => ?_) (fun c46 => ?_)
  · have c46 := gB_z c46
    refine G_iconst (pc := 17) (v := (-1)) (by decide) dX11_goAll_17 ?_
    exact G_iret (pc := 18) (Nat.le_of_ble_eq_true rfl) (Nat.le_of_ble_eq_true rfl) rfl dX11_goAll_18 ⟨_, by first | rfl | (simp [F_goAll, *]; done) | (have : ¬ (0 ≤ (sheet).toInt ∧ (sheet).toInt ≤ 3) := fun z => c46 ⟨Int32.le_iff_toInt_le.mpr z.1, Int32.le_iff_toInt_le.mpr z.2⟩; simp only [F_goAll, Int32.le_iff_toInt_le, Int32.lt_iff_toInt_lt, ← Int32.toInt_inj]; simp; omega) | (have : ¬ (0 ≤ (sheet).toInt ∧ (sheet).toInt ≤ 3) := fun z => c46 ⟨Int32.le_iff_toInt_le.mpr z.1, Int32.le_iff_toInt_le.mpr z.2⟩; simp only [F_goAll, Int32.le_iff_toInt_le, Int32.lt_iff_toInt_lt, ← Int32.toInt_inj]; split <;> first | rfl | (exfalso; simp at *; omega)) | (have : ¬ (0 ≤ (sheet).toInt ∧ (sheet).toInt ≤ 3) := fun z => c46 ⟨Int32.le_iff_toInt_le.mpr z.1, Int32.le_iff_toInt_le.mpr z.2⟩; unfold F_goAll; (repeat' split) <;> first | rfl | (exfalso; (try simp only [Int32.le_iff_toInt_le, Int32.lt_iff_toInt_lt, ← Int32.toInt_inj] at *); first | omega | (simp at *; done) | (simp at *; omega))), rfl, fun _ _ => rfl⟩
  · have c46 := gB_o c46
    refine G_iload_n (pc := 7) rfl dX11_goAll_7 ?_
    refine G_iconst (pc := 8) (v := 0) (by decide) dX11_goAll_8 ?_
    refine G_bipush (pc := 9) (v := 20) (by decide) dX11_goAll_9 ?_
    refine G_callS (pc := 11) (mc1 := 0) (ms1 := 0) (mj := mX11_isIn) (vs := [_, _, _]) dX11_goAll_11 cm_X11_isIn wf_4 wf_6 rfl (Nat.le_of_ble_eq_true rfl) (Nat.le_of_ble_eq_true rfl) (Nat.le_of_ble_eq_true rfl) (Nat.le_of_ble_eq_true rfl) (isIn_s (d + 1) n 0 20) ?_
    rintro _ _ ⟨rfl, rfl⟩
    dsimp only [Option.toList, List.cons_append, List.nil_append]
    refine G_if_ne (pc := 14) (tgt := 19) (by decide) dX11_goAll_14 (fun c47 => ?_) (fun c47 => ?_)
    · have c47 := gB_o c47
      refine G_aload_n (pc := 19) rfl dX11_goAll_19 ?_
      refine G_iload_n (pc := 20) rfl dX11_goAll_20 ?_
      refine G_iconst (pc := 21) (v := 0) (by decide) dX11_goAll_21 ?_
      by_cases c48 : sheet = 0
      · subst c48
        refine G_callV (pc := 22) (mc1 := 0) (ms1 := 0) (ci := 11) (mj := mX11_refusalOf) (vs := [_, _]) dX11_goAll_22 rfl rfl cm_X11_refusalOf wf_38 wf_40 wf_41 rfl (Nat.le_of_ble_eq_true rfl) (Nat.le_of_ble_eq_true rfl) (Nat.le_of_ble_eq_true rfl) (Nat.le_of_ble_eq_true rfl) (s14_X11_refusalOf  (d + 1)  ) ?_
        rintro _ _ ⟨rfl, rfl⟩
        dsimp only [Option.toList, List.cons_append, List.nil_append]
        refine G_istore (pc := 25) (L1 := [some (.ref 0), some (.int 0), some (.int i), some (.int n), some (.int (-11)), none, none, none]) rfl rfl (by decide) dX11_goAll_25 ?_
        refine G_iload (pc := 27) rfl dX11_goAll_27 ?_
        refine G_if_eq (pc := 29) (tgt := 35) (by decide) dX11_goAll_29 (fun z => absurd z (by decide)) (fun _ => ?_)
        refine G_iload (pc := 32) rfl dX11_goAll_32 ?_
        exact G_iret (pc := 34) (Nat.le_of_ble_eq_true rfl) (Nat.le_of_ble_eq_true rfl) rfl dX11_goAll_34 ⟨_, by first | rfl | (simp [F_goAll, *]; done) | (have : 0 ≤ (n).toInt := Int32.le_iff_toInt_le.mp (c47.1); have : (n).toInt ≤ 20 := Int32.le_iff_toInt_le.mp (c47.2); simp only [F_goAll, Int32.le_iff_toInt_le, Int32.lt_iff_toInt_lt, ← Int32.toInt_inj]; simp; omega) | (have : 0 ≤ (n).toInt := Int32.le_iff_toInt_le.mp (c47.1); have : (n).toInt ≤ 20 := Int32.le_iff_toInt_le.mp (c47.2); simp only [F_goAll, Int32.le_iff_toInt_le, Int32.lt_iff_toInt_lt, ← Int32.toInt_inj]; split <;> first | rfl | (exfalso; simp at *; omega)) | (have : 0 ≤ (n).toInt := Int32.le_iff_toInt_le.mp (c47.1); have : (n).toInt ≤ 20 := Int32.le_iff_toInt_le.mp (c47.2); unfold F_goAll; (repeat' split) <;> first | rfl | (exfalso; (try simp only [Int32.le_iff_toInt_le, Int32.lt_iff_toInt_lt, ← Int32.toInt_inj] at *); first | omega | (simp at *; done) | (simp at *; omega))), rfl, fun _ _ => rfl⟩
      by_cases c49 : sheet = 1
      · subst c49
        refine G_callV (pc := 22) (mc1 := 0) (ms1 := 0) (ci := 11) (mj := mX11_refusalOf) (vs := [_, _]) dX11_goAll_22 rfl rfl cm_X11_refusalOf wf_38 wf_40 wf_41 rfl (Nat.le_of_ble_eq_true rfl) (Nat.le_of_ble_eq_true rfl) (Nat.le_of_ble_eq_true rfl) (Nat.le_of_ble_eq_true rfl) (s15_X11_refusalOf  (d + 1)  ) ?_
        rintro _ _ ⟨rfl, rfl⟩
        dsimp only [Option.toList, List.cons_append, List.nil_append]
        refine G_istore (pc := 25) (L1 := [some (.ref 0), some (.int 1), some (.int i), some (.int n), some (.int (-11)), none, none, none]) rfl rfl (by decide) dX11_goAll_25 ?_
        refine G_iload (pc := 27) rfl dX11_goAll_27 ?_
        refine G_if_eq (pc := 29) (tgt := 35) (by decide) dX11_goAll_29 (fun z => absurd z (by decide)) (fun _ => ?_)
        refine G_iload (pc := 32) rfl dX11_goAll_32 ?_
        exact G_iret (pc := 34) (Nat.le_of_ble_eq_true rfl) (Nat.le_of_ble_eq_true rfl) rfl dX11_goAll_34 ⟨_, by first | rfl | (simp [F_goAll, *]; done) | (have : 0 ≤ (n).toInt := Int32.le_iff_toInt_le.mp (c47.1); have : (n).toInt ≤ 20 := Int32.le_iff_toInt_le.mp (c47.2); simp only [F_goAll, Int32.le_iff_toInt_le, Int32.lt_iff_toInt_lt, ← Int32.toInt_inj]; simp; omega) | (have : 0 ≤ (n).toInt := Int32.le_iff_toInt_le.mp (c47.1); have : (n).toInt ≤ 20 := Int32.le_iff_toInt_le.mp (c47.2); simp only [F_goAll, Int32.le_iff_toInt_le, Int32.lt_iff_toInt_lt, ← Int32.toInt_inj]; split <;> first | rfl | (exfalso; simp at *; omega)) | (have : 0 ≤ (n).toInt := Int32.le_iff_toInt_le.mp (c47.1); have : (n).toInt ≤ 20 := Int32.le_iff_toInt_le.mp (c47.2); unfold F_goAll; (repeat' split) <;> first | rfl | (exfalso; (try simp only [Int32.le_iff_toInt_le, Int32.lt_iff_toInt_lt, ← Int32.toInt_inj] at *); first | omega | (simp at *; done) | (simp at *; omega))), rfl, fun _ _ => rfl⟩
      by_cases c50 : sheet = 2
      · subst c50
        refine G_callV (pc := 22) (mc1 := 0) (ms1 := 0) (ci := 11) (mj := mX11_refusalOf) (vs := [_, _]) dX11_goAll_22 rfl rfl cm_X11_refusalOf wf_38 wf_40 wf_41 rfl (Nat.le_of_ble_eq_true rfl) (Nat.le_of_ble_eq_true rfl) (Nat.le_of_ble_eq_true rfl) (Nat.le_of_ble_eq_true rfl) (s16_X11_refusalOf  (d + 1)  ) ?_
        rintro _ _ ⟨rfl, rfl⟩
        dsimp only [Option.toList, List.cons_append, List.nil_append]
        refine G_istore (pc := 25) (L1 := [some (.ref 0), some (.int 2), some (.int i), some (.int n), some (.int (-11)), none, none, none]) rfl rfl (by decide) dX11_goAll_25 ?_
        refine G_iload (pc := 27) rfl dX11_goAll_27 ?_
        refine G_if_eq (pc := 29) (tgt := 35) (by decide) dX11_goAll_29 (fun z => absurd z (by decide)) (fun _ => ?_)
        refine G_iload (pc := 32) rfl dX11_goAll_32 ?_
        exact G_iret (pc := 34) (Nat.le_of_ble_eq_true rfl) (Nat.le_of_ble_eq_true rfl) rfl dX11_goAll_34 ⟨_, by first | rfl | (simp [F_goAll, *]; done) | (have : 0 ≤ (n).toInt := Int32.le_iff_toInt_le.mp (c47.1); have : (n).toInt ≤ 20 := Int32.le_iff_toInt_le.mp (c47.2); simp only [F_goAll, Int32.le_iff_toInt_le, Int32.lt_iff_toInt_lt, ← Int32.toInt_inj]; simp; omega) | (have : 0 ≤ (n).toInt := Int32.le_iff_toInt_le.mp (c47.1); have : (n).toInt ≤ 20 := Int32.le_iff_toInt_le.mp (c47.2); simp only [F_goAll, Int32.le_iff_toInt_le, Int32.lt_iff_toInt_lt, ← Int32.toInt_inj]; split <;> first | rfl | (exfalso; simp at *; omega)) | (have : 0 ≤ (n).toInt := Int32.le_iff_toInt_le.mp (c47.1); have : (n).toInt ≤ 20 := Int32.le_iff_toInt_le.mp (c47.2); unfold F_goAll; (repeat' split) <;> first | rfl | (exfalso; (try simp only [Int32.le_iff_toInt_le, Int32.lt_iff_toInt_lt, ← Int32.toInt_inj] at *); first | omega | (simp at *; done) | (simp at *; omega))), rfl, fun _ _ => rfl⟩
      by_cases c51 : sheet = 3
      · subst c51
        refine G_callV (pc := 22) (mc1 := 0) (ms1 := 0) (ci := 11) (mj := mX11_refusalOf) (vs := [_, _]) dX11_goAll_22 rfl rfl cm_X11_refusalOf wf_38 wf_40 wf_41 rfl (Nat.le_of_ble_eq_true rfl) (Nat.le_of_ble_eq_true rfl) (Nat.le_of_ble_eq_true rfl) (Nat.le_of_ble_eq_true rfl) (s17_X11_refusalOf  (d + 1)  ) ?_
        rintro _ _ ⟨rfl, rfl⟩
        dsimp only [Option.toList, List.cons_append, List.nil_append]
        refine G_istore (pc := 25) (L1 := [some (.ref 0), some (.int 3), some (.int i), some (.int n), some (.int (-11)), none, none, none]) rfl rfl (by decide) dX11_goAll_25 ?_
        refine G_iload (pc := 27) rfl dX11_goAll_27 ?_
        refine G_if_eq (pc := 29) (tgt := 35) (by decide) dX11_goAll_29 (fun z => absurd z (by decide)) (fun _ => ?_)
        refine G_iload (pc := 32) rfl dX11_goAll_32 ?_
        exact G_iret (pc := 34) (Nat.le_of_ble_eq_true rfl) (Nat.le_of_ble_eq_true rfl) rfl dX11_goAll_34 ⟨_, by first | rfl | (simp [F_goAll, *]; done) | (have : 0 ≤ (n).toInt := Int32.le_iff_toInt_le.mp (c47.1); have : (n).toInt ≤ 20 := Int32.le_iff_toInt_le.mp (c47.2); simp only [F_goAll, Int32.le_iff_toInt_le, Int32.lt_iff_toInt_lt, ← Int32.toInt_inj]; simp; omega) | (have : 0 ≤ (n).toInt := Int32.le_iff_toInt_le.mp (c47.1); have : (n).toInt ≤ 20 := Int32.le_iff_toInt_le.mp (c47.2); simp only [F_goAll, Int32.le_iff_toInt_le, Int32.lt_iff_toInt_lt, ← Int32.toInt_inj]; split <;> first | rfl | (exfalso; simp at *; omega)) | (have : 0 ≤ (n).toInt := Int32.le_iff_toInt_le.mp (c47.1); have : (n).toInt ≤ 20 := Int32.le_iff_toInt_le.mp (c47.2); unfold F_goAll; (repeat' split) <;> first | rfl | (exfalso; (try simp only [Int32.le_iff_toInt_le, Int32.lt_iff_toInt_lt, ← Int32.toInt_inj] at *); first | omega | (simp at *; done) | (simp at *; omega))), rfl, fun _ _ => rfl⟩
      exfalso
      have : 0 ≤ (sheet).toInt := Int32.le_iff_toInt_le.mp (c46.1)
      have : (sheet).toInt ≤ 3 := Int32.le_iff_toInt_le.mp (c46.2)
      have : (sheet).toInt ≠ 0 := g_ne (c48)
      have : (sheet).toInt ≠ 1 := g_ne (c49)
      have : (sheet).toInt ≠ 2 := g_ne (c50)
      have : (sheet).toInt ≠ 3 := g_ne (c51)
      omega
    · have c47 := gB_z c47
      refine G_iconst (pc := 17) (v := (-1)) (by decide) dX11_goAll_17 ?_
      exact G_iret (pc := 18) (Nat.le_of_ble_eq_true rfl) (Nat.le_of_ble_eq_true rfl) rfl dX11_goAll_18 ⟨_, by first | rfl | (simp [F_goAll, *]; done) | (have : 0 ≤ (sheet).toInt := Int32.le_iff_toInt_le.mp (c46.1); have : (sheet).toInt ≤ 3 := Int32.le_iff_toInt_le.mp (c46.2); have : ¬ (0 ≤ (n).toInt ∧ (n).toInt ≤ 20) := fun z => c47 ⟨Int32.le_iff_toInt_le.mpr z.1, Int32.le_iff_toInt_le.mpr z.2⟩; simp only [F_goAll, Int32.le_iff_toInt_le, Int32.lt_iff_toInt_lt, ← Int32.toInt_inj]; simp; omega) | (have : 0 ≤ (sheet).toInt := Int32.le_iff_toInt_le.mp (c46.1); have : (sheet).toInt ≤ 3 := Int32.le_iff_toInt_le.mp (c46.2); have : ¬ (0 ≤ (n).toInt ∧ (n).toInt ≤ 20) := fun z => c47 ⟨Int32.le_iff_toInt_le.mpr z.1, Int32.le_iff_toInt_le.mpr z.2⟩; simp only [F_goAll, Int32.le_iff_toInt_le, Int32.lt_iff_toInt_lt, ← Int32.toInt_inj]; split <;> first | rfl | (exfalso; simp at *; omega)) | (have : 0 ≤ (sheet).toInt := Int32.le_iff_toInt_le.mp (c46.1); have : (sheet).toInt ≤ 3 := Int32.le_iff_toInt_le.mp (c46.2); have : ¬ (0 ≤ (n).toInt ∧ (n).toInt ≤ 20) := fun z => c47 ⟨Int32.le_iff_toInt_le.mpr z.1, Int32.le_iff_toInt_le.mpr z.2⟩; unfold F_goAll; (repeat' split) <;> first | rfl | (exfalso; (try simp only [Int32.le_iff_toInt_le, Int32.lt_iff_toInt_lt, ← Int32.toInt_inj] at *); first | omega | (simp at *; done) | (simp at *; omega))), rfl, fun _ _ => rfl⟩
def F_wouldBe (sheet : Int32) (i : Int32) (n : Int32) : Int32 := if (0 ≤ sheet ∧ sheet ≤ 3) ∧ (0 ≤ n ∧ n ≤ 20) then -11 else -1
set_option maxRecDepth 100000 in
set_option maxHeartbeats 4000000 in
theorem x_wouldBe (d : Nat) (sheet : Int32) (i : Int32) (n : Int32) : G (d + 2) mX11_wouldBe 0 0 0 0 0 (gent 6 [.ref 0, .int sheet, .int i, .int n]) [] SH0 RF0 I0 (fun r h => ∃ I1, r = some (.int (F_wouldBe sheet i n)) ∧ h = (SH0, RF0, I1) ∧ ∀ a, 67 ≤ a → I1 a = I0 a) := by
  refine G_iload_n (pc := 0) rfl dX11_wouldBe_0 ?_
  refine G_callS (pc := 1) (mc1 := 0) (ms1 := 0) (mj := mX11_isPlace) (vs := [_]) dX11_wouldBe_1 cm_X11_isPlace wf_35 wf_37 rfl (Nat.le_of_ble_eq_true rfl) (Nat.le_of_ble_eq_true rfl) (Nat.le_of_ble_eq_true rfl) (Nat.le_of_ble_eq_true rfl) (isPlace_s d sheet) ?_
  rintro _ _ ⟨rfl, rfl⟩
  dsimp only [Option.toList, List.cons_append, List.nil_append]
  refine G_if_eq (pc := 4) (tgt := 17) (by decide) dX11_wouldBe_4 (fun c52 => ?_) (fun c52 => ?_)
  · have c52 := gB_z c52
    refine G_iconst (pc := 17) (v := (-1)) (by decide) dX11_wouldBe_17 ?_
    exact G_iret (pc := 18) (Nat.le_of_ble_eq_true rfl) (Nat.le_of_ble_eq_true rfl) rfl dX11_wouldBe_18 ⟨_, by first | rfl | (simp [F_wouldBe, *]; done) | (have : ¬ (0 ≤ (sheet).toInt ∧ (sheet).toInt ≤ 3) := fun z => c52 ⟨Int32.le_iff_toInt_le.mpr z.1, Int32.le_iff_toInt_le.mpr z.2⟩; simp only [F_wouldBe, Int32.le_iff_toInt_le, Int32.lt_iff_toInt_lt, ← Int32.toInt_inj]; simp; omega) | (have : ¬ (0 ≤ (sheet).toInt ∧ (sheet).toInt ≤ 3) := fun z => c52 ⟨Int32.le_iff_toInt_le.mpr z.1, Int32.le_iff_toInt_le.mpr z.2⟩; simp only [F_wouldBe, Int32.le_iff_toInt_le, Int32.lt_iff_toInt_lt, ← Int32.toInt_inj]; split <;> first | rfl | (exfalso; simp at *; omega)) | (have : ¬ (0 ≤ (sheet).toInt ∧ (sheet).toInt ≤ 3) := fun z => c52 ⟨Int32.le_iff_toInt_le.mpr z.1, Int32.le_iff_toInt_le.mpr z.2⟩; unfold F_wouldBe; (repeat' split) <;> first | rfl | (exfalso; (try simp only [Int32.le_iff_toInt_le, Int32.lt_iff_toInt_lt, ← Int32.toInt_inj] at *); first | omega | (simp at *; done) | (simp at *; omega))), rfl, fun _ _ => rfl⟩
  · have c52 := gB_o c52
    refine G_iload_n (pc := 7) rfl dX11_wouldBe_7 ?_
    refine G_iconst (pc := 8) (v := 0) (by decide) dX11_wouldBe_8 ?_
    refine G_bipush (pc := 9) (v := 20) (by decide) dX11_wouldBe_9 ?_
    refine G_callS (pc := 11) (mc1 := 0) (ms1 := 0) (mj := mX11_isIn) (vs := [_, _, _]) dX11_wouldBe_11 cm_X11_isIn wf_4 wf_6 rfl (Nat.le_of_ble_eq_true rfl) (Nat.le_of_ble_eq_true rfl) (Nat.le_of_ble_eq_true rfl) (Nat.le_of_ble_eq_true rfl) (isIn_s (d + 1) n 0 20) ?_
    rintro _ _ ⟨rfl, rfl⟩
    dsimp only [Option.toList, List.cons_append, List.nil_append]
    refine G_if_ne (pc := 14) (tgt := 19) (by decide) dX11_wouldBe_14 (fun c53 => ?_) (fun c53 => ?_)
    · have c53 := gB_o c53
      refine G_aload_n (pc := 19) rfl dX11_wouldBe_19 ?_
      refine G_iload_n (pc := 20) rfl dX11_wouldBe_20 ?_
      refine G_iconst (pc := 21) (v := 0) (by decide) dX11_wouldBe_21 ?_
      by_cases c54 : sheet = 0
      · subst c54
        refine G_callV (pc := 22) (mc1 := 0) (ms1 := 0) (ci := 11) (mj := mX11_refusalOf) (vs := [_, _]) dX11_wouldBe_22 rfl rfl cm_X11_refusalOf wf_38 wf_40 wf_41 rfl (Nat.le_of_ble_eq_true rfl) (Nat.le_of_ble_eq_true rfl) (Nat.le_of_ble_eq_true rfl) (Nat.le_of_ble_eq_true rfl) (s14_X11_refusalOf  (d + 1)  ) ?_
        rintro _ _ ⟨rfl, rfl⟩
        dsimp only [Option.toList, List.cons_append, List.nil_append]
        refine G_istore (pc := 25) (L1 := [some (.ref 0), some (.int 0), some (.int i), some (.int n), some (.int (-11)), none]) rfl rfl (by decide) dX11_wouldBe_25 ?_
        refine G_iload (pc := 27) rfl dX11_wouldBe_27 ?_
        refine G_if_eq (pc := 29) (tgt := 35) (by decide) dX11_wouldBe_29 (fun z => absurd z (by decide)) (fun _ => ?_)
        refine G_iload (pc := 32) rfl dX11_wouldBe_32 ?_
        exact G_iret (pc := 34) (Nat.le_of_ble_eq_true rfl) (Nat.le_of_ble_eq_true rfl) rfl dX11_wouldBe_34 ⟨_, by first | rfl | (simp [F_wouldBe, *]; done) | (have : 0 ≤ (n).toInt := Int32.le_iff_toInt_le.mp (c53.1); have : (n).toInt ≤ 20 := Int32.le_iff_toInt_le.mp (c53.2); simp only [F_wouldBe, Int32.le_iff_toInt_le, Int32.lt_iff_toInt_lt, ← Int32.toInt_inj]; simp; omega) | (have : 0 ≤ (n).toInt := Int32.le_iff_toInt_le.mp (c53.1); have : (n).toInt ≤ 20 := Int32.le_iff_toInt_le.mp (c53.2); simp only [F_wouldBe, Int32.le_iff_toInt_le, Int32.lt_iff_toInt_lt, ← Int32.toInt_inj]; split <;> first | rfl | (exfalso; simp at *; omega)) | (have : 0 ≤ (n).toInt := Int32.le_iff_toInt_le.mp (c53.1); have : (n).toInt ≤ 20 := Int32.le_iff_toInt_le.mp (c53.2); unfold F_wouldBe; (repeat' split) <;> first | rfl | (exfalso; (try simp only [Int32.le_iff_toInt_le, Int32.lt_iff_toInt_lt, ← Int32.toInt_inj] at *); first | omega | (simp at *; done) | (simp at *; omega))), rfl, fun _ _ => rfl⟩
      by_cases c55 : sheet = 1
      · subst c55
        refine G_callV (pc := 22) (mc1 := 0) (ms1 := 0) (ci := 11) (mj := mX11_refusalOf) (vs := [_, _]) dX11_wouldBe_22 rfl rfl cm_X11_refusalOf wf_38 wf_40 wf_41 rfl (Nat.le_of_ble_eq_true rfl) (Nat.le_of_ble_eq_true rfl) (Nat.le_of_ble_eq_true rfl) (Nat.le_of_ble_eq_true rfl) (s15_X11_refusalOf  (d + 1)  ) ?_
        rintro _ _ ⟨rfl, rfl⟩
        dsimp only [Option.toList, List.cons_append, List.nil_append]
        refine G_istore (pc := 25) (L1 := [some (.ref 0), some (.int 1), some (.int i), some (.int n), some (.int (-11)), none]) rfl rfl (by decide) dX11_wouldBe_25 ?_
        refine G_iload (pc := 27) rfl dX11_wouldBe_27 ?_
        refine G_if_eq (pc := 29) (tgt := 35) (by decide) dX11_wouldBe_29 (fun z => absurd z (by decide)) (fun _ => ?_)
        refine G_iload (pc := 32) rfl dX11_wouldBe_32 ?_
        exact G_iret (pc := 34) (Nat.le_of_ble_eq_true rfl) (Nat.le_of_ble_eq_true rfl) rfl dX11_wouldBe_34 ⟨_, by first | rfl | (simp [F_wouldBe, *]; done) | (have : 0 ≤ (n).toInt := Int32.le_iff_toInt_le.mp (c53.1); have : (n).toInt ≤ 20 := Int32.le_iff_toInt_le.mp (c53.2); simp only [F_wouldBe, Int32.le_iff_toInt_le, Int32.lt_iff_toInt_lt, ← Int32.toInt_inj]; simp; omega) | (have : 0 ≤ (n).toInt := Int32.le_iff_toInt_le.mp (c53.1); have : (n).toInt ≤ 20 := Int32.le_iff_toInt_le.mp (c53.2); simp only [F_wouldBe, Int32.le_iff_toInt_le, Int32.lt_iff_toInt_lt, ← Int32.toInt_inj]; split <;> first | rfl | (exfalso; simp at *; omega)) | (have : 0 ≤ (n).toInt := Int32.le_iff_toInt_le.mp (c53.1); have : (n).toInt ≤ 20 := Int32.le_iff_toInt_le.mp (c53.2); unfold F_wouldBe; (repeat' split) <;> first | rfl | (exfalso; (try simp only [Int32.le_iff_toInt_le, Int32.lt_iff_toInt_lt, ← Int32.toInt_inj] at *); first | omega | (simp at *; done) | (simp at *; omega))), rfl, fun _ _ => rfl⟩
      by_cases c56 : sheet = 2
      · subst c56
        refine G_callV (pc := 22) (mc1 := 0) (ms1 := 0) (ci := 11) (mj := mX11_refusalOf) (vs := [_, _]) dX11_wouldBe_22 rfl rfl cm_X11_refusalOf wf_38 wf_40 wf_41 rfl (Nat.le_of_ble_eq_true rfl) (Nat.le_of_ble_eq_true rfl) (Nat.le_of_ble_eq_true rfl) (Nat.le_of_ble_eq_true rfl) (s16_X11_refusalOf  (d + 1)  ) ?_
        rintro _ _ ⟨rfl, rfl⟩
        dsimp only [Option.toList, List.cons_append, List.nil_append]
        refine G_istore (pc := 25) (L1 := [some (.ref 0), some (.int 2), some (.int i), some (.int n), some (.int (-11)), none]) rfl rfl (by decide) dX11_wouldBe_25 ?_
        refine G_iload (pc := 27) rfl dX11_wouldBe_27 ?_
        refine G_if_eq (pc := 29) (tgt := 35) (by decide) dX11_wouldBe_29 (fun z => absurd z (by decide)) (fun _ => ?_)
        refine G_iload (pc := 32) rfl dX11_wouldBe_32 ?_
        exact G_iret (pc := 34) (Nat.le_of_ble_eq_true rfl) (Nat.le_of_ble_eq_true rfl) rfl dX11_wouldBe_34 ⟨_, by first | rfl | (simp [F_wouldBe, *]; done) | (have : 0 ≤ (n).toInt := Int32.le_iff_toInt_le.mp (c53.1); have : (n).toInt ≤ 20 := Int32.le_iff_toInt_le.mp (c53.2); simp only [F_wouldBe, Int32.le_iff_toInt_le, Int32.lt_iff_toInt_lt, ← Int32.toInt_inj]; simp; omega) | (have : 0 ≤ (n).toInt := Int32.le_iff_toInt_le.mp (c53.1); have : (n).toInt ≤ 20 := Int32.le_iff_toInt_le.mp (c53.2); simp only [F_wouldBe, Int32.le_iff_toInt_le, Int32.lt_iff_toInt_lt, ← Int32.toInt_inj]; split <;> first | rfl | (exfalso; simp at *; omega)) | (have : 0 ≤ (n).toInt := Int32.le_iff_toInt_le.mp (c53.1); have : (n).toInt ≤ 20 := Int32.le_iff_toInt_le.mp (c53.2); unfold F_wouldBe; (repeat' split) <;> first | rfl | (exfalso; (try simp only [Int32.le_iff_toInt_le, Int32.lt_iff_toInt_lt, ← Int32.toInt_inj] at *); first | omega | (simp at *; done) | (simp at *; omega))), rfl, fun _ _ => rfl⟩
      by_cases c57 : sheet = 3
      · subst c57
        refine G_callV (pc := 22) (mc1 := 0) (ms1 := 0) (ci := 11) (mj := mX11_refusalOf) (vs := [_, _]) dX11_wouldBe_22 rfl rfl cm_X11_refusalOf wf_38 wf_40 wf_41 rfl (Nat.le_of_ble_eq_true rfl) (Nat.le_of_ble_eq_true rfl) (Nat.le_of_ble_eq_true rfl) (Nat.le_of_ble_eq_true rfl) (s17_X11_refusalOf  (d + 1)  ) ?_
        rintro _ _ ⟨rfl, rfl⟩
        dsimp only [Option.toList, List.cons_append, List.nil_append]
        refine G_istore (pc := 25) (L1 := [some (.ref 0), some (.int 3), some (.int i), some (.int n), some (.int (-11)), none]) rfl rfl (by decide) dX11_wouldBe_25 ?_
        refine G_iload (pc := 27) rfl dX11_wouldBe_27 ?_
        refine G_if_eq (pc := 29) (tgt := 35) (by decide) dX11_wouldBe_29 (fun z => absurd z (by decide)) (fun _ => ?_)
        refine G_iload (pc := 32) rfl dX11_wouldBe_32 ?_
        exact G_iret (pc := 34) (Nat.le_of_ble_eq_true rfl) (Nat.le_of_ble_eq_true rfl) rfl dX11_wouldBe_34 ⟨_, by first | rfl | (simp [F_wouldBe, *]; done) | (have : 0 ≤ (n).toInt := Int32.le_iff_toInt_le.mp (c53.1); have : (n).toInt ≤ 20 := Int32.le_iff_toInt_le.mp (c53.2); simp only [F_wouldBe, Int32.le_iff_toInt_le, Int32.lt_iff_toInt_lt, ← Int32.toInt_inj]; simp; omega) | (have : 0 ≤ (n).toInt := Int32.le_iff_toInt_le.mp (c53.1); have : (n).toInt ≤ 20 := Int32.le_iff_toInt_le.mp (c53.2); simp only [F_wouldBe, Int32.le_iff_toInt_le, Int32.lt_iff_toInt_lt, ← Int32.toInt_inj]; split <;> first | rfl | (exfalso; simp at *; omega)) | (have : 0 ≤ (n).toInt := Int32.le_iff_toInt_le.mp (c53.1); have : (n).toInt ≤ 20 := Int32.le_iff_toInt_le.mp (c53.2); unfold F_wouldBe; (repeat' split) <;> first | rfl | (exfalso; (try simp only [Int32.le_iff_toInt_le, Int32.lt_iff_toInt_lt, ← Int32.toInt_inj] at *); first | omega | (simp at *; done) | (simp at *; omega))), rfl, fun _ _ => rfl⟩
      exfalso
      have : 0 ≤ (sheet).toInt := Int32.le_iff_toInt_le.mp (c52.1)
      have : (sheet).toInt ≤ 3 := Int32.le_iff_toInt_le.mp (c52.2)
      have : (sheet).toInt ≠ 0 := g_ne (c54)
      have : (sheet).toInt ≠ 1 := g_ne (c55)
      have : (sheet).toInt ≠ 2 := g_ne (c56)
      have : (sheet).toInt ≠ 3 := g_ne (c57)
      omega
    · have c53 := gB_z c53
      refine G_iconst (pc := 17) (v := (-1)) (by decide) dX11_wouldBe_17 ?_
      exact G_iret (pc := 18) (Nat.le_of_ble_eq_true rfl) (Nat.le_of_ble_eq_true rfl) rfl dX11_wouldBe_18 ⟨_, by first | rfl | (simp [F_wouldBe, *]; done) | (have : 0 ≤ (sheet).toInt := Int32.le_iff_toInt_le.mp (c52.1); have : (sheet).toInt ≤ 3 := Int32.le_iff_toInt_le.mp (c52.2); have : ¬ (0 ≤ (n).toInt ∧ (n).toInt ≤ 20) := fun z => c53 ⟨Int32.le_iff_toInt_le.mpr z.1, Int32.le_iff_toInt_le.mpr z.2⟩; simp only [F_wouldBe, Int32.le_iff_toInt_le, Int32.lt_iff_toInt_lt, ← Int32.toInt_inj]; simp; omega) | (have : 0 ≤ (sheet).toInt := Int32.le_iff_toInt_le.mp (c52.1); have : (sheet).toInt ≤ 3 := Int32.le_iff_toInt_le.mp (c52.2); have : ¬ (0 ≤ (n).toInt ∧ (n).toInt ≤ 20) := fun z => c53 ⟨Int32.le_iff_toInt_le.mpr z.1, Int32.le_iff_toInt_le.mpr z.2⟩; simp only [F_wouldBe, Int32.le_iff_toInt_le, Int32.lt_iff_toInt_lt, ← Int32.toInt_inj]; split <;> first | rfl | (exfalso; simp at *; omega)) | (have : 0 ≤ (sheet).toInt := Int32.le_iff_toInt_le.mp (c52.1); have : (sheet).toInt ≤ 3 := Int32.le_iff_toInt_le.mp (c52.2); have : ¬ (0 ≤ (n).toInt ∧ (n).toInt ≤ 20) := fun z => c53 ⟨Int32.le_iff_toInt_le.mpr z.1, Int32.le_iff_toInt_le.mpr z.2⟩; unfold F_wouldBe; (repeat' split) <;> first | rfl | (exfalso; (try simp only [Int32.le_iff_toInt_le, Int32.lt_iff_toInt_lt, ← Int32.toInt_inj] at *); first | omega | (simp at *; done) | (simp at *; omega))), rfl, fun _ _ => rfl⟩
set_option maxRecDepth 100000 in
set_option maxHeartbeats 4000000 in
theorem s19_X1_isKey  (d : Nat)  (a0 : Int32) : G (d) mX1_isKey 0 0 0 0 0 (gent 2 [.ref 19, .int a0]) [] SH0 RF0 I0 (fun r h => r = some (.int 0) ∧ h = (SH0, RF0, I0)) := by
  refine G_iload_n (pc := 0) rfl dX1_isKey_0 ?_
  refine G_if_lt (pc := 1) (tgt := 16) (by decide) dX1_isKey_1 (fun c95 => ?_) (fun c95 => ?_)
  · refine G_iconst (pc := 16) (v := 0) (by decide) dX1_isKey_16 ?_
    exact G_zret (pc := 17) (Nat.le_of_ble_eq_true rfl) (Nat.le_of_ble_eq_true rfl) rfl (by decide) dX1_isKey_17 ⟨rfl, rfl⟩
  · refine G_iload_n (pc := 4) rfl dX1_isKey_4 ?_
    refine G_aload_n (pc := 5) rfl dX1_isKey_5 ?_
    refine G_getI (pc := 6) (v := 0) (ci := 1) (j := 8) rfl rfl lk_RX1_72 rfl rfl dX1_isKey_6 ?_
    refine G_icmp_ge (pc := 9) (tgt := 16) (by decide) dX1_isKey_9 (fun c96 => ?_) (fun c96 => ?_)
    · refine G_iconst (pc := 16) (v := 0) (by decide) dX1_isKey_16 ?_
      exact G_zret (pc := 17) (Nat.le_of_ble_eq_true rfl) (Nat.le_of_ble_eq_true rfl) rfl (by decide) dX1_isKey_17 ⟨rfl, rfl⟩
    · exfalso; have : 0 ≤ (a0).toInt := Int32.le_iff_toInt_le.mp (Int32.not_lt.mp c95); have : (a0).toInt < 0 := Int32.lt_iff_toInt_lt.mp (Int32.not_le.mp c96); omega
def F_shelf (shelf : Int32) (what : Int32) (n : Int32) : Int32 := if (0 ≤ shelf ∧ shelf ≤ 3) ∧ (what = 2 ∨ (what = 1 ∧ 0 ≤ n ∧ n ≤ 3)) then 1 else -1
set_option maxRecDepth 100000 in
set_option maxHeartbeats 4000000 in
theorem x_shelf (d : Nat) (shelf : Int32) (what : Int32) (n : Int32) : G (d + 2) mX11_shelf 0 0 0 0 0 (gent 4 [.ref 0, .int shelf, .int what, .int n]) [] SH0 RF0 I0 (fun r h => ∃ I1, r = some (.int (F_shelf shelf what n)) ∧ h = (SH0, RF0, I1) ∧ ∀ a, 67 ≤ a → I1 a = I0 a) := by
  refine G_iload_n (pc := 0) rfl dX11_shelf_0 ?_
  refine G_callS (pc := 1) (mc1 := 0) (ms1 := 0) (mj := mX11_isPlace) (vs := [_]) dX11_shelf_1 cm_X11_isPlace wf_35 wf_37 rfl (Nat.le_of_ble_eq_true rfl) (Nat.le_of_ble_eq_true rfl) (Nat.le_of_ble_eq_true rfl) (Nat.le_of_ble_eq_true rfl) (isPlace_s d shelf) ?_
  rintro _ _ ⟨rfl, rfl⟩
  dsimp only [Option.toList, List.cons_append, List.nil_append]
  refine G_if_eq (pc := 4) (tgt := 16) (by decide) dX11_shelf_4 (fun c58 => ?_) (fun c58 => ?_)
  · have c58 := gB_z c58
    refine G_iconst (pc := 16) (v := (-1)) (by decide) dX11_shelf_16 ?_
    exact G_iret (pc := 17) (Nat.le_of_ble_eq_true rfl) (Nat.le_of_ble_eq_true rfl) rfl dX11_shelf_17 ⟨_, by first | rfl | (simp [F_shelf, *]; done) | (have : ¬ (0 ≤ (shelf).toInt ∧ (shelf).toInt ≤ 3) := fun z => c58 ⟨Int32.le_iff_toInt_le.mpr z.1, Int32.le_iff_toInt_le.mpr z.2⟩; simp only [F_shelf, Int32.le_iff_toInt_le, Int32.lt_iff_toInt_lt, ← Int32.toInt_inj]; simp; omega) | (have : ¬ (0 ≤ (shelf).toInt ∧ (shelf).toInt ≤ 3) := fun z => c58 ⟨Int32.le_iff_toInt_le.mpr z.1, Int32.le_iff_toInt_le.mpr z.2⟩; simp only [F_shelf, Int32.le_iff_toInt_le, Int32.lt_iff_toInt_lt, ← Int32.toInt_inj]; split <;> first | rfl | (exfalso; simp at *; omega)) | (have : ¬ (0 ≤ (shelf).toInt ∧ (shelf).toInt ≤ 3) := fun z => c58 ⟨Int32.le_iff_toInt_le.mpr z.1, Int32.le_iff_toInt_le.mpr z.2⟩; unfold F_shelf; (repeat' split) <;> first | rfl | (exfalso; (try simp only [Int32.le_iff_toInt_le, Int32.lt_iff_toInt_lt, ← Int32.toInt_inj] at *); first | omega | (simp at *; done) | (simp at *; omega))), rfl, fun _ _ => rfl⟩
  · have c58 := gB_o c58
    refine G_iload_n (pc := 7) rfl dX11_shelf_7 ?_
    refine G_iconst (pc := 8) (v := 0) (by decide) dX11_shelf_8 ?_
    refine G_iconst (pc := 9) (v := 2) (by decide) dX11_shelf_9 ?_
    refine G_callS (pc := 10) (mc1 := 0) (ms1 := 0) (mj := mX11_isIn) (vs := [_, _, _]) dX11_shelf_10 cm_X11_isIn wf_4 wf_6 rfl (Nat.le_of_ble_eq_true rfl) (Nat.le_of_ble_eq_true rfl) (Nat.le_of_ble_eq_true rfl) (Nat.le_of_ble_eq_true rfl) (isIn_s (d + 1) what 0 2) ?_
    rintro _ _ ⟨rfl, rfl⟩
    dsimp only [Option.toList, List.cons_append, List.nil_append]
    refine G_if_ne (pc := 13) (tgt := 18) (by decide) dX11_shelf_13 (fun c59 => ?_) (fun c59 => ?_)
    · have c59 := gB_o c59
      refine G_iload_n (pc := 18) rfl dX11_shelf_18 ?_
      refine G_if_ne (pc := 19) (tgt := 33) (by decide) dX11_shelf_19 (fun c60 => ?_) (fun c60 => ?_)
      · refine G_iload_n (pc := 33) rfl dX11_shelf_33 ?_
        refine G_iconst (pc := 34) (v := 1) (by decide) dX11_shelf_34 ?_
        refine G_icmp_ne (pc := 35) (tgt := 47) (by decide) dX11_shelf_35 (fun c61 => ?_) (fun c61 => ?_)
        · refine G_aload_n (pc := 47) rfl dX11_shelf_47 ?_
          refine G_getR (pc := 48) (r := 9) (ci := 11) (j := 11) rfl lk_RX11_24 rfl rfl rfl dX11_shelf_48 ?_
          refine G_iload_n (pc := 51) rfl dX11_shelf_51 ?_
          refine G_iload_n (pc := 52) rfl dX11_shelf_52 ?_
          by_cases c62 : shelf = 0
          · subst c62
            refine G_iast (pc := 53) (jj := 0) (by decide) rfl (by unfold vp_in; decide) dX11_shelf_53 ?_
            refine G_aload_n (pc := 54) rfl dX11_shelf_54 ?_
            refine G_getR (pc := 55) (r := 10) (ci := 11) (j := 12) rfl lk_RX11_27 rfl rfl rfl dX11_shelf_55 ?_
            refine G_iload_n (pc := 58) rfl dX11_shelf_58 ?_
            refine G_iload_n (pc := 59) rfl dX11_shelf_59 ?_
            refine G_iast (pc := 60) (jj := 0) (by decide) rfl (by unfold vp_in; decide) dX11_shelf_60 ?_
            refine G_iload_n (pc := 61) rfl dX11_shelf_61 ?_
            refine G_iconst (pc := 62) (v := 1) (by decide) dX11_shelf_62 ?_
            refine G_icmp_ne (pc := 63) (tgt := 111) (by decide) dX11_shelf_63 (fun c63 => ?_) (fun c63 => ?_)
            · refine G_iconst (pc := 111) (v := 1) (by decide) dX11_shelf_111 ?_
              exact G_iret (pc := 112) (Nat.le_of_ble_eq_true rfl) (Nat.le_of_ble_eq_true rfl) rfl dX11_shelf_112 ⟨_, by first | rfl | (simp [F_shelf, *]; done) | (have : 0 ≤ (what).toInt := Int32.le_iff_toInt_le.mp (c59.1); have : (what).toInt ≤ 2 := Int32.le_iff_toInt_le.mp (c59.2); have : (what).toInt ≠ 0 := g_ne (c60); have : (what).toInt ≠ 1 := g_ne (c61); have : (what).toInt ≠ 1 := g_ne (c63); simp only [F_shelf, Int32.le_iff_toInt_le, Int32.lt_iff_toInt_lt, ← Int32.toInt_inj]; simp; omega) | (have : 0 ≤ (what).toInt := Int32.le_iff_toInt_le.mp (c59.1); have : (what).toInt ≤ 2 := Int32.le_iff_toInt_le.mp (c59.2); have : (what).toInt ≠ 0 := g_ne (c60); have : (what).toInt ≠ 1 := g_ne (c61); have : (what).toInt ≠ 1 := g_ne (c63); simp only [F_shelf, Int32.le_iff_toInt_le, Int32.lt_iff_toInt_lt, ← Int32.toInt_inj]; split <;> first | rfl | (exfalso; simp at *; omega)) | (have : 0 ≤ (what).toInt := Int32.le_iff_toInt_le.mp (c59.1); have : (what).toInt ≤ 2 := Int32.le_iff_toInt_le.mp (c59.2); have : (what).toInt ≠ 0 := g_ne (c60); have : (what).toInt ≠ 1 := g_ne (c61); have : (what).toInt ≠ 1 := g_ne (c63); unfold F_shelf; (repeat' split) <;> first | rfl | (exfalso; (try simp only [Int32.le_iff_toInt_le, Int32.lt_iff_toInt_lt, ← Int32.toInt_inj] at *); first | omega | (simp at *; done) | (simp at *; omega))), rfl, fun a ha => by funext j; simp (disch := omega) only [gup_off, gcp_off]⟩
            · exact absurd c63 c61
          by_cases c64 : shelf = 1
          · subst c64
            refine G_iast (pc := 53) (jj := 1) (by decide) rfl (by unfold vp_in; decide) dX11_shelf_53 ?_
            refine G_aload_n (pc := 54) rfl dX11_shelf_54 ?_
            refine G_getR (pc := 55) (r := 10) (ci := 11) (j := 12) rfl lk_RX11_27 rfl rfl rfl dX11_shelf_55 ?_
            refine G_iload_n (pc := 58) rfl dX11_shelf_58 ?_
            refine G_iload_n (pc := 59) rfl dX11_shelf_59 ?_
            refine G_iast (pc := 60) (jj := 1) (by decide) rfl (by unfold vp_in; decide) dX11_shelf_60 ?_
            refine G_iload_n (pc := 61) rfl dX11_shelf_61 ?_
            refine G_iconst (pc := 62) (v := 1) (by decide) dX11_shelf_62 ?_
            refine G_icmp_ne (pc := 63) (tgt := 111) (by decide) dX11_shelf_63 (fun c65 => ?_) (fun c65 => ?_)
            · refine G_iconst (pc := 111) (v := 1) (by decide) dX11_shelf_111 ?_
              exact G_iret (pc := 112) (Nat.le_of_ble_eq_true rfl) (Nat.le_of_ble_eq_true rfl) rfl dX11_shelf_112 ⟨_, by first | rfl | (simp [F_shelf, *]; done) | (have : 0 ≤ (what).toInt := Int32.le_iff_toInt_le.mp (c59.1); have : (what).toInt ≤ 2 := Int32.le_iff_toInt_le.mp (c59.2); have : (what).toInt ≠ 0 := g_ne (c60); have : (what).toInt ≠ 1 := g_ne (c61); have : (what).toInt ≠ 1 := g_ne (c65); simp only [F_shelf, Int32.le_iff_toInt_le, Int32.lt_iff_toInt_lt, ← Int32.toInt_inj]; simp; omega) | (have : 0 ≤ (what).toInt := Int32.le_iff_toInt_le.mp (c59.1); have : (what).toInt ≤ 2 := Int32.le_iff_toInt_le.mp (c59.2); have : (what).toInt ≠ 0 := g_ne (c60); have : (what).toInt ≠ 1 := g_ne (c61); have : (what).toInt ≠ 1 := g_ne (c65); simp only [F_shelf, Int32.le_iff_toInt_le, Int32.lt_iff_toInt_lt, ← Int32.toInt_inj]; split <;> first | rfl | (exfalso; simp at *; omega)) | (have : 0 ≤ (what).toInt := Int32.le_iff_toInt_le.mp (c59.1); have : (what).toInt ≤ 2 := Int32.le_iff_toInt_le.mp (c59.2); have : (what).toInt ≠ 0 := g_ne (c60); have : (what).toInt ≠ 1 := g_ne (c61); have : (what).toInt ≠ 1 := g_ne (c65); unfold F_shelf; (repeat' split) <;> first | rfl | (exfalso; (try simp only [Int32.le_iff_toInt_le, Int32.lt_iff_toInt_lt, ← Int32.toInt_inj] at *); first | omega | (simp at *; done) | (simp at *; omega))), rfl, fun a ha => by funext j; simp (disch := omega) only [gup_off, gcp_off]⟩
            · exact absurd c65 c61
          by_cases c66 : shelf = 2
          · subst c66
            refine G_iast (pc := 53) (jj := 2) (by decide) rfl (by unfold vp_in; decide) dX11_shelf_53 ?_
            refine G_aload_n (pc := 54) rfl dX11_shelf_54 ?_
            refine G_getR (pc := 55) (r := 10) (ci := 11) (j := 12) rfl lk_RX11_27 rfl rfl rfl dX11_shelf_55 ?_
            refine G_iload_n (pc := 58) rfl dX11_shelf_58 ?_
            refine G_iload_n (pc := 59) rfl dX11_shelf_59 ?_
            refine G_iast (pc := 60) (jj := 2) (by decide) rfl (by unfold vp_in; decide) dX11_shelf_60 ?_
            refine G_iload_n (pc := 61) rfl dX11_shelf_61 ?_
            refine G_iconst (pc := 62) (v := 1) (by decide) dX11_shelf_62 ?_
            refine G_icmp_ne (pc := 63) (tgt := 111) (by decide) dX11_shelf_63 (fun c67 => ?_) (fun c67 => ?_)
            · refine G_iconst (pc := 111) (v := 1) (by decide) dX11_shelf_111 ?_
              exact G_iret (pc := 112) (Nat.le_of_ble_eq_true rfl) (Nat.le_of_ble_eq_true rfl) rfl dX11_shelf_112 ⟨_, by first | rfl | (simp [F_shelf, *]; done) | (have : 0 ≤ (what).toInt := Int32.le_iff_toInt_le.mp (c59.1); have : (what).toInt ≤ 2 := Int32.le_iff_toInt_le.mp (c59.2); have : (what).toInt ≠ 0 := g_ne (c60); have : (what).toInt ≠ 1 := g_ne (c61); have : (what).toInt ≠ 1 := g_ne (c67); simp only [F_shelf, Int32.le_iff_toInt_le, Int32.lt_iff_toInt_lt, ← Int32.toInt_inj]; simp; omega) | (have : 0 ≤ (what).toInt := Int32.le_iff_toInt_le.mp (c59.1); have : (what).toInt ≤ 2 := Int32.le_iff_toInt_le.mp (c59.2); have : (what).toInt ≠ 0 := g_ne (c60); have : (what).toInt ≠ 1 := g_ne (c61); have : (what).toInt ≠ 1 := g_ne (c67); simp only [F_shelf, Int32.le_iff_toInt_le, Int32.lt_iff_toInt_lt, ← Int32.toInt_inj]; split <;> first | rfl | (exfalso; simp at *; omega)) | (have : 0 ≤ (what).toInt := Int32.le_iff_toInt_le.mp (c59.1); have : (what).toInt ≤ 2 := Int32.le_iff_toInt_le.mp (c59.2); have : (what).toInt ≠ 0 := g_ne (c60); have : (what).toInt ≠ 1 := g_ne (c61); have : (what).toInt ≠ 1 := g_ne (c67); unfold F_shelf; (repeat' split) <;> first | rfl | (exfalso; (try simp only [Int32.le_iff_toInt_le, Int32.lt_iff_toInt_lt, ← Int32.toInt_inj] at *); first | omega | (simp at *; done) | (simp at *; omega))), rfl, fun a ha => by funext j; simp (disch := omega) only [gup_off, gcp_off]⟩
            · exact absurd c67 c61
          by_cases c68 : shelf = 3
          · subst c68
            refine G_iast (pc := 53) (jj := 3) (by decide) rfl (by unfold vp_in; decide) dX11_shelf_53 ?_
            refine G_aload_n (pc := 54) rfl dX11_shelf_54 ?_
            refine G_getR (pc := 55) (r := 10) (ci := 11) (j := 12) rfl lk_RX11_27 rfl rfl rfl dX11_shelf_55 ?_
            refine G_iload_n (pc := 58) rfl dX11_shelf_58 ?_
            refine G_iload_n (pc := 59) rfl dX11_shelf_59 ?_
            refine G_iast (pc := 60) (jj := 3) (by decide) rfl (by unfold vp_in; decide) dX11_shelf_60 ?_
            refine G_iload_n (pc := 61) rfl dX11_shelf_61 ?_
            refine G_iconst (pc := 62) (v := 1) (by decide) dX11_shelf_62 ?_
            refine G_icmp_ne (pc := 63) (tgt := 111) (by decide) dX11_shelf_63 (fun c69 => ?_) (fun c69 => ?_)
            · refine G_iconst (pc := 111) (v := 1) (by decide) dX11_shelf_111 ?_
              exact G_iret (pc := 112) (Nat.le_of_ble_eq_true rfl) (Nat.le_of_ble_eq_true rfl) rfl dX11_shelf_112 ⟨_, by first | rfl | (simp [F_shelf, *]; done) | (have : 0 ≤ (what).toInt := Int32.le_iff_toInt_le.mp (c59.1); have : (what).toInt ≤ 2 := Int32.le_iff_toInt_le.mp (c59.2); have : (what).toInt ≠ 0 := g_ne (c60); have : (what).toInt ≠ 1 := g_ne (c61); have : (what).toInt ≠ 1 := g_ne (c69); simp only [F_shelf, Int32.le_iff_toInt_le, Int32.lt_iff_toInt_lt, ← Int32.toInt_inj]; simp; omega) | (have : 0 ≤ (what).toInt := Int32.le_iff_toInt_le.mp (c59.1); have : (what).toInt ≤ 2 := Int32.le_iff_toInt_le.mp (c59.2); have : (what).toInt ≠ 0 := g_ne (c60); have : (what).toInt ≠ 1 := g_ne (c61); have : (what).toInt ≠ 1 := g_ne (c69); simp only [F_shelf, Int32.le_iff_toInt_le, Int32.lt_iff_toInt_lt, ← Int32.toInt_inj]; split <;> first | rfl | (exfalso; simp at *; omega)) | (have : 0 ≤ (what).toInt := Int32.le_iff_toInt_le.mp (c59.1); have : (what).toInt ≤ 2 := Int32.le_iff_toInt_le.mp (c59.2); have : (what).toInt ≠ 0 := g_ne (c60); have : (what).toInt ≠ 1 := g_ne (c61); have : (what).toInt ≠ 1 := g_ne (c69); unfold F_shelf; (repeat' split) <;> first | rfl | (exfalso; (try simp only [Int32.le_iff_toInt_le, Int32.lt_iff_toInt_lt, ← Int32.toInt_inj] at *); first | omega | (simp at *; done) | (simp at *; omega))), rfl, fun a ha => by funext j; simp (disch := omega) only [gup_off, gcp_off]⟩
            · exact absurd c69 c61
          exfalso
          have : 0 ≤ (shelf).toInt := Int32.le_iff_toInt_le.mp (c58.1)
          have : (shelf).toInt ≤ 3 := Int32.le_iff_toInt_le.mp (c58.2)
          have : (shelf).toInt ≠ 0 := g_ne (c62)
          have : (shelf).toInt ≠ 1 := g_ne (c64)
          have : (shelf).toInt ≠ 2 := g_ne (c66)
          have : (shelf).toInt ≠ 3 := g_ne (c68)
          omega
        · refine G_iload_n (pc := 38) rfl dX11_shelf_38 ?_
          refine G_callS (pc := 39) (mc1 := 0) (ms1 := 0) (mj := mX11_isPlace) (vs := [_]) dX11_shelf_39 cm_X11_isPlace wf_35 wf_37 rfl (Nat.le_of_ble_eq_true rfl) (Nat.le_of_ble_eq_true rfl) (Nat.le_of_ble_eq_true rfl) (Nat.le_of_ble_eq_true rfl) (isPlace_s d n) ?_
          rintro _ _ ⟨rfl, rfl⟩
          dsimp only [Option.toList, List.cons_append, List.nil_append]
          refine G_if_ne (pc := 42) (tgt := 47) (by decide) dX11_shelf_42 (fun c70 => ?_) (fun c70 => ?_)
          · have c70 := gB_o c70
            refine G_aload_n (pc := 47) rfl dX11_shelf_47 ?_
            refine G_getR (pc := 48) (r := 9) (ci := 11) (j := 11) rfl lk_RX11_24 rfl rfl rfl dX11_shelf_48 ?_
            refine G_iload_n (pc := 51) rfl dX11_shelf_51 ?_
            refine G_iload_n (pc := 52) rfl dX11_shelf_52 ?_
            by_cases c71 : shelf = 0
            · subst c71
              refine G_iast (pc := 53) (jj := 0) (by decide) rfl (by unfold vp_in; decide) dX11_shelf_53 ?_
              refine G_aload_n (pc := 54) rfl dX11_shelf_54 ?_
              refine G_getR (pc := 55) (r := 10) (ci := 11) (j := 12) rfl lk_RX11_27 rfl rfl rfl dX11_shelf_55 ?_
              refine G_iload_n (pc := 58) rfl dX11_shelf_58 ?_
              refine G_iload_n (pc := 59) rfl dX11_shelf_59 ?_
              refine G_iast (pc := 60) (jj := 0) (by decide) rfl (by unfold vp_in; decide) dX11_shelf_60 ?_
              refine G_iload_n (pc := 61) rfl dX11_shelf_61 ?_
              refine G_iconst (pc := 62) (v := 1) (by decide) dX11_shelf_62 ?_
              refine G_icmp_ne (pc := 63) (tgt := 111) (by decide) dX11_shelf_63 (fun c72 => ?_) (fun c72 => ?_)
              · exact absurd c61 c72
              · refine G_aload_n (pc := 66) rfl dX11_shelf_66 ?_
                refine G_getR (pc := 67) (r := 9) (ci := 11) (j := 11) rfl lk_RX11_24 rfl rfl rfl dX11_shelf_67 ?_
                refine G_iload_n (pc := 70) rfl dX11_shelf_70 ?_
                refine G_aload_n (pc := 71) rfl dX11_shelf_71 ?_
                refine G_getR (pc := 72) (r := 2) (ci := 11) (j := 8) rfl lk_RX11_13 rfl rfl rfl dX11_shelf_72 ?_
                refine G_iload_n (pc := 75) rfl dX11_shelf_75 ?_
                by_cases c73 : n = 0
                · subst c73
                  refine G_iald (pc := 76) (jj := 0) (v := (-1)) (by decide) rfl rfl (by unfold vp_in; decide) dX11_shelf_76 ?_
                  refine G_iconst (pc := 77) (v := (-1)) (by decide) dX11_shelf_77 ?_
                  refine G_icmp_ne (pc := 78) (tgt := 85) (by decide) dX11_shelf_78 (fun z => absurd (by decide) z) (fun _ => ?_)
                  refine G_iconst (pc := 81) (v := 2) (by decide) dX11_shelf_81 ?_
                  refine G_goto (pc := 82) (tgt := 86) (by decide) dX11_shelf_82 ?_
                  refine G_iast (pc := 86) (jj := 0) (by decide) rfl (by unfold vp_in; decide) dX11_shelf_86 ?_
                  refine G_aload_n (pc := 87) rfl dX11_shelf_87 ?_
                  refine G_getR (pc := 88) (r := 10) (ci := 11) (j := 12) rfl lk_RX11_27 rfl rfl rfl dX11_shelf_88 ?_
                  refine G_iload_n (pc := 91) rfl dX11_shelf_91 ?_
                  refine G_aload_n (pc := 92) rfl dX11_shelf_92 ?_
                  refine G_getR (pc := 93) (r := 2) (ci := 11) (j := 8) rfl lk_RX11_13 rfl rfl rfl dX11_shelf_93 ?_
                  refine G_iload_n (pc := 96) rfl dX11_shelf_96 ?_
                  refine G_iald (pc := 97) (jj := 0) (v := (-1)) (by decide) rfl rfl (by unfold vp_in; decide) dX11_shelf_97 ?_
                  refine G_iast (pc := 98) (jj := 0) (by decide) rfl (by unfold vp_in; decide) dX11_shelf_98 ?_
                  refine G_aload_n (pc := 99) rfl dX11_shelf_99 ?_
                  refine G_getR (pc := 100) (r := 11) (ci := 11) (j := 13) rfl lk_RX11_30 rfl rfl rfl dX11_shelf_100 ?_
                  refine G_iload_n (pc := 103) rfl dX11_shelf_103 ?_
                  refine G_aload_n (pc := 104) rfl dX11_shelf_104 ?_
                  refine G_getR (pc := 105) (r := 3) (ci := 11) (j := 9) rfl lk_RX11_16 rfl rfl rfl dX11_shelf_105 ?_
                  refine G_iload_n (pc := 108) rfl dX11_shelf_108 ?_
                  refine G_iald (pc := 109) (jj := 0) (v := 0) (by decide) rfl rfl (by unfold vp_in; decide) dX11_shelf_109 ?_
                  refine G_iast (pc := 110) (jj := 0) (by decide) rfl (by unfold vp_in; decide) dX11_shelf_110 ?_
                  refine G_iconst (pc := 111) (v := 1) (by decide) dX11_shelf_111 ?_
                  exact G_iret (pc := 112) (Nat.le_of_ble_eq_true rfl) (Nat.le_of_ble_eq_true rfl) rfl dX11_shelf_112 ⟨_, by first | rfl | (simp [F_shelf, *]; done) | (have : 0 ≤ (what).toInt := Int32.le_iff_toInt_le.mp (c59.1); have : (what).toInt ≤ 2 := Int32.le_iff_toInt_le.mp (c59.2); have : (what).toInt ≠ 0 := g_ne (c60); have : (what).toInt = 1 := congrArg Int32.toInt (c61); have : (what).toInt = 1 := congrArg Int32.toInt (c72); simp only [F_shelf, Int32.le_iff_toInt_le, Int32.lt_iff_toInt_lt, ← Int32.toInt_inj]; simp; omega) | (have : 0 ≤ (what).toInt := Int32.le_iff_toInt_le.mp (c59.1); have : (what).toInt ≤ 2 := Int32.le_iff_toInt_le.mp (c59.2); have : (what).toInt ≠ 0 := g_ne (c60); have : (what).toInt = 1 := congrArg Int32.toInt (c61); have : (what).toInt = 1 := congrArg Int32.toInt (c72); simp only [F_shelf, Int32.le_iff_toInt_le, Int32.lt_iff_toInt_lt, ← Int32.toInt_inj]; split <;> first | rfl | (exfalso; simp at *; omega)) | (have : 0 ≤ (what).toInt := Int32.le_iff_toInt_le.mp (c59.1); have : (what).toInt ≤ 2 := Int32.le_iff_toInt_le.mp (c59.2); have : (what).toInt ≠ 0 := g_ne (c60); have : (what).toInt = 1 := congrArg Int32.toInt (c61); have : (what).toInt = 1 := congrArg Int32.toInt (c72); unfold F_shelf; (repeat' split) <;> first | rfl | (exfalso; (try simp only [Int32.le_iff_toInt_le, Int32.lt_iff_toInt_lt, ← Int32.toInt_inj] at *); first | omega | (simp at *; done) | (simp at *; omega))), rfl, fun a ha => by funext j; simp (disch := omega) only [gup_off, gcp_off]⟩
                by_cases c74 : n = 1
                · subst c74
                  refine G_iald (pc := 76) (jj := 1) (v := (-1)) (by decide) rfl rfl (by unfold vp_in; decide) dX11_shelf_76 ?_
                  refine G_iconst (pc := 77) (v := (-1)) (by decide) dX11_shelf_77 ?_
                  refine G_icmp_ne (pc := 78) (tgt := 85) (by decide) dX11_shelf_78 (fun z => absurd (by decide) z) (fun _ => ?_)
                  refine G_iconst (pc := 81) (v := 2) (by decide) dX11_shelf_81 ?_
                  refine G_goto (pc := 82) (tgt := 86) (by decide) dX11_shelf_82 ?_
                  refine G_iast (pc := 86) (jj := 0) (by decide) rfl (by unfold vp_in; decide) dX11_shelf_86 ?_
                  refine G_aload_n (pc := 87) rfl dX11_shelf_87 ?_
                  refine G_getR (pc := 88) (r := 10) (ci := 11) (j := 12) rfl lk_RX11_27 rfl rfl rfl dX11_shelf_88 ?_
                  refine G_iload_n (pc := 91) rfl dX11_shelf_91 ?_
                  refine G_aload_n (pc := 92) rfl dX11_shelf_92 ?_
                  refine G_getR (pc := 93) (r := 2) (ci := 11) (j := 8) rfl lk_RX11_13 rfl rfl rfl dX11_shelf_93 ?_
                  refine G_iload_n (pc := 96) rfl dX11_shelf_96 ?_
                  refine G_iald (pc := 97) (jj := 1) (v := (-1)) (by decide) rfl rfl (by unfold vp_in; decide) dX11_shelf_97 ?_
                  refine G_iast (pc := 98) (jj := 0) (by decide) rfl (by unfold vp_in; decide) dX11_shelf_98 ?_
                  refine G_aload_n (pc := 99) rfl dX11_shelf_99 ?_
                  refine G_getR (pc := 100) (r := 11) (ci := 11) (j := 13) rfl lk_RX11_30 rfl rfl rfl dX11_shelf_100 ?_
                  refine G_iload_n (pc := 103) rfl dX11_shelf_103 ?_
                  refine G_aload_n (pc := 104) rfl dX11_shelf_104 ?_
                  refine G_getR (pc := 105) (r := 3) (ci := 11) (j := 9) rfl lk_RX11_16 rfl rfl rfl dX11_shelf_105 ?_
                  refine G_iload_n (pc := 108) rfl dX11_shelf_108 ?_
                  refine G_iald (pc := 109) (jj := 1) (v := 0) (by decide) rfl rfl (by unfold vp_in; decide) dX11_shelf_109 ?_
                  refine G_iast (pc := 110) (jj := 0) (by decide) rfl (by unfold vp_in; decide) dX11_shelf_110 ?_
                  refine G_iconst (pc := 111) (v := 1) (by decide) dX11_shelf_111 ?_
                  exact G_iret (pc := 112) (Nat.le_of_ble_eq_true rfl) (Nat.le_of_ble_eq_true rfl) rfl dX11_shelf_112 ⟨_, by first | rfl | (simp [F_shelf, *]; done) | (have : 0 ≤ (what).toInt := Int32.le_iff_toInt_le.mp (c59.1); have : (what).toInt ≤ 2 := Int32.le_iff_toInt_le.mp (c59.2); have : (what).toInt ≠ 0 := g_ne (c60); have : (what).toInt = 1 := congrArg Int32.toInt (c61); have : (what).toInt = 1 := congrArg Int32.toInt (c72); simp only [F_shelf, Int32.le_iff_toInt_le, Int32.lt_iff_toInt_lt, ← Int32.toInt_inj]; simp; omega) | (have : 0 ≤ (what).toInt := Int32.le_iff_toInt_le.mp (c59.1); have : (what).toInt ≤ 2 := Int32.le_iff_toInt_le.mp (c59.2); have : (what).toInt ≠ 0 := g_ne (c60); have : (what).toInt = 1 := congrArg Int32.toInt (c61); have : (what).toInt = 1 := congrArg Int32.toInt (c72); simp only [F_shelf, Int32.le_iff_toInt_le, Int32.lt_iff_toInt_lt, ← Int32.toInt_inj]; split <;> first | rfl | (exfalso; simp at *; omega)) | (have : 0 ≤ (what).toInt := Int32.le_iff_toInt_le.mp (c59.1); have : (what).toInt ≤ 2 := Int32.le_iff_toInt_le.mp (c59.2); have : (what).toInt ≠ 0 := g_ne (c60); have : (what).toInt = 1 := congrArg Int32.toInt (c61); have : (what).toInt = 1 := congrArg Int32.toInt (c72); unfold F_shelf; (repeat' split) <;> first | rfl | (exfalso; (try simp only [Int32.le_iff_toInt_le, Int32.lt_iff_toInt_lt, ← Int32.toInt_inj] at *); first | omega | (simp at *; done) | (simp at *; omega))), rfl, fun a ha => by funext j; simp (disch := omega) only [gup_off, gcp_off]⟩
                by_cases c75 : n = 2
                · subst c75
                  refine G_iald (pc := 76) (jj := 2) (v := (-1)) (by decide) rfl rfl (by unfold vp_in; decide) dX11_shelf_76 ?_
                  refine G_iconst (pc := 77) (v := (-1)) (by decide) dX11_shelf_77 ?_
                  refine G_icmp_ne (pc := 78) (tgt := 85) (by decide) dX11_shelf_78 (fun z => absurd (by decide) z) (fun _ => ?_)
                  refine G_iconst (pc := 81) (v := 2) (by decide) dX11_shelf_81 ?_
                  refine G_goto (pc := 82) (tgt := 86) (by decide) dX11_shelf_82 ?_
                  refine G_iast (pc := 86) (jj := 0) (by decide) rfl (by unfold vp_in; decide) dX11_shelf_86 ?_
                  refine G_aload_n (pc := 87) rfl dX11_shelf_87 ?_
                  refine G_getR (pc := 88) (r := 10) (ci := 11) (j := 12) rfl lk_RX11_27 rfl rfl rfl dX11_shelf_88 ?_
                  refine G_iload_n (pc := 91) rfl dX11_shelf_91 ?_
                  refine G_aload_n (pc := 92) rfl dX11_shelf_92 ?_
                  refine G_getR (pc := 93) (r := 2) (ci := 11) (j := 8) rfl lk_RX11_13 rfl rfl rfl dX11_shelf_93 ?_
                  refine G_iload_n (pc := 96) rfl dX11_shelf_96 ?_
                  refine G_iald (pc := 97) (jj := 2) (v := (-1)) (by decide) rfl rfl (by unfold vp_in; decide) dX11_shelf_97 ?_
                  refine G_iast (pc := 98) (jj := 0) (by decide) rfl (by unfold vp_in; decide) dX11_shelf_98 ?_
                  refine G_aload_n (pc := 99) rfl dX11_shelf_99 ?_
                  refine G_getR (pc := 100) (r := 11) (ci := 11) (j := 13) rfl lk_RX11_30 rfl rfl rfl dX11_shelf_100 ?_
                  refine G_iload_n (pc := 103) rfl dX11_shelf_103 ?_
                  refine G_aload_n (pc := 104) rfl dX11_shelf_104 ?_
                  refine G_getR (pc := 105) (r := 3) (ci := 11) (j := 9) rfl lk_RX11_16 rfl rfl rfl dX11_shelf_105 ?_
                  refine G_iload_n (pc := 108) rfl dX11_shelf_108 ?_
                  refine G_iald (pc := 109) (jj := 2) (v := 0) (by decide) rfl rfl (by unfold vp_in; decide) dX11_shelf_109 ?_
                  refine G_iast (pc := 110) (jj := 0) (by decide) rfl (by unfold vp_in; decide) dX11_shelf_110 ?_
                  refine G_iconst (pc := 111) (v := 1) (by decide) dX11_shelf_111 ?_
                  exact G_iret (pc := 112) (Nat.le_of_ble_eq_true rfl) (Nat.le_of_ble_eq_true rfl) rfl dX11_shelf_112 ⟨_, by first | rfl | (simp [F_shelf, *]; done) | (have : 0 ≤ (what).toInt := Int32.le_iff_toInt_le.mp (c59.1); have : (what).toInt ≤ 2 := Int32.le_iff_toInt_le.mp (c59.2); have : (what).toInt ≠ 0 := g_ne (c60); have : (what).toInt = 1 := congrArg Int32.toInt (c61); have : (what).toInt = 1 := congrArg Int32.toInt (c72); simp only [F_shelf, Int32.le_iff_toInt_le, Int32.lt_iff_toInt_lt, ← Int32.toInt_inj]; simp; omega) | (have : 0 ≤ (what).toInt := Int32.le_iff_toInt_le.mp (c59.1); have : (what).toInt ≤ 2 := Int32.le_iff_toInt_le.mp (c59.2); have : (what).toInt ≠ 0 := g_ne (c60); have : (what).toInt = 1 := congrArg Int32.toInt (c61); have : (what).toInt = 1 := congrArg Int32.toInt (c72); simp only [F_shelf, Int32.le_iff_toInt_le, Int32.lt_iff_toInt_lt, ← Int32.toInt_inj]; split <;> first | rfl | (exfalso; simp at *; omega)) | (have : 0 ≤ (what).toInt := Int32.le_iff_toInt_le.mp (c59.1); have : (what).toInt ≤ 2 := Int32.le_iff_toInt_le.mp (c59.2); have : (what).toInt ≠ 0 := g_ne (c60); have : (what).toInt = 1 := congrArg Int32.toInt (c61); have : (what).toInt = 1 := congrArg Int32.toInt (c72); unfold F_shelf; (repeat' split) <;> first | rfl | (exfalso; (try simp only [Int32.le_iff_toInt_le, Int32.lt_iff_toInt_lt, ← Int32.toInt_inj] at *); first | omega | (simp at *; done) | (simp at *; omega))), rfl, fun a ha => by funext j; simp (disch := omega) only [gup_off, gcp_off]⟩
                by_cases c76 : n = 3
                · subst c76
                  refine G_iald (pc := 76) (jj := 3) (v := (-1)) (by decide) rfl rfl (by unfold vp_in; decide) dX11_shelf_76 ?_
                  refine G_iconst (pc := 77) (v := (-1)) (by decide) dX11_shelf_77 ?_
                  refine G_icmp_ne (pc := 78) (tgt := 85) (by decide) dX11_shelf_78 (fun z => absurd (by decide) z) (fun _ => ?_)
                  refine G_iconst (pc := 81) (v := 2) (by decide) dX11_shelf_81 ?_
                  refine G_goto (pc := 82) (tgt := 86) (by decide) dX11_shelf_82 ?_
                  refine G_iast (pc := 86) (jj := 0) (by decide) rfl (by unfold vp_in; decide) dX11_shelf_86 ?_
                  refine G_aload_n (pc := 87) rfl dX11_shelf_87 ?_
                  refine G_getR (pc := 88) (r := 10) (ci := 11) (j := 12) rfl lk_RX11_27 rfl rfl rfl dX11_shelf_88 ?_
                  refine G_iload_n (pc := 91) rfl dX11_shelf_91 ?_
                  refine G_aload_n (pc := 92) rfl dX11_shelf_92 ?_
                  refine G_getR (pc := 93) (r := 2) (ci := 11) (j := 8) rfl lk_RX11_13 rfl rfl rfl dX11_shelf_93 ?_
                  refine G_iload_n (pc := 96) rfl dX11_shelf_96 ?_
                  refine G_iald (pc := 97) (jj := 3) (v := (-1)) (by decide) rfl rfl (by unfold vp_in; decide) dX11_shelf_97 ?_
                  refine G_iast (pc := 98) (jj := 0) (by decide) rfl (by unfold vp_in; decide) dX11_shelf_98 ?_
                  refine G_aload_n (pc := 99) rfl dX11_shelf_99 ?_
                  refine G_getR (pc := 100) (r := 11) (ci := 11) (j := 13) rfl lk_RX11_30 rfl rfl rfl dX11_shelf_100 ?_
                  refine G_iload_n (pc := 103) rfl dX11_shelf_103 ?_
                  refine G_aload_n (pc := 104) rfl dX11_shelf_104 ?_
                  refine G_getR (pc := 105) (r := 3) (ci := 11) (j := 9) rfl lk_RX11_16 rfl rfl rfl dX11_shelf_105 ?_
                  refine G_iload_n (pc := 108) rfl dX11_shelf_108 ?_
                  refine G_iald (pc := 109) (jj := 3) (v := 0) (by decide) rfl rfl (by unfold vp_in; decide) dX11_shelf_109 ?_
                  refine G_iast (pc := 110) (jj := 0) (by decide) rfl (by unfold vp_in; decide) dX11_shelf_110 ?_
                  refine G_iconst (pc := 111) (v := 1) (by decide) dX11_shelf_111 ?_
                  exact G_iret (pc := 112) (Nat.le_of_ble_eq_true rfl) (Nat.le_of_ble_eq_true rfl) rfl dX11_shelf_112 ⟨_, by first | rfl | (simp [F_shelf, *]; done) | (have : 0 ≤ (what).toInt := Int32.le_iff_toInt_le.mp (c59.1); have : (what).toInt ≤ 2 := Int32.le_iff_toInt_le.mp (c59.2); have : (what).toInt ≠ 0 := g_ne (c60); have : (what).toInt = 1 := congrArg Int32.toInt (c61); have : (what).toInt = 1 := congrArg Int32.toInt (c72); simp only [F_shelf, Int32.le_iff_toInt_le, Int32.lt_iff_toInt_lt, ← Int32.toInt_inj]; simp; omega) | (have : 0 ≤ (what).toInt := Int32.le_iff_toInt_le.mp (c59.1); have : (what).toInt ≤ 2 := Int32.le_iff_toInt_le.mp (c59.2); have : (what).toInt ≠ 0 := g_ne (c60); have : (what).toInt = 1 := congrArg Int32.toInt (c61); have : (what).toInt = 1 := congrArg Int32.toInt (c72); simp only [F_shelf, Int32.le_iff_toInt_le, Int32.lt_iff_toInt_lt, ← Int32.toInt_inj]; split <;> first | rfl | (exfalso; simp at *; omega)) | (have : 0 ≤ (what).toInt := Int32.le_iff_toInt_le.mp (c59.1); have : (what).toInt ≤ 2 := Int32.le_iff_toInt_le.mp (c59.2); have : (what).toInt ≠ 0 := g_ne (c60); have : (what).toInt = 1 := congrArg Int32.toInt (c61); have : (what).toInt = 1 := congrArg Int32.toInt (c72); unfold F_shelf; (repeat' split) <;> first | rfl | (exfalso; (try simp only [Int32.le_iff_toInt_le, Int32.lt_iff_toInt_lt, ← Int32.toInt_inj] at *); first | omega | (simp at *; done) | (simp at *; omega))), rfl, fun a ha => by funext j; simp (disch := omega) only [gup_off, gcp_off]⟩
                exfalso
                have : 0 ≤ (n).toInt := Int32.le_iff_toInt_le.mp (c70.1)
                have : (n).toInt ≤ 3 := Int32.le_iff_toInt_le.mp (c70.2)
                have : (n).toInt ≠ 0 := g_ne (c73)
                have : (n).toInt ≠ 1 := g_ne (c74)
                have : (n).toInt ≠ 2 := g_ne (c75)
                have : (n).toInt ≠ 3 := g_ne (c76)
                omega
            by_cases c77 : shelf = 1
            · subst c77
              refine G_iast (pc := 53) (jj := 1) (by decide) rfl (by unfold vp_in; decide) dX11_shelf_53 ?_
              refine G_aload_n (pc := 54) rfl dX11_shelf_54 ?_
              refine G_getR (pc := 55) (r := 10) (ci := 11) (j := 12) rfl lk_RX11_27 rfl rfl rfl dX11_shelf_55 ?_
              refine G_iload_n (pc := 58) rfl dX11_shelf_58 ?_
              refine G_iload_n (pc := 59) rfl dX11_shelf_59 ?_
              refine G_iast (pc := 60) (jj := 1) (by decide) rfl (by unfold vp_in; decide) dX11_shelf_60 ?_
              refine G_iload_n (pc := 61) rfl dX11_shelf_61 ?_
              refine G_iconst (pc := 62) (v := 1) (by decide) dX11_shelf_62 ?_
              refine G_icmp_ne (pc := 63) (tgt := 111) (by decide) dX11_shelf_63 (fun c78 => ?_) (fun c78 => ?_)
              · exact absurd c61 c78
              · refine G_aload_n (pc := 66) rfl dX11_shelf_66 ?_
                refine G_getR (pc := 67) (r := 9) (ci := 11) (j := 11) rfl lk_RX11_24 rfl rfl rfl dX11_shelf_67 ?_
                refine G_iload_n (pc := 70) rfl dX11_shelf_70 ?_
                refine G_aload_n (pc := 71) rfl dX11_shelf_71 ?_
                refine G_getR (pc := 72) (r := 2) (ci := 11) (j := 8) rfl lk_RX11_13 rfl rfl rfl dX11_shelf_72 ?_
                refine G_iload_n (pc := 75) rfl dX11_shelf_75 ?_
                by_cases c79 : n = 0
                · subst c79
                  refine G_iald (pc := 76) (jj := 0) (v := (-1)) (by decide) rfl rfl (by unfold vp_in; decide) dX11_shelf_76 ?_
                  refine G_iconst (pc := 77) (v := (-1)) (by decide) dX11_shelf_77 ?_
                  refine G_icmp_ne (pc := 78) (tgt := 85) (by decide) dX11_shelf_78 (fun z => absurd (by decide) z) (fun _ => ?_)
                  refine G_iconst (pc := 81) (v := 2) (by decide) dX11_shelf_81 ?_
                  refine G_goto (pc := 82) (tgt := 86) (by decide) dX11_shelf_82 ?_
                  refine G_iast (pc := 86) (jj := 1) (by decide) rfl (by unfold vp_in; decide) dX11_shelf_86 ?_
                  refine G_aload_n (pc := 87) rfl dX11_shelf_87 ?_
                  refine G_getR (pc := 88) (r := 10) (ci := 11) (j := 12) rfl lk_RX11_27 rfl rfl rfl dX11_shelf_88 ?_
                  refine G_iload_n (pc := 91) rfl dX11_shelf_91 ?_
                  refine G_aload_n (pc := 92) rfl dX11_shelf_92 ?_
                  refine G_getR (pc := 93) (r := 2) (ci := 11) (j := 8) rfl lk_RX11_13 rfl rfl rfl dX11_shelf_93 ?_
                  refine G_iload_n (pc := 96) rfl dX11_shelf_96 ?_
                  refine G_iald (pc := 97) (jj := 0) (v := (-1)) (by decide) rfl rfl (by unfold vp_in; decide) dX11_shelf_97 ?_
                  refine G_iast (pc := 98) (jj := 1) (by decide) rfl (by unfold vp_in; decide) dX11_shelf_98 ?_
                  refine G_aload_n (pc := 99) rfl dX11_shelf_99 ?_
                  refine G_getR (pc := 100) (r := 11) (ci := 11) (j := 13) rfl lk_RX11_30 rfl rfl rfl dX11_shelf_100 ?_
                  refine G_iload_n (pc := 103) rfl dX11_shelf_103 ?_
                  refine G_aload_n (pc := 104) rfl dX11_shelf_104 ?_
                  refine G_getR (pc := 105) (r := 3) (ci := 11) (j := 9) rfl lk_RX11_16 rfl rfl rfl dX11_shelf_105 ?_
                  refine G_iload_n (pc := 108) rfl dX11_shelf_108 ?_
                  refine G_iald (pc := 109) (jj := 0) (v := 0) (by decide) rfl rfl (by unfold vp_in; decide) dX11_shelf_109 ?_
                  refine G_iast (pc := 110) (jj := 1) (by decide) rfl (by unfold vp_in; decide) dX11_shelf_110 ?_
                  refine G_iconst (pc := 111) (v := 1) (by decide) dX11_shelf_111 ?_
                  exact G_iret (pc := 112) (Nat.le_of_ble_eq_true rfl) (Nat.le_of_ble_eq_true rfl) rfl dX11_shelf_112 ⟨_, by first | rfl | (simp [F_shelf, *]; done) | (have : 0 ≤ (what).toInt := Int32.le_iff_toInt_le.mp (c59.1); have : (what).toInt ≤ 2 := Int32.le_iff_toInt_le.mp (c59.2); have : (what).toInt ≠ 0 := g_ne (c60); have : (what).toInt = 1 := congrArg Int32.toInt (c61); have : (what).toInt = 1 := congrArg Int32.toInt (c78); simp only [F_shelf, Int32.le_iff_toInt_le, Int32.lt_iff_toInt_lt, ← Int32.toInt_inj]; simp; omega) | (have : 0 ≤ (what).toInt := Int32.le_iff_toInt_le.mp (c59.1); have : (what).toInt ≤ 2 := Int32.le_iff_toInt_le.mp (c59.2); have : (what).toInt ≠ 0 := g_ne (c60); have : (what).toInt = 1 := congrArg Int32.toInt (c61); have : (what).toInt = 1 := congrArg Int32.toInt (c78); simp only [F_shelf, Int32.le_iff_toInt_le, Int32.lt_iff_toInt_lt, ← Int32.toInt_inj]; split <;> first | rfl | (exfalso; simp at *; omega)) | (have : 0 ≤ (what).toInt := Int32.le_iff_toInt_le.mp (c59.1); have : (what).toInt ≤ 2 := Int32.le_iff_toInt_le.mp (c59.2); have : (what).toInt ≠ 0 := g_ne (c60); have : (what).toInt = 1 := congrArg Int32.toInt (c61); have : (what).toInt = 1 := congrArg Int32.toInt (c78); unfold F_shelf; (repeat' split) <;> first | rfl | (exfalso; (try simp only [Int32.le_iff_toInt_le, Int32.lt_iff_toInt_lt, ← Int32.toInt_inj] at *); first | omega | (simp at *; done) | (simp at *; omega))), rfl, fun a ha => by funext j; simp (disch := omega) only [gup_off, gcp_off]⟩
                by_cases c80 : n = 1
                · subst c80
                  refine G_iald (pc := 76) (jj := 1) (v := (-1)) (by decide) rfl rfl (by unfold vp_in; decide) dX11_shelf_76 ?_
                  refine G_iconst (pc := 77) (v := (-1)) (by decide) dX11_shelf_77 ?_
                  refine G_icmp_ne (pc := 78) (tgt := 85) (by decide) dX11_shelf_78 (fun z => absurd (by decide) z) (fun _ => ?_)
                  refine G_iconst (pc := 81) (v := 2) (by decide) dX11_shelf_81 ?_
                  refine G_goto (pc := 82) (tgt := 86) (by decide) dX11_shelf_82 ?_
                  refine G_iast (pc := 86) (jj := 1) (by decide) rfl (by unfold vp_in; decide) dX11_shelf_86 ?_
                  refine G_aload_n (pc := 87) rfl dX11_shelf_87 ?_
                  refine G_getR (pc := 88) (r := 10) (ci := 11) (j := 12) rfl lk_RX11_27 rfl rfl rfl dX11_shelf_88 ?_
                  refine G_iload_n (pc := 91) rfl dX11_shelf_91 ?_
                  refine G_aload_n (pc := 92) rfl dX11_shelf_92 ?_
                  refine G_getR (pc := 93) (r := 2) (ci := 11) (j := 8) rfl lk_RX11_13 rfl rfl rfl dX11_shelf_93 ?_
                  refine G_iload_n (pc := 96) rfl dX11_shelf_96 ?_
                  refine G_iald (pc := 97) (jj := 1) (v := (-1)) (by decide) rfl rfl (by unfold vp_in; decide) dX11_shelf_97 ?_
                  refine G_iast (pc := 98) (jj := 1) (by decide) rfl (by unfold vp_in; decide) dX11_shelf_98 ?_
                  refine G_aload_n (pc := 99) rfl dX11_shelf_99 ?_
                  refine G_getR (pc := 100) (r := 11) (ci := 11) (j := 13) rfl lk_RX11_30 rfl rfl rfl dX11_shelf_100 ?_
                  refine G_iload_n (pc := 103) rfl dX11_shelf_103 ?_
                  refine G_aload_n (pc := 104) rfl dX11_shelf_104 ?_
                  refine G_getR (pc := 105) (r := 3) (ci := 11) (j := 9) rfl lk_RX11_16 rfl rfl rfl dX11_shelf_105 ?_
                  refine G_iload_n (pc := 108) rfl dX11_shelf_108 ?_
                  refine G_iald (pc := 109) (jj := 1) (v := 0) (by decide) rfl rfl (by unfold vp_in; decide) dX11_shelf_109 ?_
                  refine G_iast (pc := 110) (jj := 1) (by decide) rfl (by unfold vp_in; decide) dX11_shelf_110 ?_
                  refine G_iconst (pc := 111) (v := 1) (by decide) dX11_shelf_111 ?_
                  exact G_iret (pc := 112) (Nat.le_of_ble_eq_true rfl) (Nat.le_of_ble_eq_true rfl) rfl dX11_shelf_112 ⟨_, by first | rfl | (simp [F_shelf, *]; done) | (have : 0 ≤ (what).toInt := Int32.le_iff_toInt_le.mp (c59.1); have : (what).toInt ≤ 2 := Int32.le_iff_toInt_le.mp (c59.2); have : (what).toInt ≠ 0 := g_ne (c60); have : (what).toInt = 1 := congrArg Int32.toInt (c61); have : (what).toInt = 1 := congrArg Int32.toInt (c78); simp only [F_shelf, Int32.le_iff_toInt_le, Int32.lt_iff_toInt_lt, ← Int32.toInt_inj]; simp; omega) | (have : 0 ≤ (what).toInt := Int32.le_iff_toInt_le.mp (c59.1); have : (what).toInt ≤ 2 := Int32.le_iff_toInt_le.mp (c59.2); have : (what).toInt ≠ 0 := g_ne (c60); have : (what).toInt = 1 := congrArg Int32.toInt (c61); have : (what).toInt = 1 := congrArg Int32.toInt (c78); simp only [F_shelf, Int32.le_iff_toInt_le, Int32.lt_iff_toInt_lt, ← Int32.toInt_inj]; split <;> first | rfl | (exfalso; simp at *; omega)) | (have : 0 ≤ (what).toInt := Int32.le_iff_toInt_le.mp (c59.1); have : (what).toInt ≤ 2 := Int32.le_iff_toInt_le.mp (c59.2); have : (what).toInt ≠ 0 := g_ne (c60); have : (what).toInt = 1 := congrArg Int32.toInt (c61); have : (what).toInt = 1 := congrArg Int32.toInt (c78); unfold F_shelf; (repeat' split) <;> first | rfl | (exfalso; (try simp only [Int32.le_iff_toInt_le, Int32.lt_iff_toInt_lt, ← Int32.toInt_inj] at *); first | omega | (simp at *; done) | (simp at *; omega))), rfl, fun a ha => by funext j; simp (disch := omega) only [gup_off, gcp_off]⟩
                by_cases c81 : n = 2
                · subst c81
                  refine G_iald (pc := 76) (jj := 2) (v := (-1)) (by decide) rfl rfl (by unfold vp_in; decide) dX11_shelf_76 ?_
                  refine G_iconst (pc := 77) (v := (-1)) (by decide) dX11_shelf_77 ?_
                  refine G_icmp_ne (pc := 78) (tgt := 85) (by decide) dX11_shelf_78 (fun z => absurd (by decide) z) (fun _ => ?_)
                  refine G_iconst (pc := 81) (v := 2) (by decide) dX11_shelf_81 ?_
                  refine G_goto (pc := 82) (tgt := 86) (by decide) dX11_shelf_82 ?_
                  refine G_iast (pc := 86) (jj := 1) (by decide) rfl (by unfold vp_in; decide) dX11_shelf_86 ?_
                  refine G_aload_n (pc := 87) rfl dX11_shelf_87 ?_
                  refine G_getR (pc := 88) (r := 10) (ci := 11) (j := 12) rfl lk_RX11_27 rfl rfl rfl dX11_shelf_88 ?_
                  refine G_iload_n (pc := 91) rfl dX11_shelf_91 ?_
                  refine G_aload_n (pc := 92) rfl dX11_shelf_92 ?_
                  refine G_getR (pc := 93) (r := 2) (ci := 11) (j := 8) rfl lk_RX11_13 rfl rfl rfl dX11_shelf_93 ?_
                  refine G_iload_n (pc := 96) rfl dX11_shelf_96 ?_
                  refine G_iald (pc := 97) (jj := 2) (v := (-1)) (by decide) rfl rfl (by unfold vp_in; decide) dX11_shelf_97 ?_
                  refine G_iast (pc := 98) (jj := 1) (by decide) rfl (by unfold vp_in; decide) dX11_shelf_98 ?_
                  refine G_aload_n (pc := 99) rfl dX11_shelf_99 ?_
                  refine G_getR (pc := 100) (r := 11) (ci := 11) (j := 13) rfl lk_RX11_30 rfl rfl rfl dX11_shelf_100 ?_
                  refine G_iload_n (pc := 103) rfl dX11_shelf_103 ?_
                  refine G_aload_n (pc := 104) rfl dX11_shelf_104 ?_
                  refine G_getR (pc := 105) (r := 3) (ci := 11) (j := 9) rfl lk_RX11_16 rfl rfl rfl dX11_shelf_105 ?_
                  refine G_iload_n (pc := 108) rfl dX11_shelf_108 ?_
                  refine G_iald (pc := 109) (jj := 2) (v := 0) (by decide) rfl rfl (by unfold vp_in; decide) dX11_shelf_109 ?_
                  refine G_iast (pc := 110) (jj := 1) (by decide) rfl (by unfold vp_in; decide) dX11_shelf_110 ?_
                  refine G_iconst (pc := 111) (v := 1) (by decide) dX11_shelf_111 ?_
                  exact G_iret (pc := 112) (Nat.le_of_ble_eq_true rfl) (Nat.le_of_ble_eq_true rfl) rfl dX11_shelf_112 ⟨_, by first | rfl | (simp [F_shelf, *]; done) | (have : 0 ≤ (what).toInt := Int32.le_iff_toInt_le.mp (c59.1); have : (what).toInt ≤ 2 := Int32.le_iff_toInt_le.mp (c59.2); have : (what).toInt ≠ 0 := g_ne (c60); have : (what).toInt = 1 := congrArg Int32.toInt (c61); have : (what).toInt = 1 := congrArg Int32.toInt (c78); simp only [F_shelf, Int32.le_iff_toInt_le, Int32.lt_iff_toInt_lt, ← Int32.toInt_inj]; simp; omega) | (have : 0 ≤ (what).toInt := Int32.le_iff_toInt_le.mp (c59.1); have : (what).toInt ≤ 2 := Int32.le_iff_toInt_le.mp (c59.2); have : (what).toInt ≠ 0 := g_ne (c60); have : (what).toInt = 1 := congrArg Int32.toInt (c61); have : (what).toInt = 1 := congrArg Int32.toInt (c78); simp only [F_shelf, Int32.le_iff_toInt_le, Int32.lt_iff_toInt_lt, ← Int32.toInt_inj]; split <;> first | rfl | (exfalso; simp at *; omega)) | (have : 0 ≤ (what).toInt := Int32.le_iff_toInt_le.mp (c59.1); have : (what).toInt ≤ 2 := Int32.le_iff_toInt_le.mp (c59.2); have : (what).toInt ≠ 0 := g_ne (c60); have : (what).toInt = 1 := congrArg Int32.toInt (c61); have : (what).toInt = 1 := congrArg Int32.toInt (c78); unfold F_shelf; (repeat' split) <;> first | rfl | (exfalso; (try simp only [Int32.le_iff_toInt_le, Int32.lt_iff_toInt_lt, ← Int32.toInt_inj] at *); first | omega | (simp at *; done) | (simp at *; omega))), rfl, fun a ha => by funext j; simp (disch := omega) only [gup_off, gcp_off]⟩
                by_cases c82 : n = 3
                · subst c82
                  refine G_iald (pc := 76) (jj := 3) (v := (-1)) (by decide) rfl rfl (by unfold vp_in; decide) dX11_shelf_76 ?_
                  refine G_iconst (pc := 77) (v := (-1)) (by decide) dX11_shelf_77 ?_
                  refine G_icmp_ne (pc := 78) (tgt := 85) (by decide) dX11_shelf_78 (fun z => absurd (by decide) z) (fun _ => ?_)
                  refine G_iconst (pc := 81) (v := 2) (by decide) dX11_shelf_81 ?_
                  refine G_goto (pc := 82) (tgt := 86) (by decide) dX11_shelf_82 ?_
                  refine G_iast (pc := 86) (jj := 1) (by decide) rfl (by unfold vp_in; decide) dX11_shelf_86 ?_
                  refine G_aload_n (pc := 87) rfl dX11_shelf_87 ?_
                  refine G_getR (pc := 88) (r := 10) (ci := 11) (j := 12) rfl lk_RX11_27 rfl rfl rfl dX11_shelf_88 ?_
                  refine G_iload_n (pc := 91) rfl dX11_shelf_91 ?_
                  refine G_aload_n (pc := 92) rfl dX11_shelf_92 ?_
                  refine G_getR (pc := 93) (r := 2) (ci := 11) (j := 8) rfl lk_RX11_13 rfl rfl rfl dX11_shelf_93 ?_
                  refine G_iload_n (pc := 96) rfl dX11_shelf_96 ?_
                  refine G_iald (pc := 97) (jj := 3) (v := (-1)) (by decide) rfl rfl (by unfold vp_in; decide) dX11_shelf_97 ?_
                  refine G_iast (pc := 98) (jj := 1) (by decide) rfl (by unfold vp_in; decide) dX11_shelf_98 ?_
                  refine G_aload_n (pc := 99) rfl dX11_shelf_99 ?_
                  refine G_getR (pc := 100) (r := 11) (ci := 11) (j := 13) rfl lk_RX11_30 rfl rfl rfl dX11_shelf_100 ?_
                  refine G_iload_n (pc := 103) rfl dX11_shelf_103 ?_
                  refine G_aload_n (pc := 104) rfl dX11_shelf_104 ?_
                  refine G_getR (pc := 105) (r := 3) (ci := 11) (j := 9) rfl lk_RX11_16 rfl rfl rfl dX11_shelf_105 ?_
                  refine G_iload_n (pc := 108) rfl dX11_shelf_108 ?_
                  refine G_iald (pc := 109) (jj := 3) (v := 0) (by decide) rfl rfl (by unfold vp_in; decide) dX11_shelf_109 ?_
                  refine G_iast (pc := 110) (jj := 1) (by decide) rfl (by unfold vp_in; decide) dX11_shelf_110 ?_
                  refine G_iconst (pc := 111) (v := 1) (by decide) dX11_shelf_111 ?_
                  exact G_iret (pc := 112) (Nat.le_of_ble_eq_true rfl) (Nat.le_of_ble_eq_true rfl) rfl dX11_shelf_112 ⟨_, by first | rfl | (simp [F_shelf, *]; done) | (have : 0 ≤ (what).toInt := Int32.le_iff_toInt_le.mp (c59.1); have : (what).toInt ≤ 2 := Int32.le_iff_toInt_le.mp (c59.2); have : (what).toInt ≠ 0 := g_ne (c60); have : (what).toInt = 1 := congrArg Int32.toInt (c61); have : (what).toInt = 1 := congrArg Int32.toInt (c78); simp only [F_shelf, Int32.le_iff_toInt_le, Int32.lt_iff_toInt_lt, ← Int32.toInt_inj]; simp; omega) | (have : 0 ≤ (what).toInt := Int32.le_iff_toInt_le.mp (c59.1); have : (what).toInt ≤ 2 := Int32.le_iff_toInt_le.mp (c59.2); have : (what).toInt ≠ 0 := g_ne (c60); have : (what).toInt = 1 := congrArg Int32.toInt (c61); have : (what).toInt = 1 := congrArg Int32.toInt (c78); simp only [F_shelf, Int32.le_iff_toInt_le, Int32.lt_iff_toInt_lt, ← Int32.toInt_inj]; split <;> first | rfl | (exfalso; simp at *; omega)) | (have : 0 ≤ (what).toInt := Int32.le_iff_toInt_le.mp (c59.1); have : (what).toInt ≤ 2 := Int32.le_iff_toInt_le.mp (c59.2); have : (what).toInt ≠ 0 := g_ne (c60); have : (what).toInt = 1 := congrArg Int32.toInt (c61); have : (what).toInt = 1 := congrArg Int32.toInt (c78); unfold F_shelf; (repeat' split) <;> first | rfl | (exfalso; (try simp only [Int32.le_iff_toInt_le, Int32.lt_iff_toInt_lt, ← Int32.toInt_inj] at *); first | omega | (simp at *; done) | (simp at *; omega))), rfl, fun a ha => by funext j; simp (disch := omega) only [gup_off, gcp_off]⟩
                exfalso
                have : 0 ≤ (n).toInt := Int32.le_iff_toInt_le.mp (c70.1)
                have : (n).toInt ≤ 3 := Int32.le_iff_toInt_le.mp (c70.2)
                have : (n).toInt ≠ 0 := g_ne (c79)
                have : (n).toInt ≠ 1 := g_ne (c80)
                have : (n).toInt ≠ 2 := g_ne (c81)
                have : (n).toInt ≠ 3 := g_ne (c82)
                omega
            by_cases c83 : shelf = 2
            · subst c83
              refine G_iast (pc := 53) (jj := 2) (by decide) rfl (by unfold vp_in; decide) dX11_shelf_53 ?_
              refine G_aload_n (pc := 54) rfl dX11_shelf_54 ?_
              refine G_getR (pc := 55) (r := 10) (ci := 11) (j := 12) rfl lk_RX11_27 rfl rfl rfl dX11_shelf_55 ?_
              refine G_iload_n (pc := 58) rfl dX11_shelf_58 ?_
              refine G_iload_n (pc := 59) rfl dX11_shelf_59 ?_
              refine G_iast (pc := 60) (jj := 2) (by decide) rfl (by unfold vp_in; decide) dX11_shelf_60 ?_
              refine G_iload_n (pc := 61) rfl dX11_shelf_61 ?_
              refine G_iconst (pc := 62) (v := 1) (by decide) dX11_shelf_62 ?_
              refine G_icmp_ne (pc := 63) (tgt := 111) (by decide) dX11_shelf_63 (fun c84 => ?_) (fun c84 => ?_)
              · exact absurd c61 c84
              · refine G_aload_n (pc := 66) rfl dX11_shelf_66 ?_
                refine G_getR (pc := 67) (r := 9) (ci := 11) (j := 11) rfl lk_RX11_24 rfl rfl rfl dX11_shelf_67 ?_
                refine G_iload_n (pc := 70) rfl dX11_shelf_70 ?_
                refine G_aload_n (pc := 71) rfl dX11_shelf_71 ?_
                refine G_getR (pc := 72) (r := 2) (ci := 11) (j := 8) rfl lk_RX11_13 rfl rfl rfl dX11_shelf_72 ?_
                refine G_iload_n (pc := 75) rfl dX11_shelf_75 ?_
                by_cases c85 : n = 0
                · subst c85
                  refine G_iald (pc := 76) (jj := 0) (v := (-1)) (by decide) rfl rfl (by unfold vp_in; decide) dX11_shelf_76 ?_
                  refine G_iconst (pc := 77) (v := (-1)) (by decide) dX11_shelf_77 ?_
                  refine G_icmp_ne (pc := 78) (tgt := 85) (by decide) dX11_shelf_78 (fun z => absurd (by decide) z) (fun _ => ?_)
                  refine G_iconst (pc := 81) (v := 2) (by decide) dX11_shelf_81 ?_
                  refine G_goto (pc := 82) (tgt := 86) (by decide) dX11_shelf_82 ?_
                  refine G_iast (pc := 86) (jj := 2) (by decide) rfl (by unfold vp_in; decide) dX11_shelf_86 ?_
                  refine G_aload_n (pc := 87) rfl dX11_shelf_87 ?_
                  refine G_getR (pc := 88) (r := 10) (ci := 11) (j := 12) rfl lk_RX11_27 rfl rfl rfl dX11_shelf_88 ?_
                  refine G_iload_n (pc := 91) rfl dX11_shelf_91 ?_
                  refine G_aload_n (pc := 92) rfl dX11_shelf_92 ?_
                  refine G_getR (pc := 93) (r := 2) (ci := 11) (j := 8) rfl lk_RX11_13 rfl rfl rfl dX11_shelf_93 ?_
                  refine G_iload_n (pc := 96) rfl dX11_shelf_96 ?_
                  refine G_iald (pc := 97) (jj := 0) (v := (-1)) (by decide) rfl rfl (by unfold vp_in; decide) dX11_shelf_97 ?_
                  refine G_iast (pc := 98) (jj := 2) (by decide) rfl (by unfold vp_in; decide) dX11_shelf_98 ?_
                  refine G_aload_n (pc := 99) rfl dX11_shelf_99 ?_
                  refine G_getR (pc := 100) (r := 11) (ci := 11) (j := 13) rfl lk_RX11_30 rfl rfl rfl dX11_shelf_100 ?_
                  refine G_iload_n (pc := 103) rfl dX11_shelf_103 ?_
                  refine G_aload_n (pc := 104) rfl dX11_shelf_104 ?_
                  refine G_getR (pc := 105) (r := 3) (ci := 11) (j := 9) rfl lk_RX11_16 rfl rfl rfl dX11_shelf_105 ?_
                  refine G_iload_n (pc := 108) rfl dX11_shelf_108 ?_
                  refine G_iald (pc := 109) (jj := 0) (v := 0) (by decide) rfl rfl (by unfold vp_in; decide) dX11_shelf_109 ?_
                  refine G_iast (pc := 110) (jj := 2) (by decide) rfl (by unfold vp_in; decide) dX11_shelf_110 ?_
                  refine G_iconst (pc := 111) (v := 1) (by decide) dX11_shelf_111 ?_
                  exact G_iret (pc := 112) (Nat.le_of_ble_eq_true rfl) (Nat.le_of_ble_eq_true rfl) rfl dX11_shelf_112 ⟨_, by first | rfl | (simp [F_shelf, *]; done) | (have : 0 ≤ (what).toInt := Int32.le_iff_toInt_le.mp (c59.1); have : (what).toInt ≤ 2 := Int32.le_iff_toInt_le.mp (c59.2); have : (what).toInt ≠ 0 := g_ne (c60); have : (what).toInt = 1 := congrArg Int32.toInt (c61); have : (what).toInt = 1 := congrArg Int32.toInt (c84); simp only [F_shelf, Int32.le_iff_toInt_le, Int32.lt_iff_toInt_lt, ← Int32.toInt_inj]; simp; omega) | (have : 0 ≤ (what).toInt := Int32.le_iff_toInt_le.mp (c59.1); have : (what).toInt ≤ 2 := Int32.le_iff_toInt_le.mp (c59.2); have : (what).toInt ≠ 0 := g_ne (c60); have : (what).toInt = 1 := congrArg Int32.toInt (c61); have : (what).toInt = 1 := congrArg Int32.toInt (c84); simp only [F_shelf, Int32.le_iff_toInt_le, Int32.lt_iff_toInt_lt, ← Int32.toInt_inj]; split <;> first | rfl | (exfalso; simp at *; omega)) | (have : 0 ≤ (what).toInt := Int32.le_iff_toInt_le.mp (c59.1); have : (what).toInt ≤ 2 := Int32.le_iff_toInt_le.mp (c59.2); have : (what).toInt ≠ 0 := g_ne (c60); have : (what).toInt = 1 := congrArg Int32.toInt (c61); have : (what).toInt = 1 := congrArg Int32.toInt (c84); unfold F_shelf; (repeat' split) <;> first | rfl | (exfalso; (try simp only [Int32.le_iff_toInt_le, Int32.lt_iff_toInt_lt, ← Int32.toInt_inj] at *); first | omega | (simp at *; done) | (simp at *; omega))), rfl, fun a ha => by funext j; simp (disch := omega) only [gup_off, gcp_off]⟩
                by_cases c86 : n = 1
                · subst c86
                  refine G_iald (pc := 76) (jj := 1) (v := (-1)) (by decide) rfl rfl (by unfold vp_in; decide) dX11_shelf_76 ?_
                  refine G_iconst (pc := 77) (v := (-1)) (by decide) dX11_shelf_77 ?_
                  refine G_icmp_ne (pc := 78) (tgt := 85) (by decide) dX11_shelf_78 (fun z => absurd (by decide) z) (fun _ => ?_)
                  refine G_iconst (pc := 81) (v := 2) (by decide) dX11_shelf_81 ?_
                  refine G_goto (pc := 82) (tgt := 86) (by decide) dX11_shelf_82 ?_
                  refine G_iast (pc := 86) (jj := 2) (by decide) rfl (by unfold vp_in; decide) dX11_shelf_86 ?_
                  refine G_aload_n (pc := 87) rfl dX11_shelf_87 ?_
                  refine G_getR (pc := 88) (r := 10) (ci := 11) (j := 12) rfl lk_RX11_27 rfl rfl rfl dX11_shelf_88 ?_
                  refine G_iload_n (pc := 91) rfl dX11_shelf_91 ?_
                  refine G_aload_n (pc := 92) rfl dX11_shelf_92 ?_
                  refine G_getR (pc := 93) (r := 2) (ci := 11) (j := 8) rfl lk_RX11_13 rfl rfl rfl dX11_shelf_93 ?_
                  refine G_iload_n (pc := 96) rfl dX11_shelf_96 ?_
                  refine G_iald (pc := 97) (jj := 1) (v := (-1)) (by decide) rfl rfl (by unfold vp_in; decide) dX11_shelf_97 ?_
                  refine G_iast (pc := 98) (jj := 2) (by decide) rfl (by unfold vp_in; decide) dX11_shelf_98 ?_
                  refine G_aload_n (pc := 99) rfl dX11_shelf_99 ?_
                  refine G_getR (pc := 100) (r := 11) (ci := 11) (j := 13) rfl lk_RX11_30 rfl rfl rfl dX11_shelf_100 ?_
                  refine G_iload_n (pc := 103) rfl dX11_shelf_103 ?_
                  refine G_aload_n (pc := 104) rfl dX11_shelf_104 ?_
                  refine G_getR (pc := 105) (r := 3) (ci := 11) (j := 9) rfl lk_RX11_16 rfl rfl rfl dX11_shelf_105 ?_
                  refine G_iload_n (pc := 108) rfl dX11_shelf_108 ?_
                  refine G_iald (pc := 109) (jj := 1) (v := 0) (by decide) rfl rfl (by unfold vp_in; decide) dX11_shelf_109 ?_
                  refine G_iast (pc := 110) (jj := 2) (by decide) rfl (by unfold vp_in; decide) dX11_shelf_110 ?_
                  refine G_iconst (pc := 111) (v := 1) (by decide) dX11_shelf_111 ?_
                  exact G_iret (pc := 112) (Nat.le_of_ble_eq_true rfl) (Nat.le_of_ble_eq_true rfl) rfl dX11_shelf_112 ⟨_, by first | rfl | (simp [F_shelf, *]; done) | (have : 0 ≤ (what).toInt := Int32.le_iff_toInt_le.mp (c59.1); have : (what).toInt ≤ 2 := Int32.le_iff_toInt_le.mp (c59.2); have : (what).toInt ≠ 0 := g_ne (c60); have : (what).toInt = 1 := congrArg Int32.toInt (c61); have : (what).toInt = 1 := congrArg Int32.toInt (c84); simp only [F_shelf, Int32.le_iff_toInt_le, Int32.lt_iff_toInt_lt, ← Int32.toInt_inj]; simp; omega) | (have : 0 ≤ (what).toInt := Int32.le_iff_toInt_le.mp (c59.1); have : (what).toInt ≤ 2 := Int32.le_iff_toInt_le.mp (c59.2); have : (what).toInt ≠ 0 := g_ne (c60); have : (what).toInt = 1 := congrArg Int32.toInt (c61); have : (what).toInt = 1 := congrArg Int32.toInt (c84); simp only [F_shelf, Int32.le_iff_toInt_le, Int32.lt_iff_toInt_lt, ← Int32.toInt_inj]; split <;> first | rfl | (exfalso; simp at *; omega)) | (have : 0 ≤ (what).toInt := Int32.le_iff_toInt_le.mp (c59.1); have : (what).toInt ≤ 2 := Int32.le_iff_toInt_le.mp (c59.2); have : (what).toInt ≠ 0 := g_ne (c60); have : (what).toInt = 1 := congrArg Int32.toInt (c61); have : (what).toInt = 1 := congrArg Int32.toInt (c84); unfold F_shelf; (repeat' split) <;> first | rfl | (exfalso; (try simp only [Int32.le_iff_toInt_le, Int32.lt_iff_toInt_lt, ← Int32.toInt_inj] at *); first | omega | (simp at *; done) | (simp at *; omega))), rfl, fun a ha => by funext j; simp (disch := omega) only [gup_off, gcp_off]⟩
                by_cases c87 : n = 2
                · subst c87
                  refine G_iald (pc := 76) (jj := 2) (v := (-1)) (by decide) rfl rfl (by unfold vp_in; decide) dX11_shelf_76 ?_
                  refine G_iconst (pc := 77) (v := (-1)) (by decide) dX11_shelf_77 ?_
                  refine G_icmp_ne (pc := 78) (tgt := 85) (by decide) dX11_shelf_78 (fun z => absurd (by decide) z) (fun _ => ?_)
                  refine G_iconst (pc := 81) (v := 2) (by decide) dX11_shelf_81 ?_
                  refine G_goto (pc := 82) (tgt := 86) (by decide) dX11_shelf_82 ?_
                  refine G_iast (pc := 86) (jj := 2) (by decide) rfl (by unfold vp_in; decide) dX11_shelf_86 ?_
                  refine G_aload_n (pc := 87) rfl dX11_shelf_87 ?_
                  refine G_getR (pc := 88) (r := 10) (ci := 11) (j := 12) rfl lk_RX11_27 rfl rfl rfl dX11_shelf_88 ?_
                  refine G_iload_n (pc := 91) rfl dX11_shelf_91 ?_
                  refine G_aload_n (pc := 92) rfl dX11_shelf_92 ?_
                  refine G_getR (pc := 93) (r := 2) (ci := 11) (j := 8) rfl lk_RX11_13 rfl rfl rfl dX11_shelf_93 ?_
                  refine G_iload_n (pc := 96) rfl dX11_shelf_96 ?_
                  refine G_iald (pc := 97) (jj := 2) (v := (-1)) (by decide) rfl rfl (by unfold vp_in; decide) dX11_shelf_97 ?_
                  refine G_iast (pc := 98) (jj := 2) (by decide) rfl (by unfold vp_in; decide) dX11_shelf_98 ?_
                  refine G_aload_n (pc := 99) rfl dX11_shelf_99 ?_
                  refine G_getR (pc := 100) (r := 11) (ci := 11) (j := 13) rfl lk_RX11_30 rfl rfl rfl dX11_shelf_100 ?_
                  refine G_iload_n (pc := 103) rfl dX11_shelf_103 ?_
                  refine G_aload_n (pc := 104) rfl dX11_shelf_104 ?_
                  refine G_getR (pc := 105) (r := 3) (ci := 11) (j := 9) rfl lk_RX11_16 rfl rfl rfl dX11_shelf_105 ?_
                  refine G_iload_n (pc := 108) rfl dX11_shelf_108 ?_
                  refine G_iald (pc := 109) (jj := 2) (v := 0) (by decide) rfl rfl (by unfold vp_in; decide) dX11_shelf_109 ?_
                  refine G_iast (pc := 110) (jj := 2) (by decide) rfl (by unfold vp_in; decide) dX11_shelf_110 ?_
                  refine G_iconst (pc := 111) (v := 1) (by decide) dX11_shelf_111 ?_
                  exact G_iret (pc := 112) (Nat.le_of_ble_eq_true rfl) (Nat.le_of_ble_eq_true rfl) rfl dX11_shelf_112 ⟨_, by first | rfl | (simp [F_shelf, *]; done) | (have : 0 ≤ (what).toInt := Int32.le_iff_toInt_le.mp (c59.1); have : (what).toInt ≤ 2 := Int32.le_iff_toInt_le.mp (c59.2); have : (what).toInt ≠ 0 := g_ne (c60); have : (what).toInt = 1 := congrArg Int32.toInt (c61); have : (what).toInt = 1 := congrArg Int32.toInt (c84); simp only [F_shelf, Int32.le_iff_toInt_le, Int32.lt_iff_toInt_lt, ← Int32.toInt_inj]; simp; omega) | (have : 0 ≤ (what).toInt := Int32.le_iff_toInt_le.mp (c59.1); have : (what).toInt ≤ 2 := Int32.le_iff_toInt_le.mp (c59.2); have : (what).toInt ≠ 0 := g_ne (c60); have : (what).toInt = 1 := congrArg Int32.toInt (c61); have : (what).toInt = 1 := congrArg Int32.toInt (c84); simp only [F_shelf, Int32.le_iff_toInt_le, Int32.lt_iff_toInt_lt, ← Int32.toInt_inj]; split <;> first | rfl | (exfalso; simp at *; omega)) | (have : 0 ≤ (what).toInt := Int32.le_iff_toInt_le.mp (c59.1); have : (what).toInt ≤ 2 := Int32.le_iff_toInt_le.mp (c59.2); have : (what).toInt ≠ 0 := g_ne (c60); have : (what).toInt = 1 := congrArg Int32.toInt (c61); have : (what).toInt = 1 := congrArg Int32.toInt (c84); unfold F_shelf; (repeat' split) <;> first | rfl | (exfalso; (try simp only [Int32.le_iff_toInt_le, Int32.lt_iff_toInt_lt, ← Int32.toInt_inj] at *); first | omega | (simp at *; done) | (simp at *; omega))), rfl, fun a ha => by funext j; simp (disch := omega) only [gup_off, gcp_off]⟩
                by_cases c88 : n = 3
                · subst c88
                  refine G_iald (pc := 76) (jj := 3) (v := (-1)) (by decide) rfl rfl (by unfold vp_in; decide) dX11_shelf_76 ?_
                  refine G_iconst (pc := 77) (v := (-1)) (by decide) dX11_shelf_77 ?_
                  refine G_icmp_ne (pc := 78) (tgt := 85) (by decide) dX11_shelf_78 (fun z => absurd (by decide) z) (fun _ => ?_)
                  refine G_iconst (pc := 81) (v := 2) (by decide) dX11_shelf_81 ?_
                  refine G_goto (pc := 82) (tgt := 86) (by decide) dX11_shelf_82 ?_
                  refine G_iast (pc := 86) (jj := 2) (by decide) rfl (by unfold vp_in; decide) dX11_shelf_86 ?_
                  refine G_aload_n (pc := 87) rfl dX11_shelf_87 ?_
                  refine G_getR (pc := 88) (r := 10) (ci := 11) (j := 12) rfl lk_RX11_27 rfl rfl rfl dX11_shelf_88 ?_
                  refine G_iload_n (pc := 91) rfl dX11_shelf_91 ?_
                  refine G_aload_n (pc := 92) rfl dX11_shelf_92 ?_
                  refine G_getR (pc := 93) (r := 2) (ci := 11) (j := 8) rfl lk_RX11_13 rfl rfl rfl dX11_shelf_93 ?_
                  refine G_iload_n (pc := 96) rfl dX11_shelf_96 ?_
                  refine G_iald (pc := 97) (jj := 3) (v := (-1)) (by decide) rfl rfl (by unfold vp_in; decide) dX11_shelf_97 ?_
                  refine G_iast (pc := 98) (jj := 2) (by decide) rfl (by unfold vp_in; decide) dX11_shelf_98 ?_
                  refine G_aload_n (pc := 99) rfl dX11_shelf_99 ?_
                  refine G_getR (pc := 100) (r := 11) (ci := 11) (j := 13) rfl lk_RX11_30 rfl rfl rfl dX11_shelf_100 ?_
                  refine G_iload_n (pc := 103) rfl dX11_shelf_103 ?_
                  refine G_aload_n (pc := 104) rfl dX11_shelf_104 ?_
                  refine G_getR (pc := 105) (r := 3) (ci := 11) (j := 9) rfl lk_RX11_16 rfl rfl rfl dX11_shelf_105 ?_
                  refine G_iload_n (pc := 108) rfl dX11_shelf_108 ?_
                  refine G_iald (pc := 109) (jj := 3) (v := 0) (by decide) rfl rfl (by unfold vp_in; decide) dX11_shelf_109 ?_
                  refine G_iast (pc := 110) (jj := 2) (by decide) rfl (by unfold vp_in; decide) dX11_shelf_110 ?_
                  refine G_iconst (pc := 111) (v := 1) (by decide) dX11_shelf_111 ?_
                  exact G_iret (pc := 112) (Nat.le_of_ble_eq_true rfl) (Nat.le_of_ble_eq_true rfl) rfl dX11_shelf_112 ⟨_, by first | rfl | (simp [F_shelf, *]; done) | (have : 0 ≤ (what).toInt := Int32.le_iff_toInt_le.mp (c59.1); have : (what).toInt ≤ 2 := Int32.le_iff_toInt_le.mp (c59.2); have : (what).toInt ≠ 0 := g_ne (c60); have : (what).toInt = 1 := congrArg Int32.toInt (c61); have : (what).toInt = 1 := congrArg Int32.toInt (c84); simp only [F_shelf, Int32.le_iff_toInt_le, Int32.lt_iff_toInt_lt, ← Int32.toInt_inj]; simp; omega) | (have : 0 ≤ (what).toInt := Int32.le_iff_toInt_le.mp (c59.1); have : (what).toInt ≤ 2 := Int32.le_iff_toInt_le.mp (c59.2); have : (what).toInt ≠ 0 := g_ne (c60); have : (what).toInt = 1 := congrArg Int32.toInt (c61); have : (what).toInt = 1 := congrArg Int32.toInt (c84); simp only [F_shelf, Int32.le_iff_toInt_le, Int32.lt_iff_toInt_lt, ← Int32.toInt_inj]; split <;> first | rfl | (exfalso; simp at *; omega)) | (have : 0 ≤ (what).toInt := Int32.le_iff_toInt_le.mp (c59.1); have : (what).toInt ≤ 2 := Int32.le_iff_toInt_le.mp (c59.2); have : (what).toInt ≠ 0 := g_ne (c60); have : (what).toInt = 1 := congrArg Int32.toInt (c61); have : (what).toInt = 1 := congrArg Int32.toInt (c84); unfold F_shelf; (repeat' split) <;> first | rfl | (exfalso; (try simp only [Int32.le_iff_toInt_le, Int32.lt_iff_toInt_lt, ← Int32.toInt_inj] at *); first | omega | (simp at *; done) | (simp at *; omega))), rfl, fun a ha => by funext j; simp (disch := omega) only [gup_off, gcp_off]⟩
                exfalso
                have : 0 ≤ (n).toInt := Int32.le_iff_toInt_le.mp (c70.1)
                have : (n).toInt ≤ 3 := Int32.le_iff_toInt_le.mp (c70.2)
                have : (n).toInt ≠ 0 := g_ne (c85)
                have : (n).toInt ≠ 1 := g_ne (c86)
                have : (n).toInt ≠ 2 := g_ne (c87)
                have : (n).toInt ≠ 3 := g_ne (c88)
                omega
            by_cases c89 : shelf = 3
            · subst c89
              refine G_iast (pc := 53) (jj := 3) (by decide) rfl (by unfold vp_in; decide) dX11_shelf_53 ?_
              refine G_aload_n (pc := 54) rfl dX11_shelf_54 ?_
              refine G_getR (pc := 55) (r := 10) (ci := 11) (j := 12) rfl lk_RX11_27 rfl rfl rfl dX11_shelf_55 ?_
              refine G_iload_n (pc := 58) rfl dX11_shelf_58 ?_
              refine G_iload_n (pc := 59) rfl dX11_shelf_59 ?_
              refine G_iast (pc := 60) (jj := 3) (by decide) rfl (by unfold vp_in; decide) dX11_shelf_60 ?_
              refine G_iload_n (pc := 61) rfl dX11_shelf_61 ?_
              refine G_iconst (pc := 62) (v := 1) (by decide) dX11_shelf_62 ?_
              refine G_icmp_ne (pc := 63) (tgt := 111) (by decide) dX11_shelf_63 (fun c90 => ?_) (fun c90 => ?_)
              · exact absurd c61 c90
              · refine G_aload_n (pc := 66) rfl dX11_shelf_66 ?_
                refine G_getR (pc := 67) (r := 9) (ci := 11) (j := 11) rfl lk_RX11_24 rfl rfl rfl dX11_shelf_67 ?_
                refine G_iload_n (pc := 70) rfl dX11_shelf_70 ?_
                refine G_aload_n (pc := 71) rfl dX11_shelf_71 ?_
                refine G_getR (pc := 72) (r := 2) (ci := 11) (j := 8) rfl lk_RX11_13 rfl rfl rfl dX11_shelf_72 ?_
                refine G_iload_n (pc := 75) rfl dX11_shelf_75 ?_
                by_cases c91 : n = 0
                · subst c91
                  refine G_iald (pc := 76) (jj := 0) (v := (-1)) (by decide) rfl rfl (by unfold vp_in; decide) dX11_shelf_76 ?_
                  refine G_iconst (pc := 77) (v := (-1)) (by decide) dX11_shelf_77 ?_
                  refine G_icmp_ne (pc := 78) (tgt := 85) (by decide) dX11_shelf_78 (fun z => absurd (by decide) z) (fun _ => ?_)
                  refine G_iconst (pc := 81) (v := 2) (by decide) dX11_shelf_81 ?_
                  refine G_goto (pc := 82) (tgt := 86) (by decide) dX11_shelf_82 ?_
                  refine G_iast (pc := 86) (jj := 3) (by decide) rfl (by unfold vp_in; decide) dX11_shelf_86 ?_
                  refine G_aload_n (pc := 87) rfl dX11_shelf_87 ?_
                  refine G_getR (pc := 88) (r := 10) (ci := 11) (j := 12) rfl lk_RX11_27 rfl rfl rfl dX11_shelf_88 ?_
                  refine G_iload_n (pc := 91) rfl dX11_shelf_91 ?_
                  refine G_aload_n (pc := 92) rfl dX11_shelf_92 ?_
                  refine G_getR (pc := 93) (r := 2) (ci := 11) (j := 8) rfl lk_RX11_13 rfl rfl rfl dX11_shelf_93 ?_
                  refine G_iload_n (pc := 96) rfl dX11_shelf_96 ?_
                  refine G_iald (pc := 97) (jj := 0) (v := (-1)) (by decide) rfl rfl (by unfold vp_in; decide) dX11_shelf_97 ?_
                  refine G_iast (pc := 98) (jj := 3) (by decide) rfl (by unfold vp_in; decide) dX11_shelf_98 ?_
                  refine G_aload_n (pc := 99) rfl dX11_shelf_99 ?_
                  refine G_getR (pc := 100) (r := 11) (ci := 11) (j := 13) rfl lk_RX11_30 rfl rfl rfl dX11_shelf_100 ?_
                  refine G_iload_n (pc := 103) rfl dX11_shelf_103 ?_
                  refine G_aload_n (pc := 104) rfl dX11_shelf_104 ?_
                  refine G_getR (pc := 105) (r := 3) (ci := 11) (j := 9) rfl lk_RX11_16 rfl rfl rfl dX11_shelf_105 ?_
                  refine G_iload_n (pc := 108) rfl dX11_shelf_108 ?_
                  refine G_iald (pc := 109) (jj := 0) (v := 0) (by decide) rfl rfl (by unfold vp_in; decide) dX11_shelf_109 ?_
                  refine G_iast (pc := 110) (jj := 3) (by decide) rfl (by unfold vp_in; decide) dX11_shelf_110 ?_
                  refine G_iconst (pc := 111) (v := 1) (by decide) dX11_shelf_111 ?_
                  exact G_iret (pc := 112) (Nat.le_of_ble_eq_true rfl) (Nat.le_of_ble_eq_true rfl) rfl dX11_shelf_112 ⟨_, by first | rfl | (simp [F_shelf, *]; done) | (have : 0 ≤ (what).toInt := Int32.le_iff_toInt_le.mp (c59.1); have : (what).toInt ≤ 2 := Int32.le_iff_toInt_le.mp (c59.2); have : (what).toInt ≠ 0 := g_ne (c60); have : (what).toInt = 1 := congrArg Int32.toInt (c61); have : (what).toInt = 1 := congrArg Int32.toInt (c90); simp only [F_shelf, Int32.le_iff_toInt_le, Int32.lt_iff_toInt_lt, ← Int32.toInt_inj]; simp; omega) | (have : 0 ≤ (what).toInt := Int32.le_iff_toInt_le.mp (c59.1); have : (what).toInt ≤ 2 := Int32.le_iff_toInt_le.mp (c59.2); have : (what).toInt ≠ 0 := g_ne (c60); have : (what).toInt = 1 := congrArg Int32.toInt (c61); have : (what).toInt = 1 := congrArg Int32.toInt (c90); simp only [F_shelf, Int32.le_iff_toInt_le, Int32.lt_iff_toInt_lt, ← Int32.toInt_inj]; split <;> first | rfl | (exfalso; simp at *; omega)) | (have : 0 ≤ (what).toInt := Int32.le_iff_toInt_le.mp (c59.1); have : (what).toInt ≤ 2 := Int32.le_iff_toInt_le.mp (c59.2); have : (what).toInt ≠ 0 := g_ne (c60); have : (what).toInt = 1 := congrArg Int32.toInt (c61); have : (what).toInt = 1 := congrArg Int32.toInt (c90); unfold F_shelf; (repeat' split) <;> first | rfl | (exfalso; (try simp only [Int32.le_iff_toInt_le, Int32.lt_iff_toInt_lt, ← Int32.toInt_inj] at *); first | omega | (simp at *; done) | (simp at *; omega))), rfl, fun a ha => by funext j; simp (disch := omega) only [gup_off, gcp_off]⟩
                by_cases c92 : n = 1
                · subst c92
                  refine G_iald (pc := 76) (jj := 1) (v := (-1)) (by decide) rfl rfl (by unfold vp_in; decide) dX11_shelf_76 ?_
                  refine G_iconst (pc := 77) (v := (-1)) (by decide) dX11_shelf_77 ?_
                  refine G_icmp_ne (pc := 78) (tgt := 85) (by decide) dX11_shelf_78 (fun z => absurd (by decide) z) (fun _ => ?_)
                  refine G_iconst (pc := 81) (v := 2) (by decide) dX11_shelf_81 ?_
                  refine G_goto (pc := 82) (tgt := 86) (by decide) dX11_shelf_82 ?_
                  refine G_iast (pc := 86) (jj := 3) (by decide) rfl (by unfold vp_in; decide) dX11_shelf_86 ?_
                  refine G_aload_n (pc := 87) rfl dX11_shelf_87 ?_
                  refine G_getR (pc := 88) (r := 10) (ci := 11) (j := 12) rfl lk_RX11_27 rfl rfl rfl dX11_shelf_88 ?_
                  refine G_iload_n (pc := 91) rfl dX11_shelf_91 ?_
                  refine G_aload_n (pc := 92) rfl dX11_shelf_92 ?_
                  refine G_getR (pc := 93) (r := 2) (ci := 11) (j := 8) rfl lk_RX11_13 rfl rfl rfl dX11_shelf_93 ?_
                  refine G_iload_n (pc := 96) rfl dX11_shelf_96 ?_
                  refine G_iald (pc := 97) (jj := 1) (v := (-1)) (by decide) rfl rfl (by unfold vp_in; decide) dX11_shelf_97 ?_
                  refine G_iast (pc := 98) (jj := 3) (by decide) rfl (by unfold vp_in; decide) dX11_shelf_98 ?_
                  refine G_aload_n (pc := 99) rfl dX11_shelf_99 ?_
                  refine G_getR (pc := 100) (r := 11) (ci := 11) (j := 13) rfl lk_RX11_30 rfl rfl rfl dX11_shelf_100 ?_
                  refine G_iload_n (pc := 103) rfl dX11_shelf_103 ?_
                  refine G_aload_n (pc := 104) rfl dX11_shelf_104 ?_
                  refine G_getR (pc := 105) (r := 3) (ci := 11) (j := 9) rfl lk_RX11_16 rfl rfl rfl dX11_shelf_105 ?_
                  refine G_iload_n (pc := 108) rfl dX11_shelf_108 ?_
                  refine G_iald (pc := 109) (jj := 1) (v := 0) (by decide) rfl rfl (by unfold vp_in; decide) dX11_shelf_109 ?_
                  refine G_iast (pc := 110) (jj := 3) (by decide) rfl (by unfold vp_in; decide) dX11_shelf_110 ?_
                  refine G_iconst (pc := 111) (v := 1) (by decide) dX11_shelf_111 ?_
                  exact G_iret (pc := 112) (Nat.le_of_ble_eq_true rfl) (Nat.le_of_ble_eq_true rfl) rfl dX11_shelf_112 ⟨_, by first | rfl | (simp [F_shelf, *]; done) | (have : 0 ≤ (what).toInt := Int32.le_iff_toInt_le.mp (c59.1); have : (what).toInt ≤ 2 := Int32.le_iff_toInt_le.mp (c59.2); have : (what).toInt ≠ 0 := g_ne (c60); have : (what).toInt = 1 := congrArg Int32.toInt (c61); have : (what).toInt = 1 := congrArg Int32.toInt (c90); simp only [F_shelf, Int32.le_iff_toInt_le, Int32.lt_iff_toInt_lt, ← Int32.toInt_inj]; simp; omega) | (have : 0 ≤ (what).toInt := Int32.le_iff_toInt_le.mp (c59.1); have : (what).toInt ≤ 2 := Int32.le_iff_toInt_le.mp (c59.2); have : (what).toInt ≠ 0 := g_ne (c60); have : (what).toInt = 1 := congrArg Int32.toInt (c61); have : (what).toInt = 1 := congrArg Int32.toInt (c90); simp only [F_shelf, Int32.le_iff_toInt_le, Int32.lt_iff_toInt_lt, ← Int32.toInt_inj]; split <;> first | rfl | (exfalso; simp at *; omega)) | (have : 0 ≤ (what).toInt := Int32.le_iff_toInt_le.mp (c59.1); have : (what).toInt ≤ 2 := Int32.le_iff_toInt_le.mp (c59.2); have : (what).toInt ≠ 0 := g_ne (c60); have : (what).toInt = 1 := congrArg Int32.toInt (c61); have : (what).toInt = 1 := congrArg Int32.toInt (c90); unfold F_shelf; (repeat' split) <;> first | rfl | (exfalso; (try simp only [Int32.le_iff_toInt_le, Int32.lt_iff_toInt_lt, ← Int32.toInt_inj] at *); first | omega | (simp at *; done) | (simp at *; omega))), rfl, fun a ha => by funext j; simp (disch := omega) only [gup_off, gcp_off]⟩
                by_cases c93 : n = 2
                · subst c93
                  refine G_iald (pc := 76) (jj := 2) (v := (-1)) (by decide) rfl rfl (by unfold vp_in; decide) dX11_shelf_76 ?_
                  refine G_iconst (pc := 77) (v := (-1)) (by decide) dX11_shelf_77 ?_
                  refine G_icmp_ne (pc := 78) (tgt := 85) (by decide) dX11_shelf_78 (fun z => absurd (by decide) z) (fun _ => ?_)
                  refine G_iconst (pc := 81) (v := 2) (by decide) dX11_shelf_81 ?_
                  refine G_goto (pc := 82) (tgt := 86) (by decide) dX11_shelf_82 ?_
                  refine G_iast (pc := 86) (jj := 3) (by decide) rfl (by unfold vp_in; decide) dX11_shelf_86 ?_
                  refine G_aload_n (pc := 87) rfl dX11_shelf_87 ?_
                  refine G_getR (pc := 88) (r := 10) (ci := 11) (j := 12) rfl lk_RX11_27 rfl rfl rfl dX11_shelf_88 ?_
                  refine G_iload_n (pc := 91) rfl dX11_shelf_91 ?_
                  refine G_aload_n (pc := 92) rfl dX11_shelf_92 ?_
                  refine G_getR (pc := 93) (r := 2) (ci := 11) (j := 8) rfl lk_RX11_13 rfl rfl rfl dX11_shelf_93 ?_
                  refine G_iload_n (pc := 96) rfl dX11_shelf_96 ?_
                  refine G_iald (pc := 97) (jj := 2) (v := (-1)) (by decide) rfl rfl (by unfold vp_in; decide) dX11_shelf_97 ?_
                  refine G_iast (pc := 98) (jj := 3) (by decide) rfl (by unfold vp_in; decide) dX11_shelf_98 ?_
                  refine G_aload_n (pc := 99) rfl dX11_shelf_99 ?_
                  refine G_getR (pc := 100) (r := 11) (ci := 11) (j := 13) rfl lk_RX11_30 rfl rfl rfl dX11_shelf_100 ?_
                  refine G_iload_n (pc := 103) rfl dX11_shelf_103 ?_
                  refine G_aload_n (pc := 104) rfl dX11_shelf_104 ?_
                  refine G_getR (pc := 105) (r := 3) (ci := 11) (j := 9) rfl lk_RX11_16 rfl rfl rfl dX11_shelf_105 ?_
                  refine G_iload_n (pc := 108) rfl dX11_shelf_108 ?_
                  refine G_iald (pc := 109) (jj := 2) (v := 0) (by decide) rfl rfl (by unfold vp_in; decide) dX11_shelf_109 ?_
                  refine G_iast (pc := 110) (jj := 3) (by decide) rfl (by unfold vp_in; decide) dX11_shelf_110 ?_
                  refine G_iconst (pc := 111) (v := 1) (by decide) dX11_shelf_111 ?_
                  exact G_iret (pc := 112) (Nat.le_of_ble_eq_true rfl) (Nat.le_of_ble_eq_true rfl) rfl dX11_shelf_112 ⟨_, by first | rfl | (simp [F_shelf, *]; done) | (have : 0 ≤ (what).toInt := Int32.le_iff_toInt_le.mp (c59.1); have : (what).toInt ≤ 2 := Int32.le_iff_toInt_le.mp (c59.2); have : (what).toInt ≠ 0 := g_ne (c60); have : (what).toInt = 1 := congrArg Int32.toInt (c61); have : (what).toInt = 1 := congrArg Int32.toInt (c90); simp only [F_shelf, Int32.le_iff_toInt_le, Int32.lt_iff_toInt_lt, ← Int32.toInt_inj]; simp; omega) | (have : 0 ≤ (what).toInt := Int32.le_iff_toInt_le.mp (c59.1); have : (what).toInt ≤ 2 := Int32.le_iff_toInt_le.mp (c59.2); have : (what).toInt ≠ 0 := g_ne (c60); have : (what).toInt = 1 := congrArg Int32.toInt (c61); have : (what).toInt = 1 := congrArg Int32.toInt (c90); simp only [F_shelf, Int32.le_iff_toInt_le, Int32.lt_iff_toInt_lt, ← Int32.toInt_inj]; split <;> first | rfl | (exfalso; simp at *; omega)) | (have : 0 ≤ (what).toInt := Int32.le_iff_toInt_le.mp (c59.1); have : (what).toInt ≤ 2 := Int32.le_iff_toInt_le.mp (c59.2); have : (what).toInt ≠ 0 := g_ne (c60); have : (what).toInt = 1 := congrArg Int32.toInt (c61); have : (what).toInt = 1 := congrArg Int32.toInt (c90); unfold F_shelf; (repeat' split) <;> first | rfl | (exfalso; (try simp only [Int32.le_iff_toInt_le, Int32.lt_iff_toInt_lt, ← Int32.toInt_inj] at *); first | omega | (simp at *; done) | (simp at *; omega))), rfl, fun a ha => by funext j; simp (disch := omega) only [gup_off, gcp_off]⟩
                by_cases c94 : n = 3
                · subst c94
                  refine G_iald (pc := 76) (jj := 3) (v := (-1)) (by decide) rfl rfl (by unfold vp_in; decide) dX11_shelf_76 ?_
                  refine G_iconst (pc := 77) (v := (-1)) (by decide) dX11_shelf_77 ?_
                  refine G_icmp_ne (pc := 78) (tgt := 85) (by decide) dX11_shelf_78 (fun z => absurd (by decide) z) (fun _ => ?_)
                  refine G_iconst (pc := 81) (v := 2) (by decide) dX11_shelf_81 ?_
                  refine G_goto (pc := 82) (tgt := 86) (by decide) dX11_shelf_82 ?_
                  refine G_iast (pc := 86) (jj := 3) (by decide) rfl (by unfold vp_in; decide) dX11_shelf_86 ?_
                  refine G_aload_n (pc := 87) rfl dX11_shelf_87 ?_
                  refine G_getR (pc := 88) (r := 10) (ci := 11) (j := 12) rfl lk_RX11_27 rfl rfl rfl dX11_shelf_88 ?_
                  refine G_iload_n (pc := 91) rfl dX11_shelf_91 ?_
                  refine G_aload_n (pc := 92) rfl dX11_shelf_92 ?_
                  refine G_getR (pc := 93) (r := 2) (ci := 11) (j := 8) rfl lk_RX11_13 rfl rfl rfl dX11_shelf_93 ?_
                  refine G_iload_n (pc := 96) rfl dX11_shelf_96 ?_
                  refine G_iald (pc := 97) (jj := 3) (v := (-1)) (by decide) rfl rfl (by unfold vp_in; decide) dX11_shelf_97 ?_
                  refine G_iast (pc := 98) (jj := 3) (by decide) rfl (by unfold vp_in; decide) dX11_shelf_98 ?_
                  refine G_aload_n (pc := 99) rfl dX11_shelf_99 ?_
                  refine G_getR (pc := 100) (r := 11) (ci := 11) (j := 13) rfl lk_RX11_30 rfl rfl rfl dX11_shelf_100 ?_
                  refine G_iload_n (pc := 103) rfl dX11_shelf_103 ?_
                  refine G_aload_n (pc := 104) rfl dX11_shelf_104 ?_
                  refine G_getR (pc := 105) (r := 3) (ci := 11) (j := 9) rfl lk_RX11_16 rfl rfl rfl dX11_shelf_105 ?_
                  refine G_iload_n (pc := 108) rfl dX11_shelf_108 ?_
                  refine G_iald (pc := 109) (jj := 3) (v := 0) (by decide) rfl rfl (by unfold vp_in; decide) dX11_shelf_109 ?_
                  refine G_iast (pc := 110) (jj := 3) (by decide) rfl (by unfold vp_in; decide) dX11_shelf_110 ?_
                  refine G_iconst (pc := 111) (v := 1) (by decide) dX11_shelf_111 ?_
                  exact G_iret (pc := 112) (Nat.le_of_ble_eq_true rfl) (Nat.le_of_ble_eq_true rfl) rfl dX11_shelf_112 ⟨_, by first | rfl | (simp [F_shelf, *]; done) | (have : 0 ≤ (what).toInt := Int32.le_iff_toInt_le.mp (c59.1); have : (what).toInt ≤ 2 := Int32.le_iff_toInt_le.mp (c59.2); have : (what).toInt ≠ 0 := g_ne (c60); have : (what).toInt = 1 := congrArg Int32.toInt (c61); have : (what).toInt = 1 := congrArg Int32.toInt (c90); simp only [F_shelf, Int32.le_iff_toInt_le, Int32.lt_iff_toInt_lt, ← Int32.toInt_inj]; simp; omega) | (have : 0 ≤ (what).toInt := Int32.le_iff_toInt_le.mp (c59.1); have : (what).toInt ≤ 2 := Int32.le_iff_toInt_le.mp (c59.2); have : (what).toInt ≠ 0 := g_ne (c60); have : (what).toInt = 1 := congrArg Int32.toInt (c61); have : (what).toInt = 1 := congrArg Int32.toInt (c90); simp only [F_shelf, Int32.le_iff_toInt_le, Int32.lt_iff_toInt_lt, ← Int32.toInt_inj]; split <;> first | rfl | (exfalso; simp at *; omega)) | (have : 0 ≤ (what).toInt := Int32.le_iff_toInt_le.mp (c59.1); have : (what).toInt ≤ 2 := Int32.le_iff_toInt_le.mp (c59.2); have : (what).toInt ≠ 0 := g_ne (c60); have : (what).toInt = 1 := congrArg Int32.toInt (c61); have : (what).toInt = 1 := congrArg Int32.toInt (c90); unfold F_shelf; (repeat' split) <;> first | rfl | (exfalso; (try simp only [Int32.le_iff_toInt_le, Int32.lt_iff_toInt_lt, ← Int32.toInt_inj] at *); first | omega | (simp at *; done) | (simp at *; omega))), rfl, fun a ha => by funext j; simp (disch := omega) only [gup_off, gcp_off]⟩
                exfalso
                have : 0 ≤ (n).toInt := Int32.le_iff_toInt_le.mp (c70.1)
                have : (n).toInt ≤ 3 := Int32.le_iff_toInt_le.mp (c70.2)
                have : (n).toInt ≠ 0 := g_ne (c91)
                have : (n).toInt ≠ 1 := g_ne (c92)
                have : (n).toInt ≠ 2 := g_ne (c93)
                have : (n).toInt ≠ 3 := g_ne (c94)
                omega
            exfalso
            have : 0 ≤ (shelf).toInt := Int32.le_iff_toInt_le.mp (c58.1)
            have : (shelf).toInt ≤ 3 := Int32.le_iff_toInt_le.mp (c58.2)
            have : (shelf).toInt ≠ 0 := g_ne (c71)
            have : (shelf).toInt ≠ 1 := g_ne (c77)
            have : (shelf).toInt ≠ 2 := g_ne (c83)
            have : (shelf).toInt ≠ 3 := g_ne (c89)
            omega
          · have c70 := gB_z c70
            refine G_iconst (pc := 45) (v := (-1)) (by decide) dX11_shelf_45 ?_
            exact G_iret (pc := 46) (Nat.le_of_ble_eq_true rfl) (Nat.le_of_ble_eq_true rfl) rfl dX11_shelf_46 ⟨_, by first | rfl | (simp [F_shelf, *]; done) | (have : 0 ≤ (shelf).toInt := Int32.le_iff_toInt_le.mp (c58.1); have : (shelf).toInt ≤ 3 := Int32.le_iff_toInt_le.mp (c58.2); have : 0 ≤ (what).toInt := Int32.le_iff_toInt_le.mp (c59.1); have : (what).toInt ≤ 2 := Int32.le_iff_toInt_le.mp (c59.2); have : (what).toInt ≠ 0 := g_ne (c60); have : (what).toInt = 1 := congrArg Int32.toInt (c61); have : ¬ (0 ≤ (n).toInt ∧ (n).toInt ≤ 3) := fun z => c70 ⟨Int32.le_iff_toInt_le.mpr z.1, Int32.le_iff_toInt_le.mpr z.2⟩; simp only [F_shelf, Int32.le_iff_toInt_le, Int32.lt_iff_toInt_lt, ← Int32.toInt_inj]; simp; omega) | (have : 0 ≤ (shelf).toInt := Int32.le_iff_toInt_le.mp (c58.1); have : (shelf).toInt ≤ 3 := Int32.le_iff_toInt_le.mp (c58.2); have : 0 ≤ (what).toInt := Int32.le_iff_toInt_le.mp (c59.1); have : (what).toInt ≤ 2 := Int32.le_iff_toInt_le.mp (c59.2); have : (what).toInt ≠ 0 := g_ne (c60); have : (what).toInt = 1 := congrArg Int32.toInt (c61); have : ¬ (0 ≤ (n).toInt ∧ (n).toInt ≤ 3) := fun z => c70 ⟨Int32.le_iff_toInt_le.mpr z.1, Int32.le_iff_toInt_le.mpr z.2⟩; simp only [F_shelf, Int32.le_iff_toInt_le, Int32.lt_iff_toInt_lt, ← Int32.toInt_inj]; split <;> first | rfl | (exfalso; simp at *; omega)) | (have : 0 ≤ (shelf).toInt := Int32.le_iff_toInt_le.mp (c58.1); have : (shelf).toInt ≤ 3 := Int32.le_iff_toInt_le.mp (c58.2); have : 0 ≤ (what).toInt := Int32.le_iff_toInt_le.mp (c59.1); have : (what).toInt ≤ 2 := Int32.le_iff_toInt_le.mp (c59.2); have : (what).toInt ≠ 0 := g_ne (c60); have : (what).toInt = 1 := congrArg Int32.toInt (c61); have : ¬ (0 ≤ (n).toInt ∧ (n).toInt ≤ 3) := fun z => c70 ⟨Int32.le_iff_toInt_le.mpr z.1, Int32.le_iff_toInt_le.mpr z.2⟩; unfold F_shelf; (repeat' split) <;> first | rfl | (exfalso; (try simp only [Int32.le_iff_toInt_le, Int32.lt_iff_toInt_lt, ← Int32.toInt_inj] at *); first | omega | (simp at *; done) | (simp at *; omega))), rfl, fun _ _ => rfl⟩
      · refine G_aload_n (pc := 22) rfl dX11_shelf_22 ?_
        refine G_getR (pc := 23) (r := 19) (ci := 11) (j := 0) rfl lk_RX11_56 rfl rfl rfl dX11_shelf_23 ?_
        refine G_iload_n (pc := 26) rfl dX11_shelf_26 ?_
        refine G_callV (pc := 27) (mc1 := 0) (ms1 := 0) (ci := 1) (mj := mX1_isKey) (vs := [_]) dX11_shelf_27 rfl rfl cm_X1_isKey wf_10 wf_13 wf_14 rfl (Nat.le_of_ble_eq_true rfl) (Nat.le_of_ble_eq_true rfl) (Nat.le_of_ble_eq_true rfl) (Nat.le_of_ble_eq_true rfl) (s19_X1_isKey  (d + 1)  _) ?_
        rintro _ _ ⟨rfl, rfl⟩
        dsimp only [Option.toList, List.cons_append, List.nil_append]
        refine G_if_eq (pc := 30) (tgt := 45) (by decide) dX11_shelf_30 (fun _ => ?_) (fun z => absurd (by decide) z)
        refine G_iconst (pc := 45) (v := (-1)) (by decide) dX11_shelf_45 ?_
        exact G_iret (pc := 46) (Nat.le_of_ble_eq_true rfl) (Nat.le_of_ble_eq_true rfl) rfl dX11_shelf_46 ⟨_, by first | rfl | (simp [F_shelf, *]; done) | (have : 0 ≤ (shelf).toInt := Int32.le_iff_toInt_le.mp (c58.1); have : (shelf).toInt ≤ 3 := Int32.le_iff_toInt_le.mp (c58.2); have : 0 ≤ (what).toInt := Int32.le_iff_toInt_le.mp (c59.1); have : (what).toInt ≤ 2 := Int32.le_iff_toInt_le.mp (c59.2); have : (what).toInt = 0 := congrArg Int32.toInt (c60); simp only [F_shelf, Int32.le_iff_toInt_le, Int32.lt_iff_toInt_lt, ← Int32.toInt_inj]; simp; omega) | (have : 0 ≤ (shelf).toInt := Int32.le_iff_toInt_le.mp (c58.1); have : (shelf).toInt ≤ 3 := Int32.le_iff_toInt_le.mp (c58.2); have : 0 ≤ (what).toInt := Int32.le_iff_toInt_le.mp (c59.1); have : (what).toInt ≤ 2 := Int32.le_iff_toInt_le.mp (c59.2); have : (what).toInt = 0 := congrArg Int32.toInt (c60); simp only [F_shelf, Int32.le_iff_toInt_le, Int32.lt_iff_toInt_lt, ← Int32.toInt_inj]; split <;> first | rfl | (exfalso; simp at *; omega)) | (have : 0 ≤ (shelf).toInt := Int32.le_iff_toInt_le.mp (c58.1); have : (shelf).toInt ≤ 3 := Int32.le_iff_toInt_le.mp (c58.2); have : 0 ≤ (what).toInt := Int32.le_iff_toInt_le.mp (c59.1); have : (what).toInt ≤ 2 := Int32.le_iff_toInt_le.mp (c59.2); have : (what).toInt = 0 := congrArg Int32.toInt (c60); unfold F_shelf; (repeat' split) <;> first | rfl | (exfalso; (try simp only [Int32.le_iff_toInt_le, Int32.lt_iff_toInt_lt, ← Int32.toInt_inj] at *); first | omega | (simp at *; done) | (simp at *; omega))), rfl, fun _ _ => rfl⟩
    · have c59 := gB_z c59
      refine G_iconst (pc := 16) (v := (-1)) (by decide) dX11_shelf_16 ?_
      exact G_iret (pc := 17) (Nat.le_of_ble_eq_true rfl) (Nat.le_of_ble_eq_true rfl) rfl dX11_shelf_17 ⟨_, by first | rfl | (simp [F_shelf, *]; done) | (have : 0 ≤ (shelf).toInt := Int32.le_iff_toInt_le.mp (c58.1); have : (shelf).toInt ≤ 3 := Int32.le_iff_toInt_le.mp (c58.2); have : ¬ (0 ≤ (what).toInt ∧ (what).toInt ≤ 2) := fun z => c59 ⟨Int32.le_iff_toInt_le.mpr z.1, Int32.le_iff_toInt_le.mpr z.2⟩; simp only [F_shelf, Int32.le_iff_toInt_le, Int32.lt_iff_toInt_lt, ← Int32.toInt_inj]; simp; omega) | (have : 0 ≤ (shelf).toInt := Int32.le_iff_toInt_le.mp (c58.1); have : (shelf).toInt ≤ 3 := Int32.le_iff_toInt_le.mp (c58.2); have : ¬ (0 ≤ (what).toInt ∧ (what).toInt ≤ 2) := fun z => c59 ⟨Int32.le_iff_toInt_le.mpr z.1, Int32.le_iff_toInt_le.mpr z.2⟩; simp only [F_shelf, Int32.le_iff_toInt_le, Int32.lt_iff_toInt_lt, ← Int32.toInt_inj]; split <;> first | rfl | (exfalso; simp at *; omega)) | (have : 0 ≤ (shelf).toInt := Int32.le_iff_toInt_le.mp (c58.1); have : (shelf).toInt ≤ 3 := Int32.le_iff_toInt_le.mp (c58.2); have : ¬ (0 ≤ (what).toInt ∧ (what).toInt ≤ 2) := fun z => c59 ⟨Int32.le_iff_toInt_le.mpr z.1, Int32.le_iff_toInt_le.mpr z.2⟩; unfold F_shelf; (repeat' split) <;> first | rfl | (exfalso; (try simp only [Int32.le_iff_toInt_le, Int32.lt_iff_toInt_lt, ← Int32.toInt_inj] at *); first | omega | (simp at *; done) | (simp at *; omega))), rfl, fun _ _ => rfl⟩
set_option maxRecDepth 100000 in
set_option maxHeartbeats 4000000 in
theorem s20_X11_holdsKey  (d : Nat)   : G (d) mX11_holdsKey 0 0 0 0 0 (gent 2 [.ref 0, .int 0]) [] SH0 RF0 I0 (fun r h => r = some (.int 0) ∧ h = (SH0, RF0, I0)) := by
  refine G_aload_n (pc := 0) rfl dX11_holdsKey_0 ?_
  refine G_getR (pc := 1) (r := 9) (ci := 11) (j := 11) rfl lk_RX11_24 rfl rfl rfl dX11_holdsKey_1 ?_
  refine G_iload_n (pc := 4) rfl dX11_holdsKey_4 ?_
  refine G_iald (pc := 5) (jj := 0) (v := 2) (by decide) rfl rfl (by unfold vp_in; decide) dX11_holdsKey_5 ?_
  refine G_if_ne (pc := 6) (tgt := 29) (by decide) dX11_holdsKey_6 (fun _ => ?_) (fun z => absurd z (by decide))
  refine G_iconst (pc := 29) (v := 0) (by decide) dX11_holdsKey_29 ?_
  exact G_zret (pc := 30) (Nat.le_of_ble_eq_true rfl) (Nat.le_of_ble_eq_true rfl) rfl (by decide) dX11_holdsKey_30 ⟨rfl, rfl⟩
set_option maxRecDepth 100000 in
set_option maxHeartbeats 4000000 in
theorem s21_X11_holdsKey  (d : Nat)   : G (d) mX11_holdsKey 0 0 0 0 0 (gent 2 [.ref 0, .int 1]) [] SH0 RF0 I0 (fun r h => r = some (.int 0) ∧ h = (SH0, RF0, I0)) := by
  refine G_aload_n (pc := 0) rfl dX11_holdsKey_0 ?_
  refine G_getR (pc := 1) (r := 9) (ci := 11) (j := 11) rfl lk_RX11_24 rfl rfl rfl dX11_holdsKey_1 ?_
  refine G_iload_n (pc := 4) rfl dX11_holdsKey_4 ?_
  refine G_iald (pc := 5) (jj := 1) (v := 2) (by decide) rfl rfl (by unfold vp_in; decide) dX11_holdsKey_5 ?_
  refine G_if_ne (pc := 6) (tgt := 29) (by decide) dX11_holdsKey_6 (fun _ => ?_) (fun z => absurd z (by decide))
  refine G_iconst (pc := 29) (v := 0) (by decide) dX11_holdsKey_29 ?_
  exact G_zret (pc := 30) (Nat.le_of_ble_eq_true rfl) (Nat.le_of_ble_eq_true rfl) rfl (by decide) dX11_holdsKey_30 ⟨rfl, rfl⟩
set_option maxRecDepth 100000 in
set_option maxHeartbeats 4000000 in
theorem s22_X11_holdsKey  (d : Nat)   : G (d) mX11_holdsKey 0 0 0 0 0 (gent 2 [.ref 0, .int 2]) [] SH0 RF0 I0 (fun r h => r = some (.int 0) ∧ h = (SH0, RF0, I0)) := by
  refine G_aload_n (pc := 0) rfl dX11_holdsKey_0 ?_
  refine G_getR (pc := 1) (r := 9) (ci := 11) (j := 11) rfl lk_RX11_24 rfl rfl rfl dX11_holdsKey_1 ?_
  refine G_iload_n (pc := 4) rfl dX11_holdsKey_4 ?_
  refine G_iald (pc := 5) (jj := 2) (v := 2) (by decide) rfl rfl (by unfold vp_in; decide) dX11_holdsKey_5 ?_
  refine G_if_ne (pc := 6) (tgt := 29) (by decide) dX11_holdsKey_6 (fun _ => ?_) (fun z => absurd z (by decide))
  refine G_iconst (pc := 29) (v := 0) (by decide) dX11_holdsKey_29 ?_
  exact G_zret (pc := 30) (Nat.le_of_ble_eq_true rfl) (Nat.le_of_ble_eq_true rfl) rfl (by decide) dX11_holdsKey_30 ⟨rfl, rfl⟩
set_option maxRecDepth 100000 in
set_option maxHeartbeats 4000000 in
theorem s23_X11_holdsKey  (d : Nat)   : G (d) mX11_holdsKey 0 0 0 0 0 (gent 2 [.ref 0, .int 3]) [] SH0 RF0 I0 (fun r h => r = some (.int 0) ∧ h = (SH0, RF0, I0)) := by
  refine G_aload_n (pc := 0) rfl dX11_holdsKey_0 ?_
  refine G_getR (pc := 1) (r := 9) (ci := 11) (j := 11) rfl lk_RX11_24 rfl rfl rfl dX11_holdsKey_1 ?_
  refine G_iload_n (pc := 4) rfl dX11_holdsKey_4 ?_
  refine G_iald (pc := 5) (jj := 3) (v := 2) (by decide) rfl rfl (by unfold vp_in; decide) dX11_holdsKey_5 ?_
  refine G_if_ne (pc := 6) (tgt := 29) (by decide) dX11_holdsKey_6 (fun _ => ?_) (fun z => absurd z (by decide))
  refine G_iconst (pc := 29) (v := 0) (by decide) dX11_holdsKey_29 ?_
  exact G_zret (pc := 30) (Nat.le_of_ble_eq_true rfl) (Nat.le_of_ble_eq_true rfl) rfl (by decide) dX11_holdsKey_30 ⟨rfl, rfl⟩
def F_taken (shelf : Int32) (as1 : Int32) : Int32 := if (0 ≤ shelf ∧ shelf ≤ 3) ∧ ((0 ≤ as1 ∧ as1 ≤ 5) ∨ (10 ≤ as1 ∧ as1 ≤ 14)) then -11 else -1
set_option maxRecDepth 100000 in
set_option maxHeartbeats 4000000 in
theorem x_taken (d : Nat) (shelf : Int32) (as1 : Int32) : G (d + 2) mX11_taken 0 0 0 0 0 (gent 5 [.ref 0, .int shelf, .int as1]) [] SH0 RF0 I0 (fun r h => ∃ I1, r = some (.int (F_taken shelf as1)) ∧ h = (SH0, RF0, I1) ∧ ∀ a, 67 ≤ a → I1 a = I0 a) := by
  refine G_iload_n (pc := 0) rfl dX11_taken_0 ?_
  refine G_iconst (pc := 1) (v := 0) (by decide) dX11_taken_1 ?_
  refine G_iconst (pc := 2) (v := 5) (by decide) dX11_taken_2 ?_
  refine G_callS (pc := 3) (mc1 := 0) (ms1 := 0) (mj := mX11_isIn) (vs := [_, _, _]) dX11_taken_3 cm_X11_isIn wf_4 wf_6 rfl (Nat.le_of_ble_eq_true rfl) (Nat.le_of_ble_eq_true rfl) (Nat.le_of_ble_eq_true rfl) (Nat.le_of_ble_eq_true rfl) (isIn_s (d + 1) as1 0 5) ?_
  rintro _ _ ⟨rfl, rfl⟩
  dsimp only [Option.toList, List.cons_append, List.nil_append]
  refine G_istore_n (pc := 6) (L1 := [some (.ref 0), some (.int shelf), some (.int as1), some (.int (gB (0 ≤ as1 ∧ as1 ≤ 5))), none]) rfl rfl (by decide) dX11_taken_6 ?_
  refine G_iload_n (pc := 7) rfl dX11_taken_7 ?_
  refine G_callS (pc := 8) (mc1 := 0) (ms1 := 0) (mj := mX11_isPlace) (vs := [_]) dX11_taken_8 cm_X11_isPlace wf_35 wf_37 rfl (Nat.le_of_ble_eq_true rfl) (Nat.le_of_ble_eq_true rfl) (Nat.le_of_ble_eq_true rfl) (Nat.le_of_ble_eq_true rfl) (isPlace_s d shelf) ?_
  rintro _ _ ⟨rfl, rfl⟩
  dsimp only [Option.toList, List.cons_append, List.nil_append]
  refine G_if_eq (pc := 11) (tgt := 29) (by decide) dX11_taken_11 (fun c97 => ?_) (fun c97 => ?_)
  · have c97 := gB_z c97
    refine G_iconst (pc := 29) (v := (-1)) (by decide) dX11_taken_29 ?_
    exact G_iret (pc := 30) (Nat.le_of_ble_eq_true rfl) (Nat.le_of_ble_eq_true rfl) rfl dX11_taken_30 ⟨_, by first | rfl | (simp [F_taken, *]; done) | (have : ¬ (0 ≤ (shelf).toInt ∧ (shelf).toInt ≤ 3) := fun z => c97 ⟨Int32.le_iff_toInt_le.mpr z.1, Int32.le_iff_toInt_le.mpr z.2⟩; simp only [F_taken, Int32.le_iff_toInt_le, Int32.lt_iff_toInt_lt, ← Int32.toInt_inj]; simp; omega) | (have : ¬ (0 ≤ (shelf).toInt ∧ (shelf).toInt ≤ 3) := fun z => c97 ⟨Int32.le_iff_toInt_le.mpr z.1, Int32.le_iff_toInt_le.mpr z.2⟩; simp only [F_taken, Int32.le_iff_toInt_le, Int32.lt_iff_toInt_lt, ← Int32.toInt_inj]; split <;> first | rfl | (exfalso; simp at *; omega)) | (have : ¬ (0 ≤ (shelf).toInt ∧ (shelf).toInt ≤ 3) := fun z => c97 ⟨Int32.le_iff_toInt_le.mpr z.1, Int32.le_iff_toInt_le.mpr z.2⟩; unfold F_taken; (repeat' split) <;> first | rfl | (exfalso; (try simp only [Int32.le_iff_toInt_le, Int32.lt_iff_toInt_lt, ← Int32.toInt_inj] at *); first | omega | (simp at *; done) | (simp at *; omega))), rfl, fun _ _ => rfl⟩
  · have c97 := gB_o c97
    refine G_iload_n (pc := 14) rfl dX11_taken_14 ?_
    refine G_if_ne (pc := 15) (tgt := 31) (by decide) dX11_taken_15 (fun c98 => ?_) (fun c98 => ?_)
    · have c98 := gB_o c98
      refine G_aload_n (pc := 31) rfl dX11_taken_31 ?_
      refine G_getR (pc := 32) (r := 10) (ci := 11) (j := 12) rfl lk_RX11_27 rfl rfl rfl dX11_taken_32 ?_
      refine G_iload_n (pc := 35) rfl dX11_taken_35 ?_
      by_cases c99 : shelf = 0
      · subst c99
        refine G_iald (pc := 36) (jj := 0) (v := 0) (by decide) rfl rfl (by unfold vp_in; decide) dX11_taken_36 ?_
        refine G_istore (pc := 37) (L1 := [some (.ref 0), some (.int 0), some (.int as1), some (.int (gB (0 ≤ as1 ∧ as1 ≤ 5))), some (.int 0)]) rfl rfl (by decide) dX11_taken_37 ?_
        refine G_aload_n (pc := 39) rfl dX11_taken_39 ?_
        refine G_iload_n (pc := 40) rfl dX11_taken_40 ?_
        refine G_callV (pc := 41) (mc1 := 0) (ms1 := 0) (ci := 11) (mj := mX11_holdsKey) (vs := [_]) dX11_taken_41 rfl rfl cm_X11_holdsKey wf_42 wf_44 wf_45 rfl (Nat.le_of_ble_eq_true rfl) (Nat.le_of_ble_eq_true rfl) (Nat.le_of_ble_eq_true rfl) (Nat.le_of_ble_eq_true rfl) (s20_X11_holdsKey  (d + 1)  ) ?_
        rintro _ _ ⟨rfl, rfl⟩
        dsimp only [Option.toList, List.cons_append, List.nil_append]
        refine G_if_eq (pc := 44) (tgt := 76) (by decide) dX11_taken_44 (fun _ => ?_) (fun z => absurd (by decide) z)
        refine G_aload_n (pc := 76) rfl dX11_taken_76 ?_
        refine G_getR (pc := 77) (r := 9) (ci := 11) (j := 11) rfl lk_RX11_24 rfl rfl rfl dX11_taken_77 ?_
        refine G_iload_n (pc := 80) rfl dX11_taken_80 ?_
        refine G_iald (pc := 81) (jj := 0) (v := 2) (by decide) rfl rfl (by unfold vp_in; decide) dX11_taken_81 ?_
        refine G_iconst (pc := 82) (v := 1) (by decide) dX11_taken_82 ?_
        refine G_icmp_ne (pc := 83) (tgt := 107) (by decide) dX11_taken_83 (fun _ => ?_) (fun z => absurd z (by decide))
        refine G_bipush (pc := 107) (v := (-11)) (by decide) dX11_taken_107 ?_
        exact G_iret (pc := 109) (Nat.le_of_ble_eq_true rfl) (Nat.le_of_ble_eq_true rfl) rfl dX11_taken_109 ⟨_, by first | rfl | (simp [F_taken, *]; done) | (have : 0 ≤ (as1).toInt := Int32.le_iff_toInt_le.mp (c98.1); have : (as1).toInt ≤ 5 := Int32.le_iff_toInt_le.mp (c98.2); simp only [F_taken, Int32.le_iff_toInt_le, Int32.lt_iff_toInt_lt, ← Int32.toInt_inj]; simp; omega) | (have : 0 ≤ (as1).toInt := Int32.le_iff_toInt_le.mp (c98.1); have : (as1).toInt ≤ 5 := Int32.le_iff_toInt_le.mp (c98.2); simp only [F_taken, Int32.le_iff_toInt_le, Int32.lt_iff_toInt_lt, ← Int32.toInt_inj]; split <;> first | rfl | (exfalso; simp at *; omega)) | (have : 0 ≤ (as1).toInt := Int32.le_iff_toInt_le.mp (c98.1); have : (as1).toInt ≤ 5 := Int32.le_iff_toInt_le.mp (c98.2); unfold F_taken; (repeat' split) <;> first | rfl | (exfalso; (try simp only [Int32.le_iff_toInt_le, Int32.lt_iff_toInt_lt, ← Int32.toInt_inj] at *); first | omega | (simp at *; done) | (simp at *; omega))), rfl, fun _ _ => rfl⟩
      by_cases c100 : shelf = 1
      · subst c100
        refine G_iald (pc := 36) (jj := 1) (v := 0) (by decide) rfl rfl (by unfold vp_in; decide) dX11_taken_36 ?_
        refine G_istore (pc := 37) (L1 := [some (.ref 0), some (.int 1), some (.int as1), some (.int (gB (0 ≤ as1 ∧ as1 ≤ 5))), some (.int 0)]) rfl rfl (by decide) dX11_taken_37 ?_
        refine G_aload_n (pc := 39) rfl dX11_taken_39 ?_
        refine G_iload_n (pc := 40) rfl dX11_taken_40 ?_
        refine G_callV (pc := 41) (mc1 := 0) (ms1 := 0) (ci := 11) (mj := mX11_holdsKey) (vs := [_]) dX11_taken_41 rfl rfl cm_X11_holdsKey wf_42 wf_44 wf_45 rfl (Nat.le_of_ble_eq_true rfl) (Nat.le_of_ble_eq_true rfl) (Nat.le_of_ble_eq_true rfl) (Nat.le_of_ble_eq_true rfl) (s21_X11_holdsKey  (d + 1)  ) ?_
        rintro _ _ ⟨rfl, rfl⟩
        dsimp only [Option.toList, List.cons_append, List.nil_append]
        refine G_if_eq (pc := 44) (tgt := 76) (by decide) dX11_taken_44 (fun _ => ?_) (fun z => absurd (by decide) z)
        refine G_aload_n (pc := 76) rfl dX11_taken_76 ?_
        refine G_getR (pc := 77) (r := 9) (ci := 11) (j := 11) rfl lk_RX11_24 rfl rfl rfl dX11_taken_77 ?_
        refine G_iload_n (pc := 80) rfl dX11_taken_80 ?_
        refine G_iald (pc := 81) (jj := 1) (v := 2) (by decide) rfl rfl (by unfold vp_in; decide) dX11_taken_81 ?_
        refine G_iconst (pc := 82) (v := 1) (by decide) dX11_taken_82 ?_
        refine G_icmp_ne (pc := 83) (tgt := 107) (by decide) dX11_taken_83 (fun _ => ?_) (fun z => absurd z (by decide))
        refine G_bipush (pc := 107) (v := (-11)) (by decide) dX11_taken_107 ?_
        exact G_iret (pc := 109) (Nat.le_of_ble_eq_true rfl) (Nat.le_of_ble_eq_true rfl) rfl dX11_taken_109 ⟨_, by first | rfl | (simp [F_taken, *]; done) | (have : 0 ≤ (as1).toInt := Int32.le_iff_toInt_le.mp (c98.1); have : (as1).toInt ≤ 5 := Int32.le_iff_toInt_le.mp (c98.2); simp only [F_taken, Int32.le_iff_toInt_le, Int32.lt_iff_toInt_lt, ← Int32.toInt_inj]; simp; omega) | (have : 0 ≤ (as1).toInt := Int32.le_iff_toInt_le.mp (c98.1); have : (as1).toInt ≤ 5 := Int32.le_iff_toInt_le.mp (c98.2); simp only [F_taken, Int32.le_iff_toInt_le, Int32.lt_iff_toInt_lt, ← Int32.toInt_inj]; split <;> first | rfl | (exfalso; simp at *; omega)) | (have : 0 ≤ (as1).toInt := Int32.le_iff_toInt_le.mp (c98.1); have : (as1).toInt ≤ 5 := Int32.le_iff_toInt_le.mp (c98.2); unfold F_taken; (repeat' split) <;> first | rfl | (exfalso; (try simp only [Int32.le_iff_toInt_le, Int32.lt_iff_toInt_lt, ← Int32.toInt_inj] at *); first | omega | (simp at *; done) | (simp at *; omega))), rfl, fun _ _ => rfl⟩
      by_cases c101 : shelf = 2
      · subst c101
        refine G_iald (pc := 36) (jj := 2) (v := 0) (by decide) rfl rfl (by unfold vp_in; decide) dX11_taken_36 ?_
        refine G_istore (pc := 37) (L1 := [some (.ref 0), some (.int 2), some (.int as1), some (.int (gB (0 ≤ as1 ∧ as1 ≤ 5))), some (.int 0)]) rfl rfl (by decide) dX11_taken_37 ?_
        refine G_aload_n (pc := 39) rfl dX11_taken_39 ?_
        refine G_iload_n (pc := 40) rfl dX11_taken_40 ?_
        refine G_callV (pc := 41) (mc1 := 0) (ms1 := 0) (ci := 11) (mj := mX11_holdsKey) (vs := [_]) dX11_taken_41 rfl rfl cm_X11_holdsKey wf_42 wf_44 wf_45 rfl (Nat.le_of_ble_eq_true rfl) (Nat.le_of_ble_eq_true rfl) (Nat.le_of_ble_eq_true rfl) (Nat.le_of_ble_eq_true rfl) (s22_X11_holdsKey  (d + 1)  ) ?_
        rintro _ _ ⟨rfl, rfl⟩
        dsimp only [Option.toList, List.cons_append, List.nil_append]
        refine G_if_eq (pc := 44) (tgt := 76) (by decide) dX11_taken_44 (fun _ => ?_) (fun z => absurd (by decide) z)
        refine G_aload_n (pc := 76) rfl dX11_taken_76 ?_
        refine G_getR (pc := 77) (r := 9) (ci := 11) (j := 11) rfl lk_RX11_24 rfl rfl rfl dX11_taken_77 ?_
        refine G_iload_n (pc := 80) rfl dX11_taken_80 ?_
        refine G_iald (pc := 81) (jj := 2) (v := 2) (by decide) rfl rfl (by unfold vp_in; decide) dX11_taken_81 ?_
        refine G_iconst (pc := 82) (v := 1) (by decide) dX11_taken_82 ?_
        refine G_icmp_ne (pc := 83) (tgt := 107) (by decide) dX11_taken_83 (fun _ => ?_) (fun z => absurd z (by decide))
        refine G_bipush (pc := 107) (v := (-11)) (by decide) dX11_taken_107 ?_
        exact G_iret (pc := 109) (Nat.le_of_ble_eq_true rfl) (Nat.le_of_ble_eq_true rfl) rfl dX11_taken_109 ⟨_, by first | rfl | (simp [F_taken, *]; done) | (have : 0 ≤ (as1).toInt := Int32.le_iff_toInt_le.mp (c98.1); have : (as1).toInt ≤ 5 := Int32.le_iff_toInt_le.mp (c98.2); simp only [F_taken, Int32.le_iff_toInt_le, Int32.lt_iff_toInt_lt, ← Int32.toInt_inj]; simp; omega) | (have : 0 ≤ (as1).toInt := Int32.le_iff_toInt_le.mp (c98.1); have : (as1).toInt ≤ 5 := Int32.le_iff_toInt_le.mp (c98.2); simp only [F_taken, Int32.le_iff_toInt_le, Int32.lt_iff_toInt_lt, ← Int32.toInt_inj]; split <;> first | rfl | (exfalso; simp at *; omega)) | (have : 0 ≤ (as1).toInt := Int32.le_iff_toInt_le.mp (c98.1); have : (as1).toInt ≤ 5 := Int32.le_iff_toInt_le.mp (c98.2); unfold F_taken; (repeat' split) <;> first | rfl | (exfalso; (try simp only [Int32.le_iff_toInt_le, Int32.lt_iff_toInt_lt, ← Int32.toInt_inj] at *); first | omega | (simp at *; done) | (simp at *; omega))), rfl, fun _ _ => rfl⟩
      by_cases c102 : shelf = 3
      · subst c102
        refine G_iald (pc := 36) (jj := 3) (v := 0) (by decide) rfl rfl (by unfold vp_in; decide) dX11_taken_36 ?_
        refine G_istore (pc := 37) (L1 := [some (.ref 0), some (.int 3), some (.int as1), some (.int (gB (0 ≤ as1 ∧ as1 ≤ 5))), some (.int 0)]) rfl rfl (by decide) dX11_taken_37 ?_
        refine G_aload_n (pc := 39) rfl dX11_taken_39 ?_
        refine G_iload_n (pc := 40) rfl dX11_taken_40 ?_
        refine G_callV (pc := 41) (mc1 := 0) (ms1 := 0) (ci := 11) (mj := mX11_holdsKey) (vs := [_]) dX11_taken_41 rfl rfl cm_X11_holdsKey wf_42 wf_44 wf_45 rfl (Nat.le_of_ble_eq_true rfl) (Nat.le_of_ble_eq_true rfl) (Nat.le_of_ble_eq_true rfl) (Nat.le_of_ble_eq_true rfl) (s23_X11_holdsKey  (d + 1)  ) ?_
        rintro _ _ ⟨rfl, rfl⟩
        dsimp only [Option.toList, List.cons_append, List.nil_append]
        refine G_if_eq (pc := 44) (tgt := 76) (by decide) dX11_taken_44 (fun _ => ?_) (fun z => absurd (by decide) z)
        refine G_aload_n (pc := 76) rfl dX11_taken_76 ?_
        refine G_getR (pc := 77) (r := 9) (ci := 11) (j := 11) rfl lk_RX11_24 rfl rfl rfl dX11_taken_77 ?_
        refine G_iload_n (pc := 80) rfl dX11_taken_80 ?_
        refine G_iald (pc := 81) (jj := 3) (v := 2) (by decide) rfl rfl (by unfold vp_in; decide) dX11_taken_81 ?_
        refine G_iconst (pc := 82) (v := 1) (by decide) dX11_taken_82 ?_
        refine G_icmp_ne (pc := 83) (tgt := 107) (by decide) dX11_taken_83 (fun _ => ?_) (fun z => absurd z (by decide))
        refine G_bipush (pc := 107) (v := (-11)) (by decide) dX11_taken_107 ?_
        exact G_iret (pc := 109) (Nat.le_of_ble_eq_true rfl) (Nat.le_of_ble_eq_true rfl) rfl dX11_taken_109 ⟨_, by first | rfl | (simp [F_taken, *]; done) | (have : 0 ≤ (as1).toInt := Int32.le_iff_toInt_le.mp (c98.1); have : (as1).toInt ≤ 5 := Int32.le_iff_toInt_le.mp (c98.2); simp only [F_taken, Int32.le_iff_toInt_le, Int32.lt_iff_toInt_lt, ← Int32.toInt_inj]; simp; omega) | (have : 0 ≤ (as1).toInt := Int32.le_iff_toInt_le.mp (c98.1); have : (as1).toInt ≤ 5 := Int32.le_iff_toInt_le.mp (c98.2); simp only [F_taken, Int32.le_iff_toInt_le, Int32.lt_iff_toInt_lt, ← Int32.toInt_inj]; split <;> first | rfl | (exfalso; simp at *; omega)) | (have : 0 ≤ (as1).toInt := Int32.le_iff_toInt_le.mp (c98.1); have : (as1).toInt ≤ 5 := Int32.le_iff_toInt_le.mp (c98.2); unfold F_taken; (repeat' split) <;> first | rfl | (exfalso; (try simp only [Int32.le_iff_toInt_le, Int32.lt_iff_toInt_lt, ← Int32.toInt_inj] at *); first | omega | (simp at *; done) | (simp at *; omega))), rfl, fun _ _ => rfl⟩
      exfalso
      have : 0 ≤ (shelf).toInt := Int32.le_iff_toInt_le.mp (c97.1)
      have : (shelf).toInt ≤ 3 := Int32.le_iff_toInt_le.mp (c97.2)
      have : (shelf).toInt ≠ 0 := g_ne (c99)
      have : (shelf).toInt ≠ 1 := g_ne (c100)
      have : (shelf).toInt ≠ 2 := g_ne (c101)
      have : (shelf).toInt ≠ 3 := g_ne (c102)
      omega
    · have c98 := gB_z c98
      refine G_iload_n (pc := 18) rfl dX11_taken_18 ?_
      refine G_bipush (pc := 19) (v := 10) (by decide) dX11_taken_19 ?_
      refine G_bipush (pc := 21) (v := 14) (by decide) dX11_taken_21 ?_
      refine G_callS (pc := 23) (mc1 := 0) (ms1 := 0) (mj := mX11_isIn) (vs := [_, _, _]) dX11_taken_23 cm_X11_isIn wf_4 wf_6 rfl (Nat.le_of_ble_eq_true rfl) (Nat.le_of_ble_eq_true rfl) (Nat.le_of_ble_eq_true rfl) (Nat.le_of_ble_eq_true rfl) (isIn_s (d + 1) as1 10 14) ?_
      rintro _ _ ⟨rfl, rfl⟩
      dsimp only [Option.toList, List.cons_append, List.nil_append]
      refine G_if_ne (pc := 26) (tgt := 31) (by decide) dX11_taken_26 (fun c103 => ?_) (fun c103 => ?_)
      · have c103 := gB_o c103
        refine G_aload_n (pc := 31) rfl dX11_taken_31 ?_
        refine G_getR (pc := 32) (r := 10) (ci := 11) (j := 12) rfl lk_RX11_27 rfl rfl rfl dX11_taken_32 ?_
        refine G_iload_n (pc := 35) rfl dX11_taken_35 ?_
        by_cases c104 : shelf = 0
        · subst c104
          refine G_iald (pc := 36) (jj := 0) (v := 0) (by decide) rfl rfl (by unfold vp_in; decide) dX11_taken_36 ?_
          refine G_istore (pc := 37) (L1 := [some (.ref 0), some (.int 0), some (.int as1), some (.int (gB (0 ≤ as1 ∧ as1 ≤ 5))), some (.int 0)]) rfl rfl (by decide) dX11_taken_37 ?_
          refine G_aload_n (pc := 39) rfl dX11_taken_39 ?_
          refine G_iload_n (pc := 40) rfl dX11_taken_40 ?_
          refine G_callV (pc := 41) (mc1 := 0) (ms1 := 0) (ci := 11) (mj := mX11_holdsKey) (vs := [_]) dX11_taken_41 rfl rfl cm_X11_holdsKey wf_42 wf_44 wf_45 rfl (Nat.le_of_ble_eq_true rfl) (Nat.le_of_ble_eq_true rfl) (Nat.le_of_ble_eq_true rfl) (Nat.le_of_ble_eq_true rfl) (s20_X11_holdsKey  (d + 1)  ) ?_
          rintro _ _ ⟨rfl, rfl⟩
          dsimp only [Option.toList, List.cons_append, List.nil_append]
          refine G_if_eq (pc := 44) (tgt := 76) (by decide) dX11_taken_44 (fun _ => ?_) (fun z => absurd (by decide) z)
          refine G_aload_n (pc := 76) rfl dX11_taken_76 ?_
          refine G_getR (pc := 77) (r := 9) (ci := 11) (j := 11) rfl lk_RX11_24 rfl rfl rfl dX11_taken_77 ?_
          refine G_iload_n (pc := 80) rfl dX11_taken_80 ?_
          refine G_iald (pc := 81) (jj := 0) (v := 2) (by decide) rfl rfl (by unfold vp_in; decide) dX11_taken_81 ?_
          refine G_iconst (pc := 82) (v := 1) (by decide) dX11_taken_82 ?_
          refine G_icmp_ne (pc := 83) (tgt := 107) (by decide) dX11_taken_83 (fun _ => ?_) (fun z => absurd z (by decide))
          refine G_bipush (pc := 107) (v := (-11)) (by decide) dX11_taken_107 ?_
          exact G_iret (pc := 109) (Nat.le_of_ble_eq_true rfl) (Nat.le_of_ble_eq_true rfl) rfl dX11_taken_109 ⟨_, by first | rfl | (simp [F_taken, *]; done) | (have : ¬ (0 ≤ (as1).toInt ∧ (as1).toInt ≤ 5) := fun z => c98 ⟨Int32.le_iff_toInt_le.mpr z.1, Int32.le_iff_toInt_le.mpr z.2⟩; have : 10 ≤ (as1).toInt := Int32.le_iff_toInt_le.mp (c103.1); have : (as1).toInt ≤ 14 := Int32.le_iff_toInt_le.mp (c103.2); simp only [F_taken, Int32.le_iff_toInt_le, Int32.lt_iff_toInt_lt, ← Int32.toInt_inj]; simp; omega) | (have : ¬ (0 ≤ (as1).toInt ∧ (as1).toInt ≤ 5) := fun z => c98 ⟨Int32.le_iff_toInt_le.mpr z.1, Int32.le_iff_toInt_le.mpr z.2⟩; have : 10 ≤ (as1).toInt := Int32.le_iff_toInt_le.mp (c103.1); have : (as1).toInt ≤ 14 := Int32.le_iff_toInt_le.mp (c103.2); simp only [F_taken, Int32.le_iff_toInt_le, Int32.lt_iff_toInt_lt, ← Int32.toInt_inj]; split <;> first | rfl | (exfalso; simp at *; omega)) | (have : ¬ (0 ≤ (as1).toInt ∧ (as1).toInt ≤ 5) := fun z => c98 ⟨Int32.le_iff_toInt_le.mpr z.1, Int32.le_iff_toInt_le.mpr z.2⟩; have : 10 ≤ (as1).toInt := Int32.le_iff_toInt_le.mp (c103.1); have : (as1).toInt ≤ 14 := Int32.le_iff_toInt_le.mp (c103.2); unfold F_taken; (repeat' split) <;> first | rfl | (exfalso; (try simp only [Int32.le_iff_toInt_le, Int32.lt_iff_toInt_lt, ← Int32.toInt_inj] at *); first | omega | (simp at *; done) | (simp at *; omega))), rfl, fun _ _ => rfl⟩
        by_cases c105 : shelf = 1
        · subst c105
          refine G_iald (pc := 36) (jj := 1) (v := 0) (by decide) rfl rfl (by unfold vp_in; decide) dX11_taken_36 ?_
          refine G_istore (pc := 37) (L1 := [some (.ref 0), some (.int 1), some (.int as1), some (.int (gB (0 ≤ as1 ∧ as1 ≤ 5))), some (.int 0)]) rfl rfl (by decide) dX11_taken_37 ?_
          refine G_aload_n (pc := 39) rfl dX11_taken_39 ?_
          refine G_iload_n (pc := 40) rfl dX11_taken_40 ?_
          refine G_callV (pc := 41) (mc1 := 0) (ms1 := 0) (ci := 11) (mj := mX11_holdsKey) (vs := [_]) dX11_taken_41 rfl rfl cm_X11_holdsKey wf_42 wf_44 wf_45 rfl (Nat.le_of_ble_eq_true rfl) (Nat.le_of_ble_eq_true rfl) (Nat.le_of_ble_eq_true rfl) (Nat.le_of_ble_eq_true rfl) (s21_X11_holdsKey  (d + 1)  ) ?_
          rintro _ _ ⟨rfl, rfl⟩
          dsimp only [Option.toList, List.cons_append, List.nil_append]
          refine G_if_eq (pc := 44) (tgt := 76) (by decide) dX11_taken_44 (fun _ => ?_) (fun z => absurd (by decide) z)
          refine G_aload_n (pc := 76) rfl dX11_taken_76 ?_
          refine G_getR (pc := 77) (r := 9) (ci := 11) (j := 11) rfl lk_RX11_24 rfl rfl rfl dX11_taken_77 ?_
          refine G_iload_n (pc := 80) rfl dX11_taken_80 ?_
          refine G_iald (pc := 81) (jj := 1) (v := 2) (by decide) rfl rfl (by unfold vp_in; decide) dX11_taken_81 ?_
          refine G_iconst (pc := 82) (v := 1) (by decide) dX11_taken_82 ?_
          refine G_icmp_ne (pc := 83) (tgt := 107) (by decide) dX11_taken_83 (fun _ => ?_) (fun z => absurd z (by decide))
          refine G_bipush (pc := 107) (v := (-11)) (by decide) dX11_taken_107 ?_
          exact G_iret (pc := 109) (Nat.le_of_ble_eq_true rfl) (Nat.le_of_ble_eq_true rfl) rfl dX11_taken_109 ⟨_, by first | rfl | (simp [F_taken, *]; done) | (have : ¬ (0 ≤ (as1).toInt ∧ (as1).toInt ≤ 5) := fun z => c98 ⟨Int32.le_iff_toInt_le.mpr z.1, Int32.le_iff_toInt_le.mpr z.2⟩; have : 10 ≤ (as1).toInt := Int32.le_iff_toInt_le.mp (c103.1); have : (as1).toInt ≤ 14 := Int32.le_iff_toInt_le.mp (c103.2); simp only [F_taken, Int32.le_iff_toInt_le, Int32.lt_iff_toInt_lt, ← Int32.toInt_inj]; simp; omega) | (have : ¬ (0 ≤ (as1).toInt ∧ (as1).toInt ≤ 5) := fun z => c98 ⟨Int32.le_iff_toInt_le.mpr z.1, Int32.le_iff_toInt_le.mpr z.2⟩; have : 10 ≤ (as1).toInt := Int32.le_iff_toInt_le.mp (c103.1); have : (as1).toInt ≤ 14 := Int32.le_iff_toInt_le.mp (c103.2); simp only [F_taken, Int32.le_iff_toInt_le, Int32.lt_iff_toInt_lt, ← Int32.toInt_inj]; split <;> first | rfl | (exfalso; simp at *; omega)) | (have : ¬ (0 ≤ (as1).toInt ∧ (as1).toInt ≤ 5) := fun z => c98 ⟨Int32.le_iff_toInt_le.mpr z.1, Int32.le_iff_toInt_le.mpr z.2⟩; have : 10 ≤ (as1).toInt := Int32.le_iff_toInt_le.mp (c103.1); have : (as1).toInt ≤ 14 := Int32.le_iff_toInt_le.mp (c103.2); unfold F_taken; (repeat' split) <;> first | rfl | (exfalso; (try simp only [Int32.le_iff_toInt_le, Int32.lt_iff_toInt_lt, ← Int32.toInt_inj] at *); first | omega | (simp at *; done) | (simp at *; omega))), rfl, fun _ _ => rfl⟩
        by_cases c106 : shelf = 2
        · subst c106
          refine G_iald (pc := 36) (jj := 2) (v := 0) (by decide) rfl rfl (by unfold vp_in; decide) dX11_taken_36 ?_
          refine G_istore (pc := 37) (L1 := [some (.ref 0), some (.int 2), some (.int as1), some (.int (gB (0 ≤ as1 ∧ as1 ≤ 5))), some (.int 0)]) rfl rfl (by decide) dX11_taken_37 ?_
          refine G_aload_n (pc := 39) rfl dX11_taken_39 ?_
          refine G_iload_n (pc := 40) rfl dX11_taken_40 ?_
          refine G_callV (pc := 41) (mc1 := 0) (ms1 := 0) (ci := 11) (mj := mX11_holdsKey) (vs := [_]) dX11_taken_41 rfl rfl cm_X11_holdsKey wf_42 wf_44 wf_45 rfl (Nat.le_of_ble_eq_true rfl) (Nat.le_of_ble_eq_true rfl) (Nat.le_of_ble_eq_true rfl) (Nat.le_of_ble_eq_true rfl) (s22_X11_holdsKey  (d + 1)  ) ?_
          rintro _ _ ⟨rfl, rfl⟩
          dsimp only [Option.toList, List.cons_append, List.nil_append]
          refine G_if_eq (pc := 44) (tgt := 76) (by decide) dX11_taken_44 (fun _ => ?_) (fun z => absurd (by decide) z)
          refine G_aload_n (pc := 76) rfl dX11_taken_76 ?_
          refine G_getR (pc := 77) (r := 9) (ci := 11) (j := 11) rfl lk_RX11_24 rfl rfl rfl dX11_taken_77 ?_
          refine G_iload_n (pc := 80) rfl dX11_taken_80 ?_
          refine G_iald (pc := 81) (jj := 2) (v := 2) (by decide) rfl rfl (by unfold vp_in; decide) dX11_taken_81 ?_
          refine G_iconst (pc := 82) (v := 1) (by decide) dX11_taken_82 ?_
          refine G_icmp_ne (pc := 83) (tgt := 107) (by decide) dX11_taken_83 (fun _ => ?_) (fun z => absurd z (by decide))
          refine G_bipush (pc := 107) (v := (-11)) (by decide) dX11_taken_107 ?_
          exact G_iret (pc := 109) (Nat.le_of_ble_eq_true rfl) (Nat.le_of_ble_eq_true rfl) rfl dX11_taken_109 ⟨_, by first | rfl | (simp [F_taken, *]; done) | (have : ¬ (0 ≤ (as1).toInt ∧ (as1).toInt ≤ 5) := fun z => c98 ⟨Int32.le_iff_toInt_le.mpr z.1, Int32.le_iff_toInt_le.mpr z.2⟩; have : 10 ≤ (as1).toInt := Int32.le_iff_toInt_le.mp (c103.1); have : (as1).toInt ≤ 14 := Int32.le_iff_toInt_le.mp (c103.2); simp only [F_taken, Int32.le_iff_toInt_le, Int32.lt_iff_toInt_lt, ← Int32.toInt_inj]; simp; omega) | (have : ¬ (0 ≤ (as1).toInt ∧ (as1).toInt ≤ 5) := fun z => c98 ⟨Int32.le_iff_toInt_le.mpr z.1, Int32.le_iff_toInt_le.mpr z.2⟩; have : 10 ≤ (as1).toInt := Int32.le_iff_toInt_le.mp (c103.1); have : (as1).toInt ≤ 14 := Int32.le_iff_toInt_le.mp (c103.2); simp only [F_taken, Int32.le_iff_toInt_le, Int32.lt_iff_toInt_lt, ← Int32.toInt_inj]; split <;> first | rfl | (exfalso; simp at *; omega)) | (have : ¬ (0 ≤ (as1).toInt ∧ (as1).toInt ≤ 5) := fun z => c98 ⟨Int32.le_iff_toInt_le.mpr z.1, Int32.le_iff_toInt_le.mpr z.2⟩; have : 10 ≤ (as1).toInt := Int32.le_iff_toInt_le.mp (c103.1); have : (as1).toInt ≤ 14 := Int32.le_iff_toInt_le.mp (c103.2); unfold F_taken; (repeat' split) <;> first | rfl | (exfalso; (try simp only [Int32.le_iff_toInt_le, Int32.lt_iff_toInt_lt, ← Int32.toInt_inj] at *); first | omega | (simp at *; done) | (simp at *; omega))), rfl, fun _ _ => rfl⟩
        by_cases c107 : shelf = 3
        · subst c107
          refine G_iald (pc := 36) (jj := 3) (v := 0) (by decide) rfl rfl (by unfold vp_in; decide) dX11_taken_36 ?_
          refine G_istore (pc := 37) (L1 := [some (.ref 0), some (.int 3), some (.int as1), some (.int (gB (0 ≤ as1 ∧ as1 ≤ 5))), some (.int 0)]) rfl rfl (by decide) dX11_taken_37 ?_
          refine G_aload_n (pc := 39) rfl dX11_taken_39 ?_
          refine G_iload_n (pc := 40) rfl dX11_taken_40 ?_
          refine G_callV (pc := 41) (mc1 := 0) (ms1 := 0) (ci := 11) (mj := mX11_holdsKey) (vs := [_]) dX11_taken_41 rfl rfl cm_X11_holdsKey wf_42 wf_44 wf_45 rfl (Nat.le_of_ble_eq_true rfl) (Nat.le_of_ble_eq_true rfl) (Nat.le_of_ble_eq_true rfl) (Nat.le_of_ble_eq_true rfl) (s23_X11_holdsKey  (d + 1)  ) ?_
          rintro _ _ ⟨rfl, rfl⟩
          dsimp only [Option.toList, List.cons_append, List.nil_append]
          refine G_if_eq (pc := 44) (tgt := 76) (by decide) dX11_taken_44 (fun _ => ?_) (fun z => absurd (by decide) z)
          refine G_aload_n (pc := 76) rfl dX11_taken_76 ?_
          refine G_getR (pc := 77) (r := 9) (ci := 11) (j := 11) rfl lk_RX11_24 rfl rfl rfl dX11_taken_77 ?_
          refine G_iload_n (pc := 80) rfl dX11_taken_80 ?_
          refine G_iald (pc := 81) (jj := 3) (v := 2) (by decide) rfl rfl (by unfold vp_in; decide) dX11_taken_81 ?_
          refine G_iconst (pc := 82) (v := 1) (by decide) dX11_taken_82 ?_
          refine G_icmp_ne (pc := 83) (tgt := 107) (by decide) dX11_taken_83 (fun _ => ?_) (fun z => absurd z (by decide))
          refine G_bipush (pc := 107) (v := (-11)) (by decide) dX11_taken_107 ?_
          exact G_iret (pc := 109) (Nat.le_of_ble_eq_true rfl) (Nat.le_of_ble_eq_true rfl) rfl dX11_taken_109 ⟨_, by first | rfl | (simp [F_taken, *]; done) | (have : ¬ (0 ≤ (as1).toInt ∧ (as1).toInt ≤ 5) := fun z => c98 ⟨Int32.le_iff_toInt_le.mpr z.1, Int32.le_iff_toInt_le.mpr z.2⟩; have : 10 ≤ (as1).toInt := Int32.le_iff_toInt_le.mp (c103.1); have : (as1).toInt ≤ 14 := Int32.le_iff_toInt_le.mp (c103.2); simp only [F_taken, Int32.le_iff_toInt_le, Int32.lt_iff_toInt_lt, ← Int32.toInt_inj]; simp; omega) | (have : ¬ (0 ≤ (as1).toInt ∧ (as1).toInt ≤ 5) := fun z => c98 ⟨Int32.le_iff_toInt_le.mpr z.1, Int32.le_iff_toInt_le.mpr z.2⟩; have : 10 ≤ (as1).toInt := Int32.le_iff_toInt_le.mp (c103.1); have : (as1).toInt ≤ 14 := Int32.le_iff_toInt_le.mp (c103.2); simp only [F_taken, Int32.le_iff_toInt_le, Int32.lt_iff_toInt_lt, ← Int32.toInt_inj]; split <;> first | rfl | (exfalso; simp at *; omega)) | (have : ¬ (0 ≤ (as1).toInt ∧ (as1).toInt ≤ 5) := fun z => c98 ⟨Int32.le_iff_toInt_le.mpr z.1, Int32.le_iff_toInt_le.mpr z.2⟩; have : 10 ≤ (as1).toInt := Int32.le_iff_toInt_le.mp (c103.1); have : (as1).toInt ≤ 14 := Int32.le_iff_toInt_le.mp (c103.2); unfold F_taken; (repeat' split) <;> first | rfl | (exfalso; (try simp only [Int32.le_iff_toInt_le, Int32.lt_iff_toInt_lt, ← Int32.toInt_inj] at *); first | omega | (simp at *; done) | (simp at *; omega))), rfl, fun _ _ => rfl⟩
        exfalso
        have : 0 ≤ (shelf).toInt := Int32.le_iff_toInt_le.mp (c97.1)
        have : (shelf).toInt ≤ 3 := Int32.le_iff_toInt_le.mp (c97.2)
        have : (shelf).toInt ≠ 0 := g_ne (c104)
        have : (shelf).toInt ≠ 1 := g_ne (c105)
        have : (shelf).toInt ≠ 2 := g_ne (c106)
        have : (shelf).toInt ≠ 3 := g_ne (c107)
        omega
      · have c103 := gB_z c103
        refine G_iconst (pc := 29) (v := (-1)) (by decide) dX11_taken_29 ?_
        exact G_iret (pc := 30) (Nat.le_of_ble_eq_true rfl) (Nat.le_of_ble_eq_true rfl) rfl dX11_taken_30 ⟨_, by first | rfl | (simp [F_taken, *]; done) | (have : 0 ≤ (shelf).toInt := Int32.le_iff_toInt_le.mp (c97.1); have : (shelf).toInt ≤ 3 := Int32.le_iff_toInt_le.mp (c97.2); have : ¬ (0 ≤ (as1).toInt ∧ (as1).toInt ≤ 5) := fun z => c98 ⟨Int32.le_iff_toInt_le.mpr z.1, Int32.le_iff_toInt_le.mpr z.2⟩; have : ¬ (10 ≤ (as1).toInt ∧ (as1).toInt ≤ 14) := fun z => c103 ⟨Int32.le_iff_toInt_le.mpr z.1, Int32.le_iff_toInt_le.mpr z.2⟩; simp only [F_taken, Int32.le_iff_toInt_le, Int32.lt_iff_toInt_lt, ← Int32.toInt_inj]; simp; omega) | (have : 0 ≤ (shelf).toInt := Int32.le_iff_toInt_le.mp (c97.1); have : (shelf).toInt ≤ 3 := Int32.le_iff_toInt_le.mp (c97.2); have : ¬ (0 ≤ (as1).toInt ∧ (as1).toInt ≤ 5) := fun z => c98 ⟨Int32.le_iff_toInt_le.mpr z.1, Int32.le_iff_toInt_le.mpr z.2⟩; have : ¬ (10 ≤ (as1).toInt ∧ (as1).toInt ≤ 14) := fun z => c103 ⟨Int32.le_iff_toInt_le.mpr z.1, Int32.le_iff_toInt_le.mpr z.2⟩; simp only [F_taken, Int32.le_iff_toInt_le, Int32.lt_iff_toInt_lt, ← Int32.toInt_inj]; split <;> first | rfl | (exfalso; simp at *; omega)) | (have : 0 ≤ (shelf).toInt := Int32.le_iff_toInt_le.mp (c97.1); have : (shelf).toInt ≤ 3 := Int32.le_iff_toInt_le.mp (c97.2); have : ¬ (0 ≤ (as1).toInt ∧ (as1).toInt ≤ 5) := fun z => c98 ⟨Int32.le_iff_toInt_le.mpr z.1, Int32.le_iff_toInt_le.mpr z.2⟩; have : ¬ (10 ≤ (as1).toInt ∧ (as1).toInt ≤ 14) := fun z => c103 ⟨Int32.le_iff_toInt_le.mpr z.1, Int32.le_iff_toInt_le.mpr z.2⟩; unfold F_taken; (repeat' split) <;> first | rfl | (exfalso; (try simp only [Int32.le_iff_toInt_le, Int32.lt_iff_toInt_lt, ← Int32.toInt_inj] at *); first | omega | (simp at *; done) | (simp at *; omega))), rfl, fun _ _ => rfl⟩
def F_act (shelf : Int32) (act1 : Int32) (x : Int32) : Int32 := 0
set_option maxRecDepth 100000 in
set_option maxHeartbeats 4000000 in
theorem x_act (d : Nat) (shelf : Int32) (act1 : Int32) (x : Int32) : G (d + 2) mX11_act 0 0 0 0 0 (gent 7 [.ref 0, .int shelf, .int act1, .int x]) [] SH0 RF0 I0 (fun r h => ∃ I1, r = some (.int (F_act shelf act1 x)) ∧ h = (SH0, RF0, I1) ∧ ∀ a, 67 ≤ a → I1 a = I0 a) := by
  refine G_iload_n (pc := 0) rfl dX11_act_0 ?_
  refine G_callS (pc := 1) (mc1 := 0) (ms1 := 0) (mj := mX11_isPlace) (vs := [_]) dX11_act_1 cm_X11_isPlace wf_35 wf_37 rfl (Nat.le_of_ble_eq_true rfl) (Nat.le_of_ble_eq_true rfl) (Nat.le_of_ble_eq_true rfl) (Nat.le_of_ble_eq_true rfl) (isPlace_s d shelf) ?_
  rintro _ _ ⟨rfl, rfl⟩
  dsimp only [Option.toList, List.cons_append, List.nil_append]
  refine G_if_eq (pc := 4) (tgt := 24) (by decide) dX11_act_4 (fun c108 => ?_) (fun c108 => ?_)
  · have c108 := gB_z c108
    refine G_aload_n (pc := 24) rfl dX11_act_24 ?_
    refine G_getR (pc := 25) (r := 65) (ci := 11) (j := 5) rfl lk_RX11_82 rfl rfl rfl dX11_act_25 ?_
    refine G_iconst (pc := 28) (v := 0) (by decide) dX11_act_28 ?_
    refine G_putI (pc := 29) (ci := 0) (j := 3) rfl lk_RX11_340 rfl rfl rfl trivial dX11_act_29 ?_
    refine G_iconst (pc := 32) (v := 0) (by decide) dX11_act_32 ?_
    exact G_iret (pc := 33) (Nat.le_of_ble_eq_true rfl) (Nat.le_of_ble_eq_true rfl) rfl dX11_act_33 ⟨_, by first | rfl | (simp [F_act, *]; done) | (have : ¬ (0 ≤ (shelf).toInt ∧ (shelf).toInt ≤ 3) := fun z => c108 ⟨Int32.le_iff_toInt_le.mpr z.1, Int32.le_iff_toInt_le.mpr z.2⟩; simp only [F_act, Int32.le_iff_toInt_le, Int32.lt_iff_toInt_lt, ← Int32.toInt_inj]; simp; omega) | (have : ¬ (0 ≤ (shelf).toInt ∧ (shelf).toInt ≤ 3) := fun z => c108 ⟨Int32.le_iff_toInt_le.mpr z.1, Int32.le_iff_toInt_le.mpr z.2⟩; simp only [F_act, Int32.le_iff_toInt_le, Int32.lt_iff_toInt_lt, ← Int32.toInt_inj]; split <;> first | rfl | (exfalso; simp at *; omega)) | (have : ¬ (0 ≤ (shelf).toInt ∧ (shelf).toInt ≤ 3) := fun z => c108 ⟨Int32.le_iff_toInt_le.mpr z.1, Int32.le_iff_toInt_le.mpr z.2⟩; unfold F_act; (repeat' split) <;> first | rfl | (exfalso; (try simp only [Int32.le_iff_toInt_le, Int32.lt_iff_toInt_lt, ← Int32.toInt_inj] at *); first | omega | (simp at *; done) | (simp at *; omega))), rfl, fun a ha => by funext j; simp (disch := omega) only [gup_off, gcp_off]⟩
  · have c108 := gB_o c108
    refine G_iload_n (pc := 7) rfl dX11_act_7 ?_
    refine G_iconst (pc := 8) (v := 0) (by decide) dX11_act_8 ?_
    refine G_iconst (pc := 9) (v := 3) (by decide) dX11_act_9 ?_
    refine G_callS (pc := 10) (mc1 := 0) (ms1 := 0) (mj := mX11_isIn) (vs := [_, _, _]) dX11_act_10 cm_X11_isIn wf_4 wf_6 rfl (Nat.le_of_ble_eq_true rfl) (Nat.le_of_ble_eq_true rfl) (Nat.le_of_ble_eq_true rfl) (Nat.le_of_ble_eq_true rfl) (isIn_s (d + 1) act1 0 3) ?_
    rintro _ _ ⟨rfl, rfl⟩
    dsimp only [Option.toList, List.cons_append, List.nil_append]
    refine G_if_eq (pc := 13) (tgt := 24) (by decide) dX11_act_13 (fun c109 => ?_) (fun c109 => ?_)
    · have c109 := gB_z c109
      refine G_aload_n (pc := 24) rfl dX11_act_24 ?_
      refine G_getR (pc := 25) (r := 65) (ci := 11) (j := 5) rfl lk_RX11_82 rfl rfl rfl dX11_act_25 ?_
      refine G_iconst (pc := 28) (v := 0) (by decide) dX11_act_28 ?_
      refine G_putI (pc := 29) (ci := 0) (j := 3) rfl lk_RX11_340 rfl rfl rfl trivial dX11_act_29 ?_
      refine G_iconst (pc := 32) (v := 0) (by decide) dX11_act_32 ?_
      exact G_iret (pc := 33) (Nat.le_of_ble_eq_true rfl) (Nat.le_of_ble_eq_true rfl) rfl dX11_act_33 ⟨_, by first | rfl | (simp [F_act, *]; done) | (have : 0 ≤ (shelf).toInt := Int32.le_iff_toInt_le.mp (c108.1); have : (shelf).toInt ≤ 3 := Int32.le_iff_toInt_le.mp (c108.2); have : ¬ (0 ≤ (act1).toInt ∧ (act1).toInt ≤ 3) := fun z => c109 ⟨Int32.le_iff_toInt_le.mpr z.1, Int32.le_iff_toInt_le.mpr z.2⟩; simp only [F_act, Int32.le_iff_toInt_le, Int32.lt_iff_toInt_lt, ← Int32.toInt_inj]; simp; omega) | (have : 0 ≤ (shelf).toInt := Int32.le_iff_toInt_le.mp (c108.1); have : (shelf).toInt ≤ 3 := Int32.le_iff_toInt_le.mp (c108.2); have : ¬ (0 ≤ (act1).toInt ∧ (act1).toInt ≤ 3) := fun z => c109 ⟨Int32.le_iff_toInt_le.mpr z.1, Int32.le_iff_toInt_le.mpr z.2⟩; simp only [F_act, Int32.le_iff_toInt_le, Int32.lt_iff_toInt_lt, ← Int32.toInt_inj]; split <;> first | rfl | (exfalso; simp at *; omega)) | (have : 0 ≤ (shelf).toInt := Int32.le_iff_toInt_le.mp (c108.1); have : (shelf).toInt ≤ 3 := Int32.le_iff_toInt_le.mp (c108.2); have : ¬ (0 ≤ (act1).toInt ∧ (act1).toInt ≤ 3) := fun z => c109 ⟨Int32.le_iff_toInt_le.mpr z.1, Int32.le_iff_toInt_le.mpr z.2⟩; unfold F_act; (repeat' split) <;> first | rfl | (exfalso; (try simp only [Int32.le_iff_toInt_le, Int32.lt_iff_toInt_lt, ← Int32.toInt_inj] at *); first | omega | (simp at *; done) | (simp at *; omega))), rfl, fun a ha => by funext j; simp (disch := omega) only [gup_off, gcp_off]⟩
    · have c109 := gB_o c109
      refine G_aload_n (pc := 16) rfl dX11_act_16 ?_
      refine G_iload_n (pc := 17) rfl dX11_act_17 ?_
      by_cases c110 : shelf = 0
      · subst c110
        refine G_callV (pc := 18) (mc1 := 0) (ms1 := 0) (ci := 11) (mj := mX11_holdsKey) (vs := [_]) dX11_act_18 rfl rfl cm_X11_holdsKey wf_42 wf_44 wf_45 rfl (Nat.le_of_ble_eq_true rfl) (Nat.le_of_ble_eq_true rfl) (Nat.le_of_ble_eq_true rfl) (Nat.le_of_ble_eq_true rfl) (s20_X11_holdsKey  (d + 1)  ) ?_
        rintro _ _ ⟨rfl, rfl⟩
        dsimp only [Option.toList, List.cons_append, List.nil_append]
        refine G_if_ne (pc := 21) (tgt := 34) (by decide) dX11_act_21 (fun z => absurd (by decide) z) (fun _ => ?_)
        refine G_aload_n (pc := 24) rfl dX11_act_24 ?_
        refine G_getR (pc := 25) (r := 65) (ci := 11) (j := 5) rfl lk_RX11_82 rfl rfl rfl dX11_act_25 ?_
        refine G_iconst (pc := 28) (v := 0) (by decide) dX11_act_28 ?_
        refine G_putI (pc := 29) (ci := 0) (j := 3) rfl lk_RX11_340 rfl rfl rfl trivial dX11_act_29 ?_
        refine G_iconst (pc := 32) (v := 0) (by decide) dX11_act_32 ?_
        exact G_iret (pc := 33) (Nat.le_of_ble_eq_true rfl) (Nat.le_of_ble_eq_true rfl) rfl dX11_act_33 ⟨_, by first | rfl | (simp [F_act, *]; done) | (have : 0 ≤ (act1).toInt := Int32.le_iff_toInt_le.mp (c109.1); have : (act1).toInt ≤ 3 := Int32.le_iff_toInt_le.mp (c109.2); simp only [F_act, Int32.le_iff_toInt_le, Int32.lt_iff_toInt_lt, ← Int32.toInt_inj]; simp; omega) | (have : 0 ≤ (act1).toInt := Int32.le_iff_toInt_le.mp (c109.1); have : (act1).toInt ≤ 3 := Int32.le_iff_toInt_le.mp (c109.2); simp only [F_act, Int32.le_iff_toInt_le, Int32.lt_iff_toInt_lt, ← Int32.toInt_inj]; split <;> first | rfl | (exfalso; simp at *; omega)) | (have : 0 ≤ (act1).toInt := Int32.le_iff_toInt_le.mp (c109.1); have : (act1).toInt ≤ 3 := Int32.le_iff_toInt_le.mp (c109.2); unfold F_act; (repeat' split) <;> first | rfl | (exfalso; (try simp only [Int32.le_iff_toInt_le, Int32.lt_iff_toInt_lt, ← Int32.toInt_inj] at *); first | omega | (simp at *; done) | (simp at *; omega))), rfl, fun a ha => by funext j; simp (disch := omega) only [gup_off, gcp_off]⟩
      by_cases c111 : shelf = 1
      · subst c111
        refine G_callV (pc := 18) (mc1 := 0) (ms1 := 0) (ci := 11) (mj := mX11_holdsKey) (vs := [_]) dX11_act_18 rfl rfl cm_X11_holdsKey wf_42 wf_44 wf_45 rfl (Nat.le_of_ble_eq_true rfl) (Nat.le_of_ble_eq_true rfl) (Nat.le_of_ble_eq_true rfl) (Nat.le_of_ble_eq_true rfl) (s21_X11_holdsKey  (d + 1)  ) ?_
        rintro _ _ ⟨rfl, rfl⟩
        dsimp only [Option.toList, List.cons_append, List.nil_append]
        refine G_if_ne (pc := 21) (tgt := 34) (by decide) dX11_act_21 (fun z => absurd (by decide) z) (fun _ => ?_)
        refine G_aload_n (pc := 24) rfl dX11_act_24 ?_
        refine G_getR (pc := 25) (r := 65) (ci := 11) (j := 5) rfl lk_RX11_82 rfl rfl rfl dX11_act_25 ?_
        refine G_iconst (pc := 28) (v := 0) (by decide) dX11_act_28 ?_
        refine G_putI (pc := 29) (ci := 0) (j := 3) rfl lk_RX11_340 rfl rfl rfl trivial dX11_act_29 ?_
        refine G_iconst (pc := 32) (v := 0) (by decide) dX11_act_32 ?_
        exact G_iret (pc := 33) (Nat.le_of_ble_eq_true rfl) (Nat.le_of_ble_eq_true rfl) rfl dX11_act_33 ⟨_, by first | rfl | (simp [F_act, *]; done) | (have : 0 ≤ (act1).toInt := Int32.le_iff_toInt_le.mp (c109.1); have : (act1).toInt ≤ 3 := Int32.le_iff_toInt_le.mp (c109.2); simp only [F_act, Int32.le_iff_toInt_le, Int32.lt_iff_toInt_lt, ← Int32.toInt_inj]; simp; omega) | (have : 0 ≤ (act1).toInt := Int32.le_iff_toInt_le.mp (c109.1); have : (act1).toInt ≤ 3 := Int32.le_iff_toInt_le.mp (c109.2); simp only [F_act, Int32.le_iff_toInt_le, Int32.lt_iff_toInt_lt, ← Int32.toInt_inj]; split <;> first | rfl | (exfalso; simp at *; omega)) | (have : 0 ≤ (act1).toInt := Int32.le_iff_toInt_le.mp (c109.1); have : (act1).toInt ≤ 3 := Int32.le_iff_toInt_le.mp (c109.2); unfold F_act; (repeat' split) <;> first | rfl | (exfalso; (try simp only [Int32.le_iff_toInt_le, Int32.lt_iff_toInt_lt, ← Int32.toInt_inj] at *); first | omega | (simp at *; done) | (simp at *; omega))), rfl, fun a ha => by funext j; simp (disch := omega) only [gup_off, gcp_off]⟩
      by_cases c112 : shelf = 2
      · subst c112
        refine G_callV (pc := 18) (mc1 := 0) (ms1 := 0) (ci := 11) (mj := mX11_holdsKey) (vs := [_]) dX11_act_18 rfl rfl cm_X11_holdsKey wf_42 wf_44 wf_45 rfl (Nat.le_of_ble_eq_true rfl) (Nat.le_of_ble_eq_true rfl) (Nat.le_of_ble_eq_true rfl) (Nat.le_of_ble_eq_true rfl) (s22_X11_holdsKey  (d + 1)  ) ?_
        rintro _ _ ⟨rfl, rfl⟩
        dsimp only [Option.toList, List.cons_append, List.nil_append]
        refine G_if_ne (pc := 21) (tgt := 34) (by decide) dX11_act_21 (fun z => absurd (by decide) z) (fun _ => ?_)
        refine G_aload_n (pc := 24) rfl dX11_act_24 ?_
        refine G_getR (pc := 25) (r := 65) (ci := 11) (j := 5) rfl lk_RX11_82 rfl rfl rfl dX11_act_25 ?_
        refine G_iconst (pc := 28) (v := 0) (by decide) dX11_act_28 ?_
        refine G_putI (pc := 29) (ci := 0) (j := 3) rfl lk_RX11_340 rfl rfl rfl trivial dX11_act_29 ?_
        refine G_iconst (pc := 32) (v := 0) (by decide) dX11_act_32 ?_
        exact G_iret (pc := 33) (Nat.le_of_ble_eq_true rfl) (Nat.le_of_ble_eq_true rfl) rfl dX11_act_33 ⟨_, by first | rfl | (simp [F_act, *]; done) | (have : 0 ≤ (act1).toInt := Int32.le_iff_toInt_le.mp (c109.1); have : (act1).toInt ≤ 3 := Int32.le_iff_toInt_le.mp (c109.2); simp only [F_act, Int32.le_iff_toInt_le, Int32.lt_iff_toInt_lt, ← Int32.toInt_inj]; simp; omega) | (have : 0 ≤ (act1).toInt := Int32.le_iff_toInt_le.mp (c109.1); have : (act1).toInt ≤ 3 := Int32.le_iff_toInt_le.mp (c109.2); simp only [F_act, Int32.le_iff_toInt_le, Int32.lt_iff_toInt_lt, ← Int32.toInt_inj]; split <;> first | rfl | (exfalso; simp at *; omega)) | (have : 0 ≤ (act1).toInt := Int32.le_iff_toInt_le.mp (c109.1); have : (act1).toInt ≤ 3 := Int32.le_iff_toInt_le.mp (c109.2); unfold F_act; (repeat' split) <;> first | rfl | (exfalso; (try simp only [Int32.le_iff_toInt_le, Int32.lt_iff_toInt_lt, ← Int32.toInt_inj] at *); first | omega | (simp at *; done) | (simp at *; omega))), rfl, fun a ha => by funext j; simp (disch := omega) only [gup_off, gcp_off]⟩
      by_cases c113 : shelf = 3
      · subst c113
        refine G_callV (pc := 18) (mc1 := 0) (ms1 := 0) (ci := 11) (mj := mX11_holdsKey) (vs := [_]) dX11_act_18 rfl rfl cm_X11_holdsKey wf_42 wf_44 wf_45 rfl (Nat.le_of_ble_eq_true rfl) (Nat.le_of_ble_eq_true rfl) (Nat.le_of_ble_eq_true rfl) (Nat.le_of_ble_eq_true rfl) (s23_X11_holdsKey  (d + 1)  ) ?_
        rintro _ _ ⟨rfl, rfl⟩
        dsimp only [Option.toList, List.cons_append, List.nil_append]
        refine G_if_ne (pc := 21) (tgt := 34) (by decide) dX11_act_21 (fun z => absurd (by decide) z) (fun _ => ?_)
        refine G_aload_n (pc := 24) rfl dX11_act_24 ?_
        refine G_getR (pc := 25) (r := 65) (ci := 11) (j := 5) rfl lk_RX11_82 rfl rfl rfl dX11_act_25 ?_
        refine G_iconst (pc := 28) (v := 0) (by decide) dX11_act_28 ?_
        refine G_putI (pc := 29) (ci := 0) (j := 3) rfl lk_RX11_340 rfl rfl rfl trivial dX11_act_29 ?_
        refine G_iconst (pc := 32) (v := 0) (by decide) dX11_act_32 ?_
        exact G_iret (pc := 33) (Nat.le_of_ble_eq_true rfl) (Nat.le_of_ble_eq_true rfl) rfl dX11_act_33 ⟨_, by first | rfl | (simp [F_act, *]; done) | (have : 0 ≤ (act1).toInt := Int32.le_iff_toInt_le.mp (c109.1); have : (act1).toInt ≤ 3 := Int32.le_iff_toInt_le.mp (c109.2); simp only [F_act, Int32.le_iff_toInt_le, Int32.lt_iff_toInt_lt, ← Int32.toInt_inj]; simp; omega) | (have : 0 ≤ (act1).toInt := Int32.le_iff_toInt_le.mp (c109.1); have : (act1).toInt ≤ 3 := Int32.le_iff_toInt_le.mp (c109.2); simp only [F_act, Int32.le_iff_toInt_le, Int32.lt_iff_toInt_lt, ← Int32.toInt_inj]; split <;> first | rfl | (exfalso; simp at *; omega)) | (have : 0 ≤ (act1).toInt := Int32.le_iff_toInt_le.mp (c109.1); have : (act1).toInt ≤ 3 := Int32.le_iff_toInt_le.mp (c109.2); unfold F_act; (repeat' split) <;> first | rfl | (exfalso; (try simp only [Int32.le_iff_toInt_le, Int32.lt_iff_toInt_lt, ← Int32.toInt_inj] at *); first | omega | (simp at *; done) | (simp at *; omega))), rfl, fun a ha => by funext j; simp (disch := omega) only [gup_off, gcp_off]⟩
      exfalso
      have : 0 ≤ (shelf).toInt := Int32.le_iff_toInt_le.mp (c108.1)
      have : (shelf).toInt ≤ 3 := Int32.le_iff_toInt_le.mp (c108.2)
      have : (shelf).toInt ≠ 0 := g_ne (c110)
      have : (shelf).toInt ≠ 1 := g_ne (c111)
      have : (shelf).toInt ≠ 2 := g_ne (c112)
      have : (shelf).toInt ≠ 3 := g_ne (c113)
      omega
def F_trace (i : Int32) : Int32 := -3
set_option maxRecDepth 100000 in
set_option maxHeartbeats 4000000 in
theorem x_trace (d : Nat) (i : Int32) : G (d + 1) mX11_trace 0 0 0 0 0 (gent 2 [.ref 0, .int i]) [] SH0 RF0 I0 (fun r h => ∃ I1, r = some (.int (F_trace i)) ∧ h = (SH0, RF0, I1) ∧ ∀ a, 67 ≤ a → I1 a = I0 a) := by
  refine G_iload_n (pc := 0) rfl dX11_trace_0 ?_
  refine G_iconst (pc := 1) (v := 0) (by decide) dX11_trace_1 ?_
  refine G_aload_n (pc := 2) rfl dX11_trace_2 ?_
  refine G_getR (pc := 3) (r := 65) (ci := 11) (j := 5) rfl lk_RX11_82 rfl rfl rfl dX11_trace_3 ?_
  refine G_getI (pc := 6) (v := 0) (ci := 0) (j := 3) rfl rfl lk_RX11_340 rfl rfl dX11_trace_6 ?_
  refine G_iconst (pc := 9) (v := 1) (by decide) dX11_trace_9 ?_
  refine G_isub (pc := 10) (z := (-1)) (by decide) dX11_trace_10 ?_
  refine G_callS (pc := 11) (mc1 := 0) (ms1 := 0) (mj := mX11_isIn) (vs := [_, _, _]) dX11_trace_11 cm_X11_isIn wf_4 wf_6 rfl (Nat.le_of_ble_eq_true rfl) (Nat.le_of_ble_eq_true rfl) (Nat.le_of_ble_eq_true rfl) (Nat.le_of_ble_eq_true rfl) (isIn_s d i 0 ((-1))) ?_
  rintro _ _ ⟨rfl, rfl⟩
  dsimp only [Option.toList, List.cons_append, List.nil_append]
  refine G_if_eq (pc := 14) (tgt := 29) (by decide) dX11_trace_14 (fun c114 => ?_) (fun c114 => ?_)
  · have c114 := gB_z c114
    refine G_bipush (pc := 29) (v := (-3)) (by decide) dX11_trace_29 ?_
    exact G_iret (pc := 31) (Nat.le_of_ble_eq_true rfl) (Nat.le_of_ble_eq_true rfl) rfl dX11_trace_31 ⟨_, by first | rfl | (simp [F_trace, *]; done) | (have : ¬ (0 ≤ (i).toInt ∧ (i).toInt ≤ -1) := fun z => c114 ⟨Int32.le_iff_toInt_le.mpr z.1, Int32.le_iff_toInt_le.mpr z.2⟩; simp only [F_trace, Int32.le_iff_toInt_le, Int32.lt_iff_toInt_lt, ← Int32.toInt_inj]; simp; omega) | (have : ¬ (0 ≤ (i).toInt ∧ (i).toInt ≤ -1) := fun z => c114 ⟨Int32.le_iff_toInt_le.mpr z.1, Int32.le_iff_toInt_le.mpr z.2⟩; simp only [F_trace, Int32.le_iff_toInt_le, Int32.lt_iff_toInt_lt, ← Int32.toInt_inj]; split <;> first | rfl | (exfalso; simp at *; omega)) | (have : ¬ (0 ≤ (i).toInt ∧ (i).toInt ≤ -1) := fun z => c114 ⟨Int32.le_iff_toInt_le.mpr z.1, Int32.le_iff_toInt_le.mpr z.2⟩; unfold F_trace; (repeat' split) <;> first | rfl | (exfalso; (try simp only [Int32.le_iff_toInt_le, Int32.lt_iff_toInt_lt, ← Int32.toInt_inj] at *); first | omega | (simp at *; done) | (simp at *; omega))), rfl, fun _ _ => rfl⟩
  · have c114 := gB_o c114
    exfalso; have : 0 ≤ (i).toInt := Int32.le_iff_toInt_le.mp (c114.1); have : (i).toInt ≤ -1 := Int32.le_iff_toInt_le.mp (c114.2); omega
set_option maxRecDepth 100000 in
set_option maxHeartbeats 4000000 in
theorem s25_J6_bitCount_0f7a4  (d : Nat)   : G (d) mJ6_bitCount_0f7a4 0 0 0 0 0 (gent 1 [.int 0]) [] SH0 RF0 I0 (fun r h => r = some (.int 0) ∧ h = (SH0, RF0, I0)) := by
  refine G_iload_n (pc := 0) rfl dJ6_bitCount_0f7a4_0 ?_
  refine G_iload_n (pc := 1) rfl dJ6_bitCount_0f7a4_1 ?_
  refine G_iconst (pc := 2) (v := 1) (by decide) dJ6_bitCount_0f7a4_2 ?_
  refine G_iushr (pc := 3) (zz := .int 0) (by decide) dJ6_bitCount_0f7a4_3 ?_
  refine G_ldcw (pc := 4) (v := 1431655765) ck_RJ6_265 dJ6_bitCount_0f7a4_4 ?_
  refine G_iand (pc := 7) (z := 0) (by decide) dJ6_bitCount_0f7a4_7 ?_
  refine G_isub (pc := 8) (z := 0) (by decide) dJ6_bitCount_0f7a4_8 ?_
  refine G_istore_n (pc := 9) (L1 := [some (.int 0)]) rfl rfl (by decide) dJ6_bitCount_0f7a4_9 ?_
  refine G_iload_n (pc := 10) rfl dJ6_bitCount_0f7a4_10 ?_
  refine G_ldcw (pc := 11) (v := 858993459) ck_RJ6_266 dJ6_bitCount_0f7a4_11 ?_
  refine G_iand (pc := 14) (z := 0) (by decide) dJ6_bitCount_0f7a4_14 ?_
  refine G_iload_n (pc := 15) rfl dJ6_bitCount_0f7a4_15 ?_
  refine G_iconst (pc := 16) (v := 2) (by decide) dJ6_bitCount_0f7a4_16 ?_
  refine G_iushr (pc := 17) (zz := .int 0) (by decide) dJ6_bitCount_0f7a4_17 ?_
  refine G_ldcw (pc := 18) (v := 858993459) ck_RJ6_266 dJ6_bitCount_0f7a4_18 ?_
  refine G_iand (pc := 21) (z := 0) (by decide) dJ6_bitCount_0f7a4_21 ?_
  refine G_iadd (pc := 22) (z := 0) (by decide) dJ6_bitCount_0f7a4_22 ?_
  refine G_istore_n (pc := 23) (L1 := [some (.int 0)]) rfl rfl (by decide) dJ6_bitCount_0f7a4_23 ?_
  refine G_iload_n (pc := 24) rfl dJ6_bitCount_0f7a4_24 ?_
  refine G_iload_n (pc := 25) rfl dJ6_bitCount_0f7a4_25 ?_
  refine G_iconst (pc := 26) (v := 4) (by decide) dJ6_bitCount_0f7a4_26 ?_
  refine G_iushr (pc := 27) (zz := .int 0) (by decide) dJ6_bitCount_0f7a4_27 ?_
  refine G_iadd (pc := 28) (z := 0) (by decide) dJ6_bitCount_0f7a4_28 ?_
  refine G_ldcw (pc := 29) (v := 252645135) ck_RJ6_267 dJ6_bitCount_0f7a4_29 ?_
  refine G_iand (pc := 32) (z := 0) (by decide) dJ6_bitCount_0f7a4_32 ?_
  refine G_istore_n (pc := 33) (L1 := [some (.int 0)]) rfl rfl (by decide) dJ6_bitCount_0f7a4_33 ?_
  refine G_iload_n (pc := 34) rfl dJ6_bitCount_0f7a4_34 ?_
  refine G_iload_n (pc := 35) rfl dJ6_bitCount_0f7a4_35 ?_
  refine G_bipush (pc := 36) (v := 8) (by decide) dJ6_bitCount_0f7a4_36 ?_
  refine G_iushr (pc := 38) (zz := .int 0) (by decide) dJ6_bitCount_0f7a4_38 ?_
  refine G_iadd (pc := 39) (z := 0) (by decide) dJ6_bitCount_0f7a4_39 ?_
  refine G_istore_n (pc := 40) (L1 := [some (.int 0)]) rfl rfl (by decide) dJ6_bitCount_0f7a4_40 ?_
  refine G_iload_n (pc := 41) rfl dJ6_bitCount_0f7a4_41 ?_
  refine G_iload_n (pc := 42) rfl dJ6_bitCount_0f7a4_42 ?_
  refine G_bipush (pc := 43) (v := 16) (by decide) dJ6_bitCount_0f7a4_43 ?_
  refine G_iushr (pc := 45) (zz := .int 0) (by decide) dJ6_bitCount_0f7a4_45 ?_
  refine G_iadd (pc := 46) (z := 0) (by decide) dJ6_bitCount_0f7a4_46 ?_
  refine G_istore_n (pc := 47) (L1 := [some (.int 0)]) rfl rfl (by decide) dJ6_bitCount_0f7a4_47 ?_
  refine G_iload_n (pc := 48) rfl dJ6_bitCount_0f7a4_48 ?_
  refine G_bipush (pc := 49) (v := 63) (by decide) dJ6_bitCount_0f7a4_49 ?_
  refine G_iand (pc := 51) (z := 0) (by decide) dJ6_bitCount_0f7a4_51 ?_
  exact G_iret (pc := 52) (Nat.le_of_ble_eq_true rfl) (Nat.le_of_ble_eq_true rfl) rfl dJ6_bitCount_0f7a4_52 ⟨rfl, rfl⟩
def F_many (what : Int32) : Int32 := if 0 ≤ what ∧ what ≤ 6 then 0 else -1
set_option maxRecDepth 100000 in
set_option maxHeartbeats 4000000 in
theorem x_many (d : Nat) (what : Int32) : G (d + 1) mX11_many 0 0 0 0 0 (gent 2 [.ref 0, .int what]) [] SH0 RF0 I0 (fun r h => ∃ I1, r = some (.int (F_many what)) ∧ h = (SH0, RF0, I1) ∧ ∀ a, 67 ≤ a → I1 a = I0 a) := by
  refine G_iload_n (pc := 0) rfl dX11_many_0 ?_
  by_cases c115 : what = 0
  · subst c115
    refine G_tabIn (pc := 1) (tgt := 44) (off := 43) (by decide) (by decide) (by decide) (by decide) dX11_many_1 ?_
    refine G_aload_n (pc := 44) rfl dX11_many_44 ?_
    refine G_getR (pc := 45) (r := 19) (ci := 11) (j := 0) rfl lk_RX11_56 rfl rfl rfl dX11_many_45 ?_
    refine G_getI (pc := 48) (v := 0) (ci := 1) (j := 8) rfl rfl lk_RX11_97 rfl rfl dX11_many_48 ?_
    exact G_iret (pc := 51) (Nat.le_of_ble_eq_true rfl) (Nat.le_of_ble_eq_true rfl) rfl dX11_many_51 ⟨_, by first | rfl | (simp [F_many, *]; done) | (simp only [F_many, Int32.le_iff_toInt_le, Int32.lt_iff_toInt_lt, ← Int32.toInt_inj]; simp; omega) | (simp only [F_many, Int32.le_iff_toInt_le, Int32.lt_iff_toInt_lt, ← Int32.toInt_inj]; split <;> first | rfl | (exfalso; simp at *; omega)) | (unfold F_many; (repeat' split) <;> first | rfl | (exfalso; (try simp only [Int32.le_iff_toInt_le, Int32.lt_iff_toInt_lt, ← Int32.toInt_inj] at *); first | omega | (simp at *; done) | (simp at *; omega))), rfl, fun _ _ => rfl⟩
  by_cases c116 : what = 1
  · subst c116
    refine G_tabIn (pc := 1) (tgt := 52) (off := 51) (by decide) (by decide) (by decide) (by decide) dX11_many_1 ?_
    refine G_aload_n (pc := 52) rfl dX11_many_52 ?_
    refine G_getR (pc := 53) (r := 19) (ci := 11) (j := 0) rfl lk_RX11_56 rfl rfl rfl dX11_many_53 ?_
    refine G_getR (pc := 56) (r := 27) (ci := 1) (j := 14) rfl lk_RX11_189 rfl rfl rfl dX11_many_56 ?_
    refine G_getI (pc := 59) (v := 0) (ci := 6) (j := 0) rfl rfl lk_RX11_202 rfl rfl dX11_many_59 ?_
    exact G_iret (pc := 62) (Nat.le_of_ble_eq_true rfl) (Nat.le_of_ble_eq_true rfl) rfl dX11_many_62 ⟨_, by first | rfl | (simp [F_many, *]; done) | (simp only [F_many, Int32.le_iff_toInt_le, Int32.lt_iff_toInt_lt, ← Int32.toInt_inj]; simp; omega) | (simp only [F_many, Int32.le_iff_toInt_le, Int32.lt_iff_toInt_lt, ← Int32.toInt_inj]; split <;> first | rfl | (exfalso; simp at *; omega)) | (unfold F_many; (repeat' split) <;> first | rfl | (exfalso; (try simp only [Int32.le_iff_toInt_le, Int32.lt_iff_toInt_lt, ← Int32.toInt_inj] at *); first | omega | (simp at *; done) | (simp at *; omega))), rfl, fun _ _ => rfl⟩
  by_cases c117 : what = 2
  · subst c117
    refine G_tabIn (pc := 1) (tgt := 63) (off := 62) (by decide) (by decide) (by decide) (by decide) dX11_many_1 ?_
    refine G_aload_n (pc := 63) rfl dX11_many_63 ?_
    refine G_getR (pc := 64) (r := 19) (ci := 11) (j := 0) rfl lk_RX11_56 rfl rfl rfl dX11_many_64 ?_
    refine G_getI (pc := 67) (v := 0) (ci := 1) (j := 9) rfl rfl lk_RX11_165 rfl rfl dX11_many_67 ?_
    refine G_callS (pc := 70) (mc1 := 0) (ms1 := 0) (mj := mJ6_bitCount_0f7a4) (vs := [_]) dX11_many_70 cm_J6_bitCount_0f7a4 wf_46 wf_49 rfl (Nat.le_of_ble_eq_true rfl) (Nat.le_of_ble_eq_true rfl) (Nat.le_of_ble_eq_true rfl) (Nat.le_of_ble_eq_true rfl) (s25_J6_bitCount_0f7a4  d  ) ?_
    rintro _ _ ⟨rfl, rfl⟩
    dsimp only [Option.toList, List.cons_append, List.nil_append]
    exact G_iret (pc := 73) (Nat.le_of_ble_eq_true rfl) (Nat.le_of_ble_eq_true rfl) rfl dX11_many_73 ⟨_, by first | rfl | (simp [F_many, *]; done) | (simp only [F_many, Int32.le_iff_toInt_le, Int32.lt_iff_toInt_lt, ← Int32.toInt_inj]; simp; omega) | (simp only [F_many, Int32.le_iff_toInt_le, Int32.lt_iff_toInt_lt, ← Int32.toInt_inj]; split <;> first | rfl | (exfalso; simp at *; omega)) | (unfold F_many; (repeat' split) <;> first | rfl | (exfalso; (try simp only [Int32.le_iff_toInt_le, Int32.lt_iff_toInt_lt, ← Int32.toInt_inj] at *); first | omega | (simp at *; done) | (simp at *; omega))), rfl, fun _ _ => rfl⟩
  by_cases c118 : what = 3
  · subst c118
    refine G_tabIn (pc := 1) (tgt := 74) (off := 73) (by decide) (by decide) (by decide) (by decide) dX11_many_1 ?_
    refine G_aload_n (pc := 74) rfl dX11_many_74 ?_
    refine G_getR (pc := 75) (r := 19) (ci := 11) (j := 0) rfl lk_RX11_56 rfl rfl rfl dX11_many_75 ?_
    refine G_getI (pc := 78) (v := 0) (ci := 1) (j := 16) rfl rfl lk_RX11_270 rfl rfl dX11_many_78 ?_
    exact G_iret (pc := 81) (Nat.le_of_ble_eq_true rfl) (Nat.le_of_ble_eq_true rfl) rfl dX11_many_81 ⟨_, by first | rfl | (simp [F_many, *]; done) | (simp only [F_many, Int32.le_iff_toInt_le, Int32.lt_iff_toInt_lt, ← Int32.toInt_inj]; simp; omega) | (simp only [F_many, Int32.le_iff_toInt_le, Int32.lt_iff_toInt_lt, ← Int32.toInt_inj]; split <;> first | rfl | (exfalso; simp at *; omega)) | (unfold F_many; (repeat' split) <;> first | rfl | (exfalso; (try simp only [Int32.le_iff_toInt_le, Int32.lt_iff_toInt_lt, ← Int32.toInt_inj] at *); first | omega | (simp at *; done) | (simp at *; omega))), rfl, fun _ _ => rfl⟩
  by_cases c119 : what = 4
  · subst c119
    refine G_tabIn (pc := 1) (tgt := 82) (off := 81) (by decide) (by decide) (by decide) (by decide) dX11_many_1 ?_
    refine G_aload_n (pc := 82) rfl dX11_many_82 ?_
    refine G_getI (pc := 83) (v := 0) (ci := 11) (j := 7) rfl rfl lk_RX11_307 rfl rfl dX11_many_83 ?_
    exact G_iret (pc := 86) (Nat.le_of_ble_eq_true rfl) (Nat.le_of_ble_eq_true rfl) rfl dX11_many_86 ⟨_, by first | rfl | (simp [F_many, *]; done) | (simp only [F_many, Int32.le_iff_toInt_le, Int32.lt_iff_toInt_lt, ← Int32.toInt_inj]; simp; omega) | (simp only [F_many, Int32.le_iff_toInt_le, Int32.lt_iff_toInt_lt, ← Int32.toInt_inj]; split <;> first | rfl | (exfalso; simp at *; omega)) | (unfold F_many; (repeat' split) <;> first | rfl | (exfalso; (try simp only [Int32.le_iff_toInt_le, Int32.lt_iff_toInt_lt, ← Int32.toInt_inj] at *); first | omega | (simp at *; done) | (simp at *; omega))), rfl, fun _ _ => rfl⟩
  by_cases c120 : what = 5
  · subst c120
    refine G_tabIn (pc := 1) (tgt := 87) (off := 86) (by decide) (by decide) (by decide) (by decide) dX11_many_1 ?_
    refine G_aload_n (pc := 87) rfl dX11_many_87 ?_
    refine G_getR (pc := 88) (r := 55) (ci := 11) (j := 4) rfl lk_RX11_75 rfl rfl rfl dX11_many_88 ?_
    refine G_getI (pc := 91) (v := 0) (ci := 5) (j := 1) rfl rfl lk_RX11_179 rfl rfl dX11_many_91 ?_
    exact G_iret (pc := 94) (Nat.le_of_ble_eq_true rfl) (Nat.le_of_ble_eq_true rfl) rfl dX11_many_94 ⟨_, by first | rfl | (simp [F_many, *]; done) | (simp only [F_many, Int32.le_iff_toInt_le, Int32.lt_iff_toInt_lt, ← Int32.toInt_inj]; simp; omega) | (simp only [F_many, Int32.le_iff_toInt_le, Int32.lt_iff_toInt_lt, ← Int32.toInt_inj]; split <;> first | rfl | (exfalso; simp at *; omega)) | (unfold F_many; (repeat' split) <;> first | rfl | (exfalso; (try simp only [Int32.le_iff_toInt_le, Int32.lt_iff_toInt_lt, ← Int32.toInt_inj] at *); first | omega | (simp at *; done) | (simp at *; omega))), rfl, fun _ _ => rfl⟩
  by_cases c121 : what = 6
  · subst c121
    refine G_tabIn (pc := 1) (tgt := 95) (off := 94) (by decide) (by decide) (by decide) (by decide) dX11_many_1 ?_
    refine G_aload_n (pc := 95) rfl dX11_many_95 ?_
    refine G_getR (pc := 96) (r := 65) (ci := 11) (j := 5) rfl lk_RX11_82 rfl rfl rfl dX11_many_96 ?_
    refine G_getI (pc := 99) (v := 0) (ci := 0) (j := 3) rfl rfl lk_RX11_340 rfl rfl dX11_many_99 ?_
    exact G_iret (pc := 102) (Nat.le_of_ble_eq_true rfl) (Nat.le_of_ble_eq_true rfl) rfl dX11_many_102 ⟨_, by first | rfl | (simp [F_many, *]; done) | (simp only [F_many, Int32.le_iff_toInt_le, Int32.lt_iff_toInt_lt, ← Int32.toInt_inj]; simp; omega) | (simp only [F_many, Int32.le_iff_toInt_le, Int32.lt_iff_toInt_lt, ← Int32.toInt_inj]; split <;> first | rfl | (exfalso; simp at *; omega)) | (unfold F_many; (repeat' split) <;> first | rfl | (exfalso; (try simp only [Int32.le_iff_toInt_le, Int32.lt_iff_toInt_lt, ← Int32.toInt_inj] at *); first | omega | (simp at *; done) | (simp at *; omega))), rfl, fun _ _ => rfl⟩
  refine G_tabOut (pc := 1) (tgt := 103) (by decide) (by have : (what).toInt ≠ 0 := g_ne c115; have : (what).toInt ≠ 1 := g_ne c116; have : (what).toInt ≠ 2 := g_ne c117; have : (what).toInt ≠ 3 := g_ne c118; have : (what).toInt ≠ 4 := g_ne c119; have : (what).toInt ≠ 5 := g_ne c120; have : (what).toInt ≠ 6 := g_ne c121; omega) dX11_many_1 ?_
  refine G_iconst (pc := 103) (v := (-1)) (by decide) dX11_many_103 ?_
  exact G_iret (pc := 104) (Nat.le_of_ble_eq_true rfl) (Nat.le_of_ble_eq_true rfl) rfl dX11_many_104 ⟨_, by first | rfl | (simp [F_many, *]; done) | (have : (what).toInt ≠ 0 := g_ne (c115); have : (what).toInt ≠ 1 := g_ne (c116); have : (what).toInt ≠ 2 := g_ne (c117); have : (what).toInt ≠ 3 := g_ne (c118); have : (what).toInt ≠ 4 := g_ne (c119); have : (what).toInt ≠ 5 := g_ne (c120); have : (what).toInt ≠ 6 := g_ne (c121); simp only [F_many, Int32.le_iff_toInt_le, Int32.lt_iff_toInt_lt, ← Int32.toInt_inj]; simp; omega) | (have : (what).toInt ≠ 0 := g_ne (c115); have : (what).toInt ≠ 1 := g_ne (c116); have : (what).toInt ≠ 2 := g_ne (c117); have : (what).toInt ≠ 3 := g_ne (c118); have : (what).toInt ≠ 4 := g_ne (c119); have : (what).toInt ≠ 5 := g_ne (c120); have : (what).toInt ≠ 6 := g_ne (c121); simp only [F_many, Int32.le_iff_toInt_le, Int32.lt_iff_toInt_lt, ← Int32.toInt_inj]; split <;> first | rfl | (exfalso; simp at *; omega)) | (have : (what).toInt ≠ 0 := g_ne (c115); have : (what).toInt ≠ 1 := g_ne (c116); have : (what).toInt ≠ 2 := g_ne (c117); have : (what).toInt ≠ 3 := g_ne (c118); have : (what).toInt ≠ 4 := g_ne (c119); have : (what).toInt ≠ 5 := g_ne (c120); have : (what).toInt ≠ 6 := g_ne (c121); unfold F_many; (repeat' split) <;> first | rfl | (exfalso; (try simp only [Int32.le_iff_toInt_le, Int32.lt_iff_toInt_lt, ← Int32.toInt_inj] at *); first | omega | (simp at *; done) | (simp at *; omega))), rfl, fun _ _ => rfl⟩
set_option maxRecDepth 100000 in
set_option maxHeartbeats 4000000 in
theorem s27_X6_copyFrom  (d : Nat)   : G (d + 1) mX6_copyFrom 0 0 0 0 0 (gent 2 [.ref 43, .ref 27]) [] SH0 RF0 (gcp (gcp (gcp (gcp (gup (gup (gcp (gcp (gcp (gup (gup (gup (gup I0 35 1 0) 35 2 12) 35 3 0) 35 4 1) 20 36 (0 : Int32).toNatClampNeg (0 : Int32).toNatClampNeg (16 : Int32).toNatClampNeg) 21 37 (0 : Int32).toNatClampNeg (0 : Int32).toNatClampNeg (6 : Int32).toNatClampNeg) 22 38 (0 : Int32).toNatClampNeg (0 : Int32).toNatClampNeg (6 : Int32).toNatClampNeg) 35 8 0) 35 9 0) 23 39 (0 : Int32).toNatClampNeg (0 : Int32).toNatClampNeg (6 : Int32).toNatClampNeg) 24 40 (0 : Int32).toNatClampNeg (0 : Int32).toNatClampNeg (6 : Int32).toNatClampNeg) 25 41 (0 : Int32).toNatClampNeg (0 : Int32).toNatClampNeg (6 : Int32).toNatClampNeg) 26 42 (0 : Int32).toNatClampNeg (0 : Int32).toNatClampNeg (6 : Int32).toNatClampNeg) (fun r h => r = none ∧ h = (SH0, RF0, (gcp (gcp (gcp (gcp (gup (gup (gcp (gcp (gcp (gcp (gup (gup (gcp (gcp (gcp (gup (gup (gup (gup I0 35 1 0) 35 2 12) 35 3 0) 35 4 1) 20 36 (0 : Int32).toNatClampNeg (0 : Int32).toNatClampNeg (16 : Int32).toNatClampNeg) 21 37 (0 : Int32).toNatClampNeg (0 : Int32).toNatClampNeg (6 : Int32).toNatClampNeg) 22 38 (0 : Int32).toNatClampNeg (0 : Int32).toNatClampNeg (6 : Int32).toNatClampNeg) 35 8 0) 35 9 0) 23 39 (0 : Int32).toNatClampNeg (0 : Int32).toNatClampNeg (6 : Int32).toNatClampNeg) 24 40 (0 : Int32).toNatClampNeg (0 : Int32).toNatClampNeg (6 : Int32).toNatClampNeg) 25 41 (0 : Int32).toNatClampNeg (0 : Int32).toNatClampNeg (6 : Int32).toNatClampNeg) 26 42 (0 : Int32).toNatClampNeg (0 : Int32).toNatClampNeg (6 : Int32).toNatClampNeg) 43 0 0) 43 1 0) 28 44 (0 : Int32).toNatClampNeg (0 : Int32).toNatClampNeg (8 : Int32).toNatClampNeg) 29 45 (0 : Int32).toNatClampNeg (0 : Int32).toNatClampNeg (8 : Int32).toNatClampNeg) 30 46 (0 : Int32).toNatClampNeg (0 : Int32).toNatClampNeg (8 : Int32).toNatClampNeg) 31 47 (0 : Int32).toNatClampNeg (0 : Int32).toNatClampNeg (0 : Int32).toNatClampNeg))) := by
  refine G_aload_n (pc := 0) rfl dX6_copyFrom_0 ?_
  refine G_aload_n (pc := 1) rfl dX6_copyFrom_1 ?_
  refine G_getI (pc := 2) (v := 0) (ci := 6) (j := 0) rfl rfl lk_RX6_24 rfl rfl dX6_copyFrom_2 ?_
  refine G_putI (pc := 5) (ci := 6) (j := 0) rfl lk_RX6_24 rfl rfl rfl trivial dX6_copyFrom_5 ?_
  refine G_aload_n (pc := 8) rfl dX6_copyFrom_8 ?_
  refine G_aload_n (pc := 9) rfl dX6_copyFrom_9 ?_
  refine G_getI (pc := 10) (v := 0) (ci := 6) (j := 1) rfl rfl lk_RX6_28 rfl rfl dX6_copyFrom_10 ?_
  refine G_putI (pc := 13) (ci := 6) (j := 1) rfl lk_RX6_28 rfl rfl rfl trivial dX6_copyFrom_13 ?_
  refine G_aload_n (pc := 16) rfl dX6_copyFrom_16 ?_
  refine G_getR (pc := 17) (r := 28) (ci := 6) (j := 2) rfl lk_RX6_9 rfl rfl rfl dX6_copyFrom_17 ?_
  refine G_iconst (pc := 20) (v := 0) (by decide) dX6_copyFrom_20 ?_
  refine G_aload_n (pc := 21) rfl dX6_copyFrom_21 ?_
  refine G_getR (pc := 22) (r := 44) (ci := 6) (j := 2) rfl lk_RX6_9 rfl rfl rfl dX6_copyFrom_22 ?_
  refine G_iconst (pc := 25) (v := 0) (by decide) dX6_copyFrom_25 ?_
  refine G_bipush (pc := 26) (v := 8) (by decide) dX6_copyFrom_26 ?_
  refine G_copy (pc := 28) (x := 28) (y := 44) rfl rfl (by decide) (by decide) (by decide) (by decide) (by decide) wf_54 wf_51 wf_52 wf_53 (Nat.le_of_ble_eq_true rfl) dX6_copyFrom_28 ?_
  refine G_aload_n (pc := 31) rfl dX6_copyFrom_31 ?_
  refine G_getR (pc := 32) (r := 29) (ci := 6) (j := 3) rfl lk_RX6_15 rfl rfl rfl dX6_copyFrom_32 ?_
  refine G_iconst (pc := 35) (v := 0) (by decide) dX6_copyFrom_35 ?_
  refine G_aload_n (pc := 36) rfl dX6_copyFrom_36 ?_
  refine G_getR (pc := 37) (r := 45) (ci := 6) (j := 3) rfl lk_RX6_15 rfl rfl rfl dX6_copyFrom_37 ?_
  refine G_iconst (pc := 40) (v := 0) (by decide) dX6_copyFrom_40 ?_
  refine G_bipush (pc := 41) (v := 8) (by decide) dX6_copyFrom_41 ?_
  refine G_copy (pc := 43) (x := 29) (y := 45) rfl rfl (by decide) (by decide) (by decide) (by decide) (by decide) wf_54 wf_51 wf_52 wf_53 (Nat.le_of_ble_eq_true rfl) dX6_copyFrom_43 ?_
  refine G_aload_n (pc := 46) rfl dX6_copyFrom_46 ?_
  refine G_getR (pc := 47) (r := 30) (ci := 6) (j := 4) rfl lk_RX6_18 rfl rfl rfl dX6_copyFrom_47 ?_
  refine G_iconst (pc := 50) (v := 0) (by decide) dX6_copyFrom_50 ?_
  refine G_aload_n (pc := 51) rfl dX6_copyFrom_51 ?_
  refine G_getR (pc := 52) (r := 46) (ci := 6) (j := 4) rfl lk_RX6_18 rfl rfl rfl dX6_copyFrom_52 ?_
  refine G_iconst (pc := 55) (v := 0) (by decide) dX6_copyFrom_55 ?_
  refine G_bipush (pc := 56) (v := 8) (by decide) dX6_copyFrom_56 ?_
  refine G_copy (pc := 58) (x := 30) (y := 46) rfl rfl (by decide) (by decide) (by decide) (by decide) (by decide) wf_54 wf_51 wf_52 wf_53 (Nat.le_of_ble_eq_true rfl) dX6_copyFrom_58 ?_
  refine G_aload_n (pc := 61) rfl dX6_copyFrom_61 ?_
  refine G_getR (pc := 62) (r := 31) (ci := 6) (j := 5) rfl lk_RX6_21 rfl rfl rfl dX6_copyFrom_62 ?_
  refine G_iconst (pc := 65) (v := 0) (by decide) dX6_copyFrom_65 ?_
  refine G_aload_n (pc := 66) rfl dX6_copyFrom_66 ?_
  refine G_getR (pc := 67) (r := 47) (ci := 6) (j := 5) rfl lk_RX6_21 rfl rfl rfl dX6_copyFrom_67 ?_
  refine G_iconst (pc := 70) (v := 0) (by decide) dX6_copyFrom_70 ?_
  refine G_aload_n (pc := 71) rfl dX6_copyFrom_71 ?_
  refine G_getI (pc := 72) (v := 0) (ci := 6) (j := 1) rfl rfl lk_RX6_28 rfl rfl dX6_copyFrom_72 ?_
  refine G_copy (pc := 75) (x := 31) (y := 47) rfl rfl (by decide) (by decide) (by decide) (by decide) (by decide) wf_54 wf_51 wf_52 wf_53 (Nat.le_of_ble_eq_true rfl) dX6_copyFrom_75 ?_
  exact G_vret (pc := 78) (Nat.le_of_ble_eq_true rfl) (Nat.le_of_ble_eq_true rfl) rfl dX6_copyFrom_78 ⟨rfl, rfl⟩
set_option maxRecDepth 100000 in
set_option maxHeartbeats 4000000 in
theorem s26_X1_copyFrom  (d : Nat)   : G (d + 2) mX1_copyFrom 0 0 0 0 0 (gent 2 [.ref 35, .ref 19]) [] SH0 RF0 I0 (fun r h => r = none ∧ h = (SH0, RF0, (gup (gcp (gcp (gcp (gcp (gcp (gup (gup (gcp (gcp (gcp (gcp (gup (gup (gcp (gcp (gcp (gup (gup (gup (gup I0 35 1 0) 35 2 12) 35 3 0) 35 4 1) 20 36 (0 : Int32).toNatClampNeg (0 : Int32).toNatClampNeg (16 : Int32).toNatClampNeg) 21 37 (0 : Int32).toNatClampNeg (0 : Int32).toNatClampNeg (6 : Int32).toNatClampNeg) 22 38 (0 : Int32).toNatClampNeg (0 : Int32).toNatClampNeg (6 : Int32).toNatClampNeg) 35 8 0) 35 9 0) 23 39 (0 : Int32).toNatClampNeg (0 : Int32).toNatClampNeg (6 : Int32).toNatClampNeg) 24 40 (0 : Int32).toNatClampNeg (0 : Int32).toNatClampNeg (6 : Int32).toNatClampNeg) 25 41 (0 : Int32).toNatClampNeg (0 : Int32).toNatClampNeg (6 : Int32).toNatClampNeg) 26 42 (0 : Int32).toNatClampNeg (0 : Int32).toNatClampNeg (6 : Int32).toNatClampNeg) 43 0 0) 43 1 0) 28 44 (0 : Int32).toNatClampNeg (0 : Int32).toNatClampNeg (8 : Int32).toNatClampNeg) 29 45 (0 : Int32).toNatClampNeg (0 : Int32).toNatClampNeg (8 : Int32).toNatClampNeg) 30 46 (0 : Int32).toNatClampNeg (0 : Int32).toNatClampNeg (8 : Int32).toNatClampNeg) 31 47 (0 : Int32).toNatClampNeg (0 : Int32).toNatClampNeg (0 : Int32).toNatClampNeg) 32 48 (0 : Int32).toNatClampNeg (0 : Int32).toNatClampNeg (24 : Int32).toNatClampNeg) 35 16 0))) := by
  refine G_aload_n (pc := 0) rfl dX1_copyFrom_0 ?_
  refine G_aload_n (pc := 1) rfl dX1_copyFrom_1 ?_
  refine G_getI (pc := 2) (v := 0) (ci := 1) (j := 1) rfl rfl lk_RX1_60 rfl rfl dX1_copyFrom_2 ?_
  refine G_putI (pc := 5) (ci := 1) (j := 1) rfl lk_RX1_60 rfl rfl rfl trivial dX1_copyFrom_5 ?_
  refine G_aload_n (pc := 8) rfl dX1_copyFrom_8 ?_
  refine G_aload_n (pc := 9) rfl dX1_copyFrom_9 ?_
  refine G_getI (pc := 10) (v := 12) (ci := 1) (j := 2) rfl rfl lk_RX1_9 rfl rfl dX1_copyFrom_10 ?_
  refine G_putI (pc := 13) (ci := 1) (j := 2) rfl lk_RX1_9 rfl rfl rfl trivial dX1_copyFrom_13 ?_
  refine G_aload_n (pc := 16) rfl dX1_copyFrom_16 ?_
  refine G_aload_n (pc := 17) rfl dX1_copyFrom_17 ?_
  refine G_getI (pc := 18) (v := 0) (ci := 1) (j := 3) rfl rfl lk_RX1_63 rfl rfl dX1_copyFrom_18 ?_
  refine G_putI (pc := 21) (ci := 1) (j := 3) rfl lk_RX1_63 rfl rfl rfl trivial dX1_copyFrom_21 ?_
  refine G_aload_n (pc := 24) rfl dX1_copyFrom_24 ?_
  refine G_aload_n (pc := 25) rfl dX1_copyFrom_25 ?_
  refine G_getI (pc := 26) (v := 1) (ci := 1) (j := 4) rfl rfl lk_RX1_15 rfl rfl dX1_copyFrom_26 ?_
  refine G_putI (pc := 29) (ci := 1) (j := 4) rfl lk_RX1_15 rfl rfl rfl trivial dX1_copyFrom_29 ?_
  refine G_aload_n (pc := 32) rfl dX1_copyFrom_32 ?_
  refine G_getR (pc := 33) (r := 20) (ci := 1) (j := 5) rfl lk_RX1_18 rfl rfl rfl dX1_copyFrom_33 ?_
  refine G_iconst (pc := 36) (v := 0) (by decide) dX1_copyFrom_36 ?_
  refine G_aload_n (pc := 37) rfl dX1_copyFrom_37 ?_
  refine G_getR (pc := 38) (r := 36) (ci := 1) (j := 5) rfl lk_RX1_18 rfl rfl rfl dX1_copyFrom_38 ?_
  refine G_iconst (pc := 41) (v := 0) (by decide) dX1_copyFrom_41 ?_
  refine G_bipush (pc := 42) (v := 16) (by decide) dX1_copyFrom_42 ?_
  refine G_copy (pc := 44) (x := 20) (y := 36) rfl rfl (by decide) (by decide) (by decide) (by decide) (by decide) wf_50 wf_51 wf_52 wf_53 (Nat.le_of_ble_eq_true rfl) dX1_copyFrom_44 ?_
  refine G_aload_n (pc := 47) rfl dX1_copyFrom_47 ?_
  refine G_getR (pc := 48) (r := 21) (ci := 1) (j := 6) rfl lk_RX1_22 rfl rfl rfl dX1_copyFrom_48 ?_
  refine G_iconst (pc := 51) (v := 0) (by decide) dX1_copyFrom_51 ?_
  refine G_aload_n (pc := 52) rfl dX1_copyFrom_52 ?_
  refine G_getR (pc := 53) (r := 37) (ci := 1) (j := 6) rfl lk_RX1_22 rfl rfl rfl dX1_copyFrom_53 ?_
  refine G_iconst (pc := 56) (v := 0) (by decide) dX1_copyFrom_56 ?_
  refine G_bipush (pc := 57) (v := 6) (by decide) dX1_copyFrom_57 ?_
  refine G_copy (pc := 59) (x := 21) (y := 37) rfl rfl (by decide) (by decide) (by decide) (by decide) (by decide) wf_50 wf_51 wf_52 wf_53 (Nat.le_of_ble_eq_true rfl) dX1_copyFrom_59 ?_
  refine G_aload_n (pc := 62) rfl dX1_copyFrom_62 ?_
  refine G_getR (pc := 63) (r := 22) (ci := 1) (j := 7) rfl lk_RX1_25 rfl rfl rfl dX1_copyFrom_63 ?_
  refine G_iconst (pc := 66) (v := 0) (by decide) dX1_copyFrom_66 ?_
  refine G_aload_n (pc := 67) rfl dX1_copyFrom_67 ?_
  refine G_getR (pc := 68) (r := 38) (ci := 1) (j := 7) rfl lk_RX1_25 rfl rfl rfl dX1_copyFrom_68 ?_
  refine G_iconst (pc := 71) (v := 0) (by decide) dX1_copyFrom_71 ?_
  refine G_bipush (pc := 72) (v := 6) (by decide) dX1_copyFrom_72 ?_
  refine G_copy (pc := 74) (x := 22) (y := 38) rfl rfl (by decide) (by decide) (by decide) (by decide) (by decide) wf_50 wf_51 wf_52 wf_53 (Nat.le_of_ble_eq_true rfl) dX1_copyFrom_74 ?_
  refine G_aload_n (pc := 77) rfl dX1_copyFrom_77 ?_
  refine G_aload_n (pc := 78) rfl dX1_copyFrom_78 ?_
  refine G_getI (pc := 79) (v := 0) (ci := 1) (j := 8) rfl rfl lk_RX1_72 rfl rfl dX1_copyFrom_79 ?_
  refine G_putI (pc := 82) (ci := 1) (j := 8) rfl lk_RX1_72 rfl rfl rfl trivial dX1_copyFrom_82 ?_
  refine G_aload_n (pc := 85) rfl dX1_copyFrom_85 ?_
  refine G_aload_n (pc := 86) rfl dX1_copyFrom_86 ?_
  refine G_getI (pc := 87) (v := 0) (ci := 1) (j := 9) rfl rfl lk_RX1_75 rfl rfl dX1_copyFrom_87 ?_
  refine G_putI (pc := 90) (ci := 1) (j := 9) rfl lk_RX1_75 rfl rfl rfl trivial dX1_copyFrom_90 ?_
  refine G_aload_n (pc := 93) rfl dX1_copyFrom_93 ?_
  refine G_getR (pc := 94) (r := 23) (ci := 1) (j := 10) rfl lk_RX1_28 rfl rfl rfl dX1_copyFrom_94 ?_
  refine G_iconst (pc := 97) (v := 0) (by decide) dX1_copyFrom_97 ?_
  refine G_aload_n (pc := 98) rfl dX1_copyFrom_98 ?_
  refine G_getR (pc := 99) (r := 39) (ci := 1) (j := 10) rfl lk_RX1_28 rfl rfl rfl dX1_copyFrom_99 ?_
  refine G_iconst (pc := 102) (v := 0) (by decide) dX1_copyFrom_102 ?_
  refine G_bipush (pc := 103) (v := 6) (by decide) dX1_copyFrom_103 ?_
  refine G_copy (pc := 105) (x := 23) (y := 39) rfl rfl (by decide) (by decide) (by decide) (by decide) (by decide) wf_50 wf_51 wf_52 wf_53 (Nat.le_of_ble_eq_true rfl) dX1_copyFrom_105 ?_
  refine G_aload_n (pc := 108) rfl dX1_copyFrom_108 ?_
  refine G_getR (pc := 109) (r := 24) (ci := 1) (j := 11) rfl lk_RX1_31 rfl rfl rfl dX1_copyFrom_109 ?_
  refine G_iconst (pc := 112) (v := 0) (by decide) dX1_copyFrom_112 ?_
  refine G_aload_n (pc := 113) rfl dX1_copyFrom_113 ?_
  refine G_getR (pc := 114) (r := 40) (ci := 1) (j := 11) rfl lk_RX1_31 rfl rfl rfl dX1_copyFrom_114 ?_
  refine G_iconst (pc := 117) (v := 0) (by decide) dX1_copyFrom_117 ?_
  refine G_bipush (pc := 118) (v := 6) (by decide) dX1_copyFrom_118 ?_
  refine G_copy (pc := 120) (x := 24) (y := 40) rfl rfl (by decide) (by decide) (by decide) (by decide) (by decide) wf_50 wf_51 wf_52 wf_53 (Nat.le_of_ble_eq_true rfl) dX1_copyFrom_120 ?_
  refine G_aload_n (pc := 123) rfl dX1_copyFrom_123 ?_
  refine G_getR (pc := 124) (r := 25) (ci := 1) (j := 12) rfl lk_RX1_34 rfl rfl rfl dX1_copyFrom_124 ?_
  refine G_iconst (pc := 127) (v := 0) (by decide) dX1_copyFrom_127 ?_
  refine G_aload_n (pc := 128) rfl dX1_copyFrom_128 ?_
  refine G_getR (pc := 129) (r := 41) (ci := 1) (j := 12) rfl lk_RX1_34 rfl rfl rfl dX1_copyFrom_129 ?_
  refine G_iconst (pc := 132) (v := 0) (by decide) dX1_copyFrom_132 ?_
  refine G_bipush (pc := 133) (v := 6) (by decide) dX1_copyFrom_133 ?_
  refine G_copy (pc := 135) (x := 25) (y := 41) rfl rfl (by decide) (by decide) (by decide) (by decide) (by decide) wf_50 wf_51 wf_52 wf_53 (Nat.le_of_ble_eq_true rfl) dX1_copyFrom_135 ?_
  refine G_aload_n (pc := 138) rfl dX1_copyFrom_138 ?_
  refine G_getR (pc := 139) (r := 26) (ci := 1) (j := 13) rfl lk_RX1_37 rfl rfl rfl dX1_copyFrom_139 ?_
  refine G_iconst (pc := 142) (v := 0) (by decide) dX1_copyFrom_142 ?_
  refine G_aload_n (pc := 143) rfl dX1_copyFrom_143 ?_
  refine G_getR (pc := 144) (r := 42) (ci := 1) (j := 13) rfl lk_RX1_37 rfl rfl rfl dX1_copyFrom_144 ?_
  refine G_iconst (pc := 147) (v := 0) (by decide) dX1_copyFrom_147 ?_
  refine G_bipush (pc := 148) (v := 6) (by decide) dX1_copyFrom_148 ?_
  refine G_copy (pc := 150) (x := 26) (y := 42) rfl rfl (by decide) (by decide) (by decide) (by decide) (by decide) wf_50 wf_51 wf_52 wf_53 (Nat.le_of_ble_eq_true rfl) dX1_copyFrom_150 ?_
  refine G_aload_n (pc := 153) rfl dX1_copyFrom_153 ?_
  refine G_getR (pc := 154) (r := 43) (ci := 1) (j := 14) rfl lk_RX1_43 rfl rfl rfl dX1_copyFrom_154 ?_
  refine G_aload_n (pc := 157) rfl dX1_copyFrom_157 ?_
  refine G_getR (pc := 158) (r := 27) (ci := 1) (j := 14) rfl lk_RX1_43 rfl rfl rfl dX1_copyFrom_158 ?_
  refine G_callV (pc := 161) (mc1 := 0) (ms1 := 0) (ci := 6) (mj := mX6_copyFrom) (vs := [_]) dX1_copyFrom_161 rfl rfl cm_X6_copyFrom wf_55 wf_58 wf_59 rfl (Nat.le_of_ble_eq_true rfl) (Nat.le_of_ble_eq_true rfl) (Nat.le_of_ble_eq_true rfl) (Nat.le_of_ble_eq_true rfl) (s27_X6_copyFrom  d  ) ?_
  rintro _ _ ⟨rfl, rfl⟩
  dsimp only [Option.toList, List.cons_append, List.nil_append]
  refine G_aload_n (pc := 164) rfl dX1_copyFrom_164 ?_
  refine G_getR (pc := 165) (r := 32) (ci := 1) (j := 15) rfl lk_RX1_47 rfl rfl rfl dX1_copyFrom_165 ?_
  refine G_iconst (pc := 168) (v := 0) (by decide) dX1_copyFrom_168 ?_
  refine G_aload_n (pc := 169) rfl dX1_copyFrom_169 ?_
  refine G_getR (pc := 170) (r := 48) (ci := 1) (j := 15) rfl lk_RX1_47 rfl rfl rfl dX1_copyFrom_170 ?_
  refine G_iconst (pc := 173) (v := 0) (by decide) dX1_copyFrom_173 ?_
  refine G_bipush (pc := 174) (v := 24) (by decide) dX1_copyFrom_174 ?_
  refine G_copy (pc := 176) (x := 32) (y := 48) rfl rfl (by decide) (by decide) (by decide) (by decide) (by decide) wf_50 wf_51 wf_52 wf_53 (Nat.le_of_ble_eq_true rfl) dX1_copyFrom_176 ?_
  refine G_aload_n (pc := 179) rfl dX1_copyFrom_179 ?_
  refine G_aload_n (pc := 180) rfl dX1_copyFrom_180 ?_
  refine G_getI (pc := 181) (v := 0) (ci := 1) (j := 16) rfl rfl lk_RX1_82 rfl rfl dX1_copyFrom_181 ?_
  refine G_putI (pc := 184) (ci := 1) (j := 16) rfl lk_RX1_82 rfl rfl rfl trivial dX1_copyFrom_184 ?_
  exact G_vret (pc := 187) (Nat.le_of_ble_eq_true rfl) (Nat.le_of_ble_eq_true rfl) rfl dX1_copyFrom_187 ⟨rfl, rfl⟩
def F_keep  : Int32 := 1
set_option maxRecDepth 100000 in
set_option maxHeartbeats 4000000 in
theorem x_keep (d : Nat)  : G (d + 3) mX11_keep 0 0 0 0 0 (gent 1 [.ref 0]) [] SH0 RF0 I0 (fun r h => ∃ I1, r = some (.int (F_keep )) ∧ h = (SH0, RF0, I1) ∧ ∀ a, 67 ≤ a → I1 a = I0 a) := by
  refine G_aload_n (pc := 0) rfl dX11_keep_0 ?_
  refine G_getR (pc := 1) (r := 35) (ci := 11) (j := 1) rfl lk_RX11_60 rfl rfl rfl dX11_keep_1 ?_
  refine G_aload_n (pc := 4) rfl dX11_keep_4 ?_
  refine G_getR (pc := 5) (r := 19) (ci := 11) (j := 0) rfl lk_RX11_56 rfl rfl rfl dX11_keep_5 ?_
  refine G_callV (pc := 8) (mc1 := 0) (ms1 := 0) (ci := 1) (mj := mX1_copyFrom) (vs := [_]) dX11_keep_8 rfl rfl cm_X1_copyFrom wf_60 wf_62 wf_63 rfl (Nat.le_of_ble_eq_true rfl) (Nat.le_of_ble_eq_true rfl) (Nat.le_of_ble_eq_true rfl) (Nat.le_of_ble_eq_true rfl) (s26_X1_copyFrom  d  ) ?_
  rintro _ _ ⟨rfl, rfl⟩
  dsimp only [Option.toList, List.cons_append, List.nil_append]
  refine G_aload_n (pc := 11) rfl dX11_keep_11 ?_
  refine G_iconst (pc := 12) (v := 1) (by decide) dX11_keep_12 ?_
  refine G_putI (pc := 13) (ci := 11) (j := 2) rfl lk_RX11_370 rfl rfl rfl (Or.inr rfl) dX11_keep_13 ?_
  refine G_iconst (pc := 16) (v := 1) (by decide) dX11_keep_16 ?_
  exact G_iret (pc := 17) (Nat.le_of_ble_eq_true rfl) (Nat.le_of_ble_eq_true rfl) rfl dX11_keep_17 ⟨_, by first | rfl | (simp [F_keep, *]; done) | (simp only [F_keep, Int32.le_iff_toInt_le, Int32.lt_iff_toInt_lt, ← Int32.toInt_inj]; simp; omega) | (simp only [F_keep, Int32.le_iff_toInt_le, Int32.lt_iff_toInt_lt, ← Int32.toInt_inj]; split <;> first | rfl | (exfalso; simp at *; omega)) | (unfold F_keep; (repeat' split) <;> first | rfl | (exfalso; (try simp only [Int32.le_iff_toInt_le, Int32.lt_iff_toInt_lt, ← Int32.toInt_inj] at *); first | omega | (simp at *; done) | (simp at *; omega))), rfl, fun a ha => by funext j; simp (disch := omega) only [gup_off, gcp_off]⟩
def F_again  : Int32 := -3
set_option maxRecDepth 100000 in
set_option maxHeartbeats 4000000 in
theorem x_again (d : Nat)  : G (d) mX11_again 0 0 0 0 0 (gent 1 [.ref 0]) [] SH0 RF0 I0 (fun r h => ∃ I1, r = some (.int (F_again )) ∧ h = (SH0, RF0, I1) ∧ ∀ a, 67 ≤ a → I1 a = I0 a) := by
  refine G_aload_n (pc := 0) rfl dX11_again_0 ?_
  refine G_getI (pc := 1) (v := 0) (ci := 11) (j := 2) rfl rfl lk_RX11_370 rfl rfl dX11_again_1 ?_
  refine G_if_ne (pc := 4) (tgt := 10) (by decide) dX11_again_4 (fun z => absurd (by decide) z) (fun _ => ?_)
  refine G_bipush (pc := 7) (v := (-3)) (by decide) dX11_again_7 ?_
  exact G_iret (pc := 9) (Nat.le_of_ble_eq_true rfl) (Nat.le_of_ble_eq_true rfl) rfl dX11_again_9 ⟨_, by first | rfl | (simp [F_again, *]; done) | (simp only [F_again, Int32.le_iff_toInt_le, Int32.lt_iff_toInt_lt, ← Int32.toInt_inj]; simp; omega) | (simp only [F_again, Int32.le_iff_toInt_le, Int32.lt_iff_toInt_lt, ← Int32.toInt_inj]; split <;> first | rfl | (exfalso; simp at *; omega)) | (unfold F_again; (repeat' split) <;> first | rfl | (exfalso; (try simp only [Int32.le_iff_toInt_le, Int32.lt_iff_toInt_lt, ← Int32.toInt_inj] at *); first | omega | (simp at *; done) | (simp at *; omega))), rfl, fun _ _ => rfl⟩
set_option maxRecDepth 100000 in
set_option maxHeartbeats 4000000 in
theorem s28_X1_restAct  (d : Nat)   : G (d) mX1_restAct 0 0 0 0 0 (gent 2 [.ref 19]) [] SH0 RF0 I0 (fun r h => r = some (.int 0) ∧ h = (SH0, RF0, I0)) := by
  refine G_iconst (pc := 0) (v := 0) (by decide) dX1_restAct_0 ?_
  refine G_istore_n (pc := 1) (L1 := [some (.ref 19), some (.int 0)]) rfl rfl (by decide) dX1_restAct_1 ?_
  refine G_iload_n (pc := 2) rfl dX1_restAct_2 ?_
  refine G_aload_n (pc := 3) rfl dX1_restAct_3 ?_
  refine G_getI (pc := 4) (v := 0) (ci := 1) (j := 8) rfl rfl lk_RX1_72 rfl rfl dX1_restAct_4 ?_
  refine G_icmp_ge (pc := 7) (tgt := 36) (by decide) dX1_restAct_7 (fun _ => ?_) (fun z => absurd (by decide) z)
  refine G_iconst (pc := 36) (v := 0) (by decide) dX1_restAct_36 ?_
  exact G_iret (pc := 37) (Nat.le_of_ble_eq_true rfl) (Nat.le_of_ble_eq_true rfl) rfl dX1_restAct_37 ⟨rfl, rfl⟩
set_option maxRecDepth 100000 in
set_option maxHeartbeats 4000000 in
theorem s31_X1_isKey  (d : Nat)   : G (d) mX1_isKey 0 0 0 0 0 (gent 2 [.ref 19, .int (-1)]) [] SH0 RF0 I0 (fun r h => r = some (.int 0) ∧ h = (SH0, RF0, I0)) := by
  refine G_iload_n (pc := 0) rfl dX1_isKey_0 ?_
  refine G_if_lt (pc := 1) (tgt := 16) (by decide) dX1_isKey_1 (fun _ => ?_) (fun z => absurd (by decide) z)
  refine G_iconst (pc := 16) (v := 0) (by decide) dX1_isKey_16 ?_
  exact G_zret (pc := 17) (Nat.le_of_ble_eq_true rfl) (Nat.le_of_ble_eq_true rfl) rfl (by decide) dX1_isKey_17 ⟨rfl, rfl⟩
set_option maxRecDepth 100000 in
set_option maxHeartbeats 4000000 in
theorem s30_X1_tell  (d : Nat)   : G (d + 1) mX1_tell 0 0 0 0 0 (gent 5 [.ref 19, .int 0]) [] SH0 RF0 I0 (fun r h => r = some (.int 0) ∧ h = (SH0, RF0, I0)) := by
  refine G_iload_n (pc := 0) rfl dX1_tell_0 ?_
  refine G_iconst (pc := 1) (v := 1) (by decide) dX1_tell_1 ?_
  refine G_isub (pc := 2) (z := (-1)) (by decide) dX1_tell_2 ?_
  refine G_istore_n (pc := 3) (L1 := [some (.ref 19), some (.int 0), some (.int (-1)), none, none]) rfl rfl (by decide) dX1_tell_3 ?_
  refine G_aload_n (pc := 4) rfl dX1_tell_4 ?_
  refine G_iload_n (pc := 5) rfl dX1_tell_5 ?_
  refine G_callV (pc := 6) (mc1 := 0) (ms1 := 0) (ci := 1) (mj := mX1_isKey) (vs := [_]) dX1_tell_6 rfl rfl cm_X1_isKey wf_68 wf_13 wf_14 rfl (Nat.le_of_ble_eq_true rfl) (Nat.le_of_ble_eq_true rfl) (Nat.le_of_ble_eq_true rfl) (Nat.le_of_ble_eq_true rfl) (s31_X1_isKey  d  ) ?_
  rintro _ _ ⟨rfl, rfl⟩
  dsimp only [Option.toList, List.cons_append, List.nil_append]
  refine G_if_eq (pc := 9) (tgt := 20) (by decide) dX1_tell_9 (fun _ => ?_) (fun z => absurd (by decide) z)
  refine G_iconst (pc := 20) (v := 0) (by decide) dX1_tell_20 ?_
  exact G_iret (pc := 21) (Nat.le_of_ble_eq_true rfl) (Nat.le_of_ble_eq_true rfl) rfl dX1_tell_21 ⟨rfl, rfl⟩
set_option maxRecDepth 100000 in
set_option maxHeartbeats 4000000 in
theorem s32_X1_melt  (d : Nat)   : G (d) mX1_melt 0 0 0 0 0 (gent 3 [.ref 19]) [] SH0 RF0 I0 (fun r h => r = some (.int 0) ∧ h = (SH0, RF0, (gup I0 19 1 1))) := by
  refine G_iconst (pc := 0) (v := 0) (by decide) dX1_melt_0 ?_
  refine G_istore_n (pc := 1) (L1 := [some (.ref 19), some (.int 0), none]) rfl rfl (by decide) dX1_melt_1 ?_
  refine G_iconst (pc := 2) (v := 0) (by decide) dX1_melt_2 ?_
  refine G_istore_n (pc := 3) (L1 := [some (.ref 19), some (.int 0), some (.int 0)]) rfl rfl (by decide) dX1_melt_3 ?_
  refine G_iload_n (pc := 4) rfl dX1_melt_4 ?_
  refine G_aload_n (pc := 5) rfl dX1_melt_5 ?_
  refine G_getI (pc := 6) (v := 0) (ci := 1) (j := 8) rfl rfl lk_RX1_72 rfl rfl dX1_melt_6 ?_
  refine G_icmp_ge (pc := 9) (tgt := 60) (by decide) dX1_melt_9 (fun _ => ?_) (fun z => absurd (by decide) z)
  refine G_aload_n (pc := 60) rfl dX1_melt_60 ?_
  refine G_dup (pc := 61) rfl dX1_melt_61 ?_
  refine G_getI (pc := 62) (v := 0) (ci := 1) (j := 1) rfl rfl lk_RX1_60 rfl rfl dX1_melt_62 ?_
  refine G_iconst (pc := 65) (v := 1) (by decide) dX1_melt_65 ?_
  refine G_iadd (pc := 66) (z := 1) (by decide) dX1_melt_66 ?_
  refine G_putI (pc := 67) (ci := 1) (j := 1) rfl lk_RX1_60 rfl rfl rfl trivial dX1_melt_67 ?_
  refine G_iload_n (pc := 70) rfl dX1_melt_70 ?_
  exact G_iret (pc := 71) (Nat.le_of_ble_eq_true rfl) (Nat.le_of_ble_eq_true rfl) rfl dX1_melt_71 ⟨rfl, rfl⟩
set_option maxRecDepth 100000 in
set_option maxHeartbeats 4000000 in
theorem s29_X1_goBy  (d : Nat)   : G (d + 2) mX1_goBy 0 0 0 0 0 (gent 2 [.ref 19, .int 0]) [] SH0 RF0 I0 (fun r h => r = some (.int 0) ∧ h = (SH0, RF0, (gup I0 19 1 1))) := by
  refine G_aload_n (pc := 0) rfl dX1_goBy_0 ?_
  refine G_iload_n (pc := 1) rfl dX1_goBy_1 ?_
  refine G_callV (pc := 2) (mc1 := 0) (ms1 := 0) (ci := 1) (mj := mX1_tell) (vs := [_]) dX1_goBy_2 rfl rfl cm_X1_tell wf_69 wf_71 wf_72 rfl (Nat.le_of_ble_eq_true rfl) (Nat.le_of_ble_eq_true rfl) (Nat.le_of_ble_eq_true rfl) (Nat.le_of_ble_eq_true rfl) (s30_X1_tell  d  ) ?_
  rintro _ _ ⟨rfl, rfl⟩
  dsimp only [Option.toList, List.cons_append, List.nil_append]
  refine G_aload_n (pc := 5) rfl dX1_goBy_5 ?_
  refine G_callV (pc := 6) (mc1 := 0) (ms1 := 0) (ci := 1) (mj := mX1_melt) (vs := []) dX1_goBy_6 rfl rfl cm_X1_melt wf_73 wf_75 wf_76 rfl (Nat.le_of_ble_eq_true rfl) (Nat.le_of_ble_eq_true rfl) (Nat.le_of_ble_eq_true rfl) (Nat.le_of_ble_eq_true rfl) (s32_X1_melt  (d + 1)  ) ?_
  rintro _ _ ⟨rfl, rfl⟩
  dsimp only [Option.toList, List.cons_append, List.nil_append]
  refine G_iadd (pc := 9) (z := 0) (by decide) dX1_goBy_9 ?_
  exact G_iret (pc := 10) (Nat.le_of_ble_eq_true rfl) (Nat.le_of_ble_eq_true rfl) rfl dX1_goBy_10 ⟨rfl, rfl⟩
set_option maxRecDepth 100000 in
set_option maxHeartbeats 4000000 in
theorem s33_X11_scored  (d : Nat)   : G (d) mX11_scored 0 0 0 0 0 (gent 2 [.ref 0, .int 0]) [] SH0 RF0 (gup I0 19 1 1) (fun r h => r = some (.int 0) ∧ h = (SH0, RF0, (gup (gup I0 19 1 1) 19 3 0))) := by
  refine G_aload_n (pc := 0) rfl dX11_scored_0 ?_
  refine G_getR (pc := 1) (r := 19) (ci := 11) (j := 0) rfl lk_RX11_56 rfl rfl rfl dX11_scored_1 ?_
  refine G_dup (pc := 4) rfl dX11_scored_4 ?_
  refine G_getI (pc := 5) (v := 0) (ci := 1) (j := 3) rfl rfl lk_RX11_162 rfl rfl dX11_scored_5 ?_
  refine G_iload_n (pc := 8) rfl dX11_scored_8 ?_
  refine G_iadd (pc := 9) (z := 0) (by decide) dX11_scored_9 ?_
  refine G_putI (pc := 10) (ci := 1) (j := 3) rfl lk_RX11_162 rfl rfl rfl trivial dX11_scored_10 ?_
  refine G_iload_n (pc := 13) rfl dX11_scored_13 ?_
  exact G_iret (pc := 14) (Nat.le_of_ble_eq_true rfl) (Nat.le_of_ble_eq_true rfl) rfl dX11_scored_14 ⟨rfl, rfl⟩
def F_halt  : Int32 := 0
set_option maxRecDepth 100000 in
set_option maxHeartbeats 4000000 in
theorem x_halt (d : Nat)  : G (d + 3) mX11_halt 0 0 0 0 0 (gent 1 [.ref 0]) [] SH0 RF0 I0 (fun r h => ∃ I1, r = some (.int (F_halt )) ∧ h = (SH0, RF0, I1) ∧ ∀ a, 67 ≤ a → I1 a = I0 a) := by
  refine G_aload_n (pc := 0) rfl dX11_halt_0 ?_
  refine G_getR (pc := 1) (r := 19) (ci := 11) (j := 0) rfl lk_RX11_56 rfl rfl rfl dX11_halt_1 ?_
  refine G_callV (pc := 4) (mc1 := 0) (ms1 := 0) (ci := 1) (mj := mX1_isOver) (vs := []) dX11_halt_4 rfl rfl cm_X1_isOver wf_15 wf_17 wf_18 rfl (Nat.le_of_ble_eq_true rfl) (Nat.le_of_ble_eq_true rfl) (Nat.le_of_ble_eq_true rfl) (Nat.le_of_ble_eq_true rfl) (s2_X1_isOver  (d + 2)  ) ?_
  rintro _ _ ⟨rfl, rfl⟩
  dsimp only [Option.toList, List.cons_append, List.nil_append]
  refine G_if_eq (pc := 7) (tgt := 13) (by decide) dX11_halt_7 (fun _ => ?_) (fun z => absurd (by decide) z)
  refine G_aload_n (pc := 13) rfl dX11_halt_13 ?_
  refine G_aload_n (pc := 14) rfl dX11_halt_14 ?_
  refine G_getR (pc := 15) (r := 19) (ci := 11) (j := 0) rfl lk_RX11_56 rfl rfl rfl dX11_halt_15 ?_
  refine G_aload_n (pc := 18) rfl dX11_halt_18 ?_
  refine G_getR (pc := 19) (r := 19) (ci := 11) (j := 0) rfl lk_RX11_56 rfl rfl rfl dX11_halt_19 ?_
  refine G_callV (pc := 22) (mc1 := 0) (ms1 := 0) (ci := 1) (mj := mX1_restAct) (vs := []) dX11_halt_22 rfl rfl cm_X1_restAct wf_64 wf_66 wf_67 rfl (Nat.le_of_ble_eq_true rfl) (Nat.le_of_ble_eq_true rfl) (Nat.le_of_ble_eq_true rfl) (Nat.le_of_ble_eq_true rfl) (s28_X1_restAct  (d + 2)  ) ?_
  rintro _ _ ⟨rfl, rfl⟩
  dsimp only [Option.toList, List.cons_append, List.nil_append]
  refine G_callV (pc := 25) (mc1 := 0) (ms1 := 0) (ci := 1) (mj := mX1_goBy) (vs := [_]) dX11_halt_25 rfl rfl cm_X1_goBy wf_77 wf_79 wf_80 rfl (Nat.le_of_ble_eq_true rfl) (Nat.le_of_ble_eq_true rfl) (Nat.le_of_ble_eq_true rfl) (Nat.le_of_ble_eq_true rfl) (s29_X1_goBy  d  ) ?_
  rintro _ _ ⟨rfl, rfl⟩
  dsimp only [Option.toList, List.cons_append, List.nil_append]
  refine G_callV (pc := 28) (mc1 := 0) (ms1 := 0) (ci := 11) (mj := mX11_scored) (vs := [_]) dX11_halt_28 rfl rfl cm_X11_scored wf_81 wf_83 wf_84 rfl (Nat.le_of_ble_eq_true rfl) (Nat.le_of_ble_eq_true rfl) (Nat.le_of_ble_eq_true rfl) (Nat.le_of_ble_eq_true rfl) (s33_X11_scored  (d + 2)  ) ?_
  rintro _ _ ⟨rfl, rfl⟩
  dsimp only [Option.toList, List.cons_append, List.nil_append]
  exact G_iret (pc := 31) (Nat.le_of_ble_eq_true rfl) (Nat.le_of_ble_eq_true rfl) rfl dX11_halt_31 ⟨_, by first | rfl | (simp [F_halt, *]; done) | (simp only [F_halt, Int32.le_iff_toInt_le, Int32.lt_iff_toInt_lt, ← Int32.toInt_inj]; simp; omega) | (simp only [F_halt, Int32.le_iff_toInt_le, Int32.lt_iff_toInt_lt, ← Int32.toInt_inj]; split <;> first | rfl | (exfalso; simp at *; omega)) | (unfold F_halt; (repeat' split) <;> first | rfl | (exfalso; (try simp only [Int32.le_iff_toInt_le, Int32.lt_iff_toInt_lt, ← Int32.toInt_inj] at *); first | omega | (simp at *; done) | (simp at *; omega))), rfl, fun a ha => by funext j; simp (disch := omega) only [gup_off, gcp_off]⟩
set_option maxRecDepth 100000 in
set_option maxHeartbeats 4000000 in
theorem s36_X6_clear  (d : Nat)   : G (d) mX6_clear 0 0 0 0 0 (gent 1 [.ref 57]) [] SH0 RF0 I0 (fun r h => r = none ∧ h = (SH0, RF0, (gup (gup I0 57 0 0) 57 1 0))) := by
  refine G_aload_n (pc := 0) rfl dX6_clear_0 ?_
  refine G_iconst (pc := 1) (v := 0) (by decide) dX6_clear_1 ?_
  refine G_putI (pc := 2) (ci := 6) (j := 0) rfl lk_RX6_24 rfl rfl rfl trivial dX6_clear_2 ?_
  refine G_aload_n (pc := 5) rfl dX6_clear_5 ?_
  refine G_iconst (pc := 6) (v := 0) (by decide) dX6_clear_6 ?_
  refine G_putI (pc := 7) (ci := 6) (j := 1) rfl lk_RX6_28 rfl rfl rfl trivial dX6_clear_7 ?_
  exact G_vret (pc := 10) (Nat.le_of_ble_eq_true rfl) (Nat.le_of_ble_eq_true rfl) rfl dX6_clear_10 ⟨rfl, rfl⟩
set_option maxRecDepth 100000 in
set_option maxHeartbeats 4000000 in
theorem s35_X5_begin  (d : Nat)   : G (d + 1) mX5_begin 0 0 0 0 0 (gent 2 [.ref 55]) [] SH0 RF0 I0 (fun r h => r = none ∧ h = (SH0, RF0, (gup (gup (gup (gup (gup (gup (gup (gup (gup (gup (gup (gup (gup (gup (gup (gup I0 57 0 0) 57 1 0) 55 3 0) 55 7 0) 62 0 0) 63 0 0) 64 0 0) 62 1 0) 63 1 0) 64 1 0) 62 2 0) 63 2 0) 64 2 0) 62 3 0) 63 3 0) 64 3 0))) := by
  refine G_aload_n (pc := 0) rfl dX5_begin_0 ?_
  refine G_getR (pc := 1) (r := 57) (ci := 5) (j := 2) rfl lk_RX5_18 rfl rfl rfl dX5_begin_1 ?_
  refine G_callV (pc := 4) (mc1 := 0) (ms1 := 0) (ci := 6) (mj := mX6_clear) (vs := []) dX5_begin_4 rfl rfl cm_X6_clear wf_85 wf_87 wf_88 rfl (Nat.le_of_ble_eq_true rfl) (Nat.le_of_ble_eq_true rfl) (Nat.le_of_ble_eq_true rfl) (Nat.le_of_ble_eq_true rfl) (s36_X6_clear  d  ) ?_
  rintro _ _ ⟨rfl, rfl⟩
  dsimp only [Option.toList, List.cons_append, List.nil_append]
  refine G_aload_n (pc := 7) rfl dX5_begin_7 ?_
  refine G_iconst (pc := 8) (v := 0) (by decide) dX5_begin_8 ?_
  refine G_putI (pc := 9) (ci := 5) (j := 3) rfl lk_RX5_58 rfl rfl rfl trivial dX5_begin_9 ?_
  refine G_aload_n (pc := 12) rfl dX5_begin_12 ?_
  refine G_iconst (pc := 13) (v := 0) (by decide) dX5_begin_13 ?_
  refine G_putI (pc := 14) (ci := 5) (j := 7) rfl lk_RX5_45 rfl rfl rfl trivial dX5_begin_14 ?_
  refine G_iconst (pc := 17) (v := 0) (by decide) dX5_begin_17 ?_
  refine G_istore_n (pc := 18) (L1 := [some (.ref 55), some (.int 0)]) rfl rfl (by decide) dX5_begin_18 ?_
  refine G_iload_n (pc := 19) rfl dX5_begin_19 ?_
  refine G_iconst (pc := 20) (v := 3) (by decide) dX5_begin_20 ?_
  refine G_icmp_gt (pc := 21) (tgt := 51) (by decide) dX5_begin_21 (fun z => absurd z (by decide)) (fun _ => ?_)
  refine G_aload_n (pc := 24) rfl dX5_begin_24 ?_
  refine G_getR (pc := 25) (r := 62) (ci := 5) (j := 12) rfl lk_RX5_22 rfl rfl rfl dX5_begin_25 ?_
  refine G_iload_n (pc := 28) rfl dX5_begin_28 ?_
  refine G_iconst (pc := 29) (v := 0) (by decide) dX5_begin_29 ?_
  refine G_zast (pc := 30) (jj := 0) (w := 0) (by decide) (by decide) rfl (by unfold vp_in; decide) dX5_begin_30 ?_
  refine G_aload_n (pc := 31) rfl dX5_begin_31 ?_
  refine G_getR (pc := 32) (r := 63) (ci := 5) (j := 13) rfl lk_RX5_26 rfl rfl rfl dX5_begin_32 ?_
  refine G_iload_n (pc := 35) rfl dX5_begin_35 ?_
  refine G_iconst (pc := 36) (v := 0) (by decide) dX5_begin_36 ?_
  refine G_zast (pc := 37) (jj := 0) (w := 0) (by decide) (by decide) rfl (by unfold vp_in; decide) dX5_begin_37 ?_
  refine G_aload_n (pc := 38) rfl dX5_begin_38 ?_
  refine G_getR (pc := 39) (r := 64) (ci := 5) (j := 14) rfl lk_RX5_29 rfl rfl rfl dX5_begin_39 ?_
  refine G_iload_n (pc := 42) rfl dX5_begin_42 ?_
  refine G_iconst (pc := 43) (v := 0) (by decide) dX5_begin_43 ?_
  refine G_zast (pc := 44) (jj := 0) (w := 0) (by decide) (by decide) rfl (by unfold vp_in; decide) dX5_begin_44 ?_
  refine G_iinc (pc := 45) (v := 1) (w := 1) (L1 := [some (.ref 55), some (.int 1)]) (by decide) rfl rfl (by decide) rfl (by decide) dX5_begin_45 ?_
  refine G_goto (pc := 48) (tgt := 19) (by decide) dX5_begin_48 ?_
  refine G_iload_n (pc := 19) rfl dX5_begin_19 ?_
  refine G_iconst (pc := 20) (v := 3) (by decide) dX5_begin_20 ?_
  refine G_icmp_gt (pc := 21) (tgt := 51) (by decide) dX5_begin_21 (fun z => absurd z (by decide)) (fun _ => ?_)
  refine G_aload_n (pc := 24) rfl dX5_begin_24 ?_
  refine G_getR (pc := 25) (r := 62) (ci := 5) (j := 12) rfl lk_RX5_22 rfl rfl rfl dX5_begin_25 ?_
  refine G_iload_n (pc := 28) rfl dX5_begin_28 ?_
  refine G_iconst (pc := 29) (v := 0) (by decide) dX5_begin_29 ?_
  refine G_zast (pc := 30) (jj := 1) (w := 0) (by decide) (by decide) rfl (by unfold vp_in; decide) dX5_begin_30 ?_
  refine G_aload_n (pc := 31) rfl dX5_begin_31 ?_
  refine G_getR (pc := 32) (r := 63) (ci := 5) (j := 13) rfl lk_RX5_26 rfl rfl rfl dX5_begin_32 ?_
  refine G_iload_n (pc := 35) rfl dX5_begin_35 ?_
  refine G_iconst (pc := 36) (v := 0) (by decide) dX5_begin_36 ?_
  refine G_zast (pc := 37) (jj := 1) (w := 0) (by decide) (by decide) rfl (by unfold vp_in; decide) dX5_begin_37 ?_
  refine G_aload_n (pc := 38) rfl dX5_begin_38 ?_
  refine G_getR (pc := 39) (r := 64) (ci := 5) (j := 14) rfl lk_RX5_29 rfl rfl rfl dX5_begin_39 ?_
  refine G_iload_n (pc := 42) rfl dX5_begin_42 ?_
  refine G_iconst (pc := 43) (v := 0) (by decide) dX5_begin_43 ?_
  refine G_zast (pc := 44) (jj := 1) (w := 0) (by decide) (by decide) rfl (by unfold vp_in; decide) dX5_begin_44 ?_
  refine G_iinc (pc := 45) (v := 1) (w := 2) (L1 := [some (.ref 55), some (.int 2)]) (by decide) rfl rfl (by decide) rfl (by decide) dX5_begin_45 ?_
  refine G_goto (pc := 48) (tgt := 19) (by decide) dX5_begin_48 ?_
  refine G_iload_n (pc := 19) rfl dX5_begin_19 ?_
  refine G_iconst (pc := 20) (v := 3) (by decide) dX5_begin_20 ?_
  refine G_icmp_gt (pc := 21) (tgt := 51) (by decide) dX5_begin_21 (fun z => absurd z (by decide)) (fun _ => ?_)
  refine G_aload_n (pc := 24) rfl dX5_begin_24 ?_
  refine G_getR (pc := 25) (r := 62) (ci := 5) (j := 12) rfl lk_RX5_22 rfl rfl rfl dX5_begin_25 ?_
  refine G_iload_n (pc := 28) rfl dX5_begin_28 ?_
  refine G_iconst (pc := 29) (v := 0) (by decide) dX5_begin_29 ?_
  refine G_zast (pc := 30) (jj := 2) (w := 0) (by decide) (by decide) rfl (by unfold vp_in; decide) dX5_begin_30 ?_
  refine G_aload_n (pc := 31) rfl dX5_begin_31 ?_
  refine G_getR (pc := 32) (r := 63) (ci := 5) (j := 13) rfl lk_RX5_26 rfl rfl rfl dX5_begin_32 ?_
  refine G_iload_n (pc := 35) rfl dX5_begin_35 ?_
  refine G_iconst (pc := 36) (v := 0) (by decide) dX5_begin_36 ?_
  refine G_zast (pc := 37) (jj := 2) (w := 0) (by decide) (by decide) rfl (by unfold vp_in; decide) dX5_begin_37 ?_
  refine G_aload_n (pc := 38) rfl dX5_begin_38 ?_
  refine G_getR (pc := 39) (r := 64) (ci := 5) (j := 14) rfl lk_RX5_29 rfl rfl rfl dX5_begin_39 ?_
  refine G_iload_n (pc := 42) rfl dX5_begin_42 ?_
  refine G_iconst (pc := 43) (v := 0) (by decide) dX5_begin_43 ?_
  refine G_zast (pc := 44) (jj := 2) (w := 0) (by decide) (by decide) rfl (by unfold vp_in; decide) dX5_begin_44 ?_
  refine G_iinc (pc := 45) (v := 1) (w := 3) (L1 := [some (.ref 55), some (.int 3)]) (by decide) rfl rfl (by decide) rfl (by decide) dX5_begin_45 ?_
  refine G_goto (pc := 48) (tgt := 19) (by decide) dX5_begin_48 ?_
  refine G_iload_n (pc := 19) rfl dX5_begin_19 ?_
  refine G_iconst (pc := 20) (v := 3) (by decide) dX5_begin_20 ?_
  refine G_icmp_gt (pc := 21) (tgt := 51) (by decide) dX5_begin_21 (fun z => absurd z (by decide)) (fun _ => ?_)
  refine G_aload_n (pc := 24) rfl dX5_begin_24 ?_
  refine G_getR (pc := 25) (r := 62) (ci := 5) (j := 12) rfl lk_RX5_22 rfl rfl rfl dX5_begin_25 ?_
  refine G_iload_n (pc := 28) rfl dX5_begin_28 ?_
  refine G_iconst (pc := 29) (v := 0) (by decide) dX5_begin_29 ?_
  refine G_zast (pc := 30) (jj := 3) (w := 0) (by decide) (by decide) rfl (by unfold vp_in; decide) dX5_begin_30 ?_
  refine G_aload_n (pc := 31) rfl dX5_begin_31 ?_
  refine G_getR (pc := 32) (r := 63) (ci := 5) (j := 13) rfl lk_RX5_26 rfl rfl rfl dX5_begin_32 ?_
  refine G_iload_n (pc := 35) rfl dX5_begin_35 ?_
  refine G_iconst (pc := 36) (v := 0) (by decide) dX5_begin_36 ?_
  refine G_zast (pc := 37) (jj := 3) (w := 0) (by decide) (by decide) rfl (by unfold vp_in; decide) dX5_begin_37 ?_
  refine G_aload_n (pc := 38) rfl dX5_begin_38 ?_
  refine G_getR (pc := 39) (r := 64) (ci := 5) (j := 14) rfl lk_RX5_29 rfl rfl rfl dX5_begin_39 ?_
  refine G_iload_n (pc := 42) rfl dX5_begin_42 ?_
  refine G_iconst (pc := 43) (v := 0) (by decide) dX5_begin_43 ?_
  refine G_zast (pc := 44) (jj := 3) (w := 0) (by decide) (by decide) rfl (by unfold vp_in; decide) dX5_begin_44 ?_
  refine G_iinc (pc := 45) (v := 1) (w := 4) (L1 := [some (.ref 55), some (.int 4)]) (by decide) rfl rfl (by decide) rfl (by decide) dX5_begin_45 ?_
  refine G_goto (pc := 48) (tgt := 19) (by decide) dX5_begin_48 ?_
  refine G_iload_n (pc := 19) rfl dX5_begin_19 ?_
  refine G_iconst (pc := 20) (v := 3) (by decide) dX5_begin_20 ?_
  refine G_icmp_gt (pc := 21) (tgt := 51) (by decide) dX5_begin_21 (fun _ => ?_) (fun z => absurd (by decide) z)
  exact G_vret (pc := 51) (Nat.le_of_ble_eq_true rfl) (Nat.le_of_ble_eq_true rfl) rfl dX5_begin_51 ⟨rfl, rfl⟩
set_option maxRecDepth 100000 in
set_option maxHeartbeats 4000000 in
theorem s37_X5_next  (d : Nat)   : G (d) mX5_next 0 0 0 0 0 (gent 1 [.ref 55]) [] SH0 RF0 (gup (gup (gup (gup (gup (gup (gup (gup (gup (gup (gup (gup (gup (gup (gup (gup I0 57 0 0) 57 1 0) 55 3 0) 55 7 0) 62 0 0) 63 0 0) 64 0 0) 62 1 0) 63 1 0) 64 1 0) 62 2 0) 63 2 0) 64 2 0) 62 3 0) 63 3 0) 64 3 0) (fun r h => r = none ∧ h = (SH0, RF0, (gup (gup (gup (gup (gup (gup (gup (gup (gup (gup (gup (gup (gup (gup (gup (gup (gup (gup I0 57 0 0) 57 1 0) 55 3 0) 55 7 0) 62 0 0) 63 0 0) 64 0 0) 62 1 0) 63 1 0) 64 1 0) 62 2 0) 63 2 0) 64 2 0) 62 3 0) 63 3 0) 64 3 0) 55 4 0) 55 5 (-2)))) := by
  refine G_aload_n (pc := 0) rfl dX5_next_0 ?_
  refine G_getI (pc := 1) (v := 0) (ci := 5) (j := 3) rfl rfl lk_RX5_58 rfl rfl dX5_next_1 ?_
  refine G_aload_n (pc := 4) rfl dX5_next_4 ?_
  refine G_getI (pc := 5) (v := 0) (ci := 5) (j := 1) rfl rfl lk_RX5_32 rfl rfl dX5_next_5 ?_
  refine G_icmp_ge (pc := 8) (tgt := 38) (by decide) dX5_next_8 (fun _ => ?_) (fun z => absurd (by decide) z)
  refine G_aload_n (pc := 38) rfl dX5_next_38 ?_
  refine G_aload_n (pc := 39) rfl dX5_next_39 ?_
  refine G_getI (pc := 40) (v := 0) (ci := 5) (j := 3) rfl rfl lk_RX5_58 rfl rfl dX5_next_40 ?_
  refine G_putI (pc := 43) (ci := 5) (j := 4) rfl lk_RX5_52 rfl rfl rfl trivial dX5_next_43 ?_
  refine G_aload_n (pc := 46) rfl dX5_next_46 ?_
  refine G_getI (pc := 47) (v := 0) (ci := 5) (j := 3) rfl rfl lk_RX5_58 rfl rfl dX5_next_47 ?_
  refine G_aload_n (pc := 50) rfl dX5_next_50 ?_
  refine G_getI (pc := 51) (v := 0) (ci := 5) (j := 1) rfl rfl lk_RX5_32 rfl rfl dX5_next_51 ?_
  refine G_icmp_lt (pc := 54) (tgt := 66) (by decide) dX5_next_54 (fun z => absurd z (by decide)) (fun _ => ?_)
  refine G_aload_n (pc := 57) rfl dX5_next_57 ?_
  refine G_bipush (pc := 58) (v := (-2)) (by decide) dX5_next_58 ?_
  refine G_putI (pc := 60) (ci := 5) (j := 5) rfl lk_RX5_42 rfl rfl rfl trivial dX5_next_60 ?_
  refine G_goto (pc := 63) (tgt := 152) (by decide) dX5_next_63 ?_
  exact G_vret (pc := 152) (Nat.le_of_ble_eq_true rfl) (Nat.le_of_ble_eq_true rfl) rfl dX5_next_152 ⟨rfl, rfl⟩
set_option maxRecDepth 100000 in
set_option maxHeartbeats 4000000 in
theorem s34_X5_read  (d : Nat)   : G (d + 2) mX5_read 0 0 0 0 0 (gent 5 [.ref 55]) [] SH0 RF0 I0 (fun r h => r = some (.int (-1)) ∧ h = (SH0, RF0, (gup (gup (gup (gup (gup (gup (gup (gup (gup (gup (gup (gup (gup (gup (gup (gup (gup (gup (gup I0 57 0 0) 57 1 0) 55 3 0) 55 7 0) 62 0 0) 63 0 0) 64 0 0) 62 1 0) 63 1 0) 64 1 0) 62 2 0) 63 2 0) 64 2 0) 62 3 0) 63 3 0) 64 3 0) 55 4 0) 55 5 (-2)) 55 1 0))) := by
  refine G_aload_n (pc := 0) rfl dX5_read_0 ?_
  refine G_callV (pc := 1) (mc1 := 0) (ms1 := 0) (ci := 5) (mj := mX5_begin) (vs := []) dX5_read_1 rfl rfl cm_X5_begin wf_89 wf_92 wf_93 rfl (Nat.le_of_ble_eq_true rfl) (Nat.le_of_ble_eq_true rfl) (Nat.le_of_ble_eq_true rfl) (Nat.le_of_ble_eq_true rfl) (s35_X5_begin  d  ) ?_
  rintro _ _ ⟨rfl, rfl⟩
  dsimp only [Option.toList, List.cons_append, List.nil_append]
  refine G_iconst (pc := 4) (v := (-1)) (by decide) dX5_read_4 ?_
  refine G_istore_n (pc := 5) (L1 := [some (.ref 55), some (.int (-1)), none, none, none]) rfl rfl (by decide) dX5_read_5 ?_
  refine G_iconst (pc := 6) (v := 0) (by decide) dX5_read_6 ?_
  refine G_istore_n (pc := 7) (L1 := [some (.ref 55), some (.int (-1)), some (.int 0), none, none]) rfl rfl (by decide) dX5_read_7 ?_
  refine G_iconst (pc := 8) (v := 0) (by decide) dX5_read_8 ?_
  refine G_istore_n (pc := 9) (L1 := [some (.ref 55), some (.int (-1)), some (.int 0), some (.int 0), none]) rfl rfl (by decide) dX5_read_9 ?_
  refine G_iload_n (pc := 10) rfl dX5_read_10 ?_
  refine G_aload_n (pc := 11) rfl dX5_read_11 ?_
  refine G_getI (pc := 12) (v := 0) (ci := 5) (j := 1) rfl rfl lk_RX5_32 rfl rfl dX5_read_12 ?_
  refine G_icmp_gt (pc := 15) (tgt := 96) (by decide) dX5_read_15 (fun z => absurd z (by decide)) (fun _ => ?_)
  refine G_iload_n (pc := 18) rfl dX5_read_18 ?_
  refine G_if_ne (pc := 19) (tgt := 96) (by decide) dX5_read_19 (fun z => absurd (by decide) z) (fun _ => ?_)
  refine G_aload_n (pc := 22) rfl dX5_read_22 ?_
  refine G_callV (pc := 23) (mc1 := 0) (ms1 := 0) (ci := 5) (mj := mX5_next) (vs := []) dX5_read_23 rfl rfl cm_X5_next wf_94 wf_96 wf_97 rfl (Nat.le_of_ble_eq_true rfl) (Nat.le_of_ble_eq_true rfl) (Nat.le_of_ble_eq_true rfl) (Nat.le_of_ble_eq_true rfl) (s37_X5_next  (d + 1)  ) ?_
  rintro _ _ ⟨rfl, rfl⟩
  dsimp only [Option.toList, List.cons_append, List.nil_append]
  refine G_aload_n (pc := 26) rfl dX5_read_26 ?_
  refine G_getI (pc := 27) (v := (-2)) (ci := 5) (j := 5) rfl rfl lk_RX5_42 rfl rfl dX5_read_27 ?_
  refine G_bipush (pc := 30) (v := (-2)) (by decide) dX5_read_30 ?_
  refine G_icmp_ne (pc := 32) (tgt := 50) (by decide) dX5_read_32 (fun z => absurd (by decide) z) (fun _ => ?_)
  refine G_aload_n (pc := 35) rfl dX5_read_35 ?_
  refine G_getI (pc := 36) (v := 0) (ci := 5) (j := 7) rfl rfl lk_RX5_45 rfl rfl dX5_read_36 ?_
  refine G_if_ne (pc := 39) (tgt := 46) (by decide) dX5_read_39 (fun z => absurd (by decide) z) (fun _ => ?_)
  refine G_iconst (pc := 42) (v := 1) (by decide) dX5_read_42 ?_
  refine G_goto (pc := 43) (tgt := 54) (by decide) dX5_read_43 ?_
  refine G_istore (pc := 54) (L1 := [some (.ref 55), some (.int (-1)), some (.int 0), some (.int 0), some (.int 1)]) rfl rfl (by decide) dX5_read_54 ?_
  refine G_iload (pc := 56) rfl dX5_read_56 ?_
  refine G_if_eq (pc := 58) (tgt := 65) (by decide) dX5_read_58 (fun z => absurd z (by decide)) (fun _ => ?_)
  refine G_iconst (pc := 61) (v := (-1)) (by decide) dX5_read_61 ?_
  refine G_goto (pc := 62) (tgt := 69) (by decide) dX5_read_62 ?_
  refine G_istore_n (pc := 69) (L1 := [some (.ref 55), some (.int (-1)), some (.int 0), some (.int 0), some (.int 1)]) rfl rfl (by decide) dX5_read_69 ?_
  refine G_iload (pc := 70) rfl dX5_read_70 ?_
  refine G_if_eq (pc := 72) (tgt := 84) (by decide) dX5_read_72 (fun z => absurd z (by decide)) (fun _ => ?_)
  refine G_aload_n (pc := 75) rfl dX5_read_75 ?_
  refine G_getI (pc := 76) (v := (-2)) (ci := 5) (j := 5) rfl rfl lk_RX5_42 rfl rfl dX5_read_76 ?_
  refine G_bipush (pc := 79) (v := (-2)) (by decide) dX5_read_79 ?_
  refine G_icmp_ne (pc := 81) (tgt := 88) (by decide) dX5_read_81 (fun z => absurd (by decide) z) (fun _ => ?_)
  refine G_iconst (pc := 84) (v := 1) (by decide) dX5_read_84 ?_
  refine G_goto (pc := 85) (tgt := 89) (by decide) dX5_read_85 ?_
  refine G_istore_n (pc := 89) (L1 := [some (.ref 55), some (.int (-1)), some (.int 1), some (.int 0), some (.int 1)]) rfl rfl (by decide) dX5_read_89 ?_
  refine G_iinc (pc := 90) (v := 1) (w := 1) (L1 := [some (.ref 55), some (.int (-1)), some (.int 1), some (.int 1), some (.int 1)]) (by decide) rfl rfl (by decide) rfl (by decide) dX5_read_90 ?_
  refine G_goto (pc := 93) (tgt := 10) (by decide) dX5_read_93 ?_
  refine G_iload_n (pc := 10) rfl dX5_read_10 ?_
  refine G_aload_n (pc := 11) rfl dX5_read_11 ?_
  refine G_getI (pc := 12) (v := 0) (ci := 5) (j := 1) rfl rfl lk_RX5_32 rfl rfl dX5_read_12 ?_
  refine G_icmp_gt (pc := 15) (tgt := 96) (by decide) dX5_read_15 (fun _ => ?_) (fun z => absurd (by decide) z)
  refine G_aload_n (pc := 96) rfl dX5_read_96 ?_
  refine G_iconst (pc := 97) (v := 0) (by decide) dX5_read_97 ?_
  refine G_putI (pc := 98) (ci := 5) (j := 1) rfl lk_RX5_32 rfl rfl rfl trivial dX5_read_98 ?_
  refine G_iload_n (pc := 101) rfl dX5_read_101 ?_
  exact G_iret (pc := 102) (Nat.le_of_ble_eq_true rfl) (Nat.le_of_ble_eq_true rfl) rfl dX5_read_102 ⟨rfl, rfl⟩
set_option maxRecDepth 100000 in
set_option maxHeartbeats 4000000 in
theorem s38_X6_copyFrom  (d : Nat)   : G (d + 1) mX6_copyFrom 0 0 0 0 0 (gent 2 [.ref 27, .ref 57]) [] SH0 RF0 (gup (gup (gup (gup (gup (gup (gup (gup (gup (gup (gup (gup (gup (gup (gup (gup (gup (gup (gup I0 57 0 0) 57 1 0) 55 3 0) 55 7 0) 62 0 0) 63 0 0) 64 0 0) 62 1 0) 63 1 0) 64 1 0) 62 2 0) 63 2 0) 64 2 0) 62 3 0) 63 3 0) 64 3 0) 55 4 0) 55 5 (-2)) 55 1 0) (fun r h => r = none ∧ h = (SH0, RF0, (gcp (gcp (gcp (gcp (gup (gup (gup (gup (gup (gup (gup (gup (gup (gup (gup (gup (gup (gup (gup (gup (gup (gup (gup (gup (gup I0 57 0 0) 57 1 0) 55 3 0) 55 7 0) 62 0 0) 63 0 0) 64 0 0) 62 1 0) 63 1 0) 64 1 0) 62 2 0) 63 2 0) 64 2 0) 62 3 0) 63 3 0) 64 3 0) 55 4 0) 55 5 (-2)) 55 1 0) 27 0 0) 27 1 0) 58 28 (0 : Int32).toNatClampNeg (0 : Int32).toNatClampNeg (8 : Int32).toNatClampNeg) 59 29 (0 : Int32).toNatClampNeg (0 : Int32).toNatClampNeg (8 : Int32).toNatClampNeg) 60 30 (0 : Int32).toNatClampNeg (0 : Int32).toNatClampNeg (8 : Int32).toNatClampNeg) 61 31 (0 : Int32).toNatClampNeg (0 : Int32).toNatClampNeg (0 : Int32).toNatClampNeg))) := by
  refine G_aload_n (pc := 0) rfl dX6_copyFrom_0 ?_
  refine G_aload_n (pc := 1) rfl dX6_copyFrom_1 ?_
  refine G_getI (pc := 2) (v := 0) (ci := 6) (j := 0) rfl rfl lk_RX6_24 rfl rfl dX6_copyFrom_2 ?_
  refine G_putI (pc := 5) (ci := 6) (j := 0) rfl lk_RX6_24 rfl rfl rfl trivial dX6_copyFrom_5 ?_
  refine G_aload_n (pc := 8) rfl dX6_copyFrom_8 ?_
  refine G_aload_n (pc := 9) rfl dX6_copyFrom_9 ?_
  refine G_getI (pc := 10) (v := 0) (ci := 6) (j := 1) rfl rfl lk_RX6_28 rfl rfl dX6_copyFrom_10 ?_
  refine G_putI (pc := 13) (ci := 6) (j := 1) rfl lk_RX6_28 rfl rfl rfl trivial dX6_copyFrom_13 ?_
  refine G_aload_n (pc := 16) rfl dX6_copyFrom_16 ?_
  refine G_getR (pc := 17) (r := 58) (ci := 6) (j := 2) rfl lk_RX6_9 rfl rfl rfl dX6_copyFrom_17 ?_
  refine G_iconst (pc := 20) (v := 0) (by decide) dX6_copyFrom_20 ?_
  refine G_aload_n (pc := 21) rfl dX6_copyFrom_21 ?_
  refine G_getR (pc := 22) (r := 28) (ci := 6) (j := 2) rfl lk_RX6_9 rfl rfl rfl dX6_copyFrom_22 ?_
  refine G_iconst (pc := 25) (v := 0) (by decide) dX6_copyFrom_25 ?_
  refine G_bipush (pc := 26) (v := 8) (by decide) dX6_copyFrom_26 ?_
  refine G_copy (pc := 28) (x := 58) (y := 28) rfl rfl (by decide) (by decide) (by decide) (by decide) (by decide) wf_54 wf_51 wf_52 wf_53 (Nat.le_of_ble_eq_true rfl) dX6_copyFrom_28 ?_
  refine G_aload_n (pc := 31) rfl dX6_copyFrom_31 ?_
  refine G_getR (pc := 32) (r := 59) (ci := 6) (j := 3) rfl lk_RX6_15 rfl rfl rfl dX6_copyFrom_32 ?_
  refine G_iconst (pc := 35) (v := 0) (by decide) dX6_copyFrom_35 ?_
  refine G_aload_n (pc := 36) rfl dX6_copyFrom_36 ?_
  refine G_getR (pc := 37) (r := 29) (ci := 6) (j := 3) rfl lk_RX6_15 rfl rfl rfl dX6_copyFrom_37 ?_
  refine G_iconst (pc := 40) (v := 0) (by decide) dX6_copyFrom_40 ?_
  refine G_bipush (pc := 41) (v := 8) (by decide) dX6_copyFrom_41 ?_
  refine G_copy (pc := 43) (x := 59) (y := 29) rfl rfl (by decide) (by decide) (by decide) (by decide) (by decide) wf_54 wf_51 wf_52 wf_53 (Nat.le_of_ble_eq_true rfl) dX6_copyFrom_43 ?_
  refine G_aload_n (pc := 46) rfl dX6_copyFrom_46 ?_
  refine G_getR (pc := 47) (r := 60) (ci := 6) (j := 4) rfl lk_RX6_18 rfl rfl rfl dX6_copyFrom_47 ?_
  refine G_iconst (pc := 50) (v := 0) (by decide) dX6_copyFrom_50 ?_
  refine G_aload_n (pc := 51) rfl dX6_copyFrom_51 ?_
  refine G_getR (pc := 52) (r := 30) (ci := 6) (j := 4) rfl lk_RX6_18 rfl rfl rfl dX6_copyFrom_52 ?_
  refine G_iconst (pc := 55) (v := 0) (by decide) dX6_copyFrom_55 ?_
  refine G_bipush (pc := 56) (v := 8) (by decide) dX6_copyFrom_56 ?_
  refine G_copy (pc := 58) (x := 60) (y := 30) rfl rfl (by decide) (by decide) (by decide) (by decide) (by decide) wf_54 wf_51 wf_52 wf_53 (Nat.le_of_ble_eq_true rfl) dX6_copyFrom_58 ?_
  refine G_aload_n (pc := 61) rfl dX6_copyFrom_61 ?_
  refine G_getR (pc := 62) (r := 61) (ci := 6) (j := 5) rfl lk_RX6_21 rfl rfl rfl dX6_copyFrom_62 ?_
  refine G_iconst (pc := 65) (v := 0) (by decide) dX6_copyFrom_65 ?_
  refine G_aload_n (pc := 66) rfl dX6_copyFrom_66 ?_
  refine G_getR (pc := 67) (r := 31) (ci := 6) (j := 5) rfl lk_RX6_21 rfl rfl rfl dX6_copyFrom_67 ?_
  refine G_iconst (pc := 70) (v := 0) (by decide) dX6_copyFrom_70 ?_
  refine G_aload_n (pc := 71) rfl dX6_copyFrom_71 ?_
  refine G_getI (pc := 72) (v := 0) (ci := 6) (j := 1) rfl rfl lk_RX6_28 rfl rfl dX6_copyFrom_72 ?_
  refine G_copy (pc := 75) (x := 61) (y := 31) rfl rfl (by decide) (by decide) (by decide) (by decide) (by decide) wf_54 wf_51 wf_52 wf_53 (Nat.le_of_ble_eq_true rfl) dX6_copyFrom_75 ?_
  exact G_vret (pc := 78) (Nat.le_of_ble_eq_true rfl) (Nat.le_of_ble_eq_true rfl) rfl dX6_copyFrom_78 ⟨rfl, rfl⟩
def F_rules  : Int32 := 0
set_option maxRecDepth 100000 in
set_option maxHeartbeats 4000000 in
theorem x_rules (d : Nat)  : G (d + 3) mX11_rules 0 0 0 0 0 (gent 2 [.ref 0]) [] SH0 RF0 I0 (fun r h => ∃ I1, r = some (.int (F_rules )) ∧ h = (SH0, RF0, I1) ∧ ∀ a, 67 ≤ a → I1 a = I0 a) := by
  refine G_aload_n (pc := 0) rfl dX11_rules_0 ?_
  refine G_getR (pc := 1) (r := 55) (ci := 11) (j := 4) rfl lk_RX11_75 rfl rfl rfl dX11_rules_1 ?_
  refine G_callV (pc := 4) (mc1 := 0) (ms1 := 0) (ci := 5) (mj := mX5_read) (vs := []) dX11_rules_4 rfl rfl cm_X5_read wf_98 wf_100 wf_101 rfl (Nat.le_of_ble_eq_true rfl) (Nat.le_of_ble_eq_true rfl) (Nat.le_of_ble_eq_true rfl) (Nat.le_of_ble_eq_true rfl) (s34_X5_read  d  ) ?_
  rintro _ _ ⟨rfl, rfl⟩
  dsimp only [Option.toList, List.cons_append, List.nil_append]
  refine G_istore_n (pc := 7) (L1 := [some (.ref 0), some (.int (-1))]) rfl rfl (by decide) dX11_rules_7 ?_
  refine G_iload_n (pc := 8) rfl dX11_rules_8 ?_
  refine G_if_lt (pc := 9) (tgt := 17) (by decide) dX11_rules_9 (fun _ => ?_) (fun z => absurd (by decide) z)
  refine G_aload_n (pc := 17) rfl dX11_rules_17 ?_
  refine G_getR (pc := 18) (r := 19) (ci := 11) (j := 0) rfl lk_RX11_56 rfl rfl rfl dX11_rules_18 ?_
  refine G_getR (pc := 21) (r := 27) (ci := 1) (j := 14) rfl lk_RX11_189 rfl rfl rfl dX11_rules_21 ?_
  refine G_aload_n (pc := 24) rfl dX11_rules_24 ?_
  refine G_getR (pc := 25) (r := 55) (ci := 11) (j := 4) rfl lk_RX11_75 rfl rfl rfl dX11_rules_25 ?_
  refine G_getR (pc := 28) (r := 57) (ci := 5) (j := 2) rfl lk_RX11_193 rfl rfl rfl dX11_rules_28 ?_
  refine G_callV (pc := 31) (mc1 := 0) (ms1 := 0) (ci := 6) (mj := mX6_copyFrom) (vs := [_]) dX11_rules_31 rfl rfl cm_X6_copyFrom wf_102 wf_58 wf_59 rfl (Nat.le_of_ble_eq_true rfl) (Nat.le_of_ble_eq_true rfl) (Nat.le_of_ble_eq_true rfl) (Nat.le_of_ble_eq_true rfl) (s38_X6_copyFrom  (d + 1)  ) ?_
  rintro _ _ ⟨rfl, rfl⟩
  dsimp only [Option.toList, List.cons_append, List.nil_append]
  refine G_aload_n (pc := 34) rfl dX11_rules_34 ?_
  refine G_getR (pc := 35) (r := 19) (ci := 11) (j := 0) rfl lk_RX11_56 rfl rfl rfl dX11_rules_35 ?_
  refine G_getR (pc := 38) (r := 27) (ci := 1) (j := 14) rfl lk_RX11_189 rfl rfl rfl dX11_rules_38 ?_
  refine G_getI (pc := 41) (v := 0) (ci := 6) (j := 0) rfl rfl lk_RX11_202 rfl rfl dX11_rules_41 ?_
  exact G_iret (pc := 44) (Nat.le_of_ble_eq_true rfl) (Nat.le_of_ble_eq_true rfl) rfl dX11_rules_44 ⟨_, by first | rfl | (simp [F_rules, *]; done) | (simp only [F_rules, Int32.le_iff_toInt_le, Int32.lt_iff_toInt_lt, ← Int32.toInt_inj]; simp; omega) | (simp only [F_rules, Int32.le_iff_toInt_le, Int32.lt_iff_toInt_lt, ← Int32.toInt_inj]; split <;> first | rfl | (exfalso; simp at *; omega)) | (unfold F_rules; (repeat' split) <;> first | rfl | (exfalso; (try simp only [Int32.le_iff_toInt_le, Int32.lt_iff_toInt_lt, ← Int32.toInt_inj] at *); first | omega | (simp at *; done) | (simp at *; omega))), rfl, fun a ha => by funext j; simp (disch := omega) only [gup_off, gcp_off]⟩
set_option maxRecDepth 100000 in
set_option maxHeartbeats 4000000 in
theorem s39_X1_save  (d : Nat)   : G (d + 1) mX1_save 0 0 0 0 0 (gent 3 [.ref 19, .int 0]) [] SH0 RF0 I0 (fun r h => r = none ∧ h = (SH0, RF0, (gup (gup (gcp I0 24 34 (0 : Int32).toNatClampNeg (0 : Int32).toNatClampNeg (6 : Int32).toNatClampNeg) 34 6 0) 34 7 0))) := by
  refine G_iload_n (pc := 0) rfl dX1_save_0 ?_
  refine G_bipush (pc := 1) (v := 8) (by decide) dX1_save_1 ?_
  refine G_imul (pc := 3) (z := 0) (by decide) dX1_save_3 ?_
  refine G_istore_n (pc := 4) (L1 := [some (.ref 19), some (.int 0), some (.int 0)]) rfl rfl (by decide) dX1_save_4 ?_
  refine G_aload_n (pc := 5) rfl dX1_save_5 ?_
  refine G_getR (pc := 6) (r := 24) (ci := 1) (j := 11) rfl lk_RX1_31 rfl rfl rfl dX1_save_6 ?_
  refine G_iconst (pc := 9) (v := 0) (by decide) dX1_save_9 ?_
  refine G_aload_n (pc := 10) rfl dX1_save_10 ?_
  refine G_getR (pc := 11) (r := 34) (ci := 1) (j := 18) rfl lk_RX1_53 rfl rfl rfl dX1_save_11 ?_
  refine G_iload_n (pc := 14) rfl dX1_save_14 ?_
  refine G_bipush (pc := 15) (v := 6) (by decide) dX1_save_15 ?_
  refine G_copy (pc := 17) (x := 24) (y := 34) rfl rfl (by decide) (by decide) (by decide) (by decide) (by decide) wf_50 wf_51 wf_52 wf_53 (Nat.le_of_ble_eq_true rfl) dX1_save_17 ?_
  refine G_aload_n (pc := 20) rfl dX1_save_20 ?_
  refine G_getR (pc := 21) (r := 34) (ci := 1) (j := 18) rfl lk_RX1_53 rfl rfl rfl dX1_save_21 ?_
  refine G_iload_n (pc := 24) rfl dX1_save_24 ?_
  refine G_bipush (pc := 25) (v := 6) (by decide) dX1_save_25 ?_
  refine G_iadd (pc := 27) (z := 6) (by decide) dX1_save_27 ?_
  refine G_aload_n (pc := 28) rfl dX1_save_28 ?_
  refine G_getI (pc := 29) (v := 0) (ci := 1) (j := 9) rfl rfl lk_RX1_75 rfl rfl dX1_save_29 ?_
  refine G_iast (pc := 32) (jj := 6) (by decide) rfl (by unfold vp_in; decide) dX1_save_32 ?_
  refine G_aload_n (pc := 33) rfl dX1_save_33 ?_
  refine G_getR (pc := 34) (r := 34) (ci := 1) (j := 18) rfl lk_RX1_53 rfl rfl rfl dX1_save_34 ?_
  refine G_iload_n (pc := 37) rfl dX1_save_37 ?_
  refine G_bipush (pc := 38) (v := 6) (by decide) dX1_save_38 ?_
  refine G_iadd (pc := 40) (z := 6) (by decide) dX1_save_40 ?_
  refine G_iconst (pc := 41) (v := 1) (by decide) dX1_save_41 ?_
  refine G_iadd (pc := 42) (z := 7) (by decide) dX1_save_42 ?_
  refine G_aload_n (pc := 43) rfl dX1_save_43 ?_
  refine G_getI (pc := 44) (v := 0) (ci := 1) (j := 1) rfl rfl lk_RX1_60 rfl rfl dX1_save_44 ?_
  refine G_iast (pc := 47) (jj := 7) (by decide) rfl (by unfold vp_in; decide) dX1_save_47 ?_
  exact G_vret (pc := 48) (Nat.le_of_ble_eq_true rfl) (Nat.le_of_ble_eq_true rfl) rfl dX1_save_48 ⟨rfl, rfl⟩
set_option maxRecDepth 100000 in
set_option maxHeartbeats 4000000 in
theorem s40_X1_restore  (d : Nat)   : G (d + 1) mX1_restore 0 0 0 0 0 (gent 3 [.ref 19, .int 0]) [] SH0 RF0 (gup (gup (gcp I0 24 34 (0 : Int32).toNatClampNeg (0 : Int32).toNatClampNeg (6 : Int32).toNatClampNeg) 34 6 0) 34 7 0) (fun r h => r = none ∧ h = (SH0, RF0, (gup (gup (gcp (gup (gup (gcp I0 24 34 (0 : Int32).toNatClampNeg (0 : Int32).toNatClampNeg (6 : Int32).toNatClampNeg) 34 6 0) 34 7 0) 34 24 (0 : Int32).toNatClampNeg (0 : Int32).toNatClampNeg (6 : Int32).toNatClampNeg) 19 9 0) 19 1 0))) := by
  refine G_iload_n (pc := 0) rfl dX1_restore_0 ?_
  refine G_bipush (pc := 1) (v := 8) (by decide) dX1_restore_1 ?_
  refine G_imul (pc := 3) (z := 0) (by decide) dX1_restore_3 ?_
  refine G_istore_n (pc := 4) (L1 := [some (.ref 19), some (.int 0), some (.int 0)]) rfl rfl (by decide) dX1_restore_4 ?_
  refine G_aload_n (pc := 5) rfl dX1_restore_5 ?_
  refine G_getR (pc := 6) (r := 34) (ci := 1) (j := 18) rfl lk_RX1_53 rfl rfl rfl dX1_restore_6 ?_
  refine G_iload_n (pc := 9) rfl dX1_restore_9 ?_
  refine G_aload_n (pc := 10) rfl dX1_restore_10 ?_
  refine G_getR (pc := 11) (r := 24) (ci := 1) (j := 11) rfl lk_RX1_31 rfl rfl rfl dX1_restore_11 ?_
  refine G_iconst (pc := 14) (v := 0) (by decide) dX1_restore_14 ?_
  refine G_bipush (pc := 15) (v := 6) (by decide) dX1_restore_15 ?_
  refine G_copy (pc := 17) (x := 34) (y := 24) rfl rfl (by decide) (by decide) (by decide) (by decide) (by decide) wf_50 wf_51 wf_52 wf_53 (Nat.le_of_ble_eq_true rfl) dX1_restore_17 ?_
  refine G_aload_n (pc := 20) rfl dX1_restore_20 ?_
  refine G_aload_n (pc := 21) rfl dX1_restore_21 ?_
  refine G_getR (pc := 22) (r := 34) (ci := 1) (j := 18) rfl lk_RX1_53 rfl rfl rfl dX1_restore_22 ?_
  refine G_iload_n (pc := 25) rfl dX1_restore_25 ?_
  refine G_bipush (pc := 26) (v := 6) (by decide) dX1_restore_26 ?_
  refine G_iadd (pc := 28) (z := 6) (by decide) dX1_restore_28 ?_
  refine G_iald (pc := 29) (jj := 6) (v := 0) (by decide) rfl rfl (by unfold vp_in; decide) dX1_restore_29 ?_
  refine G_putI (pc := 30) (ci := 1) (j := 9) rfl lk_RX1_75 rfl rfl rfl trivial dX1_restore_30 ?_
  refine G_aload_n (pc := 33) rfl dX1_restore_33 ?_
  refine G_aload_n (pc := 34) rfl dX1_restore_34 ?_
  refine G_getR (pc := 35) (r := 34) (ci := 1) (j := 18) rfl lk_RX1_53 rfl rfl rfl dX1_restore_35 ?_
  refine G_iload_n (pc := 38) rfl dX1_restore_38 ?_
  refine G_bipush (pc := 39) (v := 6) (by decide) dX1_restore_39 ?_
  refine G_iadd (pc := 41) (z := 6) (by decide) dX1_restore_41 ?_
  refine G_iconst (pc := 42) (v := 1) (by decide) dX1_restore_42 ?_
  refine G_iadd (pc := 43) (z := 7) (by decide) dX1_restore_43 ?_
  refine G_iald (pc := 44) (jj := 7) (v := 0) (by decide) rfl rfl (by unfold vp_in; decide) dX1_restore_44 ?_
  refine G_putI (pc := 45) (ci := 1) (j := 1) rfl lk_RX1_60 rfl rfl rfl trivial dX1_restore_45 ?_
  exact G_vret (pc := 48) (Nat.le_of_ble_eq_true rfl) (Nat.le_of_ble_eq_true rfl) rfl dX1_restore_48 ⟨rfl, rfl⟩
def F_judge  : Int32 := 0
set_option maxRecDepth 100000 in
set_option maxHeartbeats 4000000 in
theorem x_judge (d : Nat)  : G (d + 2) mX11_judge 0 0 0 0 0 (gent 3 [.ref 0]) [] SH0 RF0 I0 (fun r h => ∃ I1, r = some (.int (F_judge )) ∧ h = (SH0, RF0, I1) ∧ ∀ a, 67 ≤ a → I1 a = I0 a) := by
  refine G_iconst (pc := 0) (v := 0) (by decide) dX11_judge_0 ?_
  refine G_istore_n (pc := 1) (L1 := [some (.ref 0), some (.int 0), none]) rfl rfl (by decide) dX11_judge_1 ?_
  refine G_aload_n (pc := 2) rfl dX11_judge_2 ?_
  refine G_getR (pc := 3) (r := 19) (ci := 11) (j := 0) rfl lk_RX11_56 rfl rfl rfl dX11_judge_3 ?_
  refine G_iconst (pc := 6) (v := 0) (by decide) dX11_judge_6 ?_
  refine G_callV (pc := 7) (mc1 := 0) (ms1 := 0) (ci := 1) (mj := mX1_save) (vs := [_]) dX11_judge_7 rfl rfl cm_X1_save wf_103 wf_105 wf_106 rfl (Nat.le_of_ble_eq_true rfl) (Nat.le_of_ble_eq_true rfl) (Nat.le_of_ble_eq_true rfl) (Nat.le_of_ble_eq_true rfl) (s39_X1_save  d  ) ?_
  rintro _ _ ⟨rfl, rfl⟩
  dsimp only [Option.toList, List.cons_append, List.nil_append]
  refine G_iconst (pc := 10) (v := 0) (by decide) dX11_judge_10 ?_
  refine G_istore_n (pc := 11) (L1 := [some (.ref 0), some (.int 0), some (.int 0)]) rfl rfl (by decide) dX11_judge_11 ?_
  refine G_iload_n (pc := 12) rfl dX11_judge_12 ?_
  refine G_aload_n (pc := 13) rfl dX11_judge_13 ?_
  refine G_getI (pc := 14) (v := 0) (ci := 11) (j := 7) rfl rfl lk_RX11_307 rfl rfl dX11_judge_14 ?_
  refine G_icmp_ge (pc := 17) (tgt := 44) (by decide) dX11_judge_17 (fun _ => ?_) (fun z => absurd (by decide) z)
  refine G_aload_n (pc := 44) rfl dX11_judge_44 ?_
  refine G_getR (pc := 45) (r := 19) (ci := 11) (j := 0) rfl lk_RX11_56 rfl rfl rfl dX11_judge_45 ?_
  refine G_iconst (pc := 48) (v := 0) (by decide) dX11_judge_48 ?_
  refine G_callV (pc := 49) (mc1 := 0) (ms1 := 0) (ci := 1) (mj := mX1_restore) (vs := [_]) dX11_judge_49 rfl rfl cm_X1_restore wf_107 wf_109 wf_110 rfl (Nat.le_of_ble_eq_true rfl) (Nat.le_of_ble_eq_true rfl) (Nat.le_of_ble_eq_true rfl) (Nat.le_of_ble_eq_true rfl) (s40_X1_restore  d  ) ?_
  rintro _ _ ⟨rfl, rfl⟩
  dsimp only [Option.toList, List.cons_append, List.nil_append]
  refine G_iload_n (pc := 52) rfl dX11_judge_52 ?_
  exact G_iret (pc := 53) (Nat.le_of_ble_eq_true rfl) (Nat.le_of_ble_eq_true rfl) rfl dX11_judge_53 ⟨_, by first | rfl | (simp [F_judge, *]; done) | (simp only [F_judge, Int32.le_iff_toInt_le, Int32.lt_iff_toInt_lt, ← Int32.toInt_inj]; simp; omega) | (simp only [F_judge, Int32.le_iff_toInt_le, Int32.lt_iff_toInt_lt, ← Int32.toInt_inj]; split <;> first | rfl | (exfalso; simp at *; omega)) | (unfold F_judge; (repeat' split) <;> first | rfl | (exfalso; (try simp only [Int32.le_iff_toInt_le, Int32.lt_iff_toInt_lt, ← Int32.toInt_inj] at *); first | omega | (simp at *; done) | (simp at *; omega))), rfl, fun a ha => by funext j; simp (disch := omega) only [gup_off, gcp_off]⟩
set_option maxRecDepth 100000 in
set_option maxHeartbeats 4000000 in
theorem s41_X1_drawAct  (d : Nat)   : G (d) mX1_drawAct 0 0 0 0 0 (gent 1 [.ref 19]) [] SH0 RF0 I0 (fun r h => r = some (.int 0) ∧ h = (SH0, RF0, (gup I0 19 4 1103527590))) := by
  refine G_aload_n (pc := 0) rfl dX1_drawAct_0 ?_
  refine G_aload_n (pc := 1) rfl dX1_drawAct_1 ?_
  refine G_getI (pc := 2) (v := 1) (ci := 1) (j := 4) rfl rfl lk_RX1_15 rfl rfl dX1_drawAct_2 ?_
  refine G_ldc (pc := 5) (v := 1103515245) ck_RX1_160 dX1_drawAct_5 ?_
  refine G_imul (pc := 7) (z := 1103515245) (by decide) dX1_drawAct_7 ?_
  refine G_sipush (pc := 8) (v := 12345) (by decide) dX1_drawAct_8 ?_
  refine G_iadd (pc := 11) (z := 1103527590) (by decide) dX1_drawAct_11 ?_
  refine G_putI (pc := 12) (ci := 1) (j := 4) rfl lk_RX1_15 rfl rfl rfl trivial dX1_drawAct_12 ?_
  refine G_aload_n (pc := 15) rfl dX1_drawAct_15 ?_
  refine G_getI (pc := 16) (v := 1103527590) (ci := 1) (j := 4) rfl rfl lk_RX1_15 rfl rfl dX1_drawAct_16 ?_
  refine G_bipush (pc := 19) (v := 16) (by decide) dX1_drawAct_19 ?_
  refine G_iushr (pc := 21) (zz := .int 16838) (by decide) dX1_drawAct_21 ?_
  refine G_aload_n (pc := 22) rfl dX1_drawAct_22 ?_
  refine G_getI (pc := 23) (v := 0) (ci := 1) (j := 8) rfl rfl lk_RX1_72 rfl rfl dX1_drawAct_23 ?_
  refine G_iconst (pc := 26) (v := 1) (by decide) dX1_drawAct_26 ?_
  refine G_iadd (pc := 27) (z := 1) (by decide) dX1_drawAct_27 ?_
  refine G_irem (pc := 28) (z := 0) (by decide) (by decide) dX1_drawAct_28 ?_
  exact G_iret (pc := 29) (Nat.le_of_ble_eq_true rfl) (Nat.le_of_ble_eq_true rfl) rfl dX1_drawAct_29 ⟨rfl, rfl⟩
set_option maxRecDepth 100000 in
set_option maxHeartbeats 4000000 in
theorem s44_X1_isKey  (d : Nat)   : G (d) mX1_isKey 0 0 0 0 0 (gent 2 [.ref 19, .int (-1)]) [] SH0 RF0 (gup I0 19 4 1103527590) (fun r h => r = some (.int 0) ∧ h = (SH0, RF0, (gup I0 19 4 1103527590))) := by
  refine G_iload_n (pc := 0) rfl dX1_isKey_0 ?_
  refine G_if_lt (pc := 1) (tgt := 16) (by decide) dX1_isKey_1 (fun _ => ?_) (fun z => absurd (by decide) z)
  refine G_iconst (pc := 16) (v := 0) (by decide) dX1_isKey_16 ?_
  exact G_zret (pc := 17) (Nat.le_of_ble_eq_true rfl) (Nat.le_of_ble_eq_true rfl) rfl (by decide) dX1_isKey_17 ⟨rfl, rfl⟩
set_option maxRecDepth 100000 in
set_option maxHeartbeats 4000000 in
theorem s43_X1_tell  (d : Nat)   : G (d + 1) mX1_tell 0 0 0 0 0 (gent 5 [.ref 19, .int 0]) [] SH0 RF0 (gup I0 19 4 1103527590) (fun r h => r = some (.int 0) ∧ h = (SH0, RF0, (gup I0 19 4 1103527590))) := by
  refine G_iload_n (pc := 0) rfl dX1_tell_0 ?_
  refine G_iconst (pc := 1) (v := 1) (by decide) dX1_tell_1 ?_
  refine G_isub (pc := 2) (z := (-1)) (by decide) dX1_tell_2 ?_
  refine G_istore_n (pc := 3) (L1 := [some (.ref 19), some (.int 0), some (.int (-1)), none, none]) rfl rfl (by decide) dX1_tell_3 ?_
  refine G_aload_n (pc := 4) rfl dX1_tell_4 ?_
  refine G_iload_n (pc := 5) rfl dX1_tell_5 ?_
  refine G_callV (pc := 6) (mc1 := 0) (ms1 := 0) (ci := 1) (mj := mX1_isKey) (vs := [_]) dX1_tell_6 rfl rfl cm_X1_isKey wf_68 wf_13 wf_14 rfl (Nat.le_of_ble_eq_true rfl) (Nat.le_of_ble_eq_true rfl) (Nat.le_of_ble_eq_true rfl) (Nat.le_of_ble_eq_true rfl) (s44_X1_isKey  d  ) ?_
  rintro _ _ ⟨rfl, rfl⟩
  dsimp only [Option.toList, List.cons_append, List.nil_append]
  refine G_if_eq (pc := 9) (tgt := 20) (by decide) dX1_tell_9 (fun _ => ?_) (fun z => absurd (by decide) z)
  refine G_iconst (pc := 20) (v := 0) (by decide) dX1_tell_20 ?_
  exact G_iret (pc := 21) (Nat.le_of_ble_eq_true rfl) (Nat.le_of_ble_eq_true rfl) rfl dX1_tell_21 ⟨rfl, rfl⟩
set_option maxRecDepth 100000 in
set_option maxHeartbeats 4000000 in
theorem s45_X1_melt  (d : Nat)   : G (d) mX1_melt 0 0 0 0 0 (gent 3 [.ref 19]) [] SH0 RF0 (gup I0 19 4 1103527590) (fun r h => r = some (.int 0) ∧ h = (SH0, RF0, (gup (gup I0 19 4 1103527590) 19 1 1))) := by
  refine G_iconst (pc := 0) (v := 0) (by decide) dX1_melt_0 ?_
  refine G_istore_n (pc := 1) (L1 := [some (.ref 19), some (.int 0), none]) rfl rfl (by decide) dX1_melt_1 ?_
  refine G_iconst (pc := 2) (v := 0) (by decide) dX1_melt_2 ?_
  refine G_istore_n (pc := 3) (L1 := [some (.ref 19), some (.int 0), some (.int 0)]) rfl rfl (by decide) dX1_melt_3 ?_
  refine G_iload_n (pc := 4) rfl dX1_melt_4 ?_
  refine G_aload_n (pc := 5) rfl dX1_melt_5 ?_
  refine G_getI (pc := 6) (v := 0) (ci := 1) (j := 8) rfl rfl lk_RX1_72 rfl rfl dX1_melt_6 ?_
  refine G_icmp_ge (pc := 9) (tgt := 60) (by decide) dX1_melt_9 (fun _ => ?_) (fun z => absurd (by decide) z)
  refine G_aload_n (pc := 60) rfl dX1_melt_60 ?_
  refine G_dup (pc := 61) rfl dX1_melt_61 ?_
  refine G_getI (pc := 62) (v := 0) (ci := 1) (j := 1) rfl rfl lk_RX1_60 rfl rfl dX1_melt_62 ?_
  refine G_iconst (pc := 65) (v := 1) (by decide) dX1_melt_65 ?_
  refine G_iadd (pc := 66) (z := 1) (by decide) dX1_melt_66 ?_
  refine G_putI (pc := 67) (ci := 1) (j := 1) rfl lk_RX1_60 rfl rfl rfl trivial dX1_melt_67 ?_
  refine G_iload_n (pc := 70) rfl dX1_melt_70 ?_
  exact G_iret (pc := 71) (Nat.le_of_ble_eq_true rfl) (Nat.le_of_ble_eq_true rfl) rfl dX1_melt_71 ⟨rfl, rfl⟩
set_option maxRecDepth 100000 in
set_option maxHeartbeats 4000000 in
theorem s42_X1_goBy  (d : Nat)   : G (d + 2) mX1_goBy 0 0 0 0 0 (gent 2 [.ref 19, .int 0]) [] SH0 RF0 (gup I0 19 4 1103527590) (fun r h => r = some (.int 0) ∧ h = (SH0, RF0, (gup (gup I0 19 4 1103527590) 19 1 1))) := by
  refine G_aload_n (pc := 0) rfl dX1_goBy_0 ?_
  refine G_iload_n (pc := 1) rfl dX1_goBy_1 ?_
  refine G_callV (pc := 2) (mc1 := 0) (ms1 := 0) (ci := 1) (mj := mX1_tell) (vs := [_]) dX1_goBy_2 rfl rfl cm_X1_tell wf_69 wf_71 wf_72 rfl (Nat.le_of_ble_eq_true rfl) (Nat.le_of_ble_eq_true rfl) (Nat.le_of_ble_eq_true rfl) (Nat.le_of_ble_eq_true rfl) (s43_X1_tell  d  ) ?_
  rintro _ _ ⟨rfl, rfl⟩
  dsimp only [Option.toList, List.cons_append, List.nil_append]
  refine G_aload_n (pc := 5) rfl dX1_goBy_5 ?_
  refine G_callV (pc := 6) (mc1 := 0) (ms1 := 0) (ci := 1) (mj := mX1_melt) (vs := []) dX1_goBy_6 rfl rfl cm_X1_melt wf_73 wf_75 wf_76 rfl (Nat.le_of_ble_eq_true rfl) (Nat.le_of_ble_eq_true rfl) (Nat.le_of_ble_eq_true rfl) (Nat.le_of_ble_eq_true rfl) (s45_X1_melt  (d + 1)  ) ?_
  rintro _ _ ⟨rfl, rfl⟩
  dsimp only [Option.toList, List.cons_append, List.nil_append]
  refine G_iadd (pc := 9) (z := 0) (by decide) dX1_goBy_9 ?_
  exact G_iret (pc := 10) (Nat.le_of_ble_eq_true rfl) (Nat.le_of_ble_eq_true rfl) rfl dX1_goBy_10 ⟨rfl, rfl⟩
set_option maxRecDepth 100000 in
set_option maxHeartbeats 4000000 in
theorem s46_X11_scored  (d : Nat)   : G (d) mX11_scored 0 0 0 0 0 (gent 2 [.ref 0, .int 0]) [] SH0 RF0 (gup (gup I0 19 4 1103527590) 19 1 1) (fun r h => r = some (.int 0) ∧ h = (SH0, RF0, (gup (gup (gup I0 19 4 1103527590) 19 1 1) 19 3 0))) := by
  refine G_aload_n (pc := 0) rfl dX11_scored_0 ?_
  refine G_getR (pc := 1) (r := 19) (ci := 11) (j := 0) rfl lk_RX11_56 rfl rfl rfl dX11_scored_1 ?_
  refine G_dup (pc := 4) rfl dX11_scored_4 ?_
  refine G_getI (pc := 5) (v := 0) (ci := 1) (j := 3) rfl rfl lk_RX11_162 rfl rfl dX11_scored_5 ?_
  refine G_iload_n (pc := 8) rfl dX11_scored_8 ?_
  refine G_iadd (pc := 9) (z := 0) (by decide) dX11_scored_9 ?_
  refine G_putI (pc := 10) (ci := 1) (j := 3) rfl lk_RX11_162 rfl rfl rfl trivial dX11_scored_10 ?_
  refine G_iload_n (pc := 13) rfl dX11_scored_13 ?_
  exact G_iret (pc := 14) (Nat.le_of_ble_eq_true rfl) (Nat.le_of_ble_eq_true rfl) rfl dX11_scored_14 ⟨rfl, rfl⟩
def F_lot  : Int32 := 0
set_option maxRecDepth 100000 in
set_option maxHeartbeats 4000000 in
theorem x_lot (d : Nat)  : G (d + 3) mX11_lot 0 0 0 0 0 (gent 1 [.ref 0]) [] SH0 RF0 I0 (fun r h => ∃ I1, r = some (.int (F_lot )) ∧ h = (SH0, RF0, I1) ∧ ∀ a, 67 ≤ a → I1 a = I0 a) := by
  refine G_aload_n (pc := 0) rfl dX11_lot_0 ?_
  refine G_getR (pc := 1) (r := 19) (ci := 11) (j := 0) rfl lk_RX11_56 rfl rfl rfl dX11_lot_1 ?_
  refine G_callV (pc := 4) (mc1 := 0) (ms1 := 0) (ci := 1) (mj := mX1_isOver) (vs := []) dX11_lot_4 rfl rfl cm_X1_isOver wf_15 wf_17 wf_18 rfl (Nat.le_of_ble_eq_true rfl) (Nat.le_of_ble_eq_true rfl) (Nat.le_of_ble_eq_true rfl) (Nat.le_of_ble_eq_true rfl) (s2_X1_isOver  (d + 2)  ) ?_
  rintro _ _ ⟨rfl, rfl⟩
  dsimp only [Option.toList, List.cons_append, List.nil_append]
  refine G_if_eq (pc := 7) (tgt := 13) (by decide) dX11_lot_7 (fun _ => ?_) (fun z => absurd (by decide) z)
  refine G_aload_n (pc := 13) rfl dX11_lot_13 ?_
  refine G_aload_n (pc := 14) rfl dX11_lot_14 ?_
  refine G_getR (pc := 15) (r := 19) (ci := 11) (j := 0) rfl lk_RX11_56 rfl rfl rfl dX11_lot_15 ?_
  refine G_aload_n (pc := 18) rfl dX11_lot_18 ?_
  refine G_getR (pc := 19) (r := 19) (ci := 11) (j := 0) rfl lk_RX11_56 rfl rfl rfl dX11_lot_19 ?_
  refine G_callV (pc := 22) (mc1 := 0) (ms1 := 0) (ci := 1) (mj := mX1_drawAct) (vs := []) dX11_lot_22 rfl rfl cm_X1_drawAct wf_111 wf_113 wf_114 rfl (Nat.le_of_ble_eq_true rfl) (Nat.le_of_ble_eq_true rfl) (Nat.le_of_ble_eq_true rfl) (Nat.le_of_ble_eq_true rfl) (s41_X1_drawAct  (d + 2)  ) ?_
  rintro _ _ ⟨rfl, rfl⟩
  dsimp only [Option.toList, List.cons_append, List.nil_append]
  refine G_callV (pc := 25) (mc1 := 0) (ms1 := 0) (ci := 1) (mj := mX1_goBy) (vs := [_]) dX11_lot_25 rfl rfl cm_X1_goBy wf_77 wf_79 wf_80 rfl (Nat.le_of_ble_eq_true rfl) (Nat.le_of_ble_eq_true rfl) (Nat.le_of_ble_eq_true rfl) (Nat.le_of_ble_eq_true rfl) (s42_X1_goBy  d  ) ?_
  rintro _ _ ⟨rfl, rfl⟩
  dsimp only [Option.toList, List.cons_append, List.nil_append]
  refine G_callV (pc := 28) (mc1 := 0) (ms1 := 0) (ci := 11) (mj := mX11_scored) (vs := [_]) dX11_lot_28 rfl rfl cm_X11_scored wf_81 wf_83 wf_84 rfl (Nat.le_of_ble_eq_true rfl) (Nat.le_of_ble_eq_true rfl) (Nat.le_of_ble_eq_true rfl) (Nat.le_of_ble_eq_true rfl) (s46_X11_scored  (d + 2)  ) ?_
  rintro _ _ ⟨rfl, rfl⟩
  dsimp only [Option.toList, List.cons_append, List.nil_append]
  exact G_iret (pc := 31) (Nat.le_of_ble_eq_true rfl) (Nat.le_of_ble_eq_true rfl) rfl dX11_lot_31 ⟨_, by first | rfl | (simp [F_lot, *]; done) | (simp only [F_lot, Int32.le_iff_toInt_le, Int32.lt_iff_toInt_lt, ← Int32.toInt_inj]; simp; omega) | (simp only [F_lot, Int32.le_iff_toInt_le, Int32.lt_iff_toInt_lt, ← Int32.toInt_inj]; split <;> first | rfl | (exfalso; simp at *; omega)) | (unfold F_lot; (repeat' split) <;> first | rfl | (exfalso; (try simp only [Int32.le_iff_toInt_le, Int32.lt_iff_toInt_lt, ← Int32.toInt_inj] at *); first | omega | (simp at *; done) | (simp at *; omega))), rfl, fun a ha => by funext j; simp (disch := omega) only [gup_off, gcp_off]⟩
set_option maxRecDepth 100000 in
set_option maxHeartbeats 4000000 in
theorem s47_X11_put  (d : Nat) (a0 : Int32) (a1 : Int32) : G (d + 1) mX11_put 0 0 0 0 0 (gent 5 [.ref 20, .int a0, .int a1, .int 15]) [] SH0 RF0 I0 (fun r h => (¬ (0 ≤ a0 ∧ a0 ≤ 15) ∧ r = some (.int (-1)) ∧ h = (SH0, RF0, I0)) ∨ ((0 ≤ a0 ∧ a0 ≤ 15) ∧ (0 ≤ a1 ∧ a1 ≤ 15) ∧ (a0 : Int32) = 0 ∧ r = some (.int 5) ∧ h = (SH0, RF0, (gup I0 20 0 a1))) ∨ ((0 ≤ a0 ∧ a0 ≤ 15) ∧ (0 ≤ a1 ∧ a1 ≤ 15) ∧ ¬ ((a0 : Int32) = 0) ∧ (a0 : Int32) = 1 ∧ r = some (.int 5) ∧ h = (SH0, RF0, (gup I0 20 1 a1))) ∨ ((0 ≤ a0 ∧ a0 ≤ 15) ∧ (0 ≤ a1 ∧ a1 ≤ 15) ∧ ¬ ((a0 : Int32) = 0) ∧ ¬ ((a0 : Int32) = 1) ∧ (a0 : Int32) = 2 ∧ r = some (.int 5) ∧ h = (SH0, RF0, (gup I0 20 2 a1))) ∨ ((0 ≤ a0 ∧ a0 ≤ 15) ∧ (0 ≤ a1 ∧ a1 ≤ 15) ∧ ¬ ((a0 : Int32) = 0) ∧ ¬ ((a0 : Int32) = 1) ∧ ¬ ((a0 : Int32) = 2) ∧ (a0 : Int32) = 3 ∧ r = some (.int 5) ∧ h = (SH0, RF0, (gup I0 20 3 a1))) ∨ ((0 ≤ a0 ∧ a0 ≤ 15) ∧ (0 ≤ a1 ∧ a1 ≤ 15) ∧ ¬ ((a0 : Int32) = 0) ∧ ¬ ((a0 : Int32) = 1) ∧ ¬ ((a0 : Int32) = 2) ∧ ¬ ((a0 : Int32) = 3) ∧ (a0 : Int32) = 4 ∧ r = some (.int 5) ∧ h = (SH0, RF0, (gup I0 20 4 a1))) ∨ ((0 ≤ a0 ∧ a0 ≤ 15) ∧ (0 ≤ a1 ∧ a1 ≤ 15) ∧ ¬ ((a0 : Int32) = 0) ∧ ¬ ((a0 : Int32) = 1) ∧ ¬ ((a0 : Int32) = 2) ∧ ¬ ((a0 : Int32) = 3) ∧ ¬ ((a0 : Int32) = 4) ∧ (a0 : Int32) = 5 ∧ r = some (.int 5) ∧ h = (SH0, RF0, (gup I0 20 5 a1))) ∨ ((0 ≤ a0 ∧ a0 ≤ 15) ∧ (0 ≤ a1 ∧ a1 ≤ 15) ∧ ¬ ((a0 : Int32) = 0) ∧ ¬ ((a0 : Int32) = 1) ∧ ¬ ((a0 : Int32) = 2) ∧ ¬ ((a0 : Int32) = 3) ∧ ¬ ((a0 : Int32) = 4) ∧ ¬ ((a0 : Int32) = 5) ∧ (a0 : Int32) = 6 ∧ r = some (.int 5) ∧ h = (SH0, RF0, (gup I0 20 6 a1))) ∨ ((0 ≤ a0 ∧ a0 ≤ 15) ∧ (0 ≤ a1 ∧ a1 ≤ 15) ∧ ¬ ((a0 : Int32) = 0) ∧ ¬ ((a0 : Int32) = 1) ∧ ¬ ((a0 : Int32) = 2) ∧ ¬ ((a0 : Int32) = 3) ∧ ¬ ((a0 : Int32) = 4) ∧ ¬ ((a0 : Int32) = 5) ∧ ¬ ((a0 : Int32) = 6) ∧ (a0 : Int32) = 7 ∧ r = some (.int 5) ∧ h = (SH0, RF0, (gup I0 20 7 a1))) ∨ ((0 ≤ a0 ∧ a0 ≤ 15) ∧ (0 ≤ a1 ∧ a1 ≤ 15) ∧ ¬ ((a0 : Int32) = 0) ∧ ¬ ((a0 : Int32) = 1) ∧ ¬ ((a0 : Int32) = 2) ∧ ¬ ((a0 : Int32) = 3) ∧ ¬ ((a0 : Int32) = 4) ∧ ¬ ((a0 : Int32) = 5) ∧ ¬ ((a0 : Int32) = 6) ∧ ¬ ((a0 : Int32) = 7) ∧ (a0 : Int32) = 8 ∧ r = some (.int 5) ∧ h = (SH0, RF0, (gup I0 20 8 a1))) ∨ ((0 ≤ a0 ∧ a0 ≤ 15) ∧ (0 ≤ a1 ∧ a1 ≤ 15) ∧ ¬ ((a0 : Int32) = 0) ∧ ¬ ((a0 : Int32) = 1) ∧ ¬ ((a0 : Int32) = 2) ∧ ¬ ((a0 : Int32) = 3) ∧ ¬ ((a0 : Int32) = 4) ∧ ¬ ((a0 : Int32) = 5) ∧ ¬ ((a0 : Int32) = 6) ∧ ¬ ((a0 : Int32) = 7) ∧ ¬ ((a0 : Int32) = 8) ∧ (a0 : Int32) = 9 ∧ r = some (.int 5) ∧ h = (SH0, RF0, (gup I0 20 9 a1))) ∨ ((0 ≤ a0 ∧ a0 ≤ 15) ∧ (0 ≤ a1 ∧ a1 ≤ 15) ∧ ¬ ((a0 : Int32) = 0) ∧ ¬ ((a0 : Int32) = 1) ∧ ¬ ((a0 : Int32) = 2) ∧ ¬ ((a0 : Int32) = 3) ∧ ¬ ((a0 : Int32) = 4) ∧ ¬ ((a0 : Int32) = 5) ∧ ¬ ((a0 : Int32) = 6) ∧ ¬ ((a0 : Int32) = 7) ∧ ¬ ((a0 : Int32) = 8) ∧ ¬ ((a0 : Int32) = 9) ∧ (a0 : Int32) = 10 ∧ r = some (.int 5) ∧ h = (SH0, RF0, (gup I0 20 10 a1))) ∨ ((0 ≤ a0 ∧ a0 ≤ 15) ∧ (0 ≤ a1 ∧ a1 ≤ 15) ∧ ¬ ((a0 : Int32) = 0) ∧ ¬ ((a0 : Int32) = 1) ∧ ¬ ((a0 : Int32) = 2) ∧ ¬ ((a0 : Int32) = 3) ∧ ¬ ((a0 : Int32) = 4) ∧ ¬ ((a0 : Int32) = 5) ∧ ¬ ((a0 : Int32) = 6) ∧ ¬ ((a0 : Int32) = 7) ∧ ¬ ((a0 : Int32) = 8) ∧ ¬ ((a0 : Int32) = 9) ∧ ¬ ((a0 : Int32) = 10) ∧ (a0 : Int32) = 11 ∧ r = some (.int 5) ∧ h = (SH0, RF0, (gup I0 20 11 a1))) ∨ ((0 ≤ a0 ∧ a0 ≤ 15) ∧ (0 ≤ a1 ∧ a1 ≤ 15) ∧ ¬ ((a0 : Int32) = 0) ∧ ¬ ((a0 : Int32) = 1) ∧ ¬ ((a0 : Int32) = 2) ∧ ¬ ((a0 : Int32) = 3) ∧ ¬ ((a0 : Int32) = 4) ∧ ¬ ((a0 : Int32) = 5) ∧ ¬ ((a0 : Int32) = 6) ∧ ¬ ((a0 : Int32) = 7) ∧ ¬ ((a0 : Int32) = 8) ∧ ¬ ((a0 : Int32) = 9) ∧ ¬ ((a0 : Int32) = 10) ∧ ¬ ((a0 : Int32) = 11) ∧ (a0 : Int32) = 12 ∧ r = some (.int 5) ∧ h = (SH0, RF0, (gup I0 20 12 a1))) ∨ ((0 ≤ a0 ∧ a0 ≤ 15) ∧ (0 ≤ a1 ∧ a1 ≤ 15) ∧ ¬ ((a0 : Int32) = 0) ∧ ¬ ((a0 : Int32) = 1) ∧ ¬ ((a0 : Int32) = 2) ∧ ¬ ((a0 : Int32) = 3) ∧ ¬ ((a0 : Int32) = 4) ∧ ¬ ((a0 : Int32) = 5) ∧ ¬ ((a0 : Int32) = 6) ∧ ¬ ((a0 : Int32) = 7) ∧ ¬ ((a0 : Int32) = 8) ∧ ¬ ((a0 : Int32) = 9) ∧ ¬ ((a0 : Int32) = 10) ∧ ¬ ((a0 : Int32) = 11) ∧ ¬ ((a0 : Int32) = 12) ∧ (a0 : Int32) = 13 ∧ r = some (.int 5) ∧ h = (SH0, RF0, (gup I0 20 13 a1))) ∨ ((0 ≤ a0 ∧ a0 ≤ 15) ∧ (0 ≤ a1 ∧ a1 ≤ 15) ∧ ¬ ((a0 : Int32) = 0) ∧ ¬ ((a0 : Int32) = 1) ∧ ¬ ((a0 : Int32) = 2) ∧ ¬ ((a0 : Int32) = 3) ∧ ¬ ((a0 : Int32) = 4) ∧ ¬ ((a0 : Int32) = 5) ∧ ¬ ((a0 : Int32) = 6) ∧ ¬ ((a0 : Int32) = 7) ∧ ¬ ((a0 : Int32) = 8) ∧ ¬ ((a0 : Int32) = 9) ∧ ¬ ((a0 : Int32) = 10) ∧ ¬ ((a0 : Int32) = 11) ∧ ¬ ((a0 : Int32) = 12) ∧ ¬ ((a0 : Int32) = 13) ∧ (a0 : Int32) = 14 ∧ r = some (.int 5) ∧ h = (SH0, RF0, (gup I0 20 14 a1))) ∨ ((0 ≤ a0 ∧ a0 ≤ 15) ∧ (0 ≤ a1 ∧ a1 ≤ 15) ∧ ¬ ((a0 : Int32) = 0) ∧ ¬ ((a0 : Int32) = 1) ∧ ¬ ((a0 : Int32) = 2) ∧ ¬ ((a0 : Int32) = 3) ∧ ¬ ((a0 : Int32) = 4) ∧ ¬ ((a0 : Int32) = 5) ∧ ¬ ((a0 : Int32) = 6) ∧ ¬ ((a0 : Int32) = 7) ∧ ¬ ((a0 : Int32) = 8) ∧ ¬ ((a0 : Int32) = 9) ∧ ¬ ((a0 : Int32) = 10) ∧ ¬ ((a0 : Int32) = 11) ∧ ¬ ((a0 : Int32) = 12) ∧ ¬ ((a0 : Int32) = 13) ∧ ¬ ((a0 : Int32) = 14) ∧ (a0 : Int32) = 15 ∧ r = some (.int 5) ∧ h = (SH0, RF0, (gup I0 20 15 a1))) ∨ ((0 ≤ a0 ∧ a0 ≤ 15) ∧ ¬ (0 ≤ a1 ∧ a1 ≤ 15) ∧ r = some (.int (-1)) ∧ h = (SH0, RF0, I0))) := by
  refine G_iload_n (pc := 0) rfl dX11_put_0 ?_
  refine G_iconst (pc := 1) (v := 0) (by decide) dX11_put_1 ?_
  refine G_aload_n (pc := 2) rfl dX11_put_2 ?_
  refine G_alen (pc := 3) (v := 16) rfl (by decide) dX11_put_3 ?_
  refine G_iconst (pc := 4) (v := 1) (by decide) dX11_put_4 ?_
  refine G_isub (pc := 5) (z := 15) (by decide) dX11_put_5 ?_
  refine G_callS (pc := 6) (mc1 := 0) (ms1 := 0) (mj := mX11_isIn) (vs := [_, _, _]) dX11_put_6 cm_X11_isIn wf_4 wf_6 rfl (Nat.le_of_ble_eq_true rfl) (Nat.le_of_ble_eq_true rfl) (Nat.le_of_ble_eq_true rfl) (Nat.le_of_ble_eq_true rfl) (isIn_s d a0 0 15) ?_
  rintro _ _ ⟨rfl, rfl⟩
  dsimp only [Option.toList, List.cons_append, List.nil_append]
  refine G_if_eq (pc := 9) (tgt := 21) (by decide) dX11_put_9 (fun c122 => ?_) (fun c122 => ?_)
  · have c122 := gB_z c122
    refine G_iconst (pc := 21) (v := (-1)) (by decide) dX11_put_21 ?_
    exact G_iret (pc := 22) (Nat.le_of_ble_eq_true rfl) (Nat.le_of_ble_eq_true rfl) rfl dX11_put_22 (Or.inl ⟨c122, rfl, rfl⟩)
  · have c122 := gB_o c122
    refine G_iload_n (pc := 12) rfl dX11_put_12 ?_
    refine G_iconst (pc := 13) (v := 0) (by decide) dX11_put_13 ?_
    refine G_iload_n (pc := 14) rfl dX11_put_14 ?_
    refine G_callS (pc := 15) (mc1 := 0) (ms1 := 0) (mj := mX11_isIn) (vs := [_, _, _]) dX11_put_15 cm_X11_isIn wf_4 wf_6 rfl (Nat.le_of_ble_eq_true rfl) (Nat.le_of_ble_eq_true rfl) (Nat.le_of_ble_eq_true rfl) (Nat.le_of_ble_eq_true rfl) (isIn_s d a1 0 15) ?_
    rintro _ _ ⟨rfl, rfl⟩
    dsimp only [Option.toList, List.cons_append, List.nil_append]
    refine G_if_ne (pc := 18) (tgt := 23) (by decide) dX11_put_18 (fun c123 => ?_) (fun c123 => ?_)
    · have c123 := gB_o c123
      refine G_aload_n (pc := 23) rfl dX11_put_23 ?_
      refine G_iload_n (pc := 24) rfl dX11_put_24 ?_
      by_cases c124 : a0 = 0
      · subst c124
        refine G_iald (pc := 25) (jj := 0) (v := 5) (by decide) rfl rfl (by unfold vp_in; decide) dX11_put_25 ?_
        refine G_istore (pc := 26) (L1 := [some (.ref 20), some (.int 0), some (.int a1), some (.int 15), some (.int 5)]) rfl rfl (by decide) dX11_put_26 ?_
        refine G_aload_n (pc := 28) rfl dX11_put_28 ?_
        refine G_iload_n (pc := 29) rfl dX11_put_29 ?_
        refine G_iload_n (pc := 30) rfl dX11_put_30 ?_
        refine G_iast (pc := 31) (jj := 0) (by decide) rfl (by unfold vp_in; decide) dX11_put_31 ?_
        refine G_iload (pc := 32) rfl dX11_put_32 ?_
        exact G_iret (pc := 34) (Nat.le_of_ble_eq_true rfl) (Nat.le_of_ble_eq_true rfl) rfl dX11_put_34 (Or.inr (Or.inl ⟨c122, c123, rfl, rfl, rfl⟩))
      by_cases c125 : a0 = 1
      · subst c125
        refine G_iald (pc := 25) (jj := 1) (v := 5) (by decide) rfl rfl (by unfold vp_in; decide) dX11_put_25 ?_
        refine G_istore (pc := 26) (L1 := [some (.ref 20), some (.int 1), some (.int a1), some (.int 15), some (.int 5)]) rfl rfl (by decide) dX11_put_26 ?_
        refine G_aload_n (pc := 28) rfl dX11_put_28 ?_
        refine G_iload_n (pc := 29) rfl dX11_put_29 ?_
        refine G_iload_n (pc := 30) rfl dX11_put_30 ?_
        refine G_iast (pc := 31) (jj := 1) (by decide) rfl (by unfold vp_in; decide) dX11_put_31 ?_
        refine G_iload (pc := 32) rfl dX11_put_32 ?_
        exact G_iret (pc := 34) (Nat.le_of_ble_eq_true rfl) (Nat.le_of_ble_eq_true rfl) rfl dX11_put_34 (Or.inr (Or.inr (Or.inl ⟨c122, c123, c124, rfl, rfl, rfl⟩)))
      by_cases c126 : a0 = 2
      · subst c126
        refine G_iald (pc := 25) (jj := 2) (v := 5) (by decide) rfl rfl (by unfold vp_in; decide) dX11_put_25 ?_
        refine G_istore (pc := 26) (L1 := [some (.ref 20), some (.int 2), some (.int a1), some (.int 15), some (.int 5)]) rfl rfl (by decide) dX11_put_26 ?_
        refine G_aload_n (pc := 28) rfl dX11_put_28 ?_
        refine G_iload_n (pc := 29) rfl dX11_put_29 ?_
        refine G_iload_n (pc := 30) rfl dX11_put_30 ?_
        refine G_iast (pc := 31) (jj := 2) (by decide) rfl (by unfold vp_in; decide) dX11_put_31 ?_
        refine G_iload (pc := 32) rfl dX11_put_32 ?_
        exact G_iret (pc := 34) (Nat.le_of_ble_eq_true rfl) (Nat.le_of_ble_eq_true rfl) rfl dX11_put_34 (Or.inr (Or.inr (Or.inr (Or.inl ⟨c122, c123, c124, c125, rfl, rfl, rfl⟩))))
      by_cases c127 : a0 = 3
      · subst c127
        refine G_iald (pc := 25) (jj := 3) (v := 5) (by decide) rfl rfl (by unfold vp_in; decide) dX11_put_25 ?_
        refine G_istore (pc := 26) (L1 := [some (.ref 20), some (.int 3), some (.int a1), some (.int 15), some (.int 5)]) rfl rfl (by decide) dX11_put_26 ?_
        refine G_aload_n (pc := 28) rfl dX11_put_28 ?_
        refine G_iload_n (pc := 29) rfl dX11_put_29 ?_
        refine G_iload_n (pc := 30) rfl dX11_put_30 ?_
        refine G_iast (pc := 31) (jj := 3) (by decide) rfl (by unfold vp_in; decide) dX11_put_31 ?_
        refine G_iload (pc := 32) rfl dX11_put_32 ?_
        exact G_iret (pc := 34) (Nat.le_of_ble_eq_true rfl) (Nat.le_of_ble_eq_true rfl) rfl dX11_put_34 (Or.inr (Or.inr (Or.inr (Or.inr (Or.inl ⟨c122, c123, c124, c125, c126, rfl, rfl, rfl⟩)))))
      by_cases c128 : a0 = 4
      · subst c128
        refine G_iald (pc := 25) (jj := 4) (v := 5) (by decide) rfl rfl (by unfold vp_in; decide) dX11_put_25 ?_
        refine G_istore (pc := 26) (L1 := [some (.ref 20), some (.int 4), some (.int a1), some (.int 15), some (.int 5)]) rfl rfl (by decide) dX11_put_26 ?_
        refine G_aload_n (pc := 28) rfl dX11_put_28 ?_
        refine G_iload_n (pc := 29) rfl dX11_put_29 ?_
        refine G_iload_n (pc := 30) rfl dX11_put_30 ?_
        refine G_iast (pc := 31) (jj := 4) (by decide) rfl (by unfold vp_in; decide) dX11_put_31 ?_
        refine G_iload (pc := 32) rfl dX11_put_32 ?_
        exact G_iret (pc := 34) (Nat.le_of_ble_eq_true rfl) (Nat.le_of_ble_eq_true rfl) rfl dX11_put_34 (Or.inr (Or.inr (Or.inr (Or.inr (Or.inr (Or.inl ⟨c122, c123, c124, c125, c126, c127, rfl, rfl, rfl⟩))))))
      by_cases c129 : a0 = 5
      · subst c129
        refine G_iald (pc := 25) (jj := 5) (v := 5) (by decide) rfl rfl (by unfold vp_in; decide) dX11_put_25 ?_
        refine G_istore (pc := 26) (L1 := [some (.ref 20), some (.int 5), some (.int a1), some (.int 15), some (.int 5)]) rfl rfl (by decide) dX11_put_26 ?_
        refine G_aload_n (pc := 28) rfl dX11_put_28 ?_
        refine G_iload_n (pc := 29) rfl dX11_put_29 ?_
        refine G_iload_n (pc := 30) rfl dX11_put_30 ?_
        refine G_iast (pc := 31) (jj := 5) (by decide) rfl (by unfold vp_in; decide) dX11_put_31 ?_
        refine G_iload (pc := 32) rfl dX11_put_32 ?_
        exact G_iret (pc := 34) (Nat.le_of_ble_eq_true rfl) (Nat.le_of_ble_eq_true rfl) rfl dX11_put_34 (Or.inr (Or.inr (Or.inr (Or.inr (Or.inr (Or.inr (Or.inl ⟨c122, c123, c124, c125, c126, c127, c128, rfl, rfl, rfl⟩)))))))
      by_cases c130 : a0 = 6
      · subst c130
        refine G_iald (pc := 25) (jj := 6) (v := 5) (by decide) rfl rfl (by unfold vp_in; decide) dX11_put_25 ?_
        refine G_istore (pc := 26) (L1 := [some (.ref 20), some (.int 6), some (.int a1), some (.int 15), some (.int 5)]) rfl rfl (by decide) dX11_put_26 ?_
        refine G_aload_n (pc := 28) rfl dX11_put_28 ?_
        refine G_iload_n (pc := 29) rfl dX11_put_29 ?_
        refine G_iload_n (pc := 30) rfl dX11_put_30 ?_
        refine G_iast (pc := 31) (jj := 6) (by decide) rfl (by unfold vp_in; decide) dX11_put_31 ?_
        refine G_iload (pc := 32) rfl dX11_put_32 ?_
        exact G_iret (pc := 34) (Nat.le_of_ble_eq_true rfl) (Nat.le_of_ble_eq_true rfl) rfl dX11_put_34 (Or.inr (Or.inr (Or.inr (Or.inr (Or.inr (Or.inr (Or.inr (Or.inl ⟨c122, c123, c124, c125, c126, c127, c128, c129, rfl, rfl, rfl⟩))))))))
      by_cases c131 : a0 = 7
      · subst c131
        refine G_iald (pc := 25) (jj := 7) (v := 5) (by decide) rfl rfl (by unfold vp_in; decide) dX11_put_25 ?_
        refine G_istore (pc := 26) (L1 := [some (.ref 20), some (.int 7), some (.int a1), some (.int 15), some (.int 5)]) rfl rfl (by decide) dX11_put_26 ?_
        refine G_aload_n (pc := 28) rfl dX11_put_28 ?_
        refine G_iload_n (pc := 29) rfl dX11_put_29 ?_
        refine G_iload_n (pc := 30) rfl dX11_put_30 ?_
        refine G_iast (pc := 31) (jj := 7) (by decide) rfl (by unfold vp_in; decide) dX11_put_31 ?_
        refine G_iload (pc := 32) rfl dX11_put_32 ?_
        exact G_iret (pc := 34) (Nat.le_of_ble_eq_true rfl) (Nat.le_of_ble_eq_true rfl) rfl dX11_put_34 (Or.inr (Or.inr (Or.inr (Or.inr (Or.inr (Or.inr (Or.inr (Or.inr (Or.inl ⟨c122, c123, c124, c125, c126, c127, c128, c129, c130, rfl, rfl, rfl⟩)))))))))
      by_cases c132 : a0 = 8
      · subst c132
        refine G_iald (pc := 25) (jj := 8) (v := 5) (by decide) rfl rfl (by unfold vp_in; decide) dX11_put_25 ?_
        refine G_istore (pc := 26) (L1 := [some (.ref 20), some (.int 8), some (.int a1), some (.int 15), some (.int 5)]) rfl rfl (by decide) dX11_put_26 ?_
        refine G_aload_n (pc := 28) rfl dX11_put_28 ?_
        refine G_iload_n (pc := 29) rfl dX11_put_29 ?_
        refine G_iload_n (pc := 30) rfl dX11_put_30 ?_
        refine G_iast (pc := 31) (jj := 8) (by decide) rfl (by unfold vp_in; decide) dX11_put_31 ?_
        refine G_iload (pc := 32) rfl dX11_put_32 ?_
        exact G_iret (pc := 34) (Nat.le_of_ble_eq_true rfl) (Nat.le_of_ble_eq_true rfl) rfl dX11_put_34 (Or.inr (Or.inr (Or.inr (Or.inr (Or.inr (Or.inr (Or.inr (Or.inr (Or.inr (Or.inl ⟨c122, c123, c124, c125, c126, c127, c128, c129, c130, c131, rfl, rfl, rfl⟩))))))))))
      by_cases c133 : a0 = 9
      · subst c133
        refine G_iald (pc := 25) (jj := 9) (v := 5) (by decide) rfl rfl (by unfold vp_in; decide) dX11_put_25 ?_
        refine G_istore (pc := 26) (L1 := [some (.ref 20), some (.int 9), some (.int a1), some (.int 15), some (.int 5)]) rfl rfl (by decide) dX11_put_26 ?_
        refine G_aload_n (pc := 28) rfl dX11_put_28 ?_
        refine G_iload_n (pc := 29) rfl dX11_put_29 ?_
        refine G_iload_n (pc := 30) rfl dX11_put_30 ?_
        refine G_iast (pc := 31) (jj := 9) (by decide) rfl (by unfold vp_in; decide) dX11_put_31 ?_
        refine G_iload (pc := 32) rfl dX11_put_32 ?_
        exact G_iret (pc := 34) (Nat.le_of_ble_eq_true rfl) (Nat.le_of_ble_eq_true rfl) rfl dX11_put_34 (Or.inr (Or.inr (Or.inr (Or.inr (Or.inr (Or.inr (Or.inr (Or.inr (Or.inr (Or.inr (Or.inl ⟨c122, c123, c124, c125, c126, c127, c128, c129, c130, c131, c132, rfl, rfl, rfl⟩)))))))))))
      by_cases c134 : a0 = 10
      · subst c134
        refine G_iald (pc := 25) (jj := 10) (v := 5) (by decide) rfl rfl (by unfold vp_in; decide) dX11_put_25 ?_
        refine G_istore (pc := 26) (L1 := [some (.ref 20), some (.int 10), some (.int a1), some (.int 15), some (.int 5)]) rfl rfl (by decide) dX11_put_26 ?_
        refine G_aload_n (pc := 28) rfl dX11_put_28 ?_
        refine G_iload_n (pc := 29) rfl dX11_put_29 ?_
        refine G_iload_n (pc := 30) rfl dX11_put_30 ?_
        refine G_iast (pc := 31) (jj := 10) (by decide) rfl (by unfold vp_in; decide) dX11_put_31 ?_
        refine G_iload (pc := 32) rfl dX11_put_32 ?_
        exact G_iret (pc := 34) (Nat.le_of_ble_eq_true rfl) (Nat.le_of_ble_eq_true rfl) rfl dX11_put_34 (Or.inr (Or.inr (Or.inr (Or.inr (Or.inr (Or.inr (Or.inr (Or.inr (Or.inr (Or.inr (Or.inr (Or.inl ⟨c122, c123, c124, c125, c126, c127, c128, c129, c130, c131, c132, c133, rfl, rfl, rfl⟩))))))))))))
      by_cases c135 : a0 = 11
      · subst c135
        refine G_iald (pc := 25) (jj := 11) (v := 5) (by decide) rfl rfl (by unfold vp_in; decide) dX11_put_25 ?_
        refine G_istore (pc := 26) (L1 := [some (.ref 20), some (.int 11), some (.int a1), some (.int 15), some (.int 5)]) rfl rfl (by decide) dX11_put_26 ?_
        refine G_aload_n (pc := 28) rfl dX11_put_28 ?_
        refine G_iload_n (pc := 29) rfl dX11_put_29 ?_
        refine G_iload_n (pc := 30) rfl dX11_put_30 ?_
        refine G_iast (pc := 31) (jj := 11) (by decide) rfl (by unfold vp_in; decide) dX11_put_31 ?_
        refine G_iload (pc := 32) rfl dX11_put_32 ?_
        exact G_iret (pc := 34) (Nat.le_of_ble_eq_true rfl) (Nat.le_of_ble_eq_true rfl) rfl dX11_put_34 (Or.inr (Or.inr (Or.inr (Or.inr (Or.inr (Or.inr (Or.inr (Or.inr (Or.inr (Or.inr (Or.inr (Or.inr (Or.inl ⟨c122, c123, c124, c125, c126, c127, c128, c129, c130, c131, c132, c133, c134, rfl, rfl, rfl⟩)))))))))))))
      by_cases c136 : a0 = 12
      · subst c136
        refine G_iald (pc := 25) (jj := 12) (v := 5) (by decide) rfl rfl (by unfold vp_in; decide) dX11_put_25 ?_
        refine G_istore (pc := 26) (L1 := [some (.ref 20), some (.int 12), some (.int a1), some (.int 15), some (.int 5)]) rfl rfl (by decide) dX11_put_26 ?_
        refine G_aload_n (pc := 28) rfl dX11_put_28 ?_
        refine G_iload_n (pc := 29) rfl dX11_put_29 ?_
        refine G_iload_n (pc := 30) rfl dX11_put_30 ?_
        refine G_iast (pc := 31) (jj := 12) (by decide) rfl (by unfold vp_in; decide) dX11_put_31 ?_
        refine G_iload (pc := 32) rfl dX11_put_32 ?_
        exact G_iret (pc := 34) (Nat.le_of_ble_eq_true rfl) (Nat.le_of_ble_eq_true rfl) rfl dX11_put_34 (Or.inr (Or.inr (Or.inr (Or.inr (Or.inr (Or.inr (Or.inr (Or.inr (Or.inr (Or.inr (Or.inr (Or.inr (Or.inr (Or.inl ⟨c122, c123, c124, c125, c126, c127, c128, c129, c130, c131, c132, c133, c134, c135, rfl, rfl, rfl⟩))))))))))))))
      by_cases c137 : a0 = 13
      · subst c137
        refine G_iald (pc := 25) (jj := 13) (v := 5) (by decide) rfl rfl (by unfold vp_in; decide) dX11_put_25 ?_
        refine G_istore (pc := 26) (L1 := [some (.ref 20), some (.int 13), some (.int a1), some (.int 15), some (.int 5)]) rfl rfl (by decide) dX11_put_26 ?_
        refine G_aload_n (pc := 28) rfl dX11_put_28 ?_
        refine G_iload_n (pc := 29) rfl dX11_put_29 ?_
        refine G_iload_n (pc := 30) rfl dX11_put_30 ?_
        refine G_iast (pc := 31) (jj := 13) (by decide) rfl (by unfold vp_in; decide) dX11_put_31 ?_
        refine G_iload (pc := 32) rfl dX11_put_32 ?_
        exact G_iret (pc := 34) (Nat.le_of_ble_eq_true rfl) (Nat.le_of_ble_eq_true rfl) rfl dX11_put_34 (Or.inr (Or.inr (Or.inr (Or.inr (Or.inr (Or.inr (Or.inr (Or.inr (Or.inr (Or.inr (Or.inr (Or.inr (Or.inr (Or.inr (Or.inl ⟨c122, c123, c124, c125, c126, c127, c128, c129, c130, c131, c132, c133, c134, c135, c136, rfl, rfl, rfl⟩)))))))))))))))
      by_cases c138 : a0 = 14
      · subst c138
        refine G_iald (pc := 25) (jj := 14) (v := 5) (by decide) rfl rfl (by unfold vp_in; decide) dX11_put_25 ?_
        refine G_istore (pc := 26) (L1 := [some (.ref 20), some (.int 14), some (.int a1), some (.int 15), some (.int 5)]) rfl rfl (by decide) dX11_put_26 ?_
        refine G_aload_n (pc := 28) rfl dX11_put_28 ?_
        refine G_iload_n (pc := 29) rfl dX11_put_29 ?_
        refine G_iload_n (pc := 30) rfl dX11_put_30 ?_
        refine G_iast (pc := 31) (jj := 14) (by decide) rfl (by unfold vp_in; decide) dX11_put_31 ?_
        refine G_iload (pc := 32) rfl dX11_put_32 ?_
        exact G_iret (pc := 34) (Nat.le_of_ble_eq_true rfl) (Nat.le_of_ble_eq_true rfl) rfl dX11_put_34 (Or.inr (Or.inr (Or.inr (Or.inr (Or.inr (Or.inr (Or.inr (Or.inr (Or.inr (Or.inr (Or.inr (Or.inr (Or.inr (Or.inr (Or.inr (Or.inl ⟨c122, c123, c124, c125, c126, c127, c128, c129, c130, c131, c132, c133, c134, c135, c136, c137, rfl, rfl, rfl⟩))))))))))))))))
      by_cases c139 : a0 = 15
      · subst c139
        refine G_iald (pc := 25) (jj := 15) (v := 5) (by decide) rfl rfl (by unfold vp_in; decide) dX11_put_25 ?_
        refine G_istore (pc := 26) (L1 := [some (.ref 20), some (.int 15), some (.int a1), some (.int 15), some (.int 5)]) rfl rfl (by decide) dX11_put_26 ?_
        refine G_aload_n (pc := 28) rfl dX11_put_28 ?_
        refine G_iload_n (pc := 29) rfl dX11_put_29 ?_
        refine G_iload_n (pc := 30) rfl dX11_put_30 ?_
        refine G_iast (pc := 31) (jj := 15) (by decide) rfl (by unfold vp_in; decide) dX11_put_31 ?_
        refine G_iload (pc := 32) rfl dX11_put_32 ?_
        exact G_iret (pc := 34) (Nat.le_of_ble_eq_true rfl) (Nat.le_of_ble_eq_true rfl) rfl dX11_put_34 (Or.inr (Or.inr (Or.inr (Or.inr (Or.inr (Or.inr (Or.inr (Or.inr (Or.inr (Or.inr (Or.inr (Or.inr (Or.inr (Or.inr (Or.inr (Or.inr (Or.inl ⟨c122, c123, c124, c125, c126, c127, c128, c129, c130, c131, c132, c133, c134, c135, c136, c137, c138, rfl, rfl, rfl⟩)))))))))))))))))
      exfalso
      have : 0 ≤ (a0).toInt := Int32.le_iff_toInt_le.mp (c122.1)
      have : (a0).toInt ≤ 15 := Int32.le_iff_toInt_le.mp (c122.2)
      have : (a0).toInt ≠ 0 := g_ne (c124)
      have : (a0).toInt ≠ 1 := g_ne (c125)
      have : (a0).toInt ≠ 2 := g_ne (c126)
      have : (a0).toInt ≠ 3 := g_ne (c127)
      have : (a0).toInt ≠ 4 := g_ne (c128)
      have : (a0).toInt ≠ 5 := g_ne (c129)
      have : (a0).toInt ≠ 6 := g_ne (c130)
      have : (a0).toInt ≠ 7 := g_ne (c131)
      have : (a0).toInt ≠ 8 := g_ne (c132)
      have : (a0).toInt ≠ 9 := g_ne (c133)
      have : (a0).toInt ≠ 10 := g_ne (c134)
      have : (a0).toInt ≠ 11 := g_ne (c135)
      have : (a0).toInt ≠ 12 := g_ne (c136)
      have : (a0).toInt ≠ 13 := g_ne (c137)
      have : (a0).toInt ≠ 14 := g_ne (c138)
      have : (a0).toInt ≠ 15 := g_ne (c139)
      omega
    · have c123 := gB_z c123
      refine G_iconst (pc := 21) (v := (-1)) (by decide) dX11_put_21 ?_
      exact G_iret (pc := 22) (Nat.le_of_ble_eq_true rfl) (Nat.le_of_ble_eq_true rfl) rfl dX11_put_22 (Or.inr (Or.inr (Or.inr (Or.inr (Or.inr (Or.inr (Or.inr (Or.inr (Or.inr (Or.inr (Or.inr (Or.inr (Or.inr (Or.inr (Or.inr (Or.inr (Or.inr ⟨c122, c123, rfl, rfl⟩)))))))))))))))))
def F_sun (halt : Int32) (v : Int32) : Int32 := if (0 ≤ halt ∧ halt ≤ 15) ∧ (0 ≤ v ∧ v ≤ 15) then 5 else -1
set_option maxRecDepth 100000 in
set_option maxHeartbeats 4000000 in
theorem x_sun (d : Nat) (halt : Int32) (v : Int32) : G (d + 2) mX11_sun 0 0 0 0 0 (gent 3 [.ref 0, .int halt, .int v]) [] SH0 RF0 I0 (fun r h => ∃ I1, r = some (.int (F_sun halt v)) ∧ h = (SH0, RF0, I1) ∧ ∀ a, 67 ≤ a → I1 a = I0 a) := by
  refine G_aload_n (pc := 0) rfl dX11_sun_0 ?_
  refine G_getR (pc := 1) (r := 19) (ci := 11) (j := 0) rfl lk_RX11_56 rfl rfl rfl dX11_sun_1 ?_
  refine G_getR (pc := 4) (r := 20) (ci := 1) (j := 5) rfl lk_RX11_147 rfl rfl rfl dX11_sun_4 ?_
  refine G_iload_n (pc := 7) rfl dX11_sun_7 ?_
  refine G_iload_n (pc := 8) rfl dX11_sun_8 ?_
  refine G_bipush (pc := 9) (v := 15) (by decide) dX11_sun_9 ?_
  refine G_callS (pc := 11) (mc1 := 0) (ms1 := 0) (mj := mX11_put) (vs := [_, _, _, _]) dX11_sun_11 cm_X11_put wf_115 wf_117 rfl (Nat.le_of_ble_eq_true rfl) (Nat.le_of_ble_eq_true rfl) (Nat.le_of_ble_eq_true rfl) (Nat.le_of_ble_eq_true rfl) (s47_X11_put  d _ _) ?_
  rintro _ _ (⟨c140, rfl, rfl⟩ | ⟨c141, c142, c143, rfl, rfl⟩ | ⟨c144, c145, c146, c147, rfl, rfl⟩ | ⟨c148, c149, c150, c151, c152, rfl, rfl⟩ | ⟨c153, c154, c155, c156, c157, c158, rfl, rfl⟩ | ⟨c159, c160, c161, c162, c163, c164, c165, rfl, rfl⟩ | ⟨c166, c167, c168, c169, c170, c171, c172, c173, rfl, rfl⟩ | ⟨c174, c175, c176, c177, c178, c179, c180, c181, c182, rfl, rfl⟩ | ⟨c183, c184, c185, c186, c187, c188, c189, c190, c191, c192, rfl, rfl⟩ | ⟨c193, c194, c195, c196, c197, c198, c199, c200, c201, c202, c203, rfl, rfl⟩ | ⟨c204, c205, c206, c207, c208, c209, c210, c211, c212, c213, c214, c215, rfl, rfl⟩ | ⟨c216, c217, c218, c219, c220, c221, c222, c223, c224, c225, c226, c227, c228, rfl, rfl⟩ | ⟨c229, c230, c231, c232, c233, c234, c235, c236, c237, c238, c239, c240, c241, c242, rfl, rfl⟩ | ⟨c243, c244, c245, c246, c247, c248, c249, c250, c251, c252, c253, c254, c255, c256, c257, rfl, rfl⟩ | ⟨c258, c259, c260, c261, c262, c263, c264, c265, c266, c267, c268, c269, c270, c271, c272, c273, rfl, rfl⟩ | ⟨c274, c275, c276, c277, c278, c279, c280, c281, c282, c283, c284, c285, c286, c287, c288, c289, c290, rfl, rfl⟩ | ⟨c291, c292, c293, c294, c295, c296, c297, c298, c299, c300, c301, c302, c303, c304, c305, c306, c307, c308, rfl, rfl⟩ | ⟨c309, c310, rfl, rfl⟩)
  · dsimp only [Option.toList, List.cons_append, List.nil_append]
    exact G_iret (pc := 14) (Nat.le_of_ble_eq_true rfl) (Nat.le_of_ble_eq_true rfl) rfl dX11_sun_14 ⟨_, by first | rfl | (simp [F_sun, *]; done) | (have : ¬ (0 ≤ (halt).toInt ∧ (halt).toInt ≤ 15) := fun z => c140 ⟨Int32.le_iff_toInt_le.mpr z.1, Int32.le_iff_toInt_le.mpr z.2⟩; simp only [F_sun, Int32.le_iff_toInt_le, Int32.lt_iff_toInt_lt, ← Int32.toInt_inj]; simp; omega) | (have : ¬ (0 ≤ (halt).toInt ∧ (halt).toInt ≤ 15) := fun z => c140 ⟨Int32.le_iff_toInt_le.mpr z.1, Int32.le_iff_toInt_le.mpr z.2⟩; simp only [F_sun, Int32.le_iff_toInt_le, Int32.lt_iff_toInt_lt, ← Int32.toInt_inj]; split <;> first | rfl | (exfalso; simp at *; omega)) | (have : ¬ (0 ≤ (halt).toInt ∧ (halt).toInt ≤ 15) := fun z => c140 ⟨Int32.le_iff_toInt_le.mpr z.1, Int32.le_iff_toInt_le.mpr z.2⟩; unfold F_sun; (repeat' split) <;> first | rfl | (exfalso; (try simp only [Int32.le_iff_toInt_le, Int32.lt_iff_toInt_lt, ← Int32.toInt_inj] at *); first | omega | (simp at *; done) | (simp at *; omega))), rfl, fun _ _ => rfl⟩
  · subst c143
    dsimp only [Option.toList, List.cons_append, List.nil_append]
    exact G_iret (pc := 14) (Nat.le_of_ble_eq_true rfl) (Nat.le_of_ble_eq_true rfl) rfl dX11_sun_14 ⟨_, by first | rfl | (simp [F_sun, *]; done) | (have : 0 ≤ (v).toInt := Int32.le_iff_toInt_le.mp (c142.1); have : (v).toInt ≤ 15 := Int32.le_iff_toInt_le.mp (c142.2); simp only [F_sun, Int32.le_iff_toInt_le, Int32.lt_iff_toInt_lt, ← Int32.toInt_inj]; simp; omega) | (have : 0 ≤ (v).toInt := Int32.le_iff_toInt_le.mp (c142.1); have : (v).toInt ≤ 15 := Int32.le_iff_toInt_le.mp (c142.2); simp only [F_sun, Int32.le_iff_toInt_le, Int32.lt_iff_toInt_lt, ← Int32.toInt_inj]; split <;> first | rfl | (exfalso; simp at *; omega)) | (have : 0 ≤ (v).toInt := Int32.le_iff_toInt_le.mp (c142.1); have : (v).toInt ≤ 15 := Int32.le_iff_toInt_le.mp (c142.2); unfold F_sun; (repeat' split) <;> first | rfl | (exfalso; (try simp only [Int32.le_iff_toInt_le, Int32.lt_iff_toInt_lt, ← Int32.toInt_inj] at *); first | omega | (simp at *; done) | (simp at *; omega))), rfl, fun a ha => by funext j; simp (disch := omega) only [gup_off, gcp_off]⟩
  · subst c147
    dsimp only [Option.toList, List.cons_append, List.nil_append]
    exact G_iret (pc := 14) (Nat.le_of_ble_eq_true rfl) (Nat.le_of_ble_eq_true rfl) rfl dX11_sun_14 ⟨_, by first | rfl | (simp [F_sun, *]; done) | (have : 0 ≤ (v).toInt := Int32.le_iff_toInt_le.mp (c145.1); have : (v).toInt ≤ 15 := Int32.le_iff_toInt_le.mp (c145.2); simp only [F_sun, Int32.le_iff_toInt_le, Int32.lt_iff_toInt_lt, ← Int32.toInt_inj]; simp; omega) | (have : 0 ≤ (v).toInt := Int32.le_iff_toInt_le.mp (c145.1); have : (v).toInt ≤ 15 := Int32.le_iff_toInt_le.mp (c145.2); simp only [F_sun, Int32.le_iff_toInt_le, Int32.lt_iff_toInt_lt, ← Int32.toInt_inj]; split <;> first | rfl | (exfalso; simp at *; omega)) | (have : 0 ≤ (v).toInt := Int32.le_iff_toInt_le.mp (c145.1); have : (v).toInt ≤ 15 := Int32.le_iff_toInt_le.mp (c145.2); unfold F_sun; (repeat' split) <;> first | rfl | (exfalso; (try simp only [Int32.le_iff_toInt_le, Int32.lt_iff_toInt_lt, ← Int32.toInt_inj] at *); first | omega | (simp at *; done) | (simp at *; omega))), rfl, fun a ha => by funext j; simp (disch := omega) only [gup_off, gcp_off]⟩
  · subst c152
    dsimp only [Option.toList, List.cons_append, List.nil_append]
    exact G_iret (pc := 14) (Nat.le_of_ble_eq_true rfl) (Nat.le_of_ble_eq_true rfl) rfl dX11_sun_14 ⟨_, by first | rfl | (simp [F_sun, *]; done) | (have : 0 ≤ (v).toInt := Int32.le_iff_toInt_le.mp (c149.1); have : (v).toInt ≤ 15 := Int32.le_iff_toInt_le.mp (c149.2); simp only [F_sun, Int32.le_iff_toInt_le, Int32.lt_iff_toInt_lt, ← Int32.toInt_inj]; simp; omega) | (have : 0 ≤ (v).toInt := Int32.le_iff_toInt_le.mp (c149.1); have : (v).toInt ≤ 15 := Int32.le_iff_toInt_le.mp (c149.2); simp only [F_sun, Int32.le_iff_toInt_le, Int32.lt_iff_toInt_lt, ← Int32.toInt_inj]; split <;> first | rfl | (exfalso; simp at *; omega)) | (have : 0 ≤ (v).toInt := Int32.le_iff_toInt_le.mp (c149.1); have : (v).toInt ≤ 15 := Int32.le_iff_toInt_le.mp (c149.2); unfold F_sun; (repeat' split) <;> first | rfl | (exfalso; (try simp only [Int32.le_iff_toInt_le, Int32.lt_iff_toInt_lt, ← Int32.toInt_inj] at *); first | omega | (simp at *; done) | (simp at *; omega))), rfl, fun a ha => by funext j; simp (disch := omega) only [gup_off, gcp_off]⟩
  · subst c158
    dsimp only [Option.toList, List.cons_append, List.nil_append]
    exact G_iret (pc := 14) (Nat.le_of_ble_eq_true rfl) (Nat.le_of_ble_eq_true rfl) rfl dX11_sun_14 ⟨_, by first | rfl | (simp [F_sun, *]; done) | (have : 0 ≤ (v).toInt := Int32.le_iff_toInt_le.mp (c154.1); have : (v).toInt ≤ 15 := Int32.le_iff_toInt_le.mp (c154.2); simp only [F_sun, Int32.le_iff_toInt_le, Int32.lt_iff_toInt_lt, ← Int32.toInt_inj]; simp; omega) | (have : 0 ≤ (v).toInt := Int32.le_iff_toInt_le.mp (c154.1); have : (v).toInt ≤ 15 := Int32.le_iff_toInt_le.mp (c154.2); simp only [F_sun, Int32.le_iff_toInt_le, Int32.lt_iff_toInt_lt, ← Int32.toInt_inj]; split <;> first | rfl | (exfalso; simp at *; omega)) | (have : 0 ≤ (v).toInt := Int32.le_iff_toInt_le.mp (c154.1); have : (v).toInt ≤ 15 := Int32.le_iff_toInt_le.mp (c154.2); unfold F_sun; (repeat' split) <;> first | rfl | (exfalso; (try simp only [Int32.le_iff_toInt_le, Int32.lt_iff_toInt_lt, ← Int32.toInt_inj] at *); first | omega | (simp at *; done) | (simp at *; omega))), rfl, fun a ha => by funext j; simp (disch := omega) only [gup_off, gcp_off]⟩
  · subst c165
    dsimp only [Option.toList, List.cons_append, List.nil_append]
    exact G_iret (pc := 14) (Nat.le_of_ble_eq_true rfl) (Nat.le_of_ble_eq_true rfl) rfl dX11_sun_14 ⟨_, by first | rfl | (simp [F_sun, *]; done) | (have : 0 ≤ (v).toInt := Int32.le_iff_toInt_le.mp (c160.1); have : (v).toInt ≤ 15 := Int32.le_iff_toInt_le.mp (c160.2); simp only [F_sun, Int32.le_iff_toInt_le, Int32.lt_iff_toInt_lt, ← Int32.toInt_inj]; simp; omega) | (have : 0 ≤ (v).toInt := Int32.le_iff_toInt_le.mp (c160.1); have : (v).toInt ≤ 15 := Int32.le_iff_toInt_le.mp (c160.2); simp only [F_sun, Int32.le_iff_toInt_le, Int32.lt_iff_toInt_lt, ← Int32.toInt_inj]; split <;> first | rfl | (exfalso; simp at *; omega)) | (have : 0 ≤ (v).toInt := Int32.le_iff_toInt_le.mp (c160.1); have : (v).toInt ≤ 15 := Int32.le_iff_toInt_le.mp (c160.2); unfold F_sun; (repeat' split) <;> first | rfl | (exfalso; (try simp only [Int32.le_iff_toInt_le, Int32.lt_iff_toInt_lt, ← Int32.toInt_inj] at *); first | omega | (simp at *; done) | (simp at *; omega))), rfl, fun a ha => by funext j; simp (disch := omega) only [gup_off, gcp_off]⟩
  · subst c173
    dsimp only [Option.toList, List.cons_append, List.nil_append]
    exact G_iret (pc := 14) (Nat.le_of_ble_eq_true rfl) (Nat.le_of_ble_eq_true rfl) rfl dX11_sun_14 ⟨_, by first | rfl | (simp [F_sun, *]; done) | (have : 0 ≤ (v).toInt := Int32.le_iff_toInt_le.mp (c167.1); have : (v).toInt ≤ 15 := Int32.le_iff_toInt_le.mp (c167.2); simp only [F_sun, Int32.le_iff_toInt_le, Int32.lt_iff_toInt_lt, ← Int32.toInt_inj]; simp; omega) | (have : 0 ≤ (v).toInt := Int32.le_iff_toInt_le.mp (c167.1); have : (v).toInt ≤ 15 := Int32.le_iff_toInt_le.mp (c167.2); simp only [F_sun, Int32.le_iff_toInt_le, Int32.lt_iff_toInt_lt, ← Int32.toInt_inj]; split <;> first | rfl | (exfalso; simp at *; omega)) | (have : 0 ≤ (v).toInt := Int32.le_iff_toInt_le.mp (c167.1); have : (v).toInt ≤ 15 := Int32.le_iff_toInt_le.mp (c167.2); unfold F_sun; (repeat' split) <;> first | rfl | (exfalso; (try simp only [Int32.le_iff_toInt_le, Int32.lt_iff_toInt_lt, ← Int32.toInt_inj] at *); first | omega | (simp at *; done) | (simp at *; omega))), rfl, fun a ha => by funext j; simp (disch := omega) only [gup_off, gcp_off]⟩
  · subst c182
    dsimp only [Option.toList, List.cons_append, List.nil_append]
    exact G_iret (pc := 14) (Nat.le_of_ble_eq_true rfl) (Nat.le_of_ble_eq_true rfl) rfl dX11_sun_14 ⟨_, by first | rfl | (simp [F_sun, *]; done) | (have : 0 ≤ (v).toInt := Int32.le_iff_toInt_le.mp (c175.1); have : (v).toInt ≤ 15 := Int32.le_iff_toInt_le.mp (c175.2); simp only [F_sun, Int32.le_iff_toInt_le, Int32.lt_iff_toInt_lt, ← Int32.toInt_inj]; simp; omega) | (have : 0 ≤ (v).toInt := Int32.le_iff_toInt_le.mp (c175.1); have : (v).toInt ≤ 15 := Int32.le_iff_toInt_le.mp (c175.2); simp only [F_sun, Int32.le_iff_toInt_le, Int32.lt_iff_toInt_lt, ← Int32.toInt_inj]; split <;> first | rfl | (exfalso; simp at *; omega)) | (have : 0 ≤ (v).toInt := Int32.le_iff_toInt_le.mp (c175.1); have : (v).toInt ≤ 15 := Int32.le_iff_toInt_le.mp (c175.2); unfold F_sun; (repeat' split) <;> first | rfl | (exfalso; (try simp only [Int32.le_iff_toInt_le, Int32.lt_iff_toInt_lt, ← Int32.toInt_inj] at *); first | omega | (simp at *; done) | (simp at *; omega))), rfl, fun a ha => by funext j; simp (disch := omega) only [gup_off, gcp_off]⟩
  · subst c192
    dsimp only [Option.toList, List.cons_append, List.nil_append]
    exact G_iret (pc := 14) (Nat.le_of_ble_eq_true rfl) (Nat.le_of_ble_eq_true rfl) rfl dX11_sun_14 ⟨_, by first | rfl | (simp [F_sun, *]; done) | (have : 0 ≤ (v).toInt := Int32.le_iff_toInt_le.mp (c184.1); have : (v).toInt ≤ 15 := Int32.le_iff_toInt_le.mp (c184.2); simp only [F_sun, Int32.le_iff_toInt_le, Int32.lt_iff_toInt_lt, ← Int32.toInt_inj]; simp; omega) | (have : 0 ≤ (v).toInt := Int32.le_iff_toInt_le.mp (c184.1); have : (v).toInt ≤ 15 := Int32.le_iff_toInt_le.mp (c184.2); simp only [F_sun, Int32.le_iff_toInt_le, Int32.lt_iff_toInt_lt, ← Int32.toInt_inj]; split <;> first | rfl | (exfalso; simp at *; omega)) | (have : 0 ≤ (v).toInt := Int32.le_iff_toInt_le.mp (c184.1); have : (v).toInt ≤ 15 := Int32.le_iff_toInt_le.mp (c184.2); unfold F_sun; (repeat' split) <;> first | rfl | (exfalso; (try simp only [Int32.le_iff_toInt_le, Int32.lt_iff_toInt_lt, ← Int32.toInt_inj] at *); first | omega | (simp at *; done) | (simp at *; omega))), rfl, fun a ha => by funext j; simp (disch := omega) only [gup_off, gcp_off]⟩
  · subst c203
    dsimp only [Option.toList, List.cons_append, List.nil_append]
    exact G_iret (pc := 14) (Nat.le_of_ble_eq_true rfl) (Nat.le_of_ble_eq_true rfl) rfl dX11_sun_14 ⟨_, by first | rfl | (simp [F_sun, *]; done) | (have : 0 ≤ (v).toInt := Int32.le_iff_toInt_le.mp (c194.1); have : (v).toInt ≤ 15 := Int32.le_iff_toInt_le.mp (c194.2); simp only [F_sun, Int32.le_iff_toInt_le, Int32.lt_iff_toInt_lt, ← Int32.toInt_inj]; simp; omega) | (have : 0 ≤ (v).toInt := Int32.le_iff_toInt_le.mp (c194.1); have : (v).toInt ≤ 15 := Int32.le_iff_toInt_le.mp (c194.2); simp only [F_sun, Int32.le_iff_toInt_le, Int32.lt_iff_toInt_lt, ← Int32.toInt_inj]; split <;> first | rfl | (exfalso; simp at *; omega)) | (have : 0 ≤ (v).toInt := Int32.le_iff_toInt_le.mp (c194.1); have : (v).toInt ≤ 15 := Int32.le_iff_toInt_le.mp (c194.2); unfold F_sun; (repeat' split) <;> first | rfl | (exfalso; (try simp only [Int32.le_iff_toInt_le, Int32.lt_iff_toInt_lt, ← Int32.toInt_inj] at *); first | omega | (simp at *; done) | (simp at *; omega))), rfl, fun a ha => by funext j; simp (disch := omega) only [gup_off, gcp_off]⟩
  · subst c215
    dsimp only [Option.toList, List.cons_append, List.nil_append]
    exact G_iret (pc := 14) (Nat.le_of_ble_eq_true rfl) (Nat.le_of_ble_eq_true rfl) rfl dX11_sun_14 ⟨_, by first | rfl | (simp [F_sun, *]; done) | (have : 0 ≤ (v).toInt := Int32.le_iff_toInt_le.mp (c205.1); have : (v).toInt ≤ 15 := Int32.le_iff_toInt_le.mp (c205.2); simp only [F_sun, Int32.le_iff_toInt_le, Int32.lt_iff_toInt_lt, ← Int32.toInt_inj]; simp; omega) | (have : 0 ≤ (v).toInt := Int32.le_iff_toInt_le.mp (c205.1); have : (v).toInt ≤ 15 := Int32.le_iff_toInt_le.mp (c205.2); simp only [F_sun, Int32.le_iff_toInt_le, Int32.lt_iff_toInt_lt, ← Int32.toInt_inj]; split <;> first | rfl | (exfalso; simp at *; omega)) | (have : 0 ≤ (v).toInt := Int32.le_iff_toInt_le.mp (c205.1); have : (v).toInt ≤ 15 := Int32.le_iff_toInt_le.mp (c205.2); unfold F_sun; (repeat' split) <;> first | rfl | (exfalso; (try simp only [Int32.le_iff_toInt_le, Int32.lt_iff_toInt_lt, ← Int32.toInt_inj] at *); first | omega | (simp at *; done) | (simp at *; omega))), rfl, fun a ha => by funext j; simp (disch := omega) only [gup_off, gcp_off]⟩
  · subst c228
    dsimp only [Option.toList, List.cons_append, List.nil_append]
    exact G_iret (pc := 14) (Nat.le_of_ble_eq_true rfl) (Nat.le_of_ble_eq_true rfl) rfl dX11_sun_14 ⟨_, by first | rfl | (simp [F_sun, *]; done) | (have : 0 ≤ (v).toInt := Int32.le_iff_toInt_le.mp (c217.1); have : (v).toInt ≤ 15 := Int32.le_iff_toInt_le.mp (c217.2); simp only [F_sun, Int32.le_iff_toInt_le, Int32.lt_iff_toInt_lt, ← Int32.toInt_inj]; simp; omega) | (have : 0 ≤ (v).toInt := Int32.le_iff_toInt_le.mp (c217.1); have : (v).toInt ≤ 15 := Int32.le_iff_toInt_le.mp (c217.2); simp only [F_sun, Int32.le_iff_toInt_le, Int32.lt_iff_toInt_lt, ← Int32.toInt_inj]; split <;> first | rfl | (exfalso; simp at *; omega)) | (have : 0 ≤ (v).toInt := Int32.le_iff_toInt_le.mp (c217.1); have : (v).toInt ≤ 15 := Int32.le_iff_toInt_le.mp (c217.2); unfold F_sun; (repeat' split) <;> first | rfl | (exfalso; (try simp only [Int32.le_iff_toInt_le, Int32.lt_iff_toInt_lt, ← Int32.toInt_inj] at *); first | omega | (simp at *; done) | (simp at *; omega))), rfl, fun a ha => by funext j; simp (disch := omega) only [gup_off, gcp_off]⟩
  · subst c242
    dsimp only [Option.toList, List.cons_append, List.nil_append]
    exact G_iret (pc := 14) (Nat.le_of_ble_eq_true rfl) (Nat.le_of_ble_eq_true rfl) rfl dX11_sun_14 ⟨_, by first | rfl | (simp [F_sun, *]; done) | (have : 0 ≤ (v).toInt := Int32.le_iff_toInt_le.mp (c230.1); have : (v).toInt ≤ 15 := Int32.le_iff_toInt_le.mp (c230.2); simp only [F_sun, Int32.le_iff_toInt_le, Int32.lt_iff_toInt_lt, ← Int32.toInt_inj]; simp; omega) | (have : 0 ≤ (v).toInt := Int32.le_iff_toInt_le.mp (c230.1); have : (v).toInt ≤ 15 := Int32.le_iff_toInt_le.mp (c230.2); simp only [F_sun, Int32.le_iff_toInt_le, Int32.lt_iff_toInt_lt, ← Int32.toInt_inj]; split <;> first | rfl | (exfalso; simp at *; omega)) | (have : 0 ≤ (v).toInt := Int32.le_iff_toInt_le.mp (c230.1); have : (v).toInt ≤ 15 := Int32.le_iff_toInt_le.mp (c230.2); unfold F_sun; (repeat' split) <;> first | rfl | (exfalso; (try simp only [Int32.le_iff_toInt_le, Int32.lt_iff_toInt_lt, ← Int32.toInt_inj] at *); first | omega | (simp at *; done) | (simp at *; omega))), rfl, fun a ha => by funext j; simp (disch := omega) only [gup_off, gcp_off]⟩
  · subst c257
    dsimp only [Option.toList, List.cons_append, List.nil_append]
    exact G_iret (pc := 14) (Nat.le_of_ble_eq_true rfl) (Nat.le_of_ble_eq_true rfl) rfl dX11_sun_14 ⟨_, by first | rfl | (simp [F_sun, *]; done) | (have : 0 ≤ (v).toInt := Int32.le_iff_toInt_le.mp (c244.1); have : (v).toInt ≤ 15 := Int32.le_iff_toInt_le.mp (c244.2); simp only [F_sun, Int32.le_iff_toInt_le, Int32.lt_iff_toInt_lt, ← Int32.toInt_inj]; simp; omega) | (have : 0 ≤ (v).toInt := Int32.le_iff_toInt_le.mp (c244.1); have : (v).toInt ≤ 15 := Int32.le_iff_toInt_le.mp (c244.2); simp only [F_sun, Int32.le_iff_toInt_le, Int32.lt_iff_toInt_lt, ← Int32.toInt_inj]; split <;> first | rfl | (exfalso; simp at *; omega)) | (have : 0 ≤ (v).toInt := Int32.le_iff_toInt_le.mp (c244.1); have : (v).toInt ≤ 15 := Int32.le_iff_toInt_le.mp (c244.2); unfold F_sun; (repeat' split) <;> first | rfl | (exfalso; (try simp only [Int32.le_iff_toInt_le, Int32.lt_iff_toInt_lt, ← Int32.toInt_inj] at *); first | omega | (simp at *; done) | (simp at *; omega))), rfl, fun a ha => by funext j; simp (disch := omega) only [gup_off, gcp_off]⟩
  · subst c273
    dsimp only [Option.toList, List.cons_append, List.nil_append]
    exact G_iret (pc := 14) (Nat.le_of_ble_eq_true rfl) (Nat.le_of_ble_eq_true rfl) rfl dX11_sun_14 ⟨_, by first | rfl | (simp [F_sun, *]; done) | (have : 0 ≤ (v).toInt := Int32.le_iff_toInt_le.mp (c259.1); have : (v).toInt ≤ 15 := Int32.le_iff_toInt_le.mp (c259.2); simp only [F_sun, Int32.le_iff_toInt_le, Int32.lt_iff_toInt_lt, ← Int32.toInt_inj]; simp; omega) | (have : 0 ≤ (v).toInt := Int32.le_iff_toInt_le.mp (c259.1); have : (v).toInt ≤ 15 := Int32.le_iff_toInt_le.mp (c259.2); simp only [F_sun, Int32.le_iff_toInt_le, Int32.lt_iff_toInt_lt, ← Int32.toInt_inj]; split <;> first | rfl | (exfalso; simp at *; omega)) | (have : 0 ≤ (v).toInt := Int32.le_iff_toInt_le.mp (c259.1); have : (v).toInt ≤ 15 := Int32.le_iff_toInt_le.mp (c259.2); unfold F_sun; (repeat' split) <;> first | rfl | (exfalso; (try simp only [Int32.le_iff_toInt_le, Int32.lt_iff_toInt_lt, ← Int32.toInt_inj] at *); first | omega | (simp at *; done) | (simp at *; omega))), rfl, fun a ha => by funext j; simp (disch := omega) only [gup_off, gcp_off]⟩
  · subst c290
    dsimp only [Option.toList, List.cons_append, List.nil_append]
    exact G_iret (pc := 14) (Nat.le_of_ble_eq_true rfl) (Nat.le_of_ble_eq_true rfl) rfl dX11_sun_14 ⟨_, by first | rfl | (simp [F_sun, *]; done) | (have : 0 ≤ (v).toInt := Int32.le_iff_toInt_le.mp (c275.1); have : (v).toInt ≤ 15 := Int32.le_iff_toInt_le.mp (c275.2); simp only [F_sun, Int32.le_iff_toInt_le, Int32.lt_iff_toInt_lt, ← Int32.toInt_inj]; simp; omega) | (have : 0 ≤ (v).toInt := Int32.le_iff_toInt_le.mp (c275.1); have : (v).toInt ≤ 15 := Int32.le_iff_toInt_le.mp (c275.2); simp only [F_sun, Int32.le_iff_toInt_le, Int32.lt_iff_toInt_lt, ← Int32.toInt_inj]; split <;> first | rfl | (exfalso; simp at *; omega)) | (have : 0 ≤ (v).toInt := Int32.le_iff_toInt_le.mp (c275.1); have : (v).toInt ≤ 15 := Int32.le_iff_toInt_le.mp (c275.2); unfold F_sun; (repeat' split) <;> first | rfl | (exfalso; (try simp only [Int32.le_iff_toInt_le, Int32.lt_iff_toInt_lt, ← Int32.toInt_inj] at *); first | omega | (simp at *; done) | (simp at *; omega))), rfl, fun a ha => by funext j; simp (disch := omega) only [gup_off, gcp_off]⟩
  · subst c308
    dsimp only [Option.toList, List.cons_append, List.nil_append]
    exact G_iret (pc := 14) (Nat.le_of_ble_eq_true rfl) (Nat.le_of_ble_eq_true rfl) rfl dX11_sun_14 ⟨_, by first | rfl | (simp [F_sun, *]; done) | (have : 0 ≤ (v).toInt := Int32.le_iff_toInt_le.mp (c292.1); have : (v).toInt ≤ 15 := Int32.le_iff_toInt_le.mp (c292.2); simp only [F_sun, Int32.le_iff_toInt_le, Int32.lt_iff_toInt_lt, ← Int32.toInt_inj]; simp; omega) | (have : 0 ≤ (v).toInt := Int32.le_iff_toInt_le.mp (c292.1); have : (v).toInt ≤ 15 := Int32.le_iff_toInt_le.mp (c292.2); simp only [F_sun, Int32.le_iff_toInt_le, Int32.lt_iff_toInt_lt, ← Int32.toInt_inj]; split <;> first | rfl | (exfalso; simp at *; omega)) | (have : 0 ≤ (v).toInt := Int32.le_iff_toInt_le.mp (c292.1); have : (v).toInt ≤ 15 := Int32.le_iff_toInt_le.mp (c292.2); unfold F_sun; (repeat' split) <;> first | rfl | (exfalso; (try simp only [Int32.le_iff_toInt_le, Int32.lt_iff_toInt_lt, ← Int32.toInt_inj] at *); first | omega | (simp at *; done) | (simp at *; omega))), rfl, fun a ha => by funext j; simp (disch := omega) only [gup_off, gcp_off]⟩
  · dsimp only [Option.toList, List.cons_append, List.nil_append]
    exact G_iret (pc := 14) (Nat.le_of_ble_eq_true rfl) (Nat.le_of_ble_eq_true rfl) rfl dX11_sun_14 ⟨_, by first | rfl | (simp [F_sun, *]; done) | (have : 0 ≤ (halt).toInt := Int32.le_iff_toInt_le.mp (c309.1); have : (halt).toInt ≤ 15 := Int32.le_iff_toInt_le.mp (c309.2); have : ¬ (0 ≤ (v).toInt ∧ (v).toInt ≤ 15) := fun z => c310 ⟨Int32.le_iff_toInt_le.mpr z.1, Int32.le_iff_toInt_le.mpr z.2⟩; simp only [F_sun, Int32.le_iff_toInt_le, Int32.lt_iff_toInt_lt, ← Int32.toInt_inj]; simp; omega) | (have : 0 ≤ (halt).toInt := Int32.le_iff_toInt_le.mp (c309.1); have : (halt).toInt ≤ 15 := Int32.le_iff_toInt_le.mp (c309.2); have : ¬ (0 ≤ (v).toInt ∧ (v).toInt ≤ 15) := fun z => c310 ⟨Int32.le_iff_toInt_le.mpr z.1, Int32.le_iff_toInt_le.mpr z.2⟩; simp only [F_sun, Int32.le_iff_toInt_le, Int32.lt_iff_toInt_lt, ← Int32.toInt_inj]; split <;> first | rfl | (exfalso; simp at *; omega)) | (have : 0 ≤ (halt).toInt := Int32.le_iff_toInt_le.mp (c309.1); have : (halt).toInt ≤ 15 := Int32.le_iff_toInt_le.mp (c309.2); have : ¬ (0 ≤ (v).toInt ∧ (v).toInt ≤ 15) := fun z => c310 ⟨Int32.le_iff_toInt_le.mpr z.1, Int32.le_iff_toInt_le.mpr z.2⟩; unfold F_sun; (repeat' split) <;> first | rfl | (exfalso; (try simp only [Int32.le_iff_toInt_le, Int32.lt_iff_toInt_lt, ← Int32.toInt_inj] at *); first | omega | (simp at *; done) | (simp at *; omega))), rfl, fun _ _ => rfl⟩
set_option maxRecDepth 100000 in
set_option maxHeartbeats 4000000 in
theorem s48_X11_put  (d : Nat) (a0 : Int32) (a1 : Int32) : G (d + 1) mX11_put 0 0 0 0 0 (gent 5 [.ref 21, .int a0, .int a1, .int 9]) [] SH0 RF0 I0 (fun r h => (¬ (0 ≤ a0 ∧ a0 ≤ 5) ∧ r = some (.int (-1)) ∧ h = (SH0, RF0, I0)) ∨ ((0 ≤ a0 ∧ a0 ≤ 5) ∧ (0 ≤ a1 ∧ a1 ≤ 9) ∧ (a0 : Int32) = 0 ∧ r = some (.int 0) ∧ h = (SH0, RF0, (gup I0 21 0 a1))) ∨ ((0 ≤ a0 ∧ a0 ≤ 5) ∧ (0 ≤ a1 ∧ a1 ≤ 9) ∧ ¬ ((a0 : Int32) = 0) ∧ (a0 : Int32) = 1 ∧ r = some (.int 0) ∧ h = (SH0, RF0, (gup I0 21 1 a1))) ∨ ((0 ≤ a0 ∧ a0 ≤ 5) ∧ (0 ≤ a1 ∧ a1 ≤ 9) ∧ ¬ ((a0 : Int32) = 0) ∧ ¬ ((a0 : Int32) = 1) ∧ (a0 : Int32) = 2 ∧ r = some (.int 0) ∧ h = (SH0, RF0, (gup I0 21 2 a1))) ∨ ((0 ≤ a0 ∧ a0 ≤ 5) ∧ (0 ≤ a1 ∧ a1 ≤ 9) ∧ ¬ ((a0 : Int32) = 0) ∧ ¬ ((a0 : Int32) = 1) ∧ ¬ ((a0 : Int32) = 2) ∧ (a0 : Int32) = 3 ∧ r = some (.int 0) ∧ h = (SH0, RF0, (gup I0 21 3 a1))) ∨ ((0 ≤ a0 ∧ a0 ≤ 5) ∧ (0 ≤ a1 ∧ a1 ≤ 9) ∧ ¬ ((a0 : Int32) = 0) ∧ ¬ ((a0 : Int32) = 1) ∧ ¬ ((a0 : Int32) = 2) ∧ ¬ ((a0 : Int32) = 3) ∧ (a0 : Int32) = 4 ∧ r = some (.int 0) ∧ h = (SH0, RF0, (gup I0 21 4 a1))) ∨ ((0 ≤ a0 ∧ a0 ≤ 5) ∧ (0 ≤ a1 ∧ a1 ≤ 9) ∧ ¬ ((a0 : Int32) = 0) ∧ ¬ ((a0 : Int32) = 1) ∧ ¬ ((a0 : Int32) = 2) ∧ ¬ ((a0 : Int32) = 3) ∧ ¬ ((a0 : Int32) = 4) ∧ (a0 : Int32) = 5 ∧ r = some (.int 0) ∧ h = (SH0, RF0, (gup I0 21 5 a1))) ∨ ((0 ≤ a0 ∧ a0 ≤ 5) ∧ ¬ (0 ≤ a1 ∧ a1 ≤ 9) ∧ r = some (.int (-1)) ∧ h = (SH0, RF0, I0))) := by
  refine G_iload_n (pc := 0) rfl dX11_put_0 ?_
  refine G_iconst (pc := 1) (v := 0) (by decide) dX11_put_1 ?_
  refine G_aload_n (pc := 2) rfl dX11_put_2 ?_
  refine G_alen (pc := 3) (v := 6) rfl (by decide) dX11_put_3 ?_
  refine G_iconst (pc := 4) (v := 1) (by decide) dX11_put_4 ?_
  refine G_isub (pc := 5) (z := 5) (by decide) dX11_put_5 ?_
  refine G_callS (pc := 6) (mc1 := 0) (ms1 := 0) (mj := mX11_isIn) (vs := [_, _, _]) dX11_put_6 cm_X11_isIn wf_4 wf_6 rfl (Nat.le_of_ble_eq_true rfl) (Nat.le_of_ble_eq_true rfl) (Nat.le_of_ble_eq_true rfl) (Nat.le_of_ble_eq_true rfl) (isIn_s d a0 0 5) ?_
  rintro _ _ ⟨rfl, rfl⟩
  dsimp only [Option.toList, List.cons_append, List.nil_append]
  refine G_if_eq (pc := 9) (tgt := 21) (by decide) dX11_put_9 (fun c312 => ?_) (fun c312 => ?_)
  · have c312 := gB_z c312
    refine G_iconst (pc := 21) (v := (-1)) (by decide) dX11_put_21 ?_
    exact G_iret (pc := 22) (Nat.le_of_ble_eq_true rfl) (Nat.le_of_ble_eq_true rfl) rfl dX11_put_22 (Or.inl ⟨c312, rfl, rfl⟩)
  · have c312 := gB_o c312
    refine G_iload_n (pc := 12) rfl dX11_put_12 ?_
    refine G_iconst (pc := 13) (v := 0) (by decide) dX11_put_13 ?_
    refine G_iload_n (pc := 14) rfl dX11_put_14 ?_
    refine G_callS (pc := 15) (mc1 := 0) (ms1 := 0) (mj := mX11_isIn) (vs := [_, _, _]) dX11_put_15 cm_X11_isIn wf_4 wf_6 rfl (Nat.le_of_ble_eq_true rfl) (Nat.le_of_ble_eq_true rfl) (Nat.le_of_ble_eq_true rfl) (Nat.le_of_ble_eq_true rfl) (isIn_s d a1 0 9) ?_
    rintro _ _ ⟨rfl, rfl⟩
    dsimp only [Option.toList, List.cons_append, List.nil_append]
    refine G_if_ne (pc := 18) (tgt := 23) (by decide) dX11_put_18 (fun c313 => ?_) (fun c313 => ?_)
    · have c313 := gB_o c313
      refine G_aload_n (pc := 23) rfl dX11_put_23 ?_
      refine G_iload_n (pc := 24) rfl dX11_put_24 ?_
      by_cases c314 : a0 = 0
      · subst c314
        refine G_iald (pc := 25) (jj := 0) (v := 0) (by decide) rfl rfl (by unfold vp_in; decide) dX11_put_25 ?_
        refine G_istore (pc := 26) (L1 := [some (.ref 21), some (.int 0), some (.int a1), some (.int 9), some (.int 0)]) rfl rfl (by decide) dX11_put_26 ?_
        refine G_aload_n (pc := 28) rfl dX11_put_28 ?_
        refine G_iload_n (pc := 29) rfl dX11_put_29 ?_
        refine G_iload_n (pc := 30) rfl dX11_put_30 ?_
        refine G_iast (pc := 31) (jj := 0) (by decide) rfl (by unfold vp_in; decide) dX11_put_31 ?_
        refine G_iload (pc := 32) rfl dX11_put_32 ?_
        exact G_iret (pc := 34) (Nat.le_of_ble_eq_true rfl) (Nat.le_of_ble_eq_true rfl) rfl dX11_put_34 (Or.inr (Or.inl ⟨c312, c313, rfl, rfl, rfl⟩))
      by_cases c315 : a0 = 1
      · subst c315
        refine G_iald (pc := 25) (jj := 1) (v := 0) (by decide) rfl rfl (by unfold vp_in; decide) dX11_put_25 ?_
        refine G_istore (pc := 26) (L1 := [some (.ref 21), some (.int 1), some (.int a1), some (.int 9), some (.int 0)]) rfl rfl (by decide) dX11_put_26 ?_
        refine G_aload_n (pc := 28) rfl dX11_put_28 ?_
        refine G_iload_n (pc := 29) rfl dX11_put_29 ?_
        refine G_iload_n (pc := 30) rfl dX11_put_30 ?_
        refine G_iast (pc := 31) (jj := 1) (by decide) rfl (by unfold vp_in; decide) dX11_put_31 ?_
        refine G_iload (pc := 32) rfl dX11_put_32 ?_
        exact G_iret (pc := 34) (Nat.le_of_ble_eq_true rfl) (Nat.le_of_ble_eq_true rfl) rfl dX11_put_34 (Or.inr (Or.inr (Or.inl ⟨c312, c313, c314, rfl, rfl, rfl⟩)))
      by_cases c316 : a0 = 2
      · subst c316
        refine G_iald (pc := 25) (jj := 2) (v := 0) (by decide) rfl rfl (by unfold vp_in; decide) dX11_put_25 ?_
        refine G_istore (pc := 26) (L1 := [some (.ref 21), some (.int 2), some (.int a1), some (.int 9), some (.int 0)]) rfl rfl (by decide) dX11_put_26 ?_
        refine G_aload_n (pc := 28) rfl dX11_put_28 ?_
        refine G_iload_n (pc := 29) rfl dX11_put_29 ?_
        refine G_iload_n (pc := 30) rfl dX11_put_30 ?_
        refine G_iast (pc := 31) (jj := 2) (by decide) rfl (by unfold vp_in; decide) dX11_put_31 ?_
        refine G_iload (pc := 32) rfl dX11_put_32 ?_
        exact G_iret (pc := 34) (Nat.le_of_ble_eq_true rfl) (Nat.le_of_ble_eq_true rfl) rfl dX11_put_34 (Or.inr (Or.inr (Or.inr (Or.inl ⟨c312, c313, c314, c315, rfl, rfl, rfl⟩))))
      by_cases c317 : a0 = 3
      · subst c317
        refine G_iald (pc := 25) (jj := 3) (v := 0) (by decide) rfl rfl (by unfold vp_in; decide) dX11_put_25 ?_
        refine G_istore (pc := 26) (L1 := [some (.ref 21), some (.int 3), some (.int a1), some (.int 9), some (.int 0)]) rfl rfl (by decide) dX11_put_26 ?_
        refine G_aload_n (pc := 28) rfl dX11_put_28 ?_
        refine G_iload_n (pc := 29) rfl dX11_put_29 ?_
        refine G_iload_n (pc := 30) rfl dX11_put_30 ?_
        refine G_iast (pc := 31) (jj := 3) (by decide) rfl (by unfold vp_in; decide) dX11_put_31 ?_
        refine G_iload (pc := 32) rfl dX11_put_32 ?_
        exact G_iret (pc := 34) (Nat.le_of_ble_eq_true rfl) (Nat.le_of_ble_eq_true rfl) rfl dX11_put_34 (Or.inr (Or.inr (Or.inr (Or.inr (Or.inl ⟨c312, c313, c314, c315, c316, rfl, rfl, rfl⟩)))))
      by_cases c318 : a0 = 4
      · subst c318
        refine G_iald (pc := 25) (jj := 4) (v := 0) (by decide) rfl rfl (by unfold vp_in; decide) dX11_put_25 ?_
        refine G_istore (pc := 26) (L1 := [some (.ref 21), some (.int 4), some (.int a1), some (.int 9), some (.int 0)]) rfl rfl (by decide) dX11_put_26 ?_
        refine G_aload_n (pc := 28) rfl dX11_put_28 ?_
        refine G_iload_n (pc := 29) rfl dX11_put_29 ?_
        refine G_iload_n (pc := 30) rfl dX11_put_30 ?_
        refine G_iast (pc := 31) (jj := 4) (by decide) rfl (by unfold vp_in; decide) dX11_put_31 ?_
        refine G_iload (pc := 32) rfl dX11_put_32 ?_
        exact G_iret (pc := 34) (Nat.le_of_ble_eq_true rfl) (Nat.le_of_ble_eq_true rfl) rfl dX11_put_34 (Or.inr (Or.inr (Or.inr (Or.inr (Or.inr (Or.inl ⟨c312, c313, c314, c315, c316, c317, rfl, rfl, rfl⟩))))))
      by_cases c319 : a0 = 5
      · subst c319
        refine G_iald (pc := 25) (jj := 5) (v := 0) (by decide) rfl rfl (by unfold vp_in; decide) dX11_put_25 ?_
        refine G_istore (pc := 26) (L1 := [some (.ref 21), some (.int 5), some (.int a1), some (.int 9), some (.int 0)]) rfl rfl (by decide) dX11_put_26 ?_
        refine G_aload_n (pc := 28) rfl dX11_put_28 ?_
        refine G_iload_n (pc := 29) rfl dX11_put_29 ?_
        refine G_iload_n (pc := 30) rfl dX11_put_30 ?_
        refine G_iast (pc := 31) (jj := 5) (by decide) rfl (by unfold vp_in; decide) dX11_put_31 ?_
        refine G_iload (pc := 32) rfl dX11_put_32 ?_
        exact G_iret (pc := 34) (Nat.le_of_ble_eq_true rfl) (Nat.le_of_ble_eq_true rfl) rfl dX11_put_34 (Or.inr (Or.inr (Or.inr (Or.inr (Or.inr (Or.inr (Or.inl ⟨c312, c313, c314, c315, c316, c317, c318, rfl, rfl, rfl⟩)))))))
      exfalso
      have : 0 ≤ (a0).toInt := Int32.le_iff_toInt_le.mp (c312.1)
      have : (a0).toInt ≤ 5 := Int32.le_iff_toInt_le.mp (c312.2)
      have : (a0).toInt ≠ 0 := g_ne (c314)
      have : (a0).toInt ≠ 1 := g_ne (c315)
      have : (a0).toInt ≠ 2 := g_ne (c316)
      have : (a0).toInt ≠ 3 := g_ne (c317)
      have : (a0).toInt ≠ 4 := g_ne (c318)
      have : (a0).toInt ≠ 5 := g_ne (c319)
      omega
    · have c313 := gB_z c313
      refine G_iconst (pc := 21) (v := (-1)) (by decide) dX11_put_21 ?_
      exact G_iret (pc := 22) (Nat.le_of_ble_eq_true rfl) (Nat.le_of_ble_eq_true rfl) rfl dX11_put_22 (Or.inr (Or.inr (Or.inr (Or.inr (Or.inr (Or.inr (Or.inr ⟨c312, c313, rfl, rfl⟩)))))))
set_option maxRecDepth 100000 in
set_option maxHeartbeats 4000000 in
theorem s49_X11_put  (d : Nat) (a0 : Int32) (a1 : Int32) : G (d + 1) mX11_put 0 0 0 0 0 (gent 5 [.ref 22, .int a0, .int a1, .int 9]) [] SH0 RF0 I0 (fun r h => (¬ (0 ≤ a0 ∧ a0 ≤ 5) ∧ r = some (.int (-1)) ∧ h = (SH0, RF0, I0)) ∨ ((0 ≤ a0 ∧ a0 ≤ 5) ∧ (0 ≤ a1 ∧ a1 ≤ 9) ∧ (a0 : Int32) = 0 ∧ r = some (.int 0) ∧ h = (SH0, RF0, (gup I0 22 0 a1))) ∨ ((0 ≤ a0 ∧ a0 ≤ 5) ∧ (0 ≤ a1 ∧ a1 ≤ 9) ∧ ¬ ((a0 : Int32) = 0) ∧ (a0 : Int32) = 1 ∧ r = some (.int 0) ∧ h = (SH0, RF0, (gup I0 22 1 a1))) ∨ ((0 ≤ a0 ∧ a0 ≤ 5) ∧ (0 ≤ a1 ∧ a1 ≤ 9) ∧ ¬ ((a0 : Int32) = 0) ∧ ¬ ((a0 : Int32) = 1) ∧ (a0 : Int32) = 2 ∧ r = some (.int 0) ∧ h = (SH0, RF0, (gup I0 22 2 a1))) ∨ ((0 ≤ a0 ∧ a0 ≤ 5) ∧ (0 ≤ a1 ∧ a1 ≤ 9) ∧ ¬ ((a0 : Int32) = 0) ∧ ¬ ((a0 : Int32) = 1) ∧ ¬ ((a0 : Int32) = 2) ∧ (a0 : Int32) = 3 ∧ r = some (.int 0) ∧ h = (SH0, RF0, (gup I0 22 3 a1))) ∨ ((0 ≤ a0 ∧ a0 ≤ 5) ∧ (0 ≤ a1 ∧ a1 ≤ 9) ∧ ¬ ((a0 : Int32) = 0) ∧ ¬ ((a0 : Int32) = 1) ∧ ¬ ((a0 : Int32) = 2) ∧ ¬ ((a0 : Int32) = 3) ∧ (a0 : Int32) = 4 ∧ r = some (.int 0) ∧ h = (SH0, RF0, (gup I0 22 4 a1))) ∨ ((0 ≤ a0 ∧ a0 ≤ 5) ∧ (0 ≤ a1 ∧ a1 ≤ 9) ∧ ¬ ((a0 : Int32) = 0) ∧ ¬ ((a0 : Int32) = 1) ∧ ¬ ((a0 : Int32) = 2) ∧ ¬ ((a0 : Int32) = 3) ∧ ¬ ((a0 : Int32) = 4) ∧ (a0 : Int32) = 5 ∧ r = some (.int 0) ∧ h = (SH0, RF0, (gup I0 22 5 a1))) ∨ ((0 ≤ a0 ∧ a0 ≤ 5) ∧ ¬ (0 ≤ a1 ∧ a1 ≤ 9) ∧ r = some (.int (-1)) ∧ h = (SH0, RF0, I0))) := by
  refine G_iload_n (pc := 0) rfl dX11_put_0 ?_
  refine G_iconst (pc := 1) (v := 0) (by decide) dX11_put_1 ?_
  refine G_aload_n (pc := 2) rfl dX11_put_2 ?_
  refine G_alen (pc := 3) (v := 6) rfl (by decide) dX11_put_3 ?_
  refine G_iconst (pc := 4) (v := 1) (by decide) dX11_put_4 ?_
  refine G_isub (pc := 5) (z := 5) (by decide) dX11_put_5 ?_
  refine G_callS (pc := 6) (mc1 := 0) (ms1 := 0) (mj := mX11_isIn) (vs := [_, _, _]) dX11_put_6 cm_X11_isIn wf_4 wf_6 rfl (Nat.le_of_ble_eq_true rfl) (Nat.le_of_ble_eq_true rfl) (Nat.le_of_ble_eq_true rfl) (Nat.le_of_ble_eq_true rfl) (isIn_s d a0 0 5) ?_
  rintro _ _ ⟨rfl, rfl⟩
  dsimp only [Option.toList, List.cons_append, List.nil_append]
  refine G_if_eq (pc := 9) (tgt := 21) (by decide) dX11_put_9 (fun c357 => ?_) (fun c357 => ?_)
  · have c357 := gB_z c357
    refine G_iconst (pc := 21) (v := (-1)) (by decide) dX11_put_21 ?_
    exact G_iret (pc := 22) (Nat.le_of_ble_eq_true rfl) (Nat.le_of_ble_eq_true rfl) rfl dX11_put_22 (Or.inl ⟨c357, rfl, rfl⟩)
  · have c357 := gB_o c357
    refine G_iload_n (pc := 12) rfl dX11_put_12 ?_
    refine G_iconst (pc := 13) (v := 0) (by decide) dX11_put_13 ?_
    refine G_iload_n (pc := 14) rfl dX11_put_14 ?_
    refine G_callS (pc := 15) (mc1 := 0) (ms1 := 0) (mj := mX11_isIn) (vs := [_, _, _]) dX11_put_15 cm_X11_isIn wf_4 wf_6 rfl (Nat.le_of_ble_eq_true rfl) (Nat.le_of_ble_eq_true rfl) (Nat.le_of_ble_eq_true rfl) (Nat.le_of_ble_eq_true rfl) (isIn_s d a1 0 9) ?_
    rintro _ _ ⟨rfl, rfl⟩
    dsimp only [Option.toList, List.cons_append, List.nil_append]
    refine G_if_ne (pc := 18) (tgt := 23) (by decide) dX11_put_18 (fun c358 => ?_) (fun c358 => ?_)
    · have c358 := gB_o c358
      refine G_aload_n (pc := 23) rfl dX11_put_23 ?_
      refine G_iload_n (pc := 24) rfl dX11_put_24 ?_
      by_cases c359 : a0 = 0
      · subst c359
        refine G_iald (pc := 25) (jj := 0) (v := 0) (by decide) rfl rfl (by unfold vp_in; decide) dX11_put_25 ?_
        refine G_istore (pc := 26) (L1 := [some (.ref 22), some (.int 0), some (.int a1), some (.int 9), some (.int 0)]) rfl rfl (by decide) dX11_put_26 ?_
        refine G_aload_n (pc := 28) rfl dX11_put_28 ?_
        refine G_iload_n (pc := 29) rfl dX11_put_29 ?_
        refine G_iload_n (pc := 30) rfl dX11_put_30 ?_
        refine G_iast (pc := 31) (jj := 0) (by decide) rfl (by unfold vp_in; decide) dX11_put_31 ?_
        refine G_iload (pc := 32) rfl dX11_put_32 ?_
        exact G_iret (pc := 34) (Nat.le_of_ble_eq_true rfl) (Nat.le_of_ble_eq_true rfl) rfl dX11_put_34 (Or.inr (Or.inl ⟨c357, c358, rfl, rfl, rfl⟩))
      by_cases c360 : a0 = 1
      · subst c360
        refine G_iald (pc := 25) (jj := 1) (v := 0) (by decide) rfl rfl (by unfold vp_in; decide) dX11_put_25 ?_
        refine G_istore (pc := 26) (L1 := [some (.ref 22), some (.int 1), some (.int a1), some (.int 9), some (.int 0)]) rfl rfl (by decide) dX11_put_26 ?_
        refine G_aload_n (pc := 28) rfl dX11_put_28 ?_
        refine G_iload_n (pc := 29) rfl dX11_put_29 ?_
        refine G_iload_n (pc := 30) rfl dX11_put_30 ?_
        refine G_iast (pc := 31) (jj := 1) (by decide) rfl (by unfold vp_in; decide) dX11_put_31 ?_
        refine G_iload (pc := 32) rfl dX11_put_32 ?_
        exact G_iret (pc := 34) (Nat.le_of_ble_eq_true rfl) (Nat.le_of_ble_eq_true rfl) rfl dX11_put_34 (Or.inr (Or.inr (Or.inl ⟨c357, c358, c359, rfl, rfl, rfl⟩)))
      by_cases c361 : a0 = 2
      · subst c361
        refine G_iald (pc := 25) (jj := 2) (v := 0) (by decide) rfl rfl (by unfold vp_in; decide) dX11_put_25 ?_
        refine G_istore (pc := 26) (L1 := [some (.ref 22), some (.int 2), some (.int a1), some (.int 9), some (.int 0)]) rfl rfl (by decide) dX11_put_26 ?_
        refine G_aload_n (pc := 28) rfl dX11_put_28 ?_
        refine G_iload_n (pc := 29) rfl dX11_put_29 ?_
        refine G_iload_n (pc := 30) rfl dX11_put_30 ?_
        refine G_iast (pc := 31) (jj := 2) (by decide) rfl (by unfold vp_in; decide) dX11_put_31 ?_
        refine G_iload (pc := 32) rfl dX11_put_32 ?_
        exact G_iret (pc := 34) (Nat.le_of_ble_eq_true rfl) (Nat.le_of_ble_eq_true rfl) rfl dX11_put_34 (Or.inr (Or.inr (Or.inr (Or.inl ⟨c357, c358, c359, c360, rfl, rfl, rfl⟩))))
      by_cases c362 : a0 = 3
      · subst c362
        refine G_iald (pc := 25) (jj := 3) (v := 0) (by decide) rfl rfl (by unfold vp_in; decide) dX11_put_25 ?_
        refine G_istore (pc := 26) (L1 := [some (.ref 22), some (.int 3), some (.int a1), some (.int 9), some (.int 0)]) rfl rfl (by decide) dX11_put_26 ?_
        refine G_aload_n (pc := 28) rfl dX11_put_28 ?_
        refine G_iload_n (pc := 29) rfl dX11_put_29 ?_
        refine G_iload_n (pc := 30) rfl dX11_put_30 ?_
        refine G_iast (pc := 31) (jj := 3) (by decide) rfl (by unfold vp_in; decide) dX11_put_31 ?_
        refine G_iload (pc := 32) rfl dX11_put_32 ?_
        exact G_iret (pc := 34) (Nat.le_of_ble_eq_true rfl) (Nat.le_of_ble_eq_true rfl) rfl dX11_put_34 (Or.inr (Or.inr (Or.inr (Or.inr (Or.inl ⟨c357, c358, c359, c360, c361, rfl, rfl, rfl⟩)))))
      by_cases c363 : a0 = 4
      · subst c363
        refine G_iald (pc := 25) (jj := 4) (v := 0) (by decide) rfl rfl (by unfold vp_in; decide) dX11_put_25 ?_
        refine G_istore (pc := 26) (L1 := [some (.ref 22), some (.int 4), some (.int a1), some (.int 9), some (.int 0)]) rfl rfl (by decide) dX11_put_26 ?_
        refine G_aload_n (pc := 28) rfl dX11_put_28 ?_
        refine G_iload_n (pc := 29) rfl dX11_put_29 ?_
        refine G_iload_n (pc := 30) rfl dX11_put_30 ?_
        refine G_iast (pc := 31) (jj := 4) (by decide) rfl (by unfold vp_in; decide) dX11_put_31 ?_
        refine G_iload (pc := 32) rfl dX11_put_32 ?_
        exact G_iret (pc := 34) (Nat.le_of_ble_eq_true rfl) (Nat.le_of_ble_eq_true rfl) rfl dX11_put_34 (Or.inr (Or.inr (Or.inr (Or.inr (Or.inr (Or.inl ⟨c357, c358, c359, c360, c361, c362, rfl, rfl, rfl⟩))))))
      by_cases c364 : a0 = 5
      · subst c364
        refine G_iald (pc := 25) (jj := 5) (v := 0) (by decide) rfl rfl (by unfold vp_in; decide) dX11_put_25 ?_
        refine G_istore (pc := 26) (L1 := [some (.ref 22), some (.int 5), some (.int a1), some (.int 9), some (.int 0)]) rfl rfl (by decide) dX11_put_26 ?_
        refine G_aload_n (pc := 28) rfl dX11_put_28 ?_
        refine G_iload_n (pc := 29) rfl dX11_put_29 ?_
        refine G_iload_n (pc := 30) rfl dX11_put_30 ?_
        refine G_iast (pc := 31) (jj := 5) (by decide) rfl (by unfold vp_in; decide) dX11_put_31 ?_
        refine G_iload (pc := 32) rfl dX11_put_32 ?_
        exact G_iret (pc := 34) (Nat.le_of_ble_eq_true rfl) (Nat.le_of_ble_eq_true rfl) rfl dX11_put_34 (Or.inr (Or.inr (Or.inr (Or.inr (Or.inr (Or.inr (Or.inl ⟨c357, c358, c359, c360, c361, c362, c363, rfl, rfl, rfl⟩)))))))
      exfalso
      have : 0 ≤ (a0).toInt := Int32.le_iff_toInt_le.mp (c357.1)
      have : (a0).toInt ≤ 5 := Int32.le_iff_toInt_le.mp (c357.2)
      have : (a0).toInt ≠ 0 := g_ne (c359)
      have : (a0).toInt ≠ 1 := g_ne (c360)
      have : (a0).toInt ≠ 2 := g_ne (c361)
      have : (a0).toInt ≠ 3 := g_ne (c362)
      have : (a0).toInt ≠ 4 := g_ne (c363)
      have : (a0).toInt ≠ 5 := g_ne (c364)
      omega
    · have c358 := gB_z c358
      refine G_iconst (pc := 21) (v := (-1)) (by decide) dX11_put_21 ?_
      exact G_iret (pc := 22) (Nat.le_of_ble_eq_true rfl) (Nat.le_of_ble_eq_true rfl) rfl dX11_put_22 (Or.inr (Or.inr (Or.inr (Or.inr (Or.inr (Or.inr (Or.inr ⟨c357, c358, rfl, rfl⟩)))))))
def F_gate (f : Int32) (what : Int32) (v : Int32) : Int32 := if (0 ≤ f ∧ f ≤ 5) ∧ (what = 0 ∨ what = 1) ∧ (0 ≤ v ∧ v ≤ 9) then 0 else -1
set_option maxRecDepth 100000 in
set_option maxHeartbeats 4000000 in
theorem x_gate (d : Nat) (f : Int32) (what : Int32) (v : Int32) : G (d + 2) mX11_gate 0 0 0 0 0 (gent 4 [.ref 0, .int f, .int what, .int v]) [] SH0 RF0 I0 (fun r h => ∃ I1, r = some (.int (F_gate f what v)) ∧ h = (SH0, RF0, I1) ∧ ∀ a, 67 ≤ a → I1 a = I0 a) := by
  refine G_iload_n (pc := 0) rfl dX11_gate_0 ?_
  by_cases c311 : what = 0
  · subst c311
    refine G_look (pc := 1) (tgt := 28) (off := 27) (by decide) (by decide) (by decide) dX11_gate_1 ?_
    refine G_aload_n (pc := 28) rfl dX11_gate_28 ?_
    refine G_getR (pc := 29) (r := 19) (ci := 11) (j := 0) rfl lk_RX11_56 rfl rfl rfl dX11_gate_29 ?_
    refine G_getR (pc := 32) (r := 21) (ci := 1) (j := 6) rfl lk_RX11_150 rfl rfl rfl dX11_gate_32 ?_
    refine G_iload_n (pc := 35) rfl dX11_gate_35 ?_
    refine G_iload_n (pc := 36) rfl dX11_gate_36 ?_
    refine G_bipush (pc := 37) (v := 9) (by decide) dX11_gate_37 ?_
    refine G_callS (pc := 39) (mc1 := 0) (ms1 := 0) (mj := mX11_put) (vs := [_, _, _, _]) dX11_gate_39 cm_X11_put wf_115 wf_117 rfl (Nat.le_of_ble_eq_true rfl) (Nat.le_of_ble_eq_true rfl) (Nat.le_of_ble_eq_true rfl) (Nat.le_of_ble_eq_true rfl) (s48_X11_put  d _ _) ?_
    rintro _ _ (⟨c320, rfl, rfl⟩ | ⟨c321, c322, c323, rfl, rfl⟩ | ⟨c324, c325, c326, c327, rfl, rfl⟩ | ⟨c328, c329, c330, c331, c332, rfl, rfl⟩ | ⟨c333, c334, c335, c336, c337, c338, rfl, rfl⟩ | ⟨c339, c340, c341, c342, c343, c344, c345, rfl, rfl⟩ | ⟨c346, c347, c348, c349, c350, c351, c352, c353, rfl, rfl⟩ | ⟨c354, c355, rfl, rfl⟩)
    · dsimp only [Option.toList, List.cons_append, List.nil_append]
      exact G_iret (pc := 42) (Nat.le_of_ble_eq_true rfl) (Nat.le_of_ble_eq_true rfl) rfl dX11_gate_42 ⟨_, by first | rfl | (simp [F_gate, *]; done) | (have : ¬ (0 ≤ (f).toInt ∧ (f).toInt ≤ 5) := fun z => c320 ⟨Int32.le_iff_toInt_le.mpr z.1, Int32.le_iff_toInt_le.mpr z.2⟩; simp only [F_gate, Int32.le_iff_toInt_le, Int32.lt_iff_toInt_lt, ← Int32.toInt_inj]; simp; omega) | (have : ¬ (0 ≤ (f).toInt ∧ (f).toInt ≤ 5) := fun z => c320 ⟨Int32.le_iff_toInt_le.mpr z.1, Int32.le_iff_toInt_le.mpr z.2⟩; simp only [F_gate, Int32.le_iff_toInt_le, Int32.lt_iff_toInt_lt, ← Int32.toInt_inj]; split <;> first | rfl | (exfalso; simp at *; omega)) | (have : ¬ (0 ≤ (f).toInt ∧ (f).toInt ≤ 5) := fun z => c320 ⟨Int32.le_iff_toInt_le.mpr z.1, Int32.le_iff_toInt_le.mpr z.2⟩; unfold F_gate; (repeat' split) <;> first | rfl | (exfalso; (try simp only [Int32.le_iff_toInt_le, Int32.lt_iff_toInt_lt, ← Int32.toInt_inj] at *); first | omega | (simp at *; done) | (simp at *; omega))), rfl, fun _ _ => rfl⟩
    · subst c323
      dsimp only [Option.toList, List.cons_append, List.nil_append]
      exact G_iret (pc := 42) (Nat.le_of_ble_eq_true rfl) (Nat.le_of_ble_eq_true rfl) rfl dX11_gate_42 ⟨_, by first | rfl | (simp [F_gate, *]; done) | (have : 0 ≤ (v).toInt := Int32.le_iff_toInt_le.mp (c322.1); have : (v).toInt ≤ 9 := Int32.le_iff_toInt_le.mp (c322.2); simp only [F_gate, Int32.le_iff_toInt_le, Int32.lt_iff_toInt_lt, ← Int32.toInt_inj]; simp; omega) | (have : 0 ≤ (v).toInt := Int32.le_iff_toInt_le.mp (c322.1); have : (v).toInt ≤ 9 := Int32.le_iff_toInt_le.mp (c322.2); simp only [F_gate, Int32.le_iff_toInt_le, Int32.lt_iff_toInt_lt, ← Int32.toInt_inj]; split <;> first | rfl | (exfalso; simp at *; omega)) | (have : 0 ≤ (v).toInt := Int32.le_iff_toInt_le.mp (c322.1); have : (v).toInt ≤ 9 := Int32.le_iff_toInt_le.mp (c322.2); unfold F_gate; (repeat' split) <;> first | rfl | (exfalso; (try simp only [Int32.le_iff_toInt_le, Int32.lt_iff_toInt_lt, ← Int32.toInt_inj] at *); first | omega | (simp at *; done) | (simp at *; omega))), rfl, fun a ha => by funext j; simp (disch := omega) only [gup_off, gcp_off]⟩
    · subst c327
      dsimp only [Option.toList, List.cons_append, List.nil_append]
      exact G_iret (pc := 42) (Nat.le_of_ble_eq_true rfl) (Nat.le_of_ble_eq_true rfl) rfl dX11_gate_42 ⟨_, by first | rfl | (simp [F_gate, *]; done) | (have : 0 ≤ (v).toInt := Int32.le_iff_toInt_le.mp (c325.1); have : (v).toInt ≤ 9 := Int32.le_iff_toInt_le.mp (c325.2); simp only [F_gate, Int32.le_iff_toInt_le, Int32.lt_iff_toInt_lt, ← Int32.toInt_inj]; simp; omega) | (have : 0 ≤ (v).toInt := Int32.le_iff_toInt_le.mp (c325.1); have : (v).toInt ≤ 9 := Int32.le_iff_toInt_le.mp (c325.2); simp only [F_gate, Int32.le_iff_toInt_le, Int32.lt_iff_toInt_lt, ← Int32.toInt_inj]; split <;> first | rfl | (exfalso; simp at *; omega)) | (have : 0 ≤ (v).toInt := Int32.le_iff_toInt_le.mp (c325.1); have : (v).toInt ≤ 9 := Int32.le_iff_toInt_le.mp (c325.2); unfold F_gate; (repeat' split) <;> first | rfl | (exfalso; (try simp only [Int32.le_iff_toInt_le, Int32.lt_iff_toInt_lt, ← Int32.toInt_inj] at *); first | omega | (simp at *; done) | (simp at *; omega))), rfl, fun a ha => by funext j; simp (disch := omega) only [gup_off, gcp_off]⟩
    · subst c332
      dsimp only [Option.toList, List.cons_append, List.nil_append]
      exact G_iret (pc := 42) (Nat.le_of_ble_eq_true rfl) (Nat.le_of_ble_eq_true rfl) rfl dX11_gate_42 ⟨_, by first | rfl | (simp [F_gate, *]; done) | (have : 0 ≤ (v).toInt := Int32.le_iff_toInt_le.mp (c329.1); have : (v).toInt ≤ 9 := Int32.le_iff_toInt_le.mp (c329.2); simp only [F_gate, Int32.le_iff_toInt_le, Int32.lt_iff_toInt_lt, ← Int32.toInt_inj]; simp; omega) | (have : 0 ≤ (v).toInt := Int32.le_iff_toInt_le.mp (c329.1); have : (v).toInt ≤ 9 := Int32.le_iff_toInt_le.mp (c329.2); simp only [F_gate, Int32.le_iff_toInt_le, Int32.lt_iff_toInt_lt, ← Int32.toInt_inj]; split <;> first | rfl | (exfalso; simp at *; omega)) | (have : 0 ≤ (v).toInt := Int32.le_iff_toInt_le.mp (c329.1); have : (v).toInt ≤ 9 := Int32.le_iff_toInt_le.mp (c329.2); unfold F_gate; (repeat' split) <;> first | rfl | (exfalso; (try simp only [Int32.le_iff_toInt_le, Int32.lt_iff_toInt_lt, ← Int32.toInt_inj] at *); first | omega | (simp at *; done) | (simp at *; omega))), rfl, fun a ha => by funext j; simp (disch := omega) only [gup_off, gcp_off]⟩
    · subst c338
      dsimp only [Option.toList, List.cons_append, List.nil_append]
      exact G_iret (pc := 42) (Nat.le_of_ble_eq_true rfl) (Nat.le_of_ble_eq_true rfl) rfl dX11_gate_42 ⟨_, by first | rfl | (simp [F_gate, *]; done) | (have : 0 ≤ (v).toInt := Int32.le_iff_toInt_le.mp (c334.1); have : (v).toInt ≤ 9 := Int32.le_iff_toInt_le.mp (c334.2); simp only [F_gate, Int32.le_iff_toInt_le, Int32.lt_iff_toInt_lt, ← Int32.toInt_inj]; simp; omega) | (have : 0 ≤ (v).toInt := Int32.le_iff_toInt_le.mp (c334.1); have : (v).toInt ≤ 9 := Int32.le_iff_toInt_le.mp (c334.2); simp only [F_gate, Int32.le_iff_toInt_le, Int32.lt_iff_toInt_lt, ← Int32.toInt_inj]; split <;> first | rfl | (exfalso; simp at *; omega)) | (have : 0 ≤ (v).toInt := Int32.le_iff_toInt_le.mp (c334.1); have : (v).toInt ≤ 9 := Int32.le_iff_toInt_le.mp (c334.2); unfold F_gate; (repeat' split) <;> first | rfl | (exfalso; (try simp only [Int32.le_iff_toInt_le, Int32.lt_iff_toInt_lt, ← Int32.toInt_inj] at *); first | omega | (simp at *; done) | (simp at *; omega))), rfl, fun a ha => by funext j; simp (disch := omega) only [gup_off, gcp_off]⟩
    · subst c345
      dsimp only [Option.toList, List.cons_append, List.nil_append]
      exact G_iret (pc := 42) (Nat.le_of_ble_eq_true rfl) (Nat.le_of_ble_eq_true rfl) rfl dX11_gate_42 ⟨_, by first | rfl | (simp [F_gate, *]; done) | (have : 0 ≤ (v).toInt := Int32.le_iff_toInt_le.mp (c340.1); have : (v).toInt ≤ 9 := Int32.le_iff_toInt_le.mp (c340.2); simp only [F_gate, Int32.le_iff_toInt_le, Int32.lt_iff_toInt_lt, ← Int32.toInt_inj]; simp; omega) | (have : 0 ≤ (v).toInt := Int32.le_iff_toInt_le.mp (c340.1); have : (v).toInt ≤ 9 := Int32.le_iff_toInt_le.mp (c340.2); simp only [F_gate, Int32.le_iff_toInt_le, Int32.lt_iff_toInt_lt, ← Int32.toInt_inj]; split <;> first | rfl | (exfalso; simp at *; omega)) | (have : 0 ≤ (v).toInt := Int32.le_iff_toInt_le.mp (c340.1); have : (v).toInt ≤ 9 := Int32.le_iff_toInt_le.mp (c340.2); unfold F_gate; (repeat' split) <;> first | rfl | (exfalso; (try simp only [Int32.le_iff_toInt_le, Int32.lt_iff_toInt_lt, ← Int32.toInt_inj] at *); first | omega | (simp at *; done) | (simp at *; omega))), rfl, fun a ha => by funext j; simp (disch := omega) only [gup_off, gcp_off]⟩
    · subst c353
      dsimp only [Option.toList, List.cons_append, List.nil_append]
      exact G_iret (pc := 42) (Nat.le_of_ble_eq_true rfl) (Nat.le_of_ble_eq_true rfl) rfl dX11_gate_42 ⟨_, by first | rfl | (simp [F_gate, *]; done) | (have : 0 ≤ (v).toInt := Int32.le_iff_toInt_le.mp (c347.1); have : (v).toInt ≤ 9 := Int32.le_iff_toInt_le.mp (c347.2); simp only [F_gate, Int32.le_iff_toInt_le, Int32.lt_iff_toInt_lt, ← Int32.toInt_inj]; simp; omega) | (have : 0 ≤ (v).toInt := Int32.le_iff_toInt_le.mp (c347.1); have : (v).toInt ≤ 9 := Int32.le_iff_toInt_le.mp (c347.2); simp only [F_gate, Int32.le_iff_toInt_le, Int32.lt_iff_toInt_lt, ← Int32.toInt_inj]; split <;> first | rfl | (exfalso; simp at *; omega)) | (have : 0 ≤ (v).toInt := Int32.le_iff_toInt_le.mp (c347.1); have : (v).toInt ≤ 9 := Int32.le_iff_toInt_le.mp (c347.2); unfold F_gate; (repeat' split) <;> first | rfl | (exfalso; (try simp only [Int32.le_iff_toInt_le, Int32.lt_iff_toInt_lt, ← Int32.toInt_inj] at *); first | omega | (simp at *; done) | (simp at *; omega))), rfl, fun a ha => by funext j; simp (disch := omega) only [gup_off, gcp_off]⟩
    · dsimp only [Option.toList, List.cons_append, List.nil_append]
      exact G_iret (pc := 42) (Nat.le_of_ble_eq_true rfl) (Nat.le_of_ble_eq_true rfl) rfl dX11_gate_42 ⟨_, by first | rfl | (simp [F_gate, *]; done) | (have : 0 ≤ (f).toInt := Int32.le_iff_toInt_le.mp (c354.1); have : (f).toInt ≤ 5 := Int32.le_iff_toInt_le.mp (c354.2); have : ¬ (0 ≤ (v).toInt ∧ (v).toInt ≤ 9) := fun z => c355 ⟨Int32.le_iff_toInt_le.mpr z.1, Int32.le_iff_toInt_le.mpr z.2⟩; simp only [F_gate, Int32.le_iff_toInt_le, Int32.lt_iff_toInt_lt, ← Int32.toInt_inj]; simp; omega) | (have : 0 ≤ (f).toInt := Int32.le_iff_toInt_le.mp (c354.1); have : (f).toInt ≤ 5 := Int32.le_iff_toInt_le.mp (c354.2); have : ¬ (0 ≤ (v).toInt ∧ (v).toInt ≤ 9) := fun z => c355 ⟨Int32.le_iff_toInt_le.mpr z.1, Int32.le_iff_toInt_le.mpr z.2⟩; simp only [F_gate, Int32.le_iff_toInt_le, Int32.lt_iff_toInt_lt, ← Int32.toInt_inj]; split <;> first | rfl | (exfalso; simp at *; omega)) | (have : 0 ≤ (f).toInt := Int32.le_iff_toInt_le.mp (c354.1); have : (f).toInt ≤ 5 := Int32.le_iff_toInt_le.mp (c354.2); have : ¬ (0 ≤ (v).toInt ∧ (v).toInt ≤ 9) := fun z => c355 ⟨Int32.le_iff_toInt_le.mpr z.1, Int32.le_iff_toInt_le.mpr z.2⟩; unfold F_gate; (repeat' split) <;> first | rfl | (exfalso; (try simp only [Int32.le_iff_toInt_le, Int32.lt_iff_toInt_lt, ← Int32.toInt_inj] at *); first | omega | (simp at *; done) | (simp at *; omega))), rfl, fun _ _ => rfl⟩
  by_cases c356 : what = 1
  · subst c356
    refine G_look (pc := 1) (tgt := 43) (off := 42) (by decide) (by decide) (by decide) dX11_gate_1 ?_
    refine G_aload_n (pc := 43) rfl dX11_gate_43 ?_
    refine G_getR (pc := 44) (r := 19) (ci := 11) (j := 0) rfl lk_RX11_56 rfl rfl rfl dX11_gate_44 ?_
    refine G_getR (pc := 47) (r := 22) (ci := 1) (j := 7) rfl lk_RX11_153 rfl rfl rfl dX11_gate_47 ?_
    refine G_iload_n (pc := 50) rfl dX11_gate_50 ?_
    refine G_iload_n (pc := 51) rfl dX11_gate_51 ?_
    refine G_bipush (pc := 52) (v := 9) (by decide) dX11_gate_52 ?_
    refine G_callS (pc := 54) (mc1 := 0) (ms1 := 0) (mj := mX11_put) (vs := [_, _, _, _]) dX11_gate_54 cm_X11_put wf_115 wf_117 rfl (Nat.le_of_ble_eq_true rfl) (Nat.le_of_ble_eq_true rfl) (Nat.le_of_ble_eq_true rfl) (Nat.le_of_ble_eq_true rfl) (s49_X11_put  d _ _) ?_
    rintro _ _ (⟨c365, rfl, rfl⟩ | ⟨c366, c367, c368, rfl, rfl⟩ | ⟨c369, c370, c371, c372, rfl, rfl⟩ | ⟨c373, c374, c375, c376, c377, rfl, rfl⟩ | ⟨c378, c379, c380, c381, c382, c383, rfl, rfl⟩ | ⟨c384, c385, c386, c387, c388, c389, c390, rfl, rfl⟩ | ⟨c391, c392, c393, c394, c395, c396, c397, c398, rfl, rfl⟩ | ⟨c399, c400, rfl, rfl⟩)
    · dsimp only [Option.toList, List.cons_append, List.nil_append]
      exact G_iret (pc := 57) (Nat.le_of_ble_eq_true rfl) (Nat.le_of_ble_eq_true rfl) rfl dX11_gate_57 ⟨_, by first | rfl | (simp [F_gate, *]; done) | (have : ¬ (0 ≤ (f).toInt ∧ (f).toInt ≤ 5) := fun z => c365 ⟨Int32.le_iff_toInt_le.mpr z.1, Int32.le_iff_toInt_le.mpr z.2⟩; simp only [F_gate, Int32.le_iff_toInt_le, Int32.lt_iff_toInt_lt, ← Int32.toInt_inj]; simp; omega) | (have : ¬ (0 ≤ (f).toInt ∧ (f).toInt ≤ 5) := fun z => c365 ⟨Int32.le_iff_toInt_le.mpr z.1, Int32.le_iff_toInt_le.mpr z.2⟩; simp only [F_gate, Int32.le_iff_toInt_le, Int32.lt_iff_toInt_lt, ← Int32.toInt_inj]; split <;> first | rfl | (exfalso; simp at *; omega)) | (have : ¬ (0 ≤ (f).toInt ∧ (f).toInt ≤ 5) := fun z => c365 ⟨Int32.le_iff_toInt_le.mpr z.1, Int32.le_iff_toInt_le.mpr z.2⟩; unfold F_gate; (repeat' split) <;> first | rfl | (exfalso; (try simp only [Int32.le_iff_toInt_le, Int32.lt_iff_toInt_lt, ← Int32.toInt_inj] at *); first | omega | (simp at *; done) | (simp at *; omega))), rfl, fun _ _ => rfl⟩
    · subst c368
      dsimp only [Option.toList, List.cons_append, List.nil_append]
      exact G_iret (pc := 57) (Nat.le_of_ble_eq_true rfl) (Nat.le_of_ble_eq_true rfl) rfl dX11_gate_57 ⟨_, by first | rfl | (simp [F_gate, *]; done) | (have : 0 ≤ (v).toInt := Int32.le_iff_toInt_le.mp (c367.1); have : (v).toInt ≤ 9 := Int32.le_iff_toInt_le.mp (c367.2); simp only [F_gate, Int32.le_iff_toInt_le, Int32.lt_iff_toInt_lt, ← Int32.toInt_inj]; simp; omega) | (have : 0 ≤ (v).toInt := Int32.le_iff_toInt_le.mp (c367.1); have : (v).toInt ≤ 9 := Int32.le_iff_toInt_le.mp (c367.2); simp only [F_gate, Int32.le_iff_toInt_le, Int32.lt_iff_toInt_lt, ← Int32.toInt_inj]; split <;> first | rfl | (exfalso; simp at *; omega)) | (have : 0 ≤ (v).toInt := Int32.le_iff_toInt_le.mp (c367.1); have : (v).toInt ≤ 9 := Int32.le_iff_toInt_le.mp (c367.2); unfold F_gate; (repeat' split) <;> first | rfl | (exfalso; (try simp only [Int32.le_iff_toInt_le, Int32.lt_iff_toInt_lt, ← Int32.toInt_inj] at *); first | omega | (simp at *; done) | (simp at *; omega))), rfl, fun a ha => by funext j; simp (disch := omega) only [gup_off, gcp_off]⟩
    · subst c372
      dsimp only [Option.toList, List.cons_append, List.nil_append]
      exact G_iret (pc := 57) (Nat.le_of_ble_eq_true rfl) (Nat.le_of_ble_eq_true rfl) rfl dX11_gate_57 ⟨_, by first | rfl | (simp [F_gate, *]; done) | (have : 0 ≤ (v).toInt := Int32.le_iff_toInt_le.mp (c370.1); have : (v).toInt ≤ 9 := Int32.le_iff_toInt_le.mp (c370.2); simp only [F_gate, Int32.le_iff_toInt_le, Int32.lt_iff_toInt_lt, ← Int32.toInt_inj]; simp; omega) | (have : 0 ≤ (v).toInt := Int32.le_iff_toInt_le.mp (c370.1); have : (v).toInt ≤ 9 := Int32.le_iff_toInt_le.mp (c370.2); simp only [F_gate, Int32.le_iff_toInt_le, Int32.lt_iff_toInt_lt, ← Int32.toInt_inj]; split <;> first | rfl | (exfalso; simp at *; omega)) | (have : 0 ≤ (v).toInt := Int32.le_iff_toInt_le.mp (c370.1); have : (v).toInt ≤ 9 := Int32.le_iff_toInt_le.mp (c370.2); unfold F_gate; (repeat' split) <;> first | rfl | (exfalso; (try simp only [Int32.le_iff_toInt_le, Int32.lt_iff_toInt_lt, ← Int32.toInt_inj] at *); first | omega | (simp at *; done) | (simp at *; omega))), rfl, fun a ha => by funext j; simp (disch := omega) only [gup_off, gcp_off]⟩
    · subst c377
      dsimp only [Option.toList, List.cons_append, List.nil_append]
      exact G_iret (pc := 57) (Nat.le_of_ble_eq_true rfl) (Nat.le_of_ble_eq_true rfl) rfl dX11_gate_57 ⟨_, by first | rfl | (simp [F_gate, *]; done) | (have : 0 ≤ (v).toInt := Int32.le_iff_toInt_le.mp (c374.1); have : (v).toInt ≤ 9 := Int32.le_iff_toInt_le.mp (c374.2); simp only [F_gate, Int32.le_iff_toInt_le, Int32.lt_iff_toInt_lt, ← Int32.toInt_inj]; simp; omega) | (have : 0 ≤ (v).toInt := Int32.le_iff_toInt_le.mp (c374.1); have : (v).toInt ≤ 9 := Int32.le_iff_toInt_le.mp (c374.2); simp only [F_gate, Int32.le_iff_toInt_le, Int32.lt_iff_toInt_lt, ← Int32.toInt_inj]; split <;> first | rfl | (exfalso; simp at *; omega)) | (have : 0 ≤ (v).toInt := Int32.le_iff_toInt_le.mp (c374.1); have : (v).toInt ≤ 9 := Int32.le_iff_toInt_le.mp (c374.2); unfold F_gate; (repeat' split) <;> first | rfl | (exfalso; (try simp only [Int32.le_iff_toInt_le, Int32.lt_iff_toInt_lt, ← Int32.toInt_inj] at *); first | omega | (simp at *; done) | (simp at *; omega))), rfl, fun a ha => by funext j; simp (disch := omega) only [gup_off, gcp_off]⟩
    · subst c383
      dsimp only [Option.toList, List.cons_append, List.nil_append]
      exact G_iret (pc := 57) (Nat.le_of_ble_eq_true rfl) (Nat.le_of_ble_eq_true rfl) rfl dX11_gate_57 ⟨_, by first | rfl | (simp [F_gate, *]; done) | (have : 0 ≤ (v).toInt := Int32.le_iff_toInt_le.mp (c379.1); have : (v).toInt ≤ 9 := Int32.le_iff_toInt_le.mp (c379.2); simp only [F_gate, Int32.le_iff_toInt_le, Int32.lt_iff_toInt_lt, ← Int32.toInt_inj]; simp; omega) | (have : 0 ≤ (v).toInt := Int32.le_iff_toInt_le.mp (c379.1); have : (v).toInt ≤ 9 := Int32.le_iff_toInt_le.mp (c379.2); simp only [F_gate, Int32.le_iff_toInt_le, Int32.lt_iff_toInt_lt, ← Int32.toInt_inj]; split <;> first | rfl | (exfalso; simp at *; omega)) | (have : 0 ≤ (v).toInt := Int32.le_iff_toInt_le.mp (c379.1); have : (v).toInt ≤ 9 := Int32.le_iff_toInt_le.mp (c379.2); unfold F_gate; (repeat' split) <;> first | rfl | (exfalso; (try simp only [Int32.le_iff_toInt_le, Int32.lt_iff_toInt_lt, ← Int32.toInt_inj] at *); first | omega | (simp at *; done) | (simp at *; omega))), rfl, fun a ha => by funext j; simp (disch := omega) only [gup_off, gcp_off]⟩
    · subst c390
      dsimp only [Option.toList, List.cons_append, List.nil_append]
      exact G_iret (pc := 57) (Nat.le_of_ble_eq_true rfl) (Nat.le_of_ble_eq_true rfl) rfl dX11_gate_57 ⟨_, by first | rfl | (simp [F_gate, *]; done) | (have : 0 ≤ (v).toInt := Int32.le_iff_toInt_le.mp (c385.1); have : (v).toInt ≤ 9 := Int32.le_iff_toInt_le.mp (c385.2); simp only [F_gate, Int32.le_iff_toInt_le, Int32.lt_iff_toInt_lt, ← Int32.toInt_inj]; simp; omega) | (have : 0 ≤ (v).toInt := Int32.le_iff_toInt_le.mp (c385.1); have : (v).toInt ≤ 9 := Int32.le_iff_toInt_le.mp (c385.2); simp only [F_gate, Int32.le_iff_toInt_le, Int32.lt_iff_toInt_lt, ← Int32.toInt_inj]; split <;> first | rfl | (exfalso; simp at *; omega)) | (have : 0 ≤ (v).toInt := Int32.le_iff_toInt_le.mp (c385.1); have : (v).toInt ≤ 9 := Int32.le_iff_toInt_le.mp (c385.2); unfold F_gate; (repeat' split) <;> first | rfl | (exfalso; (try simp only [Int32.le_iff_toInt_le, Int32.lt_iff_toInt_lt, ← Int32.toInt_inj] at *); first | omega | (simp at *; done) | (simp at *; omega))), rfl, fun a ha => by funext j; simp (disch := omega) only [gup_off, gcp_off]⟩
    · subst c398
      dsimp only [Option.toList, List.cons_append, List.nil_append]
      exact G_iret (pc := 57) (Nat.le_of_ble_eq_true rfl) (Nat.le_of_ble_eq_true rfl) rfl dX11_gate_57 ⟨_, by first | rfl | (simp [F_gate, *]; done) | (have : 0 ≤ (v).toInt := Int32.le_iff_toInt_le.mp (c392.1); have : (v).toInt ≤ 9 := Int32.le_iff_toInt_le.mp (c392.2); simp only [F_gate, Int32.le_iff_toInt_le, Int32.lt_iff_toInt_lt, ← Int32.toInt_inj]; simp; omega) | (have : 0 ≤ (v).toInt := Int32.le_iff_toInt_le.mp (c392.1); have : (v).toInt ≤ 9 := Int32.le_iff_toInt_le.mp (c392.2); simp only [F_gate, Int32.le_iff_toInt_le, Int32.lt_iff_toInt_lt, ← Int32.toInt_inj]; split <;> first | rfl | (exfalso; simp at *; omega)) | (have : 0 ≤ (v).toInt := Int32.le_iff_toInt_le.mp (c392.1); have : (v).toInt ≤ 9 := Int32.le_iff_toInt_le.mp (c392.2); unfold F_gate; (repeat' split) <;> first | rfl | (exfalso; (try simp only [Int32.le_iff_toInt_le, Int32.lt_iff_toInt_lt, ← Int32.toInt_inj] at *); first | omega | (simp at *; done) | (simp at *; omega))), rfl, fun a ha => by funext j; simp (disch := omega) only [gup_off, gcp_off]⟩
    · dsimp only [Option.toList, List.cons_append, List.nil_append]
      exact G_iret (pc := 57) (Nat.le_of_ble_eq_true rfl) (Nat.le_of_ble_eq_true rfl) rfl dX11_gate_57 ⟨_, by first | rfl | (simp [F_gate, *]; done) | (have : 0 ≤ (f).toInt := Int32.le_iff_toInt_le.mp (c399.1); have : (f).toInt ≤ 5 := Int32.le_iff_toInt_le.mp (c399.2); have : ¬ (0 ≤ (v).toInt ∧ (v).toInt ≤ 9) := fun z => c400 ⟨Int32.le_iff_toInt_le.mpr z.1, Int32.le_iff_toInt_le.mpr z.2⟩; simp only [F_gate, Int32.le_iff_toInt_le, Int32.lt_iff_toInt_lt, ← Int32.toInt_inj]; simp; omega) | (have : 0 ≤ (f).toInt := Int32.le_iff_toInt_le.mp (c399.1); have : (f).toInt ≤ 5 := Int32.le_iff_toInt_le.mp (c399.2); have : ¬ (0 ≤ (v).toInt ∧ (v).toInt ≤ 9) := fun z => c400 ⟨Int32.le_iff_toInt_le.mpr z.1, Int32.le_iff_toInt_le.mpr z.2⟩; simp only [F_gate, Int32.le_iff_toInt_le, Int32.lt_iff_toInt_lt, ← Int32.toInt_inj]; split <;> first | rfl | (exfalso; simp at *; omega)) | (have : 0 ≤ (f).toInt := Int32.le_iff_toInt_le.mp (c399.1); have : (f).toInt ≤ 5 := Int32.le_iff_toInt_le.mp (c399.2); have : ¬ (0 ≤ (v).toInt ∧ (v).toInt ≤ 9) := fun z => c400 ⟨Int32.le_iff_toInt_le.mpr z.1, Int32.le_iff_toInt_le.mpr z.2⟩; unfold F_gate; (repeat' split) <;> first | rfl | (exfalso; (try simp only [Int32.le_iff_toInt_le, Int32.lt_iff_toInt_lt, ← Int32.toInt_inj] at *); first | omega | (simp at *; done) | (simp at *; omega))), rfl, fun _ _ => rfl⟩
  refine G_look (pc := 1) (tgt := 58) (off := 57) (by decide) (by decide) (by show Op.lookupswitch.offset [(0, 27), (1, 42)] 57 _ = _; rw [lv_osw (a := 0) c311 rfl, lv_osw (a := 1) c356 rfl]; rfl) dX11_gate_1 ?_
  refine G_iconst (pc := 58) (v := (-1)) (by decide) dX11_gate_58 ?_
  exact G_iret (pc := 59) (Nat.le_of_ble_eq_true rfl) (Nat.le_of_ble_eq_true rfl) rfl dX11_gate_59 ⟨_, by first | rfl | (simp [F_gate, *]; done) | (have : (what).toInt ≠ 0 := g_ne (c311); have : (what).toInt ≠ 1 := g_ne (c356); simp only [F_gate, Int32.le_iff_toInt_le, Int32.lt_iff_toInt_lt, ← Int32.toInt_inj]; simp; omega) | (have : (what).toInt ≠ 0 := g_ne (c311); have : (what).toInt ≠ 1 := g_ne (c356); simp only [F_gate, Int32.le_iff_toInt_le, Int32.lt_iff_toInt_lt, ← Int32.toInt_inj]; split <;> first | rfl | (exfalso; simp at *; omega)) | (have : (what).toInt ≠ 0 := g_ne (c311); have : (what).toInt ≠ 1 := g_ne (c356); unfold F_gate; (repeat' split) <;> first | rfl | (exfalso; (try simp only [Int32.le_iff_toInt_le, Int32.lt_iff_toInt_lt, ← Int32.toInt_inj] at *); first | omega | (simp at *; done) | (simp at *; omega))), rfl, fun _ _ => rfl⟩
set_option maxRecDepth 100000 in
set_option maxHeartbeats 4000000 in
theorem s50_X5_add  (d : Nat)  (a0 : Int32) : G (d) mX5_add 0 0 0 0 0 (gent 2 [.ref 55, .int a0]) [] SH0 RF0 I0 (fun r h => r = none ∧ h = (SH0, RF0, (gup (gup I0 56 0 a0) 55 1 1))) := by
  refine G_aload_n (pc := 0) rfl dX5_add_0 ?_
  refine G_getI (pc := 1) (v := 0) (ci := 5) (j := 1) rfl rfl lk_RX5_32 rfl rfl dX5_add_1 ?_
  refine G_sipush (pc := 4) (v := 200) (by decide) dX5_add_4 ?_
  refine G_icmp_ge (pc := 7) (tgt := 30) (by decide) dX5_add_7 (fun z => absurd z (by decide)) (fun _ => ?_)
  refine G_aload_n (pc := 10) rfl dX5_add_10 ?_
  refine G_getR (pc := 11) (r := 56) (ci := 5) (j := 0) rfl lk_RX5_9 rfl rfl rfl dX5_add_11 ?_
  refine G_aload_n (pc := 14) rfl dX5_add_14 ?_
  refine G_getI (pc := 15) (v := 0) (ci := 5) (j := 1) rfl rfl lk_RX5_32 rfl rfl dX5_add_15 ?_
  refine G_iload_n (pc := 18) rfl dX5_add_18 ?_
  refine G_iast (pc := 19) (jj := 0) (by decide) rfl (by unfold vp_in; decide) dX5_add_19 ?_
  refine G_aload_n (pc := 20) rfl dX5_add_20 ?_
  refine G_dup (pc := 21) rfl dX5_add_21 ?_
  refine G_getI (pc := 22) (v := 0) (ci := 5) (j := 1) rfl rfl lk_RX5_32 rfl rfl dX5_add_22 ?_
  refine G_iconst (pc := 25) (v := 1) (by decide) dX5_add_25 ?_
  refine G_iadd (pc := 26) (z := 1) (by decide) dX5_add_26 ?_
  refine G_putI (pc := 27) (ci := 5) (j := 1) rfl lk_RX5_32 rfl rfl rfl trivial dX5_add_27 ?_
  exact G_vret (pc := 30) (Nat.le_of_ble_eq_true rfl) (Nat.le_of_ble_eq_true rfl) rfl dX5_add_30 ⟨rfl, rfl⟩
set_option maxRecDepth 100000 in
set_option maxHeartbeats 4000000 in
theorem s51_X5_add  (d : Nat)  (a0 : Int32) (w0 : Int32) : G (d) mX5_add 0 0 0 0 0 (gent 2 [.ref 55, .int a0]) [] SH0 RF0 (gup (gup I0 56 0 w0) 55 1 1) (fun r h => r = none ∧ h = (SH0, RF0, (gup (gup (gup (gup I0 56 0 w0) 55 1 1) 56 1 a0) 55 1 2))) := by
  refine G_aload_n (pc := 0) rfl dX5_add_0 ?_
  refine G_getI (pc := 1) (v := 1) (ci := 5) (j := 1) rfl rfl lk_RX5_32 rfl rfl dX5_add_1 ?_
  refine G_sipush (pc := 4) (v := 200) (by decide) dX5_add_4 ?_
  refine G_icmp_ge (pc := 7) (tgt := 30) (by decide) dX5_add_7 (fun z => absurd z (by decide)) (fun _ => ?_)
  refine G_aload_n (pc := 10) rfl dX5_add_10 ?_
  refine G_getR (pc := 11) (r := 56) (ci := 5) (j := 0) rfl lk_RX5_9 rfl rfl rfl dX5_add_11 ?_
  refine G_aload_n (pc := 14) rfl dX5_add_14 ?_
  refine G_getI (pc := 15) (v := 1) (ci := 5) (j := 1) rfl rfl lk_RX5_32 rfl rfl dX5_add_15 ?_
  refine G_iload_n (pc := 18) rfl dX5_add_18 ?_
  refine G_iast (pc := 19) (jj := 1) (by decide) rfl (by unfold vp_in; decide) dX5_add_19 ?_
  refine G_aload_n (pc := 20) rfl dX5_add_20 ?_
  refine G_dup (pc := 21) rfl dX5_add_21 ?_
  refine G_getI (pc := 22) (v := 1) (ci := 5) (j := 1) rfl rfl lk_RX5_32 rfl rfl dX5_add_22 ?_
  refine G_iconst (pc := 25) (v := 1) (by decide) dX5_add_25 ?_
  refine G_iadd (pc := 26) (z := 2) (by decide) dX5_add_26 ?_
  refine G_putI (pc := 27) (ci := 5) (j := 1) rfl lk_RX5_32 rfl rfl rfl trivial dX5_add_27 ?_
  exact G_vret (pc := 30) (Nat.le_of_ble_eq_true rfl) (Nat.le_of_ble_eq_true rfl) rfl dX5_add_30 ⟨rfl, rfl⟩
set_option maxRecDepth 100000 in
set_option maxHeartbeats 4000000 in
theorem s52_X5_add  (d : Nat)  (a0 : Int32) (w0 : Int32) (w1 : Int32) : G (d) mX5_add 0 0 0 0 0 (gent 2 [.ref 55, .int a0]) [] SH0 RF0 (gup (gup (gup (gup I0 56 0 w0) 55 1 1) 56 1 w1) 55 1 2) (fun r h => r = none ∧ h = (SH0, RF0, (gup (gup (gup (gup (gup (gup I0 56 0 w0) 55 1 1) 56 1 w1) 55 1 2) 56 2 a0) 55 1 3))) := by
  refine G_aload_n (pc := 0) rfl dX5_add_0 ?_
  refine G_getI (pc := 1) (v := 2) (ci := 5) (j := 1) rfl rfl lk_RX5_32 rfl rfl dX5_add_1 ?_
  refine G_sipush (pc := 4) (v := 200) (by decide) dX5_add_4 ?_
  refine G_icmp_ge (pc := 7) (tgt := 30) (by decide) dX5_add_7 (fun z => absurd z (by decide)) (fun _ => ?_)
  refine G_aload_n (pc := 10) rfl dX5_add_10 ?_
  refine G_getR (pc := 11) (r := 56) (ci := 5) (j := 0) rfl lk_RX5_9 rfl rfl rfl dX5_add_11 ?_
  refine G_aload_n (pc := 14) rfl dX5_add_14 ?_
  refine G_getI (pc := 15) (v := 2) (ci := 5) (j := 1) rfl rfl lk_RX5_32 rfl rfl dX5_add_15 ?_
  refine G_iload_n (pc := 18) rfl dX5_add_18 ?_
  refine G_iast (pc := 19) (jj := 2) (by decide) rfl (by unfold vp_in; decide) dX5_add_19 ?_
  refine G_aload_n (pc := 20) rfl dX5_add_20 ?_
  refine G_dup (pc := 21) rfl dX5_add_21 ?_
  refine G_getI (pc := 22) (v := 2) (ci := 5) (j := 1) rfl rfl lk_RX5_32 rfl rfl dX5_add_22 ?_
  refine G_iconst (pc := 25) (v := 1) (by decide) dX5_add_25 ?_
  refine G_iadd (pc := 26) (z := 3) (by decide) dX5_add_26 ?_
  refine G_putI (pc := 27) (ci := 5) (j := 1) rfl lk_RX5_32 rfl rfl rfl trivial dX5_add_27 ?_
  exact G_vret (pc := 30) (Nat.le_of_ble_eq_true rfl) (Nat.le_of_ble_eq_true rfl) rfl dX5_add_30 ⟨rfl, rfl⟩
set_option maxRecDepth 100000 in
set_option maxHeartbeats 4000000 in
theorem s53_X5_add  (d : Nat)  (a0 : Int32) (w0 : Int32) (w1 : Int32) (w2 : Int32) : G (d) mX5_add 0 0 0 0 0 (gent 2 [.ref 55, .int a0]) [] SH0 RF0 (gup (gup (gup (gup (gup (gup I0 56 0 w0) 55 1 1) 56 1 w1) 55 1 2) 56 2 w2) 55 1 3) (fun r h => r = none ∧ h = (SH0, RF0, (gup (gup (gup (gup (gup (gup (gup (gup I0 56 0 w0) 55 1 1) 56 1 w1) 55 1 2) 56 2 w2) 55 1 3) 56 3 a0) 55 1 4))) := by
  refine G_aload_n (pc := 0) rfl dX5_add_0 ?_
  refine G_getI (pc := 1) (v := 3) (ci := 5) (j := 1) rfl rfl lk_RX5_32 rfl rfl dX5_add_1 ?_
  refine G_sipush (pc := 4) (v := 200) (by decide) dX5_add_4 ?_
  refine G_icmp_ge (pc := 7) (tgt := 30) (by decide) dX5_add_7 (fun z => absurd z (by decide)) (fun _ => ?_)
  refine G_aload_n (pc := 10) rfl dX5_add_10 ?_
  refine G_getR (pc := 11) (r := 56) (ci := 5) (j := 0) rfl lk_RX5_9 rfl rfl rfl dX5_add_11 ?_
  refine G_aload_n (pc := 14) rfl dX5_add_14 ?_
  refine G_getI (pc := 15) (v := 3) (ci := 5) (j := 1) rfl rfl lk_RX5_32 rfl rfl dX5_add_15 ?_
  refine G_iload_n (pc := 18) rfl dX5_add_18 ?_
  refine G_iast (pc := 19) (jj := 3) (by decide) rfl (by unfold vp_in; decide) dX5_add_19 ?_
  refine G_aload_n (pc := 20) rfl dX5_add_20 ?_
  refine G_dup (pc := 21) rfl dX5_add_21 ?_
  refine G_getI (pc := 22) (v := 3) (ci := 5) (j := 1) rfl rfl lk_RX5_32 rfl rfl dX5_add_22 ?_
  refine G_iconst (pc := 25) (v := 1) (by decide) dX5_add_25 ?_
  refine G_iadd (pc := 26) (z := 4) (by decide) dX5_add_26 ?_
  refine G_putI (pc := 27) (ci := 5) (j := 1) rfl lk_RX5_32 rfl rfl rfl trivial dX5_add_27 ?_
  exact G_vret (pc := 30) (Nat.le_of_ble_eq_true rfl) (Nat.le_of_ble_eq_true rfl) rfl dX5_add_30 ⟨rfl, rfl⟩
set_option maxRecDepth 100000 in
set_option maxHeartbeats 4000000 in
theorem s54_X5_add  (d : Nat)  (a0 : Int32) (w0 : Int32) (w1 : Int32) (w2 : Int32) (w3 : Int32) : G (d) mX5_add 0 0 0 0 0 (gent 2 [.ref 55, .int a0]) [] SH0 RF0 (gup (gup (gup (gup (gup (gup (gup (gup I0 56 0 w0) 55 1 1) 56 1 w1) 55 1 2) 56 2 w2) 55 1 3) 56 3 w3) 55 1 4) (fun r h => r = none ∧ h = (SH0, RF0, (gup (gup (gup (gup (gup (gup (gup (gup (gup (gup I0 56 0 w0) 55 1 1) 56 1 w1) 55 1 2) 56 2 w2) 55 1 3) 56 3 w3) 55 1 4) 56 4 a0) 55 1 5))) := by
  refine G_aload_n (pc := 0) rfl dX5_add_0 ?_
  refine G_getI (pc := 1) (v := 4) (ci := 5) (j := 1) rfl rfl lk_RX5_32 rfl rfl dX5_add_1 ?_
  refine G_sipush (pc := 4) (v := 200) (by decide) dX5_add_4 ?_
  refine G_icmp_ge (pc := 7) (tgt := 30) (by decide) dX5_add_7 (fun z => absurd z (by decide)) (fun _ => ?_)
  refine G_aload_n (pc := 10) rfl dX5_add_10 ?_
  refine G_getR (pc := 11) (r := 56) (ci := 5) (j := 0) rfl lk_RX5_9 rfl rfl rfl dX5_add_11 ?_
  refine G_aload_n (pc := 14) rfl dX5_add_14 ?_
  refine G_getI (pc := 15) (v := 4) (ci := 5) (j := 1) rfl rfl lk_RX5_32 rfl rfl dX5_add_15 ?_
  refine G_iload_n (pc := 18) rfl dX5_add_18 ?_
  refine G_iast (pc := 19) (jj := 4) (by decide) rfl (by unfold vp_in; decide) dX5_add_19 ?_
  refine G_aload_n (pc := 20) rfl dX5_add_20 ?_
  refine G_dup (pc := 21) rfl dX5_add_21 ?_
  refine G_getI (pc := 22) (v := 4) (ci := 5) (j := 1) rfl rfl lk_RX5_32 rfl rfl dX5_add_22 ?_
  refine G_iconst (pc := 25) (v := 1) (by decide) dX5_add_25 ?_
  refine G_iadd (pc := 26) (z := 5) (by decide) dX5_add_26 ?_
  refine G_putI (pc := 27) (ci := 5) (j := 1) rfl lk_RX5_32 rfl rfl rfl trivial dX5_add_27 ?_
  exact G_vret (pc := 30) (Nat.le_of_ble_eq_true rfl) (Nat.le_of_ble_eq_true rfl) rfl dX5_add_30 ⟨rfl, rfl⟩
set_option maxRecDepth 100000 in
set_option maxHeartbeats 4000000 in
theorem s55_X5_add  (d : Nat)  (a0 : Int32) (w0 : Int32) (w1 : Int32) (w2 : Int32) (w3 : Int32) (w4 : Int32) : G (d) mX5_add 0 0 0 0 0 (gent 2 [.ref 55, .int a0]) [] SH0 RF0 (gup (gup (gup (gup (gup (gup (gup (gup (gup (gup I0 56 0 w0) 55 1 1) 56 1 w1) 55 1 2) 56 2 w2) 55 1 3) 56 3 w3) 55 1 4) 56 4 w4) 55 1 5) (fun r h => r = none ∧ h = (SH0, RF0, (gup (gup (gup (gup (gup (gup (gup (gup (gup (gup (gup (gup I0 56 0 w0) 55 1 1) 56 1 w1) 55 1 2) 56 2 w2) 55 1 3) 56 3 w3) 55 1 4) 56 4 w4) 55 1 5) 56 5 a0) 55 1 6))) := by
  refine G_aload_n (pc := 0) rfl dX5_add_0 ?_
  refine G_getI (pc := 1) (v := 5) (ci := 5) (j := 1) rfl rfl lk_RX5_32 rfl rfl dX5_add_1 ?_
  refine G_sipush (pc := 4) (v := 200) (by decide) dX5_add_4 ?_
  refine G_icmp_ge (pc := 7) (tgt := 30) (by decide) dX5_add_7 (fun z => absurd z (by decide)) (fun _ => ?_)
  refine G_aload_n (pc := 10) rfl dX5_add_10 ?_
  refine G_getR (pc := 11) (r := 56) (ci := 5) (j := 0) rfl lk_RX5_9 rfl rfl rfl dX5_add_11 ?_
  refine G_aload_n (pc := 14) rfl dX5_add_14 ?_
  refine G_getI (pc := 15) (v := 5) (ci := 5) (j := 1) rfl rfl lk_RX5_32 rfl rfl dX5_add_15 ?_
  refine G_iload_n (pc := 18) rfl dX5_add_18 ?_
  refine G_iast (pc := 19) (jj := 5) (by decide) rfl (by unfold vp_in; decide) dX5_add_19 ?_
  refine G_aload_n (pc := 20) rfl dX5_add_20 ?_
  refine G_dup (pc := 21) rfl dX5_add_21 ?_
  refine G_getI (pc := 22) (v := 5) (ci := 5) (j := 1) rfl rfl lk_RX5_32 rfl rfl dX5_add_22 ?_
  refine G_iconst (pc := 25) (v := 1) (by decide) dX5_add_25 ?_
  refine G_iadd (pc := 26) (z := 6) (by decide) dX5_add_26 ?_
  refine G_putI (pc := 27) (ci := 5) (j := 1) rfl lk_RX5_32 rfl rfl rfl trivial dX5_add_27 ?_
  exact G_vret (pc := 30) (Nat.le_of_ble_eq_true rfl) (Nat.le_of_ble_eq_true rfl) rfl dX5_add_30 ⟨rfl, rfl⟩
set_option maxRecDepth 100000 in
set_option maxHeartbeats 4000000 in
theorem s56_X5_add  (d : Nat)  (a0 : Int32) (w0 : Int32) (w1 : Int32) (w2 : Int32) (w3 : Int32) (w4 : Int32) (w5 : Int32) : G (d) mX5_add 0 0 0 0 0 (gent 2 [.ref 55, .int a0]) [] SH0 RF0 (gup (gup (gup (gup (gup (gup (gup (gup (gup (gup (gup (gup I0 56 0 w0) 55 1 1) 56 1 w1) 55 1 2) 56 2 w2) 55 1 3) 56 3 w3) 55 1 4) 56 4 w4) 55 1 5) 56 5 w5) 55 1 6) (fun r h => r = none ∧ h = (SH0, RF0, (gup (gup (gup (gup (gup (gup (gup (gup (gup (gup (gup (gup (gup (gup I0 56 0 w0) 55 1 1) 56 1 w1) 55 1 2) 56 2 w2) 55 1 3) 56 3 w3) 55 1 4) 56 4 w4) 55 1 5) 56 5 w5) 55 1 6) 56 6 a0) 55 1 7))) := by
  refine G_aload_n (pc := 0) rfl dX5_add_0 ?_
  refine G_getI (pc := 1) (v := 6) (ci := 5) (j := 1) rfl rfl lk_RX5_32 rfl rfl dX5_add_1 ?_
  refine G_sipush (pc := 4) (v := 200) (by decide) dX5_add_4 ?_
  refine G_icmp_ge (pc := 7) (tgt := 30) (by decide) dX5_add_7 (fun z => absurd z (by decide)) (fun _ => ?_)
  refine G_aload_n (pc := 10) rfl dX5_add_10 ?_
  refine G_getR (pc := 11) (r := 56) (ci := 5) (j := 0) rfl lk_RX5_9 rfl rfl rfl dX5_add_11 ?_
  refine G_aload_n (pc := 14) rfl dX5_add_14 ?_
  refine G_getI (pc := 15) (v := 6) (ci := 5) (j := 1) rfl rfl lk_RX5_32 rfl rfl dX5_add_15 ?_
  refine G_iload_n (pc := 18) rfl dX5_add_18 ?_
  refine G_iast (pc := 19) (jj := 6) (by decide) rfl (by unfold vp_in; decide) dX5_add_19 ?_
  refine G_aload_n (pc := 20) rfl dX5_add_20 ?_
  refine G_dup (pc := 21) rfl dX5_add_21 ?_
  refine G_getI (pc := 22) (v := 6) (ci := 5) (j := 1) rfl rfl lk_RX5_32 rfl rfl dX5_add_22 ?_
  refine G_iconst (pc := 25) (v := 1) (by decide) dX5_add_25 ?_
  refine G_iadd (pc := 26) (z := 7) (by decide) dX5_add_26 ?_
  refine G_putI (pc := 27) (ci := 5) (j := 1) rfl lk_RX5_32 rfl rfl rfl trivial dX5_add_27 ?_
  exact G_vret (pc := 30) (Nat.le_of_ble_eq_true rfl) (Nat.le_of_ble_eq_true rfl) rfl dX5_add_30 ⟨rfl, rfl⟩
set_option maxRecDepth 100000 in
set_option maxHeartbeats 4000000 in
theorem s57_X5_add  (d : Nat)  (a0 : Int32) (w0 : Int32) (w1 : Int32) (w2 : Int32) (w3 : Int32) (w4 : Int32) (w5 : Int32) (w6 : Int32) : G (d) mX5_add 0 0 0 0 0 (gent 2 [.ref 55, .int a0]) [] SH0 RF0 (gup (gup (gup (gup (gup (gup (gup (gup (gup (gup (gup (gup (gup (gup I0 56 0 w0) 55 1 1) 56 1 w1) 55 1 2) 56 2 w2) 55 1 3) 56 3 w3) 55 1 4) 56 4 w4) 55 1 5) 56 5 w5) 55 1 6) 56 6 w6) 55 1 7) (fun r h => r = none ∧ h = (SH0, RF0, (gup (gup (gup (gup (gup (gup (gup (gup (gup (gup (gup (gup (gup (gup (gup (gup I0 56 0 w0) 55 1 1) 56 1 w1) 55 1 2) 56 2 w2) 55 1 3) 56 3 w3) 55 1 4) 56 4 w4) 55 1 5) 56 5 w5) 55 1 6) 56 6 w6) 55 1 7) 56 7 a0) 55 1 8))) := by
  refine G_aload_n (pc := 0) rfl dX5_add_0 ?_
  refine G_getI (pc := 1) (v := 7) (ci := 5) (j := 1) rfl rfl lk_RX5_32 rfl rfl dX5_add_1 ?_
  refine G_sipush (pc := 4) (v := 200) (by decide) dX5_add_4 ?_
  refine G_icmp_ge (pc := 7) (tgt := 30) (by decide) dX5_add_7 (fun z => absurd z (by decide)) (fun _ => ?_)
  refine G_aload_n (pc := 10) rfl dX5_add_10 ?_
  refine G_getR (pc := 11) (r := 56) (ci := 5) (j := 0) rfl lk_RX5_9 rfl rfl rfl dX5_add_11 ?_
  refine G_aload_n (pc := 14) rfl dX5_add_14 ?_
  refine G_getI (pc := 15) (v := 7) (ci := 5) (j := 1) rfl rfl lk_RX5_32 rfl rfl dX5_add_15 ?_
  refine G_iload_n (pc := 18) rfl dX5_add_18 ?_
  refine G_iast (pc := 19) (jj := 7) (by decide) rfl (by unfold vp_in; decide) dX5_add_19 ?_
  refine G_aload_n (pc := 20) rfl dX5_add_20 ?_
  refine G_dup (pc := 21) rfl dX5_add_21 ?_
  refine G_getI (pc := 22) (v := 7) (ci := 5) (j := 1) rfl rfl lk_RX5_32 rfl rfl dX5_add_22 ?_
  refine G_iconst (pc := 25) (v := 1) (by decide) dX5_add_25 ?_
  refine G_iadd (pc := 26) (z := 8) (by decide) dX5_add_26 ?_
  refine G_putI (pc := 27) (ci := 5) (j := 1) rfl lk_RX5_32 rfl rfl rfl trivial dX5_add_27 ?_
  exact G_vret (pc := 30) (Nat.le_of_ble_eq_true rfl) (Nat.le_of_ble_eq_true rfl) rfl dX5_add_30 ⟨rfl, rfl⟩
def F_feed (eight : Int64) (n : Int32) : Int32 := if 1 ≤ n ∧ n ≤ 8 then n else -1
set_option maxRecDepth 100000 in
set_option maxHeartbeats 4000000 in
theorem x_feed (d : Nat) (eight : Int64) (n : Int32) : G (d + 1) mX11_feed 0 0 0 0 0 (gent 5 [.ref 0, .long eight, .int n]) [] SH0 RF0 I0 (fun r h => ∃ I1, r = some (.int (F_feed eight n)) ∧ h = (SH0, RF0, I1) ∧ ∀ a, 67 ≤ a → I1 a = I0 a) := by
  refine G_iload_n (pc := 0) rfl dX11_feed_0 ?_
  refine G_iconst (pc := 1) (v := 1) (by decide) dX11_feed_1 ?_
  refine G_bipush (pc := 2) (v := 8) (by decide) dX11_feed_2 ?_
  refine G_callS (pc := 4) (mc1 := 0) (ms1 := 0) (mj := mX11_isIn) (vs := [_, _, _]) dX11_feed_4 cm_X11_isIn wf_4 wf_6 rfl (Nat.le_of_ble_eq_true rfl) (Nat.le_of_ble_eq_true rfl) (Nat.le_of_ble_eq_true rfl) (Nat.le_of_ble_eq_true rfl) (isIn_s d n 1 8) ?_
  rintro _ _ ⟨rfl, rfl⟩
  dsimp only [Option.toList, List.cons_append, List.nil_append]
  refine G_if_ne (pc := 7) (tgt := 12) (by decide) dX11_feed_7 (fun c401 => ?_) (fun c401 => ?_)
  · have c401 := gB_o c401
    refine G_aload_n (pc := 12) rfl dX11_feed_12 ?_
    refine G_getR (pc := 13) (r := 55) (ci := 11) (j := 4) rfl lk_RX11_75 rfl rfl rfl dX11_feed_13 ?_
    refine G_getI (pc := 16) (v := 0) (ci := 5) (j := 1) rfl rfl lk_RX11_179 rfl rfl dX11_feed_16 ?_
    refine G_iload_n (pc := 19) rfl dX11_feed_19 ?_
    by_cases c402 : n = 1
    · subst c402
      refine G_iadd (pc := 20) (z := 1) (by decide) dX11_feed_20 ?_
      refine G_sipush (pc := 21) (v := 200) (by decide) dX11_feed_21 ?_
      refine G_icmp_le (pc := 24) (tgt := 30) (by decide) dX11_feed_24 (fun _ => ?_) (fun z => absurd (by decide) z)
      refine G_iconst (pc := 30) (v := 0) (by decide) dX11_feed_30 ?_
      refine G_istore (pc := 31) (L1 := [some (.ref 0), some (.long eight), none, some (.int 1), some (.int 0)]) rfl rfl (by decide) dX11_feed_31 ?_
      refine G_iload (pc := 33) rfl dX11_feed_33 ?_
      refine G_iload_n (pc := 35) rfl dX11_feed_35 ?_
      refine G_icmp_ge (pc := 36) (tgt := 64) (by decide) dX11_feed_36 (fun z => absurd z (by decide)) (fun _ => ?_)
      refine G_aload_n (pc := 39) rfl dX11_feed_39 ?_
      refine G_getR (pc := 40) (r := 55) (ci := 11) (j := 4) rfl lk_RX11_75 rfl rfl rfl dX11_feed_40 ?_
      refine G_lload_n (pc := 43) rfl dX11_feed_43 ?_
      refine G_bipush (pc := 44) (v := 8) (by decide) dX11_feed_44 ?_
      refine G_iload (pc := 46) rfl dX11_feed_46 ?_
      refine G_imul (pc := 48) (z := 0) (by decide) dX11_feed_48 ?_
      refine G_lushr (pc := 49) rfl dX11_feed_49 ?_
      refine G_l2i (pc := 50) rfl dX11_feed_50 ?_
      refine G_sipush (pc := 51) (v := 255) (by decide) dX11_feed_51 ?_
      refine G_iand (pc := 54) rfl dX11_feed_54 ?_
      refine G_callV (pc := 55) (mc1 := 0) (ms1 := 0) (ci := 5) (mj := mX5_add) (vs := [_]) dX11_feed_55 rfl rfl cm_X5_add wf_118 wf_120 wf_121 rfl (Nat.le_of_ble_eq_true rfl) (Nat.le_of_ble_eq_true rfl) (Nat.le_of_ble_eq_true rfl) (Nat.le_of_ble_eq_true rfl) (s50_X5_add  d  _) ?_
      rintro _ _ ⟨rfl, rfl⟩
      dsimp only [Option.toList, List.cons_append, List.nil_append]
      refine G_iinc (pc := 58) (v := 1) (w := 1) (L1 := [some (.ref 0), some (.long eight), none, some (.int 1), some (.int 1)]) (by decide) rfl rfl (by decide) rfl (by decide) dX11_feed_58 ?_
      refine G_goto (pc := 61) (tgt := 33) (by decide) dX11_feed_61 ?_
      refine G_iload (pc := 33) rfl dX11_feed_33 ?_
      refine G_iload_n (pc := 35) rfl dX11_feed_35 ?_
      refine G_icmp_ge (pc := 36) (tgt := 64) (by decide) dX11_feed_36 (fun _ => ?_) (fun z => absurd (by decide) z)
      refine G_aload_n (pc := 64) rfl dX11_feed_64 ?_
      refine G_getR (pc := 65) (r := 55) (ci := 11) (j := 4) rfl lk_RX11_75 rfl rfl rfl dX11_feed_65 ?_
      refine G_getI (pc := 68) (v := 1) (ci := 5) (j := 1) rfl rfl lk_RX11_179 rfl rfl dX11_feed_68 ?_
      exact G_iret (pc := 71) (Nat.le_of_ble_eq_true rfl) (Nat.le_of_ble_eq_true rfl) rfl dX11_feed_71 ⟨_, by first | rfl | (simp [F_feed, *]; done) | (simp only [F_feed, Int32.le_iff_toInt_le, Int32.lt_iff_toInt_lt, ← Int32.toInt_inj]; simp; omega) | (simp only [F_feed, Int32.le_iff_toInt_le, Int32.lt_iff_toInt_lt, ← Int32.toInt_inj]; split <;> first | rfl | (exfalso; simp at *; omega)) | (unfold F_feed; (repeat' split) <;> first | rfl | (exfalso; (try simp only [Int32.le_iff_toInt_le, Int32.lt_iff_toInt_lt, ← Int32.toInt_inj] at *); first | omega | (simp at *; done) | (simp at *; omega))), rfl, fun a ha => by funext j; simp (disch := omega) only [gup_off, gcp_off]⟩
    by_cases c403 : n = 2
    · subst c403
      refine G_iadd (pc := 20) (z := 2) (by decide) dX11_feed_20 ?_
      refine G_sipush (pc := 21) (v := 200) (by decide) dX11_feed_21 ?_
      refine G_icmp_le (pc := 24) (tgt := 30) (by decide) dX11_feed_24 (fun _ => ?_) (fun z => absurd (by decide) z)
      refine G_iconst (pc := 30) (v := 0) (by decide) dX11_feed_30 ?_
      refine G_istore (pc := 31) (L1 := [some (.ref 0), some (.long eight), none, some (.int 2), some (.int 0)]) rfl rfl (by decide) dX11_feed_31 ?_
      refine G_iload (pc := 33) rfl dX11_feed_33 ?_
      refine G_iload_n (pc := 35) rfl dX11_feed_35 ?_
      refine G_icmp_ge (pc := 36) (tgt := 64) (by decide) dX11_feed_36 (fun z => absurd z (by decide)) (fun _ => ?_)
      refine G_aload_n (pc := 39) rfl dX11_feed_39 ?_
      refine G_getR (pc := 40) (r := 55) (ci := 11) (j := 4) rfl lk_RX11_75 rfl rfl rfl dX11_feed_40 ?_
      refine G_lload_n (pc := 43) rfl dX11_feed_43 ?_
      refine G_bipush (pc := 44) (v := 8) (by decide) dX11_feed_44 ?_
      refine G_iload (pc := 46) rfl dX11_feed_46 ?_
      refine G_imul (pc := 48) (z := 0) (by decide) dX11_feed_48 ?_
      refine G_lushr (pc := 49) rfl dX11_feed_49 ?_
      refine G_l2i (pc := 50) rfl dX11_feed_50 ?_
      refine G_sipush (pc := 51) (v := 255) (by decide) dX11_feed_51 ?_
      refine G_iand (pc := 54) rfl dX11_feed_54 ?_
      refine G_callV (pc := 55) (mc1 := 0) (ms1 := 0) (ci := 5) (mj := mX5_add) (vs := [_]) dX11_feed_55 rfl rfl cm_X5_add wf_118 wf_120 wf_121 rfl (Nat.le_of_ble_eq_true rfl) (Nat.le_of_ble_eq_true rfl) (Nat.le_of_ble_eq_true rfl) (Nat.le_of_ble_eq_true rfl) (s50_X5_add  d  _) ?_
      rintro _ _ ⟨rfl, rfl⟩
      dsimp only [Option.toList, List.cons_append, List.nil_append]
      refine G_iinc (pc := 58) (v := 1) (w := 1) (L1 := [some (.ref 0), some (.long eight), none, some (.int 2), some (.int 1)]) (by decide) rfl rfl (by decide) rfl (by decide) dX11_feed_58 ?_
      refine G_goto (pc := 61) (tgt := 33) (by decide) dX11_feed_61 ?_
      refine G_iload (pc := 33) rfl dX11_feed_33 ?_
      refine G_iload_n (pc := 35) rfl dX11_feed_35 ?_
      refine G_icmp_ge (pc := 36) (tgt := 64) (by decide) dX11_feed_36 (fun z => absurd z (by decide)) (fun _ => ?_)
      refine G_aload_n (pc := 39) rfl dX11_feed_39 ?_
      refine G_getR (pc := 40) (r := 55) (ci := 11) (j := 4) rfl lk_RX11_75 rfl rfl rfl dX11_feed_40 ?_
      refine G_lload_n (pc := 43) rfl dX11_feed_43 ?_
      refine G_bipush (pc := 44) (v := 8) (by decide) dX11_feed_44 ?_
      refine G_iload (pc := 46) rfl dX11_feed_46 ?_
      refine G_imul (pc := 48) (z := 8) (by decide) dX11_feed_48 ?_
      refine G_lushr (pc := 49) rfl dX11_feed_49 ?_
      refine G_l2i (pc := 50) rfl dX11_feed_50 ?_
      refine G_sipush (pc := 51) (v := 255) (by decide) dX11_feed_51 ?_
      refine G_iand (pc := 54) rfl dX11_feed_54 ?_
      refine G_callV (pc := 55) (mc1 := 0) (ms1 := 0) (ci := 5) (mj := mX5_add) (vs := [_]) dX11_feed_55 rfl rfl cm_X5_add wf_118 wf_120 wf_121 rfl (Nat.le_of_ble_eq_true rfl) (Nat.le_of_ble_eq_true rfl) (Nat.le_of_ble_eq_true rfl) (Nat.le_of_ble_eq_true rfl) (s51_X5_add  d  _ _) ?_
      rintro _ _ ⟨rfl, rfl⟩
      dsimp only [Option.toList, List.cons_append, List.nil_append]
      refine G_iinc (pc := 58) (v := 1) (w := 2) (L1 := [some (.ref 0), some (.long eight), none, some (.int 2), some (.int 2)]) (by decide) rfl rfl (by decide) rfl (by decide) dX11_feed_58 ?_
      refine G_goto (pc := 61) (tgt := 33) (by decide) dX11_feed_61 ?_
      refine G_iload (pc := 33) rfl dX11_feed_33 ?_
      refine G_iload_n (pc := 35) rfl dX11_feed_35 ?_
      refine G_icmp_ge (pc := 36) (tgt := 64) (by decide) dX11_feed_36 (fun _ => ?_) (fun z => absurd (by decide) z)
      refine G_aload_n (pc := 64) rfl dX11_feed_64 ?_
      refine G_getR (pc := 65) (r := 55) (ci := 11) (j := 4) rfl lk_RX11_75 rfl rfl rfl dX11_feed_65 ?_
      refine G_getI (pc := 68) (v := 2) (ci := 5) (j := 1) rfl rfl lk_RX11_179 rfl rfl dX11_feed_68 ?_
      exact G_iret (pc := 71) (Nat.le_of_ble_eq_true rfl) (Nat.le_of_ble_eq_true rfl) rfl dX11_feed_71 ⟨_, by first | rfl | (simp [F_feed, *]; done) | (simp only [F_feed, Int32.le_iff_toInt_le, Int32.lt_iff_toInt_lt, ← Int32.toInt_inj]; simp; omega) | (simp only [F_feed, Int32.le_iff_toInt_le, Int32.lt_iff_toInt_lt, ← Int32.toInt_inj]; split <;> first | rfl | (exfalso; simp at *; omega)) | (unfold F_feed; (repeat' split) <;> first | rfl | (exfalso; (try simp only [Int32.le_iff_toInt_le, Int32.lt_iff_toInt_lt, ← Int32.toInt_inj] at *); first | omega | (simp at *; done) | (simp at *; omega))), rfl, fun a ha => by funext j; simp (disch := omega) only [gup_off, gcp_off]⟩
    by_cases c404 : n = 3
    · subst c404
      refine G_iadd (pc := 20) (z := 3) (by decide) dX11_feed_20 ?_
      refine G_sipush (pc := 21) (v := 200) (by decide) dX11_feed_21 ?_
      refine G_icmp_le (pc := 24) (tgt := 30) (by decide) dX11_feed_24 (fun _ => ?_) (fun z => absurd (by decide) z)
      refine G_iconst (pc := 30) (v := 0) (by decide) dX11_feed_30 ?_
      refine G_istore (pc := 31) (L1 := [some (.ref 0), some (.long eight), none, some (.int 3), some (.int 0)]) rfl rfl (by decide) dX11_feed_31 ?_
      refine G_iload (pc := 33) rfl dX11_feed_33 ?_
      refine G_iload_n (pc := 35) rfl dX11_feed_35 ?_
      refine G_icmp_ge (pc := 36) (tgt := 64) (by decide) dX11_feed_36 (fun z => absurd z (by decide)) (fun _ => ?_)
      refine G_aload_n (pc := 39) rfl dX11_feed_39 ?_
      refine G_getR (pc := 40) (r := 55) (ci := 11) (j := 4) rfl lk_RX11_75 rfl rfl rfl dX11_feed_40 ?_
      refine G_lload_n (pc := 43) rfl dX11_feed_43 ?_
      refine G_bipush (pc := 44) (v := 8) (by decide) dX11_feed_44 ?_
      refine G_iload (pc := 46) rfl dX11_feed_46 ?_
      refine G_imul (pc := 48) (z := 0) (by decide) dX11_feed_48 ?_
      refine G_lushr (pc := 49) rfl dX11_feed_49 ?_
      refine G_l2i (pc := 50) rfl dX11_feed_50 ?_
      refine G_sipush (pc := 51) (v := 255) (by decide) dX11_feed_51 ?_
      refine G_iand (pc := 54) rfl dX11_feed_54 ?_
      refine G_callV (pc := 55) (mc1 := 0) (ms1 := 0) (ci := 5) (mj := mX5_add) (vs := [_]) dX11_feed_55 rfl rfl cm_X5_add wf_118 wf_120 wf_121 rfl (Nat.le_of_ble_eq_true rfl) (Nat.le_of_ble_eq_true rfl) (Nat.le_of_ble_eq_true rfl) (Nat.le_of_ble_eq_true rfl) (s50_X5_add  d  _) ?_
      rintro _ _ ⟨rfl, rfl⟩
      dsimp only [Option.toList, List.cons_append, List.nil_append]
      refine G_iinc (pc := 58) (v := 1) (w := 1) (L1 := [some (.ref 0), some (.long eight), none, some (.int 3), some (.int 1)]) (by decide) rfl rfl (by decide) rfl (by decide) dX11_feed_58 ?_
      refine G_goto (pc := 61) (tgt := 33) (by decide) dX11_feed_61 ?_
      refine G_iload (pc := 33) rfl dX11_feed_33 ?_
      refine G_iload_n (pc := 35) rfl dX11_feed_35 ?_
      refine G_icmp_ge (pc := 36) (tgt := 64) (by decide) dX11_feed_36 (fun z => absurd z (by decide)) (fun _ => ?_)
      refine G_aload_n (pc := 39) rfl dX11_feed_39 ?_
      refine G_getR (pc := 40) (r := 55) (ci := 11) (j := 4) rfl lk_RX11_75 rfl rfl rfl dX11_feed_40 ?_
      refine G_lload_n (pc := 43) rfl dX11_feed_43 ?_
      refine G_bipush (pc := 44) (v := 8) (by decide) dX11_feed_44 ?_
      refine G_iload (pc := 46) rfl dX11_feed_46 ?_
      refine G_imul (pc := 48) (z := 8) (by decide) dX11_feed_48 ?_
      refine G_lushr (pc := 49) rfl dX11_feed_49 ?_
      refine G_l2i (pc := 50) rfl dX11_feed_50 ?_
      refine G_sipush (pc := 51) (v := 255) (by decide) dX11_feed_51 ?_
      refine G_iand (pc := 54) rfl dX11_feed_54 ?_
      refine G_callV (pc := 55) (mc1 := 0) (ms1 := 0) (ci := 5) (mj := mX5_add) (vs := [_]) dX11_feed_55 rfl rfl cm_X5_add wf_118 wf_120 wf_121 rfl (Nat.le_of_ble_eq_true rfl) (Nat.le_of_ble_eq_true rfl) (Nat.le_of_ble_eq_true rfl) (Nat.le_of_ble_eq_true rfl) (s51_X5_add  d  _ _) ?_
      rintro _ _ ⟨rfl, rfl⟩
      dsimp only [Option.toList, List.cons_append, List.nil_append]
      refine G_iinc (pc := 58) (v := 1) (w := 2) (L1 := [some (.ref 0), some (.long eight), none, some (.int 3), some (.int 2)]) (by decide) rfl rfl (by decide) rfl (by decide) dX11_feed_58 ?_
      refine G_goto (pc := 61) (tgt := 33) (by decide) dX11_feed_61 ?_
      refine G_iload (pc := 33) rfl dX11_feed_33 ?_
      refine G_iload_n (pc := 35) rfl dX11_feed_35 ?_
      refine G_icmp_ge (pc := 36) (tgt := 64) (by decide) dX11_feed_36 (fun z => absurd z (by decide)) (fun _ => ?_)
      refine G_aload_n (pc := 39) rfl dX11_feed_39 ?_
      refine G_getR (pc := 40) (r := 55) (ci := 11) (j := 4) rfl lk_RX11_75 rfl rfl rfl dX11_feed_40 ?_
      refine G_lload_n (pc := 43) rfl dX11_feed_43 ?_
      refine G_bipush (pc := 44) (v := 8) (by decide) dX11_feed_44 ?_
      refine G_iload (pc := 46) rfl dX11_feed_46 ?_
      refine G_imul (pc := 48) (z := 16) (by decide) dX11_feed_48 ?_
      refine G_lushr (pc := 49) rfl dX11_feed_49 ?_
      refine G_l2i (pc := 50) rfl dX11_feed_50 ?_
      refine G_sipush (pc := 51) (v := 255) (by decide) dX11_feed_51 ?_
      refine G_iand (pc := 54) rfl dX11_feed_54 ?_
      refine G_callV (pc := 55) (mc1 := 0) (ms1 := 0) (ci := 5) (mj := mX5_add) (vs := [_]) dX11_feed_55 rfl rfl cm_X5_add wf_118 wf_120 wf_121 rfl (Nat.le_of_ble_eq_true rfl) (Nat.le_of_ble_eq_true rfl) (Nat.le_of_ble_eq_true rfl) (Nat.le_of_ble_eq_true rfl) (s52_X5_add  d  _ _ _) ?_
      rintro _ _ ⟨rfl, rfl⟩
      dsimp only [Option.toList, List.cons_append, List.nil_append]
      refine G_iinc (pc := 58) (v := 1) (w := 3) (L1 := [some (.ref 0), some (.long eight), none, some (.int 3), some (.int 3)]) (by decide) rfl rfl (by decide) rfl (by decide) dX11_feed_58 ?_
      refine G_goto (pc := 61) (tgt := 33) (by decide) dX11_feed_61 ?_
      refine G_iload (pc := 33) rfl dX11_feed_33 ?_
      refine G_iload_n (pc := 35) rfl dX11_feed_35 ?_
      refine G_icmp_ge (pc := 36) (tgt := 64) (by decide) dX11_feed_36 (fun _ => ?_) (fun z => absurd (by decide) z)
      refine G_aload_n (pc := 64) rfl dX11_feed_64 ?_
      refine G_getR (pc := 65) (r := 55) (ci := 11) (j := 4) rfl lk_RX11_75 rfl rfl rfl dX11_feed_65 ?_
      refine G_getI (pc := 68) (v := 3) (ci := 5) (j := 1) rfl rfl lk_RX11_179 rfl rfl dX11_feed_68 ?_
      exact G_iret (pc := 71) (Nat.le_of_ble_eq_true rfl) (Nat.le_of_ble_eq_true rfl) rfl dX11_feed_71 ⟨_, by first | rfl | (simp [F_feed, *]; done) | (simp only [F_feed, Int32.le_iff_toInt_le, Int32.lt_iff_toInt_lt, ← Int32.toInt_inj]; simp; omega) | (simp only [F_feed, Int32.le_iff_toInt_le, Int32.lt_iff_toInt_lt, ← Int32.toInt_inj]; split <;> first | rfl | (exfalso; simp at *; omega)) | (unfold F_feed; (repeat' split) <;> first | rfl | (exfalso; (try simp only [Int32.le_iff_toInt_le, Int32.lt_iff_toInt_lt, ← Int32.toInt_inj] at *); first | omega | (simp at *; done) | (simp at *; omega))), rfl, fun a ha => by funext j; simp (disch := omega) only [gup_off, gcp_off]⟩
    by_cases c405 : n = 4
    · subst c405
      refine G_iadd (pc := 20) (z := 4) (by decide) dX11_feed_20 ?_
      refine G_sipush (pc := 21) (v := 200) (by decide) dX11_feed_21 ?_
      refine G_icmp_le (pc := 24) (tgt := 30) (by decide) dX11_feed_24 (fun _ => ?_) (fun z => absurd (by decide) z)
      refine G_iconst (pc := 30) (v := 0) (by decide) dX11_feed_30 ?_
      refine G_istore (pc := 31) (L1 := [some (.ref 0), some (.long eight), none, some (.int 4), some (.int 0)]) rfl rfl (by decide) dX11_feed_31 ?_
      refine G_iload (pc := 33) rfl dX11_feed_33 ?_
      refine G_iload_n (pc := 35) rfl dX11_feed_35 ?_
      refine G_icmp_ge (pc := 36) (tgt := 64) (by decide) dX11_feed_36 (fun z => absurd z (by decide)) (fun _ => ?_)
      refine G_aload_n (pc := 39) rfl dX11_feed_39 ?_
      refine G_getR (pc := 40) (r := 55) (ci := 11) (j := 4) rfl lk_RX11_75 rfl rfl rfl dX11_feed_40 ?_
      refine G_lload_n (pc := 43) rfl dX11_feed_43 ?_
      refine G_bipush (pc := 44) (v := 8) (by decide) dX11_feed_44 ?_
      refine G_iload (pc := 46) rfl dX11_feed_46 ?_
      refine G_imul (pc := 48) (z := 0) (by decide) dX11_feed_48 ?_
      refine G_lushr (pc := 49) rfl dX11_feed_49 ?_
      refine G_l2i (pc := 50) rfl dX11_feed_50 ?_
      refine G_sipush (pc := 51) (v := 255) (by decide) dX11_feed_51 ?_
      refine G_iand (pc := 54) rfl dX11_feed_54 ?_
      refine G_callV (pc := 55) (mc1 := 0) (ms1 := 0) (ci := 5) (mj := mX5_add) (vs := [_]) dX11_feed_55 rfl rfl cm_X5_add wf_118 wf_120 wf_121 rfl (Nat.le_of_ble_eq_true rfl) (Nat.le_of_ble_eq_true rfl) (Nat.le_of_ble_eq_true rfl) (Nat.le_of_ble_eq_true rfl) (s50_X5_add  d  _) ?_
      rintro _ _ ⟨rfl, rfl⟩
      dsimp only [Option.toList, List.cons_append, List.nil_append]
      refine G_iinc (pc := 58) (v := 1) (w := 1) (L1 := [some (.ref 0), some (.long eight), none, some (.int 4), some (.int 1)]) (by decide) rfl rfl (by decide) rfl (by decide) dX11_feed_58 ?_
      refine G_goto (pc := 61) (tgt := 33) (by decide) dX11_feed_61 ?_
      refine G_iload (pc := 33) rfl dX11_feed_33 ?_
      refine G_iload_n (pc := 35) rfl dX11_feed_35 ?_
      refine G_icmp_ge (pc := 36) (tgt := 64) (by decide) dX11_feed_36 (fun z => absurd z (by decide)) (fun _ => ?_)
      refine G_aload_n (pc := 39) rfl dX11_feed_39 ?_
      refine G_getR (pc := 40) (r := 55) (ci := 11) (j := 4) rfl lk_RX11_75 rfl rfl rfl dX11_feed_40 ?_
      refine G_lload_n (pc := 43) rfl dX11_feed_43 ?_
      refine G_bipush (pc := 44) (v := 8) (by decide) dX11_feed_44 ?_
      refine G_iload (pc := 46) rfl dX11_feed_46 ?_
      refine G_imul (pc := 48) (z := 8) (by decide) dX11_feed_48 ?_
      refine G_lushr (pc := 49) rfl dX11_feed_49 ?_
      refine G_l2i (pc := 50) rfl dX11_feed_50 ?_
      refine G_sipush (pc := 51) (v := 255) (by decide) dX11_feed_51 ?_
      refine G_iand (pc := 54) rfl dX11_feed_54 ?_
      refine G_callV (pc := 55) (mc1 := 0) (ms1 := 0) (ci := 5) (mj := mX5_add) (vs := [_]) dX11_feed_55 rfl rfl cm_X5_add wf_118 wf_120 wf_121 rfl (Nat.le_of_ble_eq_true rfl) (Nat.le_of_ble_eq_true rfl) (Nat.le_of_ble_eq_true rfl) (Nat.le_of_ble_eq_true rfl) (s51_X5_add  d  _ _) ?_
      rintro _ _ ⟨rfl, rfl⟩
      dsimp only [Option.toList, List.cons_append, List.nil_append]
      refine G_iinc (pc := 58) (v := 1) (w := 2) (L1 := [some (.ref 0), some (.long eight), none, some (.int 4), some (.int 2)]) (by decide) rfl rfl (by decide) rfl (by decide) dX11_feed_58 ?_
      refine G_goto (pc := 61) (tgt := 33) (by decide) dX11_feed_61 ?_
      refine G_iload (pc := 33) rfl dX11_feed_33 ?_
      refine G_iload_n (pc := 35) rfl dX11_feed_35 ?_
      refine G_icmp_ge (pc := 36) (tgt := 64) (by decide) dX11_feed_36 (fun z => absurd z (by decide)) (fun _ => ?_)
      refine G_aload_n (pc := 39) rfl dX11_feed_39 ?_
      refine G_getR (pc := 40) (r := 55) (ci := 11) (j := 4) rfl lk_RX11_75 rfl rfl rfl dX11_feed_40 ?_
      refine G_lload_n (pc := 43) rfl dX11_feed_43 ?_
      refine G_bipush (pc := 44) (v := 8) (by decide) dX11_feed_44 ?_
      refine G_iload (pc := 46) rfl dX11_feed_46 ?_
      refine G_imul (pc := 48) (z := 16) (by decide) dX11_feed_48 ?_
      refine G_lushr (pc := 49) rfl dX11_feed_49 ?_
      refine G_l2i (pc := 50) rfl dX11_feed_50 ?_
      refine G_sipush (pc := 51) (v := 255) (by decide) dX11_feed_51 ?_
      refine G_iand (pc := 54) rfl dX11_feed_54 ?_
      refine G_callV (pc := 55) (mc1 := 0) (ms1 := 0) (ci := 5) (mj := mX5_add) (vs := [_]) dX11_feed_55 rfl rfl cm_X5_add wf_118 wf_120 wf_121 rfl (Nat.le_of_ble_eq_true rfl) (Nat.le_of_ble_eq_true rfl) (Nat.le_of_ble_eq_true rfl) (Nat.le_of_ble_eq_true rfl) (s52_X5_add  d  _ _ _) ?_
      rintro _ _ ⟨rfl, rfl⟩
      dsimp only [Option.toList, List.cons_append, List.nil_append]
      refine G_iinc (pc := 58) (v := 1) (w := 3) (L1 := [some (.ref 0), some (.long eight), none, some (.int 4), some (.int 3)]) (by decide) rfl rfl (by decide) rfl (by decide) dX11_feed_58 ?_
      refine G_goto (pc := 61) (tgt := 33) (by decide) dX11_feed_61 ?_
      refine G_iload (pc := 33) rfl dX11_feed_33 ?_
      refine G_iload_n (pc := 35) rfl dX11_feed_35 ?_
      refine G_icmp_ge (pc := 36) (tgt := 64) (by decide) dX11_feed_36 (fun z => absurd z (by decide)) (fun _ => ?_)
      refine G_aload_n (pc := 39) rfl dX11_feed_39 ?_
      refine G_getR (pc := 40) (r := 55) (ci := 11) (j := 4) rfl lk_RX11_75 rfl rfl rfl dX11_feed_40 ?_
      refine G_lload_n (pc := 43) rfl dX11_feed_43 ?_
      refine G_bipush (pc := 44) (v := 8) (by decide) dX11_feed_44 ?_
      refine G_iload (pc := 46) rfl dX11_feed_46 ?_
      refine G_imul (pc := 48) (z := 24) (by decide) dX11_feed_48 ?_
      refine G_lushr (pc := 49) rfl dX11_feed_49 ?_
      refine G_l2i (pc := 50) rfl dX11_feed_50 ?_
      refine G_sipush (pc := 51) (v := 255) (by decide) dX11_feed_51 ?_
      refine G_iand (pc := 54) rfl dX11_feed_54 ?_
      refine G_callV (pc := 55) (mc1 := 0) (ms1 := 0) (ci := 5) (mj := mX5_add) (vs := [_]) dX11_feed_55 rfl rfl cm_X5_add wf_118 wf_120 wf_121 rfl (Nat.le_of_ble_eq_true rfl) (Nat.le_of_ble_eq_true rfl) (Nat.le_of_ble_eq_true rfl) (Nat.le_of_ble_eq_true rfl) (s53_X5_add  d  _ _ _ _) ?_
      rintro _ _ ⟨rfl, rfl⟩
      dsimp only [Option.toList, List.cons_append, List.nil_append]
      refine G_iinc (pc := 58) (v := 1) (w := 4) (L1 := [some (.ref 0), some (.long eight), none, some (.int 4), some (.int 4)]) (by decide) rfl rfl (by decide) rfl (by decide) dX11_feed_58 ?_
      refine G_goto (pc := 61) (tgt := 33) (by decide) dX11_feed_61 ?_
      refine G_iload (pc := 33) rfl dX11_feed_33 ?_
      refine G_iload_n (pc := 35) rfl dX11_feed_35 ?_
      refine G_icmp_ge (pc := 36) (tgt := 64) (by decide) dX11_feed_36 (fun _ => ?_) (fun z => absurd (by decide) z)
      refine G_aload_n (pc := 64) rfl dX11_feed_64 ?_
      refine G_getR (pc := 65) (r := 55) (ci := 11) (j := 4) rfl lk_RX11_75 rfl rfl rfl dX11_feed_65 ?_
      refine G_getI (pc := 68) (v := 4) (ci := 5) (j := 1) rfl rfl lk_RX11_179 rfl rfl dX11_feed_68 ?_
      exact G_iret (pc := 71) (Nat.le_of_ble_eq_true rfl) (Nat.le_of_ble_eq_true rfl) rfl dX11_feed_71 ⟨_, by first | rfl | (simp [F_feed, *]; done) | (simp only [F_feed, Int32.le_iff_toInt_le, Int32.lt_iff_toInt_lt, ← Int32.toInt_inj]; simp; omega) | (simp only [F_feed, Int32.le_iff_toInt_le, Int32.lt_iff_toInt_lt, ← Int32.toInt_inj]; split <;> first | rfl | (exfalso; simp at *; omega)) | (unfold F_feed; (repeat' split) <;> first | rfl | (exfalso; (try simp only [Int32.le_iff_toInt_le, Int32.lt_iff_toInt_lt, ← Int32.toInt_inj] at *); first | omega | (simp at *; done) | (simp at *; omega))), rfl, fun a ha => by funext j; simp (disch := omega) only [gup_off, gcp_off]⟩
    by_cases c406 : n = 5
    · subst c406
      refine G_iadd (pc := 20) (z := 5) (by decide) dX11_feed_20 ?_
      refine G_sipush (pc := 21) (v := 200) (by decide) dX11_feed_21 ?_
      refine G_icmp_le (pc := 24) (tgt := 30) (by decide) dX11_feed_24 (fun _ => ?_) (fun z => absurd (by decide) z)
      refine G_iconst (pc := 30) (v := 0) (by decide) dX11_feed_30 ?_
      refine G_istore (pc := 31) (L1 := [some (.ref 0), some (.long eight), none, some (.int 5), some (.int 0)]) rfl rfl (by decide) dX11_feed_31 ?_
      refine G_iload (pc := 33) rfl dX11_feed_33 ?_
      refine G_iload_n (pc := 35) rfl dX11_feed_35 ?_
      refine G_icmp_ge (pc := 36) (tgt := 64) (by decide) dX11_feed_36 (fun z => absurd z (by decide)) (fun _ => ?_)
      refine G_aload_n (pc := 39) rfl dX11_feed_39 ?_
      refine G_getR (pc := 40) (r := 55) (ci := 11) (j := 4) rfl lk_RX11_75 rfl rfl rfl dX11_feed_40 ?_
      refine G_lload_n (pc := 43) rfl dX11_feed_43 ?_
      refine G_bipush (pc := 44) (v := 8) (by decide) dX11_feed_44 ?_
      refine G_iload (pc := 46) rfl dX11_feed_46 ?_
      refine G_imul (pc := 48) (z := 0) (by decide) dX11_feed_48 ?_
      refine G_lushr (pc := 49) rfl dX11_feed_49 ?_
      refine G_l2i (pc := 50) rfl dX11_feed_50 ?_
      refine G_sipush (pc := 51) (v := 255) (by decide) dX11_feed_51 ?_
      refine G_iand (pc := 54) rfl dX11_feed_54 ?_
      refine G_callV (pc := 55) (mc1 := 0) (ms1 := 0) (ci := 5) (mj := mX5_add) (vs := [_]) dX11_feed_55 rfl rfl cm_X5_add wf_118 wf_120 wf_121 rfl (Nat.le_of_ble_eq_true rfl) (Nat.le_of_ble_eq_true rfl) (Nat.le_of_ble_eq_true rfl) (Nat.le_of_ble_eq_true rfl) (s50_X5_add  d  _) ?_
      rintro _ _ ⟨rfl, rfl⟩
      dsimp only [Option.toList, List.cons_append, List.nil_append]
      refine G_iinc (pc := 58) (v := 1) (w := 1) (L1 := [some (.ref 0), some (.long eight), none, some (.int 5), some (.int 1)]) (by decide) rfl rfl (by decide) rfl (by decide) dX11_feed_58 ?_
      refine G_goto (pc := 61) (tgt := 33) (by decide) dX11_feed_61 ?_
      refine G_iload (pc := 33) rfl dX11_feed_33 ?_
      refine G_iload_n (pc := 35) rfl dX11_feed_35 ?_
      refine G_icmp_ge (pc := 36) (tgt := 64) (by decide) dX11_feed_36 (fun z => absurd z (by decide)) (fun _ => ?_)
      refine G_aload_n (pc := 39) rfl dX11_feed_39 ?_
      refine G_getR (pc := 40) (r := 55) (ci := 11) (j := 4) rfl lk_RX11_75 rfl rfl rfl dX11_feed_40 ?_
      refine G_lload_n (pc := 43) rfl dX11_feed_43 ?_
      refine G_bipush (pc := 44) (v := 8) (by decide) dX11_feed_44 ?_
      refine G_iload (pc := 46) rfl dX11_feed_46 ?_
      refine G_imul (pc := 48) (z := 8) (by decide) dX11_feed_48 ?_
      refine G_lushr (pc := 49) rfl dX11_feed_49 ?_
      refine G_l2i (pc := 50) rfl dX11_feed_50 ?_
      refine G_sipush (pc := 51) (v := 255) (by decide) dX11_feed_51 ?_
      refine G_iand (pc := 54) rfl dX11_feed_54 ?_
      refine G_callV (pc := 55) (mc1 := 0) (ms1 := 0) (ci := 5) (mj := mX5_add) (vs := [_]) dX11_feed_55 rfl rfl cm_X5_add wf_118 wf_120 wf_121 rfl (Nat.le_of_ble_eq_true rfl) (Nat.le_of_ble_eq_true rfl) (Nat.le_of_ble_eq_true rfl) (Nat.le_of_ble_eq_true rfl) (s51_X5_add  d  _ _) ?_
      rintro _ _ ⟨rfl, rfl⟩
      dsimp only [Option.toList, List.cons_append, List.nil_append]
      refine G_iinc (pc := 58) (v := 1) (w := 2) (L1 := [some (.ref 0), some (.long eight), none, some (.int 5), some (.int 2)]) (by decide) rfl rfl (by decide) rfl (by decide) dX11_feed_58 ?_
      refine G_goto (pc := 61) (tgt := 33) (by decide) dX11_feed_61 ?_
      refine G_iload (pc := 33) rfl dX11_feed_33 ?_
      refine G_iload_n (pc := 35) rfl dX11_feed_35 ?_
      refine G_icmp_ge (pc := 36) (tgt := 64) (by decide) dX11_feed_36 (fun z => absurd z (by decide)) (fun _ => ?_)
      refine G_aload_n (pc := 39) rfl dX11_feed_39 ?_
      refine G_getR (pc := 40) (r := 55) (ci := 11) (j := 4) rfl lk_RX11_75 rfl rfl rfl dX11_feed_40 ?_
      refine G_lload_n (pc := 43) rfl dX11_feed_43 ?_
      refine G_bipush (pc := 44) (v := 8) (by decide) dX11_feed_44 ?_
      refine G_iload (pc := 46) rfl dX11_feed_46 ?_
      refine G_imul (pc := 48) (z := 16) (by decide) dX11_feed_48 ?_
      refine G_lushr (pc := 49) rfl dX11_feed_49 ?_
      refine G_l2i (pc := 50) rfl dX11_feed_50 ?_
      refine G_sipush (pc := 51) (v := 255) (by decide) dX11_feed_51 ?_
      refine G_iand (pc := 54) rfl dX11_feed_54 ?_
      refine G_callV (pc := 55) (mc1 := 0) (ms1 := 0) (ci := 5) (mj := mX5_add) (vs := [_]) dX11_feed_55 rfl rfl cm_X5_add wf_118 wf_120 wf_121 rfl (Nat.le_of_ble_eq_true rfl) (Nat.le_of_ble_eq_true rfl) (Nat.le_of_ble_eq_true rfl) (Nat.le_of_ble_eq_true rfl) (s52_X5_add  d  _ _ _) ?_
      rintro _ _ ⟨rfl, rfl⟩
      dsimp only [Option.toList, List.cons_append, List.nil_append]
      refine G_iinc (pc := 58) (v := 1) (w := 3) (L1 := [some (.ref 0), some (.long eight), none, some (.int 5), some (.int 3)]) (by decide) rfl rfl (by decide) rfl (by decide) dX11_feed_58 ?_
      refine G_goto (pc := 61) (tgt := 33) (by decide) dX11_feed_61 ?_
      refine G_iload (pc := 33) rfl dX11_feed_33 ?_
      refine G_iload_n (pc := 35) rfl dX11_feed_35 ?_
      refine G_icmp_ge (pc := 36) (tgt := 64) (by decide) dX11_feed_36 (fun z => absurd z (by decide)) (fun _ => ?_)
      refine G_aload_n (pc := 39) rfl dX11_feed_39 ?_
      refine G_getR (pc := 40) (r := 55) (ci := 11) (j := 4) rfl lk_RX11_75 rfl rfl rfl dX11_feed_40 ?_
      refine G_lload_n (pc := 43) rfl dX11_feed_43 ?_
      refine G_bipush (pc := 44) (v := 8) (by decide) dX11_feed_44 ?_
      refine G_iload (pc := 46) rfl dX11_feed_46 ?_
      refine G_imul (pc := 48) (z := 24) (by decide) dX11_feed_48 ?_
      refine G_lushr (pc := 49) rfl dX11_feed_49 ?_
      refine G_l2i (pc := 50) rfl dX11_feed_50 ?_
      refine G_sipush (pc := 51) (v := 255) (by decide) dX11_feed_51 ?_
      refine G_iand (pc := 54) rfl dX11_feed_54 ?_
      refine G_callV (pc := 55) (mc1 := 0) (ms1 := 0) (ci := 5) (mj := mX5_add) (vs := [_]) dX11_feed_55 rfl rfl cm_X5_add wf_118 wf_120 wf_121 rfl (Nat.le_of_ble_eq_true rfl) (Nat.le_of_ble_eq_true rfl) (Nat.le_of_ble_eq_true rfl) (Nat.le_of_ble_eq_true rfl) (s53_X5_add  d  _ _ _ _) ?_
      rintro _ _ ⟨rfl, rfl⟩
      dsimp only [Option.toList, List.cons_append, List.nil_append]
      refine G_iinc (pc := 58) (v := 1) (w := 4) (L1 := [some (.ref 0), some (.long eight), none, some (.int 5), some (.int 4)]) (by decide) rfl rfl (by decide) rfl (by decide) dX11_feed_58 ?_
      refine G_goto (pc := 61) (tgt := 33) (by decide) dX11_feed_61 ?_
      refine G_iload (pc := 33) rfl dX11_feed_33 ?_
      refine G_iload_n (pc := 35) rfl dX11_feed_35 ?_
      refine G_icmp_ge (pc := 36) (tgt := 64) (by decide) dX11_feed_36 (fun z => absurd z (by decide)) (fun _ => ?_)
      refine G_aload_n (pc := 39) rfl dX11_feed_39 ?_
      refine G_getR (pc := 40) (r := 55) (ci := 11) (j := 4) rfl lk_RX11_75 rfl rfl rfl dX11_feed_40 ?_
      refine G_lload_n (pc := 43) rfl dX11_feed_43 ?_
      refine G_bipush (pc := 44) (v := 8) (by decide) dX11_feed_44 ?_
      refine G_iload (pc := 46) rfl dX11_feed_46 ?_
      refine G_imul (pc := 48) (z := 32) (by decide) dX11_feed_48 ?_
      refine G_lushr (pc := 49) rfl dX11_feed_49 ?_
      refine G_l2i (pc := 50) rfl dX11_feed_50 ?_
      refine G_sipush (pc := 51) (v := 255) (by decide) dX11_feed_51 ?_
      refine G_iand (pc := 54) rfl dX11_feed_54 ?_
      refine G_callV (pc := 55) (mc1 := 0) (ms1 := 0) (ci := 5) (mj := mX5_add) (vs := [_]) dX11_feed_55 rfl rfl cm_X5_add wf_118 wf_120 wf_121 rfl (Nat.le_of_ble_eq_true rfl) (Nat.le_of_ble_eq_true rfl) (Nat.le_of_ble_eq_true rfl) (Nat.le_of_ble_eq_true rfl) (s54_X5_add  d  _ _ _ _ _) ?_
      rintro _ _ ⟨rfl, rfl⟩
      dsimp only [Option.toList, List.cons_append, List.nil_append]
      refine G_iinc (pc := 58) (v := 1) (w := 5) (L1 := [some (.ref 0), some (.long eight), none, some (.int 5), some (.int 5)]) (by decide) rfl rfl (by decide) rfl (by decide) dX11_feed_58 ?_
      refine G_goto (pc := 61) (tgt := 33) (by decide) dX11_feed_61 ?_
      refine G_iload (pc := 33) rfl dX11_feed_33 ?_
      refine G_iload_n (pc := 35) rfl dX11_feed_35 ?_
      refine G_icmp_ge (pc := 36) (tgt := 64) (by decide) dX11_feed_36 (fun _ => ?_) (fun z => absurd (by decide) z)
      refine G_aload_n (pc := 64) rfl dX11_feed_64 ?_
      refine G_getR (pc := 65) (r := 55) (ci := 11) (j := 4) rfl lk_RX11_75 rfl rfl rfl dX11_feed_65 ?_
      refine G_getI (pc := 68) (v := 5) (ci := 5) (j := 1) rfl rfl lk_RX11_179 rfl rfl dX11_feed_68 ?_
      exact G_iret (pc := 71) (Nat.le_of_ble_eq_true rfl) (Nat.le_of_ble_eq_true rfl) rfl dX11_feed_71 ⟨_, by first | rfl | (simp [F_feed, *]; done) | (simp only [F_feed, Int32.le_iff_toInt_le, Int32.lt_iff_toInt_lt, ← Int32.toInt_inj]; simp; omega) | (simp only [F_feed, Int32.le_iff_toInt_le, Int32.lt_iff_toInt_lt, ← Int32.toInt_inj]; split <;> first | rfl | (exfalso; simp at *; omega)) | (unfold F_feed; (repeat' split) <;> first | rfl | (exfalso; (try simp only [Int32.le_iff_toInt_le, Int32.lt_iff_toInt_lt, ← Int32.toInt_inj] at *); first | omega | (simp at *; done) | (simp at *; omega))), rfl, fun a ha => by funext j; simp (disch := omega) only [gup_off, gcp_off]⟩
    by_cases c407 : n = 6
    · subst c407
      refine G_iadd (pc := 20) (z := 6) (by decide) dX11_feed_20 ?_
      refine G_sipush (pc := 21) (v := 200) (by decide) dX11_feed_21 ?_
      refine G_icmp_le (pc := 24) (tgt := 30) (by decide) dX11_feed_24 (fun _ => ?_) (fun z => absurd (by decide) z)
      refine G_iconst (pc := 30) (v := 0) (by decide) dX11_feed_30 ?_
      refine G_istore (pc := 31) (L1 := [some (.ref 0), some (.long eight), none, some (.int 6), some (.int 0)]) rfl rfl (by decide) dX11_feed_31 ?_
      refine G_iload (pc := 33) rfl dX11_feed_33 ?_
      refine G_iload_n (pc := 35) rfl dX11_feed_35 ?_
      refine G_icmp_ge (pc := 36) (tgt := 64) (by decide) dX11_feed_36 (fun z => absurd z (by decide)) (fun _ => ?_)
      refine G_aload_n (pc := 39) rfl dX11_feed_39 ?_
      refine G_getR (pc := 40) (r := 55) (ci := 11) (j := 4) rfl lk_RX11_75 rfl rfl rfl dX11_feed_40 ?_
      refine G_lload_n (pc := 43) rfl dX11_feed_43 ?_
      refine G_bipush (pc := 44) (v := 8) (by decide) dX11_feed_44 ?_
      refine G_iload (pc := 46) rfl dX11_feed_46 ?_
      refine G_imul (pc := 48) (z := 0) (by decide) dX11_feed_48 ?_
      refine G_lushr (pc := 49) rfl dX11_feed_49 ?_
      refine G_l2i (pc := 50) rfl dX11_feed_50 ?_
      refine G_sipush (pc := 51) (v := 255) (by decide) dX11_feed_51 ?_
      refine G_iand (pc := 54) rfl dX11_feed_54 ?_
      refine G_callV (pc := 55) (mc1 := 0) (ms1 := 0) (ci := 5) (mj := mX5_add) (vs := [_]) dX11_feed_55 rfl rfl cm_X5_add wf_118 wf_120 wf_121 rfl (Nat.le_of_ble_eq_true rfl) (Nat.le_of_ble_eq_true rfl) (Nat.le_of_ble_eq_true rfl) (Nat.le_of_ble_eq_true rfl) (s50_X5_add  d  _) ?_
      rintro _ _ ⟨rfl, rfl⟩
      dsimp only [Option.toList, List.cons_append, List.nil_append]
      refine G_iinc (pc := 58) (v := 1) (w := 1) (L1 := [some (.ref 0), some (.long eight), none, some (.int 6), some (.int 1)]) (by decide) rfl rfl (by decide) rfl (by decide) dX11_feed_58 ?_
      refine G_goto (pc := 61) (tgt := 33) (by decide) dX11_feed_61 ?_
      refine G_iload (pc := 33) rfl dX11_feed_33 ?_
      refine G_iload_n (pc := 35) rfl dX11_feed_35 ?_
      refine G_icmp_ge (pc := 36) (tgt := 64) (by decide) dX11_feed_36 (fun z => absurd z (by decide)) (fun _ => ?_)
      refine G_aload_n (pc := 39) rfl dX11_feed_39 ?_
      refine G_getR (pc := 40) (r := 55) (ci := 11) (j := 4) rfl lk_RX11_75 rfl rfl rfl dX11_feed_40 ?_
      refine G_lload_n (pc := 43) rfl dX11_feed_43 ?_
      refine G_bipush (pc := 44) (v := 8) (by decide) dX11_feed_44 ?_
      refine G_iload (pc := 46) rfl dX11_feed_46 ?_
      refine G_imul (pc := 48) (z := 8) (by decide) dX11_feed_48 ?_
      refine G_lushr (pc := 49) rfl dX11_feed_49 ?_
      refine G_l2i (pc := 50) rfl dX11_feed_50 ?_
      refine G_sipush (pc := 51) (v := 255) (by decide) dX11_feed_51 ?_
      refine G_iand (pc := 54) rfl dX11_feed_54 ?_
      refine G_callV (pc := 55) (mc1 := 0) (ms1 := 0) (ci := 5) (mj := mX5_add) (vs := [_]) dX11_feed_55 rfl rfl cm_X5_add wf_118 wf_120 wf_121 rfl (Nat.le_of_ble_eq_true rfl) (Nat.le_of_ble_eq_true rfl) (Nat.le_of_ble_eq_true rfl) (Nat.le_of_ble_eq_true rfl) (s51_X5_add  d  _ _) ?_
      rintro _ _ ⟨rfl, rfl⟩
      dsimp only [Option.toList, List.cons_append, List.nil_append]
      refine G_iinc (pc := 58) (v := 1) (w := 2) (L1 := [some (.ref 0), some (.long eight), none, some (.int 6), some (.int 2)]) (by decide) rfl rfl (by decide) rfl (by decide) dX11_feed_58 ?_
      refine G_goto (pc := 61) (tgt := 33) (by decide) dX11_feed_61 ?_
      refine G_iload (pc := 33) rfl dX11_feed_33 ?_
      refine G_iload_n (pc := 35) rfl dX11_feed_35 ?_
      refine G_icmp_ge (pc := 36) (tgt := 64) (by decide) dX11_feed_36 (fun z => absurd z (by decide)) (fun _ => ?_)
      refine G_aload_n (pc := 39) rfl dX11_feed_39 ?_
      refine G_getR (pc := 40) (r := 55) (ci := 11) (j := 4) rfl lk_RX11_75 rfl rfl rfl dX11_feed_40 ?_
      refine G_lload_n (pc := 43) rfl dX11_feed_43 ?_
      refine G_bipush (pc := 44) (v := 8) (by decide) dX11_feed_44 ?_
      refine G_iload (pc := 46) rfl dX11_feed_46 ?_
      refine G_imul (pc := 48) (z := 16) (by decide) dX11_feed_48 ?_
      refine G_lushr (pc := 49) rfl dX11_feed_49 ?_
      refine G_l2i (pc := 50) rfl dX11_feed_50 ?_
      refine G_sipush (pc := 51) (v := 255) (by decide) dX11_feed_51 ?_
      refine G_iand (pc := 54) rfl dX11_feed_54 ?_
      refine G_callV (pc := 55) (mc1 := 0) (ms1 := 0) (ci := 5) (mj := mX5_add) (vs := [_]) dX11_feed_55 rfl rfl cm_X5_add wf_118 wf_120 wf_121 rfl (Nat.le_of_ble_eq_true rfl) (Nat.le_of_ble_eq_true rfl) (Nat.le_of_ble_eq_true rfl) (Nat.le_of_ble_eq_true rfl) (s52_X5_add  d  _ _ _) ?_
      rintro _ _ ⟨rfl, rfl⟩
      dsimp only [Option.toList, List.cons_append, List.nil_append]
      refine G_iinc (pc := 58) (v := 1) (w := 3) (L1 := [some (.ref 0), some (.long eight), none, some (.int 6), some (.int 3)]) (by decide) rfl rfl (by decide) rfl (by decide) dX11_feed_58 ?_
      refine G_goto (pc := 61) (tgt := 33) (by decide) dX11_feed_61 ?_
      refine G_iload (pc := 33) rfl dX11_feed_33 ?_
      refine G_iload_n (pc := 35) rfl dX11_feed_35 ?_
      refine G_icmp_ge (pc := 36) (tgt := 64) (by decide) dX11_feed_36 (fun z => absurd z (by decide)) (fun _ => ?_)
      refine G_aload_n (pc := 39) rfl dX11_feed_39 ?_
      refine G_getR (pc := 40) (r := 55) (ci := 11) (j := 4) rfl lk_RX11_75 rfl rfl rfl dX11_feed_40 ?_
      refine G_lload_n (pc := 43) rfl dX11_feed_43 ?_
      refine G_bipush (pc := 44) (v := 8) (by decide) dX11_feed_44 ?_
      refine G_iload (pc := 46) rfl dX11_feed_46 ?_
      refine G_imul (pc := 48) (z := 24) (by decide) dX11_feed_48 ?_
      refine G_lushr (pc := 49) rfl dX11_feed_49 ?_
      refine G_l2i (pc := 50) rfl dX11_feed_50 ?_
      refine G_sipush (pc := 51) (v := 255) (by decide) dX11_feed_51 ?_
      refine G_iand (pc := 54) rfl dX11_feed_54 ?_
      refine G_callV (pc := 55) (mc1 := 0) (ms1 := 0) (ci := 5) (mj := mX5_add) (vs := [_]) dX11_feed_55 rfl rfl cm_X5_add wf_118 wf_120 wf_121 rfl (Nat.le_of_ble_eq_true rfl) (Nat.le_of_ble_eq_true rfl) (Nat.le_of_ble_eq_true rfl) (Nat.le_of_ble_eq_true rfl) (s53_X5_add  d  _ _ _ _) ?_
      rintro _ _ ⟨rfl, rfl⟩
      dsimp only [Option.toList, List.cons_append, List.nil_append]
      refine G_iinc (pc := 58) (v := 1) (w := 4) (L1 := [some (.ref 0), some (.long eight), none, some (.int 6), some (.int 4)]) (by decide) rfl rfl (by decide) rfl (by decide) dX11_feed_58 ?_
      refine G_goto (pc := 61) (tgt := 33) (by decide) dX11_feed_61 ?_
      refine G_iload (pc := 33) rfl dX11_feed_33 ?_
      refine G_iload_n (pc := 35) rfl dX11_feed_35 ?_
      refine G_icmp_ge (pc := 36) (tgt := 64) (by decide) dX11_feed_36 (fun z => absurd z (by decide)) (fun _ => ?_)
      refine G_aload_n (pc := 39) rfl dX11_feed_39 ?_
      refine G_getR (pc := 40) (r := 55) (ci := 11) (j := 4) rfl lk_RX11_75 rfl rfl rfl dX11_feed_40 ?_
      refine G_lload_n (pc := 43) rfl dX11_feed_43 ?_
      refine G_bipush (pc := 44) (v := 8) (by decide) dX11_feed_44 ?_
      refine G_iload (pc := 46) rfl dX11_feed_46 ?_
      refine G_imul (pc := 48) (z := 32) (by decide) dX11_feed_48 ?_
      refine G_lushr (pc := 49) rfl dX11_feed_49 ?_
      refine G_l2i (pc := 50) rfl dX11_feed_50 ?_
      refine G_sipush (pc := 51) (v := 255) (by decide) dX11_feed_51 ?_
      refine G_iand (pc := 54) rfl dX11_feed_54 ?_
      refine G_callV (pc := 55) (mc1 := 0) (ms1 := 0) (ci := 5) (mj := mX5_add) (vs := [_]) dX11_feed_55 rfl rfl cm_X5_add wf_118 wf_120 wf_121 rfl (Nat.le_of_ble_eq_true rfl) (Nat.le_of_ble_eq_true rfl) (Nat.le_of_ble_eq_true rfl) (Nat.le_of_ble_eq_true rfl) (s54_X5_add  d  _ _ _ _ _) ?_
      rintro _ _ ⟨rfl, rfl⟩
      dsimp only [Option.toList, List.cons_append, List.nil_append]
      refine G_iinc (pc := 58) (v := 1) (w := 5) (L1 := [some (.ref 0), some (.long eight), none, some (.int 6), some (.int 5)]) (by decide) rfl rfl (by decide) rfl (by decide) dX11_feed_58 ?_
      refine G_goto (pc := 61) (tgt := 33) (by decide) dX11_feed_61 ?_
      refine G_iload (pc := 33) rfl dX11_feed_33 ?_
      refine G_iload_n (pc := 35) rfl dX11_feed_35 ?_
      refine G_icmp_ge (pc := 36) (tgt := 64) (by decide) dX11_feed_36 (fun z => absurd z (by decide)) (fun _ => ?_)
      refine G_aload_n (pc := 39) rfl dX11_feed_39 ?_
      refine G_getR (pc := 40) (r := 55) (ci := 11) (j := 4) rfl lk_RX11_75 rfl rfl rfl dX11_feed_40 ?_
      refine G_lload_n (pc := 43) rfl dX11_feed_43 ?_
      refine G_bipush (pc := 44) (v := 8) (by decide) dX11_feed_44 ?_
      refine G_iload (pc := 46) rfl dX11_feed_46 ?_
      refine G_imul (pc := 48) (z := 40) (by decide) dX11_feed_48 ?_
      refine G_lushr (pc := 49) rfl dX11_feed_49 ?_
      refine G_l2i (pc := 50) rfl dX11_feed_50 ?_
      refine G_sipush (pc := 51) (v := 255) (by decide) dX11_feed_51 ?_
      refine G_iand (pc := 54) rfl dX11_feed_54 ?_
      refine G_callV (pc := 55) (mc1 := 0) (ms1 := 0) (ci := 5) (mj := mX5_add) (vs := [_]) dX11_feed_55 rfl rfl cm_X5_add wf_118 wf_120 wf_121 rfl (Nat.le_of_ble_eq_true rfl) (Nat.le_of_ble_eq_true rfl) (Nat.le_of_ble_eq_true rfl) (Nat.le_of_ble_eq_true rfl) (s55_X5_add  d  _ _ _ _ _ _) ?_
      rintro _ _ ⟨rfl, rfl⟩
      dsimp only [Option.toList, List.cons_append, List.nil_append]
      refine G_iinc (pc := 58) (v := 1) (w := 6) (L1 := [some (.ref 0), some (.long eight), none, some (.int 6), some (.int 6)]) (by decide) rfl rfl (by decide) rfl (by decide) dX11_feed_58 ?_
      refine G_goto (pc := 61) (tgt := 33) (by decide) dX11_feed_61 ?_
      refine G_iload (pc := 33) rfl dX11_feed_33 ?_
      refine G_iload_n (pc := 35) rfl dX11_feed_35 ?_
      refine G_icmp_ge (pc := 36) (tgt := 64) (by decide) dX11_feed_36 (fun _ => ?_) (fun z => absurd (by decide) z)
      refine G_aload_n (pc := 64) rfl dX11_feed_64 ?_
      refine G_getR (pc := 65) (r := 55) (ci := 11) (j := 4) rfl lk_RX11_75 rfl rfl rfl dX11_feed_65 ?_
      refine G_getI (pc := 68) (v := 6) (ci := 5) (j := 1) rfl rfl lk_RX11_179 rfl rfl dX11_feed_68 ?_
      exact G_iret (pc := 71) (Nat.le_of_ble_eq_true rfl) (Nat.le_of_ble_eq_true rfl) rfl dX11_feed_71 ⟨_, by first | rfl | (simp [F_feed, *]; done) | (simp only [F_feed, Int32.le_iff_toInt_le, Int32.lt_iff_toInt_lt, ← Int32.toInt_inj]; simp; omega) | (simp only [F_feed, Int32.le_iff_toInt_le, Int32.lt_iff_toInt_lt, ← Int32.toInt_inj]; split <;> first | rfl | (exfalso; simp at *; omega)) | (unfold F_feed; (repeat' split) <;> first | rfl | (exfalso; (try simp only [Int32.le_iff_toInt_le, Int32.lt_iff_toInt_lt, ← Int32.toInt_inj] at *); first | omega | (simp at *; done) | (simp at *; omega))), rfl, fun a ha => by funext j; simp (disch := omega) only [gup_off, gcp_off]⟩
    by_cases c408 : n = 7
    · subst c408
      refine G_iadd (pc := 20) (z := 7) (by decide) dX11_feed_20 ?_
      refine G_sipush (pc := 21) (v := 200) (by decide) dX11_feed_21 ?_
      refine G_icmp_le (pc := 24) (tgt := 30) (by decide) dX11_feed_24 (fun _ => ?_) (fun z => absurd (by decide) z)
      refine G_iconst (pc := 30) (v := 0) (by decide) dX11_feed_30 ?_
      refine G_istore (pc := 31) (L1 := [some (.ref 0), some (.long eight), none, some (.int 7), some (.int 0)]) rfl rfl (by decide) dX11_feed_31 ?_
      refine G_iload (pc := 33) rfl dX11_feed_33 ?_
      refine G_iload_n (pc := 35) rfl dX11_feed_35 ?_
      refine G_icmp_ge (pc := 36) (tgt := 64) (by decide) dX11_feed_36 (fun z => absurd z (by decide)) (fun _ => ?_)
      refine G_aload_n (pc := 39) rfl dX11_feed_39 ?_
      refine G_getR (pc := 40) (r := 55) (ci := 11) (j := 4) rfl lk_RX11_75 rfl rfl rfl dX11_feed_40 ?_
      refine G_lload_n (pc := 43) rfl dX11_feed_43 ?_
      refine G_bipush (pc := 44) (v := 8) (by decide) dX11_feed_44 ?_
      refine G_iload (pc := 46) rfl dX11_feed_46 ?_
      refine G_imul (pc := 48) (z := 0) (by decide) dX11_feed_48 ?_
      refine G_lushr (pc := 49) rfl dX11_feed_49 ?_
      refine G_l2i (pc := 50) rfl dX11_feed_50 ?_
      refine G_sipush (pc := 51) (v := 255) (by decide) dX11_feed_51 ?_
      refine G_iand (pc := 54) rfl dX11_feed_54 ?_
      refine G_callV (pc := 55) (mc1 := 0) (ms1 := 0) (ci := 5) (mj := mX5_add) (vs := [_]) dX11_feed_55 rfl rfl cm_X5_add wf_118 wf_120 wf_121 rfl (Nat.le_of_ble_eq_true rfl) (Nat.le_of_ble_eq_true rfl) (Nat.le_of_ble_eq_true rfl) (Nat.le_of_ble_eq_true rfl) (s50_X5_add  d  _) ?_
      rintro _ _ ⟨rfl, rfl⟩
      dsimp only [Option.toList, List.cons_append, List.nil_append]
      refine G_iinc (pc := 58) (v := 1) (w := 1) (L1 := [some (.ref 0), some (.long eight), none, some (.int 7), some (.int 1)]) (by decide) rfl rfl (by decide) rfl (by decide) dX11_feed_58 ?_
      refine G_goto (pc := 61) (tgt := 33) (by decide) dX11_feed_61 ?_
      refine G_iload (pc := 33) rfl dX11_feed_33 ?_
      refine G_iload_n (pc := 35) rfl dX11_feed_35 ?_
      refine G_icmp_ge (pc := 36) (tgt := 64) (by decide) dX11_feed_36 (fun z => absurd z (by decide)) (fun _ => ?_)
      refine G_aload_n (pc := 39) rfl dX11_feed_39 ?_
      refine G_getR (pc := 40) (r := 55) (ci := 11) (j := 4) rfl lk_RX11_75 rfl rfl rfl dX11_feed_40 ?_
      refine G_lload_n (pc := 43) rfl dX11_feed_43 ?_
      refine G_bipush (pc := 44) (v := 8) (by decide) dX11_feed_44 ?_
      refine G_iload (pc := 46) rfl dX11_feed_46 ?_
      refine G_imul (pc := 48) (z := 8) (by decide) dX11_feed_48 ?_
      refine G_lushr (pc := 49) rfl dX11_feed_49 ?_
      refine G_l2i (pc := 50) rfl dX11_feed_50 ?_
      refine G_sipush (pc := 51) (v := 255) (by decide) dX11_feed_51 ?_
      refine G_iand (pc := 54) rfl dX11_feed_54 ?_
      refine G_callV (pc := 55) (mc1 := 0) (ms1 := 0) (ci := 5) (mj := mX5_add) (vs := [_]) dX11_feed_55 rfl rfl cm_X5_add wf_118 wf_120 wf_121 rfl (Nat.le_of_ble_eq_true rfl) (Nat.le_of_ble_eq_true rfl) (Nat.le_of_ble_eq_true rfl) (Nat.le_of_ble_eq_true rfl) (s51_X5_add  d  _ _) ?_
      rintro _ _ ⟨rfl, rfl⟩
      dsimp only [Option.toList, List.cons_append, List.nil_append]
      refine G_iinc (pc := 58) (v := 1) (w := 2) (L1 := [some (.ref 0), some (.long eight), none, some (.int 7), some (.int 2)]) (by decide) rfl rfl (by decide) rfl (by decide) dX11_feed_58 ?_
      refine G_goto (pc := 61) (tgt := 33) (by decide) dX11_feed_61 ?_
      refine G_iload (pc := 33) rfl dX11_feed_33 ?_
      refine G_iload_n (pc := 35) rfl dX11_feed_35 ?_
      refine G_icmp_ge (pc := 36) (tgt := 64) (by decide) dX11_feed_36 (fun z => absurd z (by decide)) (fun _ => ?_)
      refine G_aload_n (pc := 39) rfl dX11_feed_39 ?_
      refine G_getR (pc := 40) (r := 55) (ci := 11) (j := 4) rfl lk_RX11_75 rfl rfl rfl dX11_feed_40 ?_
      refine G_lload_n (pc := 43) rfl dX11_feed_43 ?_
      refine G_bipush (pc := 44) (v := 8) (by decide) dX11_feed_44 ?_
      refine G_iload (pc := 46) rfl dX11_feed_46 ?_
      refine G_imul (pc := 48) (z := 16) (by decide) dX11_feed_48 ?_
      refine G_lushr (pc := 49) rfl dX11_feed_49 ?_
      refine G_l2i (pc := 50) rfl dX11_feed_50 ?_
      refine G_sipush (pc := 51) (v := 255) (by decide) dX11_feed_51 ?_
      refine G_iand (pc := 54) rfl dX11_feed_54 ?_
      refine G_callV (pc := 55) (mc1 := 0) (ms1 := 0) (ci := 5) (mj := mX5_add) (vs := [_]) dX11_feed_55 rfl rfl cm_X5_add wf_118 wf_120 wf_121 rfl (Nat.le_of_ble_eq_true rfl) (Nat.le_of_ble_eq_true rfl) (Nat.le_of_ble_eq_true rfl) (Nat.le_of_ble_eq_true rfl) (s52_X5_add  d  _ _ _) ?_
      rintro _ _ ⟨rfl, rfl⟩
      dsimp only [Option.toList, List.cons_append, List.nil_append]
      refine G_iinc (pc := 58) (v := 1) (w := 3) (L1 := [some (.ref 0), some (.long eight), none, some (.int 7), some (.int 3)]) (by decide) rfl rfl (by decide) rfl (by decide) dX11_feed_58 ?_
      refine G_goto (pc := 61) (tgt := 33) (by decide) dX11_feed_61 ?_
      refine G_iload (pc := 33) rfl dX11_feed_33 ?_
      refine G_iload_n (pc := 35) rfl dX11_feed_35 ?_
      refine G_icmp_ge (pc := 36) (tgt := 64) (by decide) dX11_feed_36 (fun z => absurd z (by decide)) (fun _ => ?_)
      refine G_aload_n (pc := 39) rfl dX11_feed_39 ?_
      refine G_getR (pc := 40) (r := 55) (ci := 11) (j := 4) rfl lk_RX11_75 rfl rfl rfl dX11_feed_40 ?_
      refine G_lload_n (pc := 43) rfl dX11_feed_43 ?_
      refine G_bipush (pc := 44) (v := 8) (by decide) dX11_feed_44 ?_
      refine G_iload (pc := 46) rfl dX11_feed_46 ?_
      refine G_imul (pc := 48) (z := 24) (by decide) dX11_feed_48 ?_
      refine G_lushr (pc := 49) rfl dX11_feed_49 ?_
      refine G_l2i (pc := 50) rfl dX11_feed_50 ?_
      refine G_sipush (pc := 51) (v := 255) (by decide) dX11_feed_51 ?_
      refine G_iand (pc := 54) rfl dX11_feed_54 ?_
      refine G_callV (pc := 55) (mc1 := 0) (ms1 := 0) (ci := 5) (mj := mX5_add) (vs := [_]) dX11_feed_55 rfl rfl cm_X5_add wf_118 wf_120 wf_121 rfl (Nat.le_of_ble_eq_true rfl) (Nat.le_of_ble_eq_true rfl) (Nat.le_of_ble_eq_true rfl) (Nat.le_of_ble_eq_true rfl) (s53_X5_add  d  _ _ _ _) ?_
      rintro _ _ ⟨rfl, rfl⟩
      dsimp only [Option.toList, List.cons_append, List.nil_append]
      refine G_iinc (pc := 58) (v := 1) (w := 4) (L1 := [some (.ref 0), some (.long eight), none, some (.int 7), some (.int 4)]) (by decide) rfl rfl (by decide) rfl (by decide) dX11_feed_58 ?_
      refine G_goto (pc := 61) (tgt := 33) (by decide) dX11_feed_61 ?_
      refine G_iload (pc := 33) rfl dX11_feed_33 ?_
      refine G_iload_n (pc := 35) rfl dX11_feed_35 ?_
      refine G_icmp_ge (pc := 36) (tgt := 64) (by decide) dX11_feed_36 (fun z => absurd z (by decide)) (fun _ => ?_)
      refine G_aload_n (pc := 39) rfl dX11_feed_39 ?_
      refine G_getR (pc := 40) (r := 55) (ci := 11) (j := 4) rfl lk_RX11_75 rfl rfl rfl dX11_feed_40 ?_
      refine G_lload_n (pc := 43) rfl dX11_feed_43 ?_
      refine G_bipush (pc := 44) (v := 8) (by decide) dX11_feed_44 ?_
      refine G_iload (pc := 46) rfl dX11_feed_46 ?_
      refine G_imul (pc := 48) (z := 32) (by decide) dX11_feed_48 ?_
      refine G_lushr (pc := 49) rfl dX11_feed_49 ?_
      refine G_l2i (pc := 50) rfl dX11_feed_50 ?_
      refine G_sipush (pc := 51) (v := 255) (by decide) dX11_feed_51 ?_
      refine G_iand (pc := 54) rfl dX11_feed_54 ?_
      refine G_callV (pc := 55) (mc1 := 0) (ms1 := 0) (ci := 5) (mj := mX5_add) (vs := [_]) dX11_feed_55 rfl rfl cm_X5_add wf_118 wf_120 wf_121 rfl (Nat.le_of_ble_eq_true rfl) (Nat.le_of_ble_eq_true rfl) (Nat.le_of_ble_eq_true rfl) (Nat.le_of_ble_eq_true rfl) (s54_X5_add  d  _ _ _ _ _) ?_
      rintro _ _ ⟨rfl, rfl⟩
      dsimp only [Option.toList, List.cons_append, List.nil_append]
      refine G_iinc (pc := 58) (v := 1) (w := 5) (L1 := [some (.ref 0), some (.long eight), none, some (.int 7), some (.int 5)]) (by decide) rfl rfl (by decide) rfl (by decide) dX11_feed_58 ?_
      refine G_goto (pc := 61) (tgt := 33) (by decide) dX11_feed_61 ?_
      refine G_iload (pc := 33) rfl dX11_feed_33 ?_
      refine G_iload_n (pc := 35) rfl dX11_feed_35 ?_
      refine G_icmp_ge (pc := 36) (tgt := 64) (by decide) dX11_feed_36 (fun z => absurd z (by decide)) (fun _ => ?_)
      refine G_aload_n (pc := 39) rfl dX11_feed_39 ?_
      refine G_getR (pc := 40) (r := 55) (ci := 11) (j := 4) rfl lk_RX11_75 rfl rfl rfl dX11_feed_40 ?_
      refine G_lload_n (pc := 43) rfl dX11_feed_43 ?_
      refine G_bipush (pc := 44) (v := 8) (by decide) dX11_feed_44 ?_
      refine G_iload (pc := 46) rfl dX11_feed_46 ?_
      refine G_imul (pc := 48) (z := 40) (by decide) dX11_feed_48 ?_
      refine G_lushr (pc := 49) rfl dX11_feed_49 ?_
      refine G_l2i (pc := 50) rfl dX11_feed_50 ?_
      refine G_sipush (pc := 51) (v := 255) (by decide) dX11_feed_51 ?_
      refine G_iand (pc := 54) rfl dX11_feed_54 ?_
      refine G_callV (pc := 55) (mc1 := 0) (ms1 := 0) (ci := 5) (mj := mX5_add) (vs := [_]) dX11_feed_55 rfl rfl cm_X5_add wf_118 wf_120 wf_121 rfl (Nat.le_of_ble_eq_true rfl) (Nat.le_of_ble_eq_true rfl) (Nat.le_of_ble_eq_true rfl) (Nat.le_of_ble_eq_true rfl) (s55_X5_add  d  _ _ _ _ _ _) ?_
      rintro _ _ ⟨rfl, rfl⟩
      dsimp only [Option.toList, List.cons_append, List.nil_append]
      refine G_iinc (pc := 58) (v := 1) (w := 6) (L1 := [some (.ref 0), some (.long eight), none, some (.int 7), some (.int 6)]) (by decide) rfl rfl (by decide) rfl (by decide) dX11_feed_58 ?_
      refine G_goto (pc := 61) (tgt := 33) (by decide) dX11_feed_61 ?_
      refine G_iload (pc := 33) rfl dX11_feed_33 ?_
      refine G_iload_n (pc := 35) rfl dX11_feed_35 ?_
      refine G_icmp_ge (pc := 36) (tgt := 64) (by decide) dX11_feed_36 (fun z => absurd z (by decide)) (fun _ => ?_)
      refine G_aload_n (pc := 39) rfl dX11_feed_39 ?_
      refine G_getR (pc := 40) (r := 55) (ci := 11) (j := 4) rfl lk_RX11_75 rfl rfl rfl dX11_feed_40 ?_
      refine G_lload_n (pc := 43) rfl dX11_feed_43 ?_
      refine G_bipush (pc := 44) (v := 8) (by decide) dX11_feed_44 ?_
      refine G_iload (pc := 46) rfl dX11_feed_46 ?_
      refine G_imul (pc := 48) (z := 48) (by decide) dX11_feed_48 ?_
      refine G_lushr (pc := 49) rfl dX11_feed_49 ?_
      refine G_l2i (pc := 50) rfl dX11_feed_50 ?_
      refine G_sipush (pc := 51) (v := 255) (by decide) dX11_feed_51 ?_
      refine G_iand (pc := 54) rfl dX11_feed_54 ?_
      refine G_callV (pc := 55) (mc1 := 0) (ms1 := 0) (ci := 5) (mj := mX5_add) (vs := [_]) dX11_feed_55 rfl rfl cm_X5_add wf_118 wf_120 wf_121 rfl (Nat.le_of_ble_eq_true rfl) (Nat.le_of_ble_eq_true rfl) (Nat.le_of_ble_eq_true rfl) (Nat.le_of_ble_eq_true rfl) (s56_X5_add  d  _ _ _ _ _ _ _) ?_
      rintro _ _ ⟨rfl, rfl⟩
      dsimp only [Option.toList, List.cons_append, List.nil_append]
      refine G_iinc (pc := 58) (v := 1) (w := 7) (L1 := [some (.ref 0), some (.long eight), none, some (.int 7), some (.int 7)]) (by decide) rfl rfl (by decide) rfl (by decide) dX11_feed_58 ?_
      refine G_goto (pc := 61) (tgt := 33) (by decide) dX11_feed_61 ?_
      refine G_iload (pc := 33) rfl dX11_feed_33 ?_
      refine G_iload_n (pc := 35) rfl dX11_feed_35 ?_
      refine G_icmp_ge (pc := 36) (tgt := 64) (by decide) dX11_feed_36 (fun _ => ?_) (fun z => absurd (by decide) z)
      refine G_aload_n (pc := 64) rfl dX11_feed_64 ?_
      refine G_getR (pc := 65) (r := 55) (ci := 11) (j := 4) rfl lk_RX11_75 rfl rfl rfl dX11_feed_65 ?_
      refine G_getI (pc := 68) (v := 7) (ci := 5) (j := 1) rfl rfl lk_RX11_179 rfl rfl dX11_feed_68 ?_
      exact G_iret (pc := 71) (Nat.le_of_ble_eq_true rfl) (Nat.le_of_ble_eq_true rfl) rfl dX11_feed_71 ⟨_, by first | rfl | (simp [F_feed, *]; done) | (simp only [F_feed, Int32.le_iff_toInt_le, Int32.lt_iff_toInt_lt, ← Int32.toInt_inj]; simp; omega) | (simp only [F_feed, Int32.le_iff_toInt_le, Int32.lt_iff_toInt_lt, ← Int32.toInt_inj]; split <;> first | rfl | (exfalso; simp at *; omega)) | (unfold F_feed; (repeat' split) <;> first | rfl | (exfalso; (try simp only [Int32.le_iff_toInt_le, Int32.lt_iff_toInt_lt, ← Int32.toInt_inj] at *); first | omega | (simp at *; done) | (simp at *; omega))), rfl, fun a ha => by funext j; simp (disch := omega) only [gup_off, gcp_off]⟩
    by_cases c409 : n = 8
    · subst c409
      refine G_iadd (pc := 20) (z := 8) (by decide) dX11_feed_20 ?_
      refine G_sipush (pc := 21) (v := 200) (by decide) dX11_feed_21 ?_
      refine G_icmp_le (pc := 24) (tgt := 30) (by decide) dX11_feed_24 (fun _ => ?_) (fun z => absurd (by decide) z)
      refine G_iconst (pc := 30) (v := 0) (by decide) dX11_feed_30 ?_
      refine G_istore (pc := 31) (L1 := [some (.ref 0), some (.long eight), none, some (.int 8), some (.int 0)]) rfl rfl (by decide) dX11_feed_31 ?_
      refine G_iload (pc := 33) rfl dX11_feed_33 ?_
      refine G_iload_n (pc := 35) rfl dX11_feed_35 ?_
      refine G_icmp_ge (pc := 36) (tgt := 64) (by decide) dX11_feed_36 (fun z => absurd z (by decide)) (fun _ => ?_)
      refine G_aload_n (pc := 39) rfl dX11_feed_39 ?_
      refine G_getR (pc := 40) (r := 55) (ci := 11) (j := 4) rfl lk_RX11_75 rfl rfl rfl dX11_feed_40 ?_
      refine G_lload_n (pc := 43) rfl dX11_feed_43 ?_
      refine G_bipush (pc := 44) (v := 8) (by decide) dX11_feed_44 ?_
      refine G_iload (pc := 46) rfl dX11_feed_46 ?_
      refine G_imul (pc := 48) (z := 0) (by decide) dX11_feed_48 ?_
      refine G_lushr (pc := 49) rfl dX11_feed_49 ?_
      refine G_l2i (pc := 50) rfl dX11_feed_50 ?_
      refine G_sipush (pc := 51) (v := 255) (by decide) dX11_feed_51 ?_
      refine G_iand (pc := 54) rfl dX11_feed_54 ?_
      refine G_callV (pc := 55) (mc1 := 0) (ms1 := 0) (ci := 5) (mj := mX5_add) (vs := [_]) dX11_feed_55 rfl rfl cm_X5_add wf_118 wf_120 wf_121 rfl (Nat.le_of_ble_eq_true rfl) (Nat.le_of_ble_eq_true rfl) (Nat.le_of_ble_eq_true rfl) (Nat.le_of_ble_eq_true rfl) (s50_X5_add  d  _) ?_
      rintro _ _ ⟨rfl, rfl⟩
      dsimp only [Option.toList, List.cons_append, List.nil_append]
      refine G_iinc (pc := 58) (v := 1) (w := 1) (L1 := [some (.ref 0), some (.long eight), none, some (.int 8), some (.int 1)]) (by decide) rfl rfl (by decide) rfl (by decide) dX11_feed_58 ?_
      refine G_goto (pc := 61) (tgt := 33) (by decide) dX11_feed_61 ?_
      refine G_iload (pc := 33) rfl dX11_feed_33 ?_
      refine G_iload_n (pc := 35) rfl dX11_feed_35 ?_
      refine G_icmp_ge (pc := 36) (tgt := 64) (by decide) dX11_feed_36 (fun z => absurd z (by decide)) (fun _ => ?_)
      refine G_aload_n (pc := 39) rfl dX11_feed_39 ?_
      refine G_getR (pc := 40) (r := 55) (ci := 11) (j := 4) rfl lk_RX11_75 rfl rfl rfl dX11_feed_40 ?_
      refine G_lload_n (pc := 43) rfl dX11_feed_43 ?_
      refine G_bipush (pc := 44) (v := 8) (by decide) dX11_feed_44 ?_
      refine G_iload (pc := 46) rfl dX11_feed_46 ?_
      refine G_imul (pc := 48) (z := 8) (by decide) dX11_feed_48 ?_
      refine G_lushr (pc := 49) rfl dX11_feed_49 ?_
      refine G_l2i (pc := 50) rfl dX11_feed_50 ?_
      refine G_sipush (pc := 51) (v := 255) (by decide) dX11_feed_51 ?_
      refine G_iand (pc := 54) rfl dX11_feed_54 ?_
      refine G_callV (pc := 55) (mc1 := 0) (ms1 := 0) (ci := 5) (mj := mX5_add) (vs := [_]) dX11_feed_55 rfl rfl cm_X5_add wf_118 wf_120 wf_121 rfl (Nat.le_of_ble_eq_true rfl) (Nat.le_of_ble_eq_true rfl) (Nat.le_of_ble_eq_true rfl) (Nat.le_of_ble_eq_true rfl) (s51_X5_add  d  _ _) ?_
      rintro _ _ ⟨rfl, rfl⟩
      dsimp only [Option.toList, List.cons_append, List.nil_append]
      refine G_iinc (pc := 58) (v := 1) (w := 2) (L1 := [some (.ref 0), some (.long eight), none, some (.int 8), some (.int 2)]) (by decide) rfl rfl (by decide) rfl (by decide) dX11_feed_58 ?_
      refine G_goto (pc := 61) (tgt := 33) (by decide) dX11_feed_61 ?_
      refine G_iload (pc := 33) rfl dX11_feed_33 ?_
      refine G_iload_n (pc := 35) rfl dX11_feed_35 ?_
      refine G_icmp_ge (pc := 36) (tgt := 64) (by decide) dX11_feed_36 (fun z => absurd z (by decide)) (fun _ => ?_)
      refine G_aload_n (pc := 39) rfl dX11_feed_39 ?_
      refine G_getR (pc := 40) (r := 55) (ci := 11) (j := 4) rfl lk_RX11_75 rfl rfl rfl dX11_feed_40 ?_
      refine G_lload_n (pc := 43) rfl dX11_feed_43 ?_
      refine G_bipush (pc := 44) (v := 8) (by decide) dX11_feed_44 ?_
      refine G_iload (pc := 46) rfl dX11_feed_46 ?_
      refine G_imul (pc := 48) (z := 16) (by decide) dX11_feed_48 ?_
      refine G_lushr (pc := 49) rfl dX11_feed_49 ?_
      refine G_l2i (pc := 50) rfl dX11_feed_50 ?_
      refine G_sipush (pc := 51) (v := 255) (by decide) dX11_feed_51 ?_
      refine G_iand (pc := 54) rfl dX11_feed_54 ?_
      refine G_callV (pc := 55) (mc1 := 0) (ms1 := 0) (ci := 5) (mj := mX5_add) (vs := [_]) dX11_feed_55 rfl rfl cm_X5_add wf_118 wf_120 wf_121 rfl (Nat.le_of_ble_eq_true rfl) (Nat.le_of_ble_eq_true rfl) (Nat.le_of_ble_eq_true rfl) (Nat.le_of_ble_eq_true rfl) (s52_X5_add  d  _ _ _) ?_
      rintro _ _ ⟨rfl, rfl⟩
      dsimp only [Option.toList, List.cons_append, List.nil_append]
      refine G_iinc (pc := 58) (v := 1) (w := 3) (L1 := [some (.ref 0), some (.long eight), none, some (.int 8), some (.int 3)]) (by decide) rfl rfl (by decide) rfl (by decide) dX11_feed_58 ?_
      refine G_goto (pc := 61) (tgt := 33) (by decide) dX11_feed_61 ?_
      refine G_iload (pc := 33) rfl dX11_feed_33 ?_
      refine G_iload_n (pc := 35) rfl dX11_feed_35 ?_
      refine G_icmp_ge (pc := 36) (tgt := 64) (by decide) dX11_feed_36 (fun z => absurd z (by decide)) (fun _ => ?_)
      refine G_aload_n (pc := 39) rfl dX11_feed_39 ?_
      refine G_getR (pc := 40) (r := 55) (ci := 11) (j := 4) rfl lk_RX11_75 rfl rfl rfl dX11_feed_40 ?_
      refine G_lload_n (pc := 43) rfl dX11_feed_43 ?_
      refine G_bipush (pc := 44) (v := 8) (by decide) dX11_feed_44 ?_
      refine G_iload (pc := 46) rfl dX11_feed_46 ?_
      refine G_imul (pc := 48) (z := 24) (by decide) dX11_feed_48 ?_
      refine G_lushr (pc := 49) rfl dX11_feed_49 ?_
      refine G_l2i (pc := 50) rfl dX11_feed_50 ?_
      refine G_sipush (pc := 51) (v := 255) (by decide) dX11_feed_51 ?_
      refine G_iand (pc := 54) rfl dX11_feed_54 ?_
      refine G_callV (pc := 55) (mc1 := 0) (ms1 := 0) (ci := 5) (mj := mX5_add) (vs := [_]) dX11_feed_55 rfl rfl cm_X5_add wf_118 wf_120 wf_121 rfl (Nat.le_of_ble_eq_true rfl) (Nat.le_of_ble_eq_true rfl) (Nat.le_of_ble_eq_true rfl) (Nat.le_of_ble_eq_true rfl) (s53_X5_add  d  _ _ _ _) ?_
      rintro _ _ ⟨rfl, rfl⟩
      dsimp only [Option.toList, List.cons_append, List.nil_append]
      refine G_iinc (pc := 58) (v := 1) (w := 4) (L1 := [some (.ref 0), some (.long eight), none, some (.int 8), some (.int 4)]) (by decide) rfl rfl (by decide) rfl (by decide) dX11_feed_58 ?_
      refine G_goto (pc := 61) (tgt := 33) (by decide) dX11_feed_61 ?_
      refine G_iload (pc := 33) rfl dX11_feed_33 ?_
      refine G_iload_n (pc := 35) rfl dX11_feed_35 ?_
      refine G_icmp_ge (pc := 36) (tgt := 64) (by decide) dX11_feed_36 (fun z => absurd z (by decide)) (fun _ => ?_)
      refine G_aload_n (pc := 39) rfl dX11_feed_39 ?_
      refine G_getR (pc := 40) (r := 55) (ci := 11) (j := 4) rfl lk_RX11_75 rfl rfl rfl dX11_feed_40 ?_
      refine G_lload_n (pc := 43) rfl dX11_feed_43 ?_
      refine G_bipush (pc := 44) (v := 8) (by decide) dX11_feed_44 ?_
      refine G_iload (pc := 46) rfl dX11_feed_46 ?_
      refine G_imul (pc := 48) (z := 32) (by decide) dX11_feed_48 ?_
      refine G_lushr (pc := 49) rfl dX11_feed_49 ?_
      refine G_l2i (pc := 50) rfl dX11_feed_50 ?_
      refine G_sipush (pc := 51) (v := 255) (by decide) dX11_feed_51 ?_
      refine G_iand (pc := 54) rfl dX11_feed_54 ?_
      refine G_callV (pc := 55) (mc1 := 0) (ms1 := 0) (ci := 5) (mj := mX5_add) (vs := [_]) dX11_feed_55 rfl rfl cm_X5_add wf_118 wf_120 wf_121 rfl (Nat.le_of_ble_eq_true rfl) (Nat.le_of_ble_eq_true rfl) (Nat.le_of_ble_eq_true rfl) (Nat.le_of_ble_eq_true rfl) (s54_X5_add  d  _ _ _ _ _) ?_
      rintro _ _ ⟨rfl, rfl⟩
      dsimp only [Option.toList, List.cons_append, List.nil_append]
      refine G_iinc (pc := 58) (v := 1) (w := 5) (L1 := [some (.ref 0), some (.long eight), none, some (.int 8), some (.int 5)]) (by decide) rfl rfl (by decide) rfl (by decide) dX11_feed_58 ?_
      refine G_goto (pc := 61) (tgt := 33) (by decide) dX11_feed_61 ?_
      refine G_iload (pc := 33) rfl dX11_feed_33 ?_
      refine G_iload_n (pc := 35) rfl dX11_feed_35 ?_
      refine G_icmp_ge (pc := 36) (tgt := 64) (by decide) dX11_feed_36 (fun z => absurd z (by decide)) (fun _ => ?_)
      refine G_aload_n (pc := 39) rfl dX11_feed_39 ?_
      refine G_getR (pc := 40) (r := 55) (ci := 11) (j := 4) rfl lk_RX11_75 rfl rfl rfl dX11_feed_40 ?_
      refine G_lload_n (pc := 43) rfl dX11_feed_43 ?_
      refine G_bipush (pc := 44) (v := 8) (by decide) dX11_feed_44 ?_
      refine G_iload (pc := 46) rfl dX11_feed_46 ?_
      refine G_imul (pc := 48) (z := 40) (by decide) dX11_feed_48 ?_
      refine G_lushr (pc := 49) rfl dX11_feed_49 ?_
      refine G_l2i (pc := 50) rfl dX11_feed_50 ?_
      refine G_sipush (pc := 51) (v := 255) (by decide) dX11_feed_51 ?_
      refine G_iand (pc := 54) rfl dX11_feed_54 ?_
      refine G_callV (pc := 55) (mc1 := 0) (ms1 := 0) (ci := 5) (mj := mX5_add) (vs := [_]) dX11_feed_55 rfl rfl cm_X5_add wf_118 wf_120 wf_121 rfl (Nat.le_of_ble_eq_true rfl) (Nat.le_of_ble_eq_true rfl) (Nat.le_of_ble_eq_true rfl) (Nat.le_of_ble_eq_true rfl) (s55_X5_add  d  _ _ _ _ _ _) ?_
      rintro _ _ ⟨rfl, rfl⟩
      dsimp only [Option.toList, List.cons_append, List.nil_append]
      refine G_iinc (pc := 58) (v := 1) (w := 6) (L1 := [some (.ref 0), some (.long eight), none, some (.int 8), some (.int 6)]) (by decide) rfl rfl (by decide) rfl (by decide) dX11_feed_58 ?_
      refine G_goto (pc := 61) (tgt := 33) (by decide) dX11_feed_61 ?_
      refine G_iload (pc := 33) rfl dX11_feed_33 ?_
      refine G_iload_n (pc := 35) rfl dX11_feed_35 ?_
      refine G_icmp_ge (pc := 36) (tgt := 64) (by decide) dX11_feed_36 (fun z => absurd z (by decide)) (fun _ => ?_)
      refine G_aload_n (pc := 39) rfl dX11_feed_39 ?_
      refine G_getR (pc := 40) (r := 55) (ci := 11) (j := 4) rfl lk_RX11_75 rfl rfl rfl dX11_feed_40 ?_
      refine G_lload_n (pc := 43) rfl dX11_feed_43 ?_
      refine G_bipush (pc := 44) (v := 8) (by decide) dX11_feed_44 ?_
      refine G_iload (pc := 46) rfl dX11_feed_46 ?_
      refine G_imul (pc := 48) (z := 48) (by decide) dX11_feed_48 ?_
      refine G_lushr (pc := 49) rfl dX11_feed_49 ?_
      refine G_l2i (pc := 50) rfl dX11_feed_50 ?_
      refine G_sipush (pc := 51) (v := 255) (by decide) dX11_feed_51 ?_
      refine G_iand (pc := 54) rfl dX11_feed_54 ?_
      refine G_callV (pc := 55) (mc1 := 0) (ms1 := 0) (ci := 5) (mj := mX5_add) (vs := [_]) dX11_feed_55 rfl rfl cm_X5_add wf_118 wf_120 wf_121 rfl (Nat.le_of_ble_eq_true rfl) (Nat.le_of_ble_eq_true rfl) (Nat.le_of_ble_eq_true rfl) (Nat.le_of_ble_eq_true rfl) (s56_X5_add  d  _ _ _ _ _ _ _) ?_
      rintro _ _ ⟨rfl, rfl⟩
      dsimp only [Option.toList, List.cons_append, List.nil_append]
      refine G_iinc (pc := 58) (v := 1) (w := 7) (L1 := [some (.ref 0), some (.long eight), none, some (.int 8), some (.int 7)]) (by decide) rfl rfl (by decide) rfl (by decide) dX11_feed_58 ?_
      refine G_goto (pc := 61) (tgt := 33) (by decide) dX11_feed_61 ?_
      refine G_iload (pc := 33) rfl dX11_feed_33 ?_
      refine G_iload_n (pc := 35) rfl dX11_feed_35 ?_
      refine G_icmp_ge (pc := 36) (tgt := 64) (by decide) dX11_feed_36 (fun z => absurd z (by decide)) (fun _ => ?_)
      refine G_aload_n (pc := 39) rfl dX11_feed_39 ?_
      refine G_getR (pc := 40) (r := 55) (ci := 11) (j := 4) rfl lk_RX11_75 rfl rfl rfl dX11_feed_40 ?_
      refine G_lload_n (pc := 43) rfl dX11_feed_43 ?_
      refine G_bipush (pc := 44) (v := 8) (by decide) dX11_feed_44 ?_
      refine G_iload (pc := 46) rfl dX11_feed_46 ?_
      refine G_imul (pc := 48) (z := 56) (by decide) dX11_feed_48 ?_
      refine G_lushr (pc := 49) rfl dX11_feed_49 ?_
      refine G_l2i (pc := 50) rfl dX11_feed_50 ?_
      refine G_sipush (pc := 51) (v := 255) (by decide) dX11_feed_51 ?_
      refine G_iand (pc := 54) rfl dX11_feed_54 ?_
      refine G_callV (pc := 55) (mc1 := 0) (ms1 := 0) (ci := 5) (mj := mX5_add) (vs := [_]) dX11_feed_55 rfl rfl cm_X5_add wf_118 wf_120 wf_121 rfl (Nat.le_of_ble_eq_true rfl) (Nat.le_of_ble_eq_true rfl) (Nat.le_of_ble_eq_true rfl) (Nat.le_of_ble_eq_true rfl) (s57_X5_add  d  _ _ _ _ _ _ _ _) ?_
      rintro _ _ ⟨rfl, rfl⟩
      dsimp only [Option.toList, List.cons_append, List.nil_append]
      refine G_iinc (pc := 58) (v := 1) (w := 8) (L1 := [some (.ref 0), some (.long eight), none, some (.int 8), some (.int 8)]) (by decide) rfl rfl (by decide) rfl (by decide) dX11_feed_58 ?_
      refine G_goto (pc := 61) (tgt := 33) (by decide) dX11_feed_61 ?_
      refine G_iload (pc := 33) rfl dX11_feed_33 ?_
      refine G_iload_n (pc := 35) rfl dX11_feed_35 ?_
      refine G_icmp_ge (pc := 36) (tgt := 64) (by decide) dX11_feed_36 (fun _ => ?_) (fun z => absurd (by decide) z)
      refine G_aload_n (pc := 64) rfl dX11_feed_64 ?_
      refine G_getR (pc := 65) (r := 55) (ci := 11) (j := 4) rfl lk_RX11_75 rfl rfl rfl dX11_feed_65 ?_
      refine G_getI (pc := 68) (v := 8) (ci := 5) (j := 1) rfl rfl lk_RX11_179 rfl rfl dX11_feed_68 ?_
      exact G_iret (pc := 71) (Nat.le_of_ble_eq_true rfl) (Nat.le_of_ble_eq_true rfl) rfl dX11_feed_71 ⟨_, by first | rfl | (simp [F_feed, *]; done) | (simp only [F_feed, Int32.le_iff_toInt_le, Int32.lt_iff_toInt_lt, ← Int32.toInt_inj]; simp; omega) | (simp only [F_feed, Int32.le_iff_toInt_le, Int32.lt_iff_toInt_lt, ← Int32.toInt_inj]; split <;> first | rfl | (exfalso; simp at *; omega)) | (unfold F_feed; (repeat' split) <;> first | rfl | (exfalso; (try simp only [Int32.le_iff_toInt_le, Int32.lt_iff_toInt_lt, ← Int32.toInt_inj] at *); first | omega | (simp at *; done) | (simp at *; omega))), rfl, fun a ha => by funext j; simp (disch := omega) only [gup_off, gcp_off]⟩
    exfalso
    have : 1 ≤ (n).toInt := Int32.le_iff_toInt_le.mp (c401.1)
    have : (n).toInt ≤ 8 := Int32.le_iff_toInt_le.mp (c401.2)
    have : (n).toInt ≠ 1 := g_ne (c402)
    have : (n).toInt ≠ 2 := g_ne (c403)
    have : (n).toInt ≠ 3 := g_ne (c404)
    have : (n).toInt ≠ 4 := g_ne (c405)
    have : (n).toInt ≠ 5 := g_ne (c406)
    have : (n).toInt ≠ 6 := g_ne (c407)
    have : (n).toInt ≠ 7 := g_ne (c408)
    have : (n).toInt ≠ 8 := g_ne (c409)
    omega
  · have c401 := gB_z c401
    refine G_iconst (pc := 10) (v := (-1)) (by decide) dX11_feed_10 ?_
    exact G_iret (pc := 11) (Nat.le_of_ble_eq_true rfl) (Nat.le_of_ble_eq_true rfl) rfl dX11_feed_11 ⟨_, by first | rfl | (simp [F_feed, *]; done) | (have : ¬ (1 ≤ (n).toInt ∧ (n).toInt ≤ 8) := fun z => c401 ⟨Int32.le_iff_toInt_le.mpr z.1, Int32.le_iff_toInt_le.mpr z.2⟩; simp only [F_feed, Int32.le_iff_toInt_le, Int32.lt_iff_toInt_lt, ← Int32.toInt_inj]; simp; omega) | (have : ¬ (1 ≤ (n).toInt ∧ (n).toInt ≤ 8) := fun z => c401 ⟨Int32.le_iff_toInt_le.mpr z.1, Int32.le_iff_toInt_le.mpr z.2⟩; simp only [F_feed, Int32.le_iff_toInt_le, Int32.lt_iff_toInt_lt, ← Int32.toInt_inj]; split <;> first | rfl | (exfalso; simp at *; omega)) | (have : ¬ (1 ≤ (n).toInt ∧ (n).toInt ≤ 8) := fun z => c401 ⟨Int32.le_iff_toInt_le.mpr z.1, Int32.le_iff_toInt_le.mpr z.2⟩; unfold F_feed; (repeat' split) <;> first | rfl | (exfalso; (try simp only [Int32.le_iff_toInt_le, Int32.lt_iff_toInt_lt, ← Int32.toInt_inj] at *); first | omega | (simp at *; done) | (simp at *; omega))), rfl, fun _ _ => rfl⟩
