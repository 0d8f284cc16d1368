set_option maxRecDepth 100000 in
set_option maxHeartbeats 4000000 in
theorem law_loop {p : Program} {l : Launch} {e : Env} {s : State} {m : MethodId} {below : List Frame} {meth : Method} {c : Code} {bs L : Nat} {xs : Nat → Int32} {D : va_G} {cy : Nat → ClassId} (hL : L ≤ 2560) (C0 : lw_At p s m meth c bs L xs) (hF : gFx s.heap.size D cy s) : ∀ (g i : Nat) (I : gI) (H : Heap) (locs : List Loc) (ls : Array Slot), L < i + 5 * g + 5 → i ≤ 2560 → aInv bT I → WF I → va_S (gA s.heap.size) s.heap H locs → gWd s.heap.size D cy (SH0, RF0, I) H → lv_has ls 4 [(0, .ref bs), (1, .ref (s.heap.size + 0)), (2, .ref (s.heap.size + 67)), (3, .int (Int32.ofNat i))] → W p l e room_1 s m #[Value.ref bs] below meth c H locs 88 3546 (lw_Z below #[Value.ref bs] s) (F0 m 18 ls []) := by
  intro g
  induction g with
  | zero =>
    intro i I H locs ls hg hi5 hi hw hS hW hl
    obtain ⟨hx, hb, hr, hml, hown, hts, hX, hbl, hlocks, hgv⟩ := id C0
    have hbA : ¬ gA s.heap.size bs := Nat.not_le.mpr hbl
    refine lv_iload_n hx hb dL_18 rfl (lv_at hl 3 rfl) ?_
    refine lv_aload_n hx hb dL_19 rfl (lv_at hl 0 rfl) ?_
    refine va_slen hx hb hX hbl hbA hS dL_20 ?_
    refine lv_iconst (v := 5) hx hb dL_21 (by decide) ?_
    refine lv_isub hx hb dL_22 ?_
    refine lv_icmp_gt (tgt := 1751) hx hb dL_23 (by decide) (fun _ => ?_) (fun z => absurd ((lw_gt (by omega) hL).mpr (by omega)) z)
    refine lv_iconst (v := 1) hx hb dL_1751 (by decide) ?_
    refine va_forget (fun q hq => hS.2.2 q hq) ?_
    refine W.widen (k := 600000) (n := 7302250) (by decide) (by decide) ?_
    exact lw_ret hx hb hr hlocks dL_1752
  | succ g ih =>
    intro i I H locs ls hg hi5 hi hw hS hW hl
    obtain ⟨hx, hb, hr, hml, hown, hts, hX, hbl, hlocks, hgv⟩ := id C0
    have hbA : ¬ gA s.heap.size bs := Nat.not_le.mpr hbl
    refine lv_iload_n hx hb dL_18 rfl (lv_at hl 3 rfl) ?_
    refine lv_aload_n hx hb dL_19 rfl (lv_at hl 0 rfl) ?_
    refine va_slen hx hb hX hbl hbA hS dL_20 ?_
    refine lv_iconst (v := 5) hx hb dL_21 (by decide) ?_
    refine lv_isub hx hb dL_22 ?_
    refine lv_icmp_gt (tgt := 1751) hx hb dL_23 (by decide) (fun _ => ?_) (fun z => ?_)
    · refine lv_iconst (v := 1) hx hb dL_1751 (by decide) ?_
      refine va_forget (fun q hq => hS.2.2 q hq) ?_
      refine W.widen (k := 600000) (n := 7302250) (by decide) (by decide) ?_
      exact lw_ret hx hb hr hlocks dL_1752
    have hiL : i + 5 ≤ L := by
      rw [lw_gt (by omega) hL] at z
      omega
    have kk : ∀ (I : gI) (H : Heap) (locs : List Loc), aInv bT I → WF I → va_S (gA s.heap.size) s.heap H locs → gWd s.heap.size D cy (SH0, RF0, I) H → W p l e room_1 s m #[Value.ref bs] below meth c H locs 88 3546 (lw_Z below #[Value.ref bs] s) (F0 m 1745 ls []) := by
      intro I H locs hi hw hS hW
      refine lv_iinc (v := Int32.ofNat (i + 5)) (lv' := [(3, .int (Int32.ofNat (i + 5))), (0, .ref bs), (1, .ref (s.heap.size + 0)), (2, .ref (s.heap.size + 67))]) hx hb dL_1745 hl (k := 3) rfl (by rw [show Int32.ofInt 5 = Int32.ofNat 5 by decide]; exact n_add) (by decide) rfl (fun ls hl => ?_)
      refine lv_goto (tgt := 18) hx hb dL_1748 (by decide) ?_
      exact ih (i + 5) I H locs ls (by omega) (by omega) hi hw hS hW (lv_sub hl [1, 2, 3, 0] rfl)
    refine lv_aload_n hx hb dL_26 rfl (lv_at hl 0 rfl) ?_
    refine lv_iload_n hx hb dL_27 rfl (lv_at hl 3 rfl) ?_
    refine va_sld hx hb hX hbl hbA hS (a_vin (by rw [N_int (by omega)]; omega) (by rw [N_int (by omega)]; omega)) dL_28 ?_
    refine lv_bipush (v := 63) hx hb dL_29 (by decide) ?_
    refine lv_iand hx hb dL_31 ?_
    generalize (xs (Int32.ofNat i).toNatClampNeg &&& 63) = v
    by_cases v0 : v = 0
    · subst v0
      refine lv_tableIn (tgt := 252) (off := 220) hx hb dL_32 (by decide) (by decide) (by decide) (by decide) ?_
      exact law_0_key hL C0 hF hi hw hiL hS hW hl kk
    by_cases v1 : v = 1
    · subst v1
      refine lv_tableIn (tgt := 305) (off := 273) hx hb dL_32 (by decide) (by decide) (by decide) (by decide) ?_
      exact law_1_keyOf hL C0 hF hi hw hiL hS hW hl kk
    by_cases v2 : v = 2
    · subst v2
      refine lv_tableIn (tgt := 338) (off := 306) hx hb dL_32 (by decide) (by decide) (by decide) (by decide) ?_
      exact law_2_change hL C0 hF hi hw hiL hS hW hl kk
    by_cases v3 : v = 3
    · subst v3
      refine lv_tableIn (tgt := 381) (off := 349) hx hb dL_32 (by decide) (by decide) (by decide) (by decide) ?_
      exact law_3_remake hL C0 hF hi hw hiL hS hW hl kk
    by_cases v4 : v = 4
    · subst v4
      refine lv_tableIn (tgt := 414) (off := 382) hx hb dL_32 (by decide) (by decide) (by decide) (by decide) ?_
      exact law_4_sun hL C0 hF hi hw hiL hS hW hl kk
    by_cases v5 : v = 5
    · subst v5
      refine lv_tableIn (tgt := 447) (off := 415) hx hb dL_32 (by decide) (by decide) (by decide) (by decide) ?_
      exact law_5_gate hL C0 hF hi hw hiL hS hW hl kk
    by_cases v6 : v = 6
    · subst v6
      refine lv_tableIn (tgt := 490) (off := 458) hx hb dL_32 (by decide) (by decide) (by decide) (by decide) ?_
      exact law_6_gateOf hL C0 hF hi hw hiL hS hW hl kk
    by_cases v7 : v = 7
    · subst v7
      refine lv_tableIn (tgt := 523) (off := 491) hx hb dL_32 (by decide) (by decide) (by decide) (by decide) ?_
      exact law_7_ends hL C0 hF hi hw hiL hS hW hl kk
    by_cases v8 : v = 8
    · subst v8
      refine lv_tableIn (tgt := 546) (off := 514) hx hb dL_32 (by decide) (by decide) (by decide) (by decide) ?_
      exact law_8_anew hL C0 hF hi hw hiL hS hW hl kk
    by_cases v9 : v = 9
    · subst v9
      refine lv_tableIn (tgt := 559) (off := 527) hx hb dL_32 (by decide) (by decide) (by decide) (by decide) ?_
      exact law_9_state hL C0 hF hi hw hiL hS hW hl kk
    by_cases v10 : v = 10
    · subst v10
      refine lv_tableIn (tgt := 582) (off := 550) hx hb dL_32 (by decide) (by decide) (by decide) (by decide) ?_
      exact law_10_feed hL C0 hF hi hw hiL hS hW hl kk
    by_cases v11 : v = 11
    · subst v11
      refine lv_tableIn (tgt := 645) (off := 613) hx hb dL_32 (by decide) (by decide) (by decide) (by decide) ?_
      exact law_11_rules hL C0 hF hi hw hiL hS hW hl kk
    by_cases v12 : v = 12
    · subst v12
      refine lv_tableIn (tgt := 658) (off := 626) hx hb dL_32 (by decide) (by decide) (by decide) (by decide) ?_
      exact law_12_halt hL C0 hF hi hw hiL hS hW hl kk
    by_cases v13 : v = 13
    · subst v13
      refine lv_tableIn (tgt := 671) (off := 639) hx hb dL_32 (by decide) (by decide) (by decide) (by decide) ?_
      exact law_13_on hL C0 hF hi hw hiL hS hW hl kk
    by_cases v14 : v = 14
    · subst v14
      refine lv_tableIn (tgt := 694) (off := 662) hx hb dL_32 (by decide) (by decide) (by decide) (by decide) ?_
      exact law_14_when hL C0 hF hi hw hiL hS hW hl kk
    by_cases v15 : v = 15
    · subst v15
      refine lv_tableIn (tgt := 717) (off := 685) hx hb dL_32 (by decide) (by decide) (by decide) (by decide) ?_
      exact law_15_strawFor hL C0 hF hi hw hiL hS hW hl kk
    by_cases v16 : v = 16
    · subst v16
      refine lv_tableIn (tgt := 740) (off := 708) hx hb dL_32 (by decide) (by decide) (by decide) (by decide) ?_
      exact law_16_gateFor hL C0 hF hi hw hiL hS hW hl kk
    by_cases v17 : v = 17
    · subst v17
      refine lv_tableIn (tgt := 763) (off := 731) hx hb dL_32 (by decide) (by decide) (by decide) (by decide) ?_
      exact law_17_gone hL C0 hF hi hw hiL hS hW hl kk
    by_cases v18 : v = 18
    · subst v18
      refine lv_tableIn (tgt := 786) (off := 754) hx hb dL_32 (by decide) (by decide) (by decide) (by decide) ?_
      exact law_18_opens hL C0 hF hi hw hiL hS hW hl kk
    by_cases v19 : v = 19
    · subst v19
      refine lv_tableIn (tgt := 809) (off := 777) hx hb dL_32 (by decide) (by decide) (by decide) (by decide) ?_
      exact law_19_left hL C0 hF hi hw hiL hS hW hl kk
    by_cases v20 : v = 20
    · subst v20
      refine lv_tableIn (tgt := 842) (off := 810) hx hb dL_32 (by decide) (by decide) (by decide) (by decide) ?_
      exact law_20_bunches hL C0 hF hi hw hiL hS hW hl kk
    by_cases v21 : v = 21
    · subst v21
      refine lv_tableIn (tgt := 865) (off := 833) hx hb dL_32 (by decide) (by decide) (by decide) (by decide) ?_
      exact law_21_best hL C0 hF hi hw hiL hS hW hl kk
    by_cases v22 : v = 22
    · subst v22
      refine lv_tableIn (tgt := 888) (off := 856) hx hb dL_32 (by decide) (by decide) (by decide) (by decide) ?_
      exact law_22_ith hL C0 hF hi hw hiL hS hW hl kk
    by_cases v23 : v = 23
    · subst v23
      refine lv_tableIn (tgt := 921) (off := 889) hx hb dL_32 (by decide) (by decide) (by decide) (by decide) ?_
      exact law_23_ways hL C0 hF hi hw hiL hS hW hl kk
    by_cases v24 : v = 24
    · subst v24
      refine lv_tableIn (tgt := 944) (off := 912) hx hb dL_32 (by decide) (by decide) (by decide) (by decide) ?_
      exact law_24_order hL C0 hF hi hw hiL hS hW hl kk
    by_cases v25 : v = 25
    · subst v25
      refine lv_tableIn (tgt := 977) (off := 945) hx hb dL_32 (by decide) (by decide) (by decide) (by decide) ?_
      exact law_25_bars hL C0 hF hi hw hiL hS hW hl kk
    by_cases v26 : v = 26
    · subst v26
      refine lv_tableIn (tgt := 1010) (off := 978) hx hb dL_32 (by decide) (by decide) (by decide) (by decide) ?_
      exact law_26_game hL C0 hF hi hw hiL hS hW hl kk
    by_cases v27 : v = 27
    · subst v27
      refine lv_tableIn (tgt := 1033) (off := 1001) hx hb dL_32 (by decide) (by decide) (by decide) (by decide) ?_
      exact law_27_play hL C0 hF hi hw hiL hS hW hl kk
    by_cases v28 : v = 28
    · subst v28
      refine lv_tableIn (tgt := 1056) (off := 1024) hx hb dL_32 (by decide) (by decide) (by decide) (by decide) ?_
      exact law_28_report hL C0 hF hi hw hiL hS hW hl kk
    by_cases v29 : v = 29
    · subst v29
      refine lv_tableIn (tgt := 1109) (off := 1077) hx hb dL_32 (by decide) (by decide) (by decide) (by decide) ?_
      exact law_29_forget hL C0 hF hi hw hiL hS hW hl kk
    by_cases v30 : v = 30
    · subst v30
      refine lv_tableIn (tgt := 1122) (off := 1090) hx hb dL_32 (by decide) (by decide) (by decide) (by decide) ?_
      exact law_30_lone hL C0 hF hi hw hiL hS hW hl kk
    by_cases v31 : v = 31
    · subst v31
      refine lv_tableIn (tgt := 1145) (off := 1113) hx hb dL_32 (by decide) (by decide) (by decide) (by decide) ?_
      exact law_31_liar hL C0 hF hi hw hiL hS hW hl kk
    by_cases v32 : v = 32
    · subst v32
      refine lv_tableIn (tgt := 1158) (off := 1126) hx hb dL_32 (by decide) (by decide) (by decide) (by decide) ?_
      exact law_32_seed hL C0 hF hi hw hiL hS hW hl kk
    by_cases v33 : v = 33
    · subst v33
      refine lv_tableIn (tgt := 1181) (off := 1149) hx hb dL_32 (by decide) (by decide) (by decide) (by decide) ?_
      exact law_33_lot hL C0 hF hi hw hiL hS hW hl kk
    by_cases v34 : v = 34
    · subst v34
      refine lv_tableIn (tgt := 1194) (off := 1162) hx hb dL_32 (by decide) (by decide) (by decide) (by decide) ?_
      exact law_34_times hL C0 hF hi hw hiL hS hW hl kk
    by_cases v35 : v = 35
    · subst v35
      refine lv_tableIn (tgt := 1227) (off := 1195) hx hb dL_32 (by decide) (by decide) (by decide) (by decide) ?_
      exact law_35_prove hL C0 hF hi hw hiL hS hW hl kk
    by_cases v36 : v = 36
    · subst v36
      refine lv_tableIn (tgt := 1250) (off := 1218) hx hb dL_32 (by decide) (by decide) (by decide) (by decide) ?_
      exact law_36_row hL C0 hF hi hw hiL hS hW hl kk
    by_cases v37 : v = 37
    · subst v37
      refine lv_tableIn (tgt := 1283) (off := 1251) hx hb dL_32 (by decide) (by decide) (by decide) (by decide) ?_
      exact law_37_alterRow hL C0 hF hi hw hiL hS hW hl kk
    by_cases v38 : v = 38
    · subst v38
      refine lv_tableIn (tgt := 1326) (off := 1294) hx hb dL_32 (by decide) (by decide) (by decide) (by decide) ?_
      exact law_38_judge hL C0 hF hi hw hiL hS hW hl kk
    by_cases v39 : v = 39
    · subst v39
      refine lv_tableIn (tgt := 1339) (off := 1307) hx hb dL_32 (by decide) (by decide) (by decide) (by decide) ?_
      exact law_39_sheet hL C0 hF hi hw hiL hS hW hl kk
    by_cases v40 : v = 40
    · subst v40
      refine lv_tableIn (tgt := 1382) (off := 1350) hx hb dL_32 (by decide) (by decide) (by decide) (by decide) ?_
      exact law_40_write hL C0 hF hi hw hiL hS hW hl kk
    by_cases v41 : v = 41
    · subst v41
      refine lv_tableIn (tgt := 1425) (off := 1393) hx hb dL_32 (by decide) (by decide) (by decide) (by decide) ?_
      exact law_41_item hL C0 hF hi hw hiL hS hW hl kk
    by_cases v42 : v = 42
    · subst v42
      refine lv_tableIn (tgt := 1468) (off := 1436) hx hb dL_32 (by decide) (by decide) (by decide) (by decide) ?_
      exact law_42_goAll hL C0 hF hi hw hiL hS hW hl kk
    by_cases v43 : v = 43
    · subst v43
      refine lv_tableIn (tgt := 1511) (off := 1479) hx hb dL_32 (by decide) (by decide) (by decide) (by decide) ?_
      exact law_43_wouldBe hL C0 hF hi hw hiL hS hW hl kk
    by_cases v44 : v = 44
    · subst v44
      refine lv_tableIn (tgt := 1554) (off := 1522) hx hb dL_32 (by decide) (by decide) (by decide) (by decide) ?_
      exact law_44_shelf hL C0 hF hi hw hiL hS hW hl kk
    by_cases v45 : v = 45
    · subst v45
      refine lv_tableIn (tgt := 1597) (off := 1565) hx hb dL_32 (by decide) (by decide) (by decide) (by decide) ?_
      exact law_45_taken hL C0 hF hi hw hiL hS hW hl kk
    by_cases v46 : v = 46
    · subst v46
      refine lv_tableIn (tgt := 1630) (off := 1598) hx hb dL_32 (by decide) (by decide) (by decide) (by decide) ?_
      exact law_46_act hL C0 hF hi hw hiL hS hW hl kk
    by_cases v47 : v = 47
    · subst v47
      refine lv_tableIn (tgt := 1673) (off := 1641) hx hb dL_32 (by decide) (by decide) (by decide) (by decide) ?_
      exact law_47_trace hL C0 hF hi hw hiL hS hW hl kk
    by_cases v48 : v = 48
    · subst v48
      refine lv_tableIn (tgt := 1696) (off := 1664) hx hb dL_32 (by decide) (by decide) (by decide) (by decide) ?_
      exact law_48_many hL C0 hF hi hw hiL hS hW hl kk
    by_cases v49 : v = 49
    · subst v49
      refine lv_tableIn (tgt := 1719) (off := 1687) hx hb dL_32 (by decide) (by decide) (by decide) (by decide) ?_
      exact law_49_keep hL C0 hF hi hw hiL hS hW hl kk
    by_cases v50 : v = 50
    · subst v50
      refine lv_tableIn (tgt := 1732) (off := 1700) hx hb dL_32 (by decide) (by decide) (by decide) (by decide) ?_
      exact law_50_again hL C0 hF hi hw hiL hS hW hl kk
    refine lv_tableOut (tgt := 1745) hx hb dL_32 (by have := g_ne v0; have := g_ne v1; have := g_ne v2; have := g_ne v3; have := g_ne v4; have := g_ne v5; have := g_ne v6; have := g_ne v7; have := g_ne v8; have := g_ne v9; have := g_ne v10; have := g_ne v11; have := g_ne v12; have := g_ne v13; have := g_ne v14; have := g_ne v15; have := g_ne v16; have := g_ne v17; have := g_ne v18; have := g_ne v19; have := g_ne v20; have := g_ne v21; have := g_ne v22; have := g_ne v23; have := g_ne v24; have := g_ne v25; have := g_ne v26; have := g_ne v27; have := g_ne v28; have := g_ne v29; have := g_ne v30; have := g_ne v31; have := g_ne v32; have := g_ne v33; have := g_ne v34; have := g_ne v35; have := g_ne v36; have := g_ne v37; have := g_ne v38; have := g_ne v39; have := g_ne v40; have := g_ne v41; have := g_ne v42; have := g_ne v43; have := g_ne v44; have := g_ne v45; have := g_ne v46; have := g_ne v47; have := g_ne v48; have := g_ne v49; have := g_ne v50; have : (0 : Int32).toInt = 0 := rfl; have : (1 : Int32).toInt = 1 := rfl; have : (2 : Int32).toInt = 2 := rfl; have : (3 : Int32).toInt = 3 := rfl; have : (4 : Int32).toInt = 4 := rfl; have : (5 : Int32).toInt = 5 := rfl; have : (6 : Int32).toInt = 6 := rfl; have : (7 : Int32).toInt = 7 := rfl; have : (8 : Int32).toInt = 8 := rfl; have : (9 : Int32).toInt = 9 := rfl; have : (10 : Int32).toInt = 10 := rfl; have : (11 : Int32).toInt = 11 := rfl; have : (12 : Int32).toInt = 12 := rfl; have : (13 : Int32).toInt = 13 := rfl; have : (14 : Int32).toInt = 14 := rfl; have : (15 : Int32).toInt = 15 := rfl; have : (16 : Int32).toInt = 16 := rfl; have : (17 : Int32).toInt = 17 := rfl; have : (18 : Int32).toInt = 18 := rfl; have : (19 : Int32).toInt = 19 := rfl; have : (20 : Int32).toInt = 20 := rfl; have : (21 : Int32).toInt = 21 := rfl; have : (22 : Int32).toInt = 22 := rfl; have : (23 : Int32).toInt = 23 := rfl; have : (24 : Int32).toInt = 24 := rfl; have : (25 : Int32).toInt = 25 := rfl; have : (26 : Int32).toInt = 26 := rfl; have : (27 : Int32).toInt = 27 := rfl; have : (28 : Int32).toInt = 28 := rfl; have : (29 : Int32).toInt = 29 := rfl; have : (30 : Int32).toInt = 30 := rfl; have : (31 : Int32).toInt = 31 := rfl; have : (32 : Int32).toInt = 32 := rfl; have : (33 : Int32).toInt = 33 := rfl; have : (34 : Int32).toInt = 34 := rfl; have : (35 : Int32).toInt = 35 := rfl; have : (36 : Int32).toInt = 36 := rfl; have : (37 : Int32).toInt = 37 := rfl; have : (38 : Int32).toInt = 38 := rfl; have : (39 : Int32).toInt = 39 := rfl; have : (40 : Int32).toInt = 40 := rfl; have : (41 : Int32).toInt = 41 := rfl; have : (42 : Int32).toInt = 42 := rfl; have : (43 : Int32).toInt = 43 := rfl; have : (44 : Int32).toInt = 44 := rfl; have : (45 : Int32).toInt = 45 := rfl; have : (46 : Int32).toInt = 46 := rfl; have : (47 : Int32).toInt = 47 := rfl; have : (48 : Int32).toInt = 48 := rfl; have : (49 : Int32).toInt = 49 := rfl; have : (50 : Int32).toInt = 50 := rfl; omega) (by decide) ?_
    exact kk I H locs hi hw hS hW
set_option maxRecDepth 100000 in
set_option maxHeartbeats 4000000 in
theorem whole_start {p : Program} {e : Env} {s : State} {m : MethodId} {below : List Frame} {meth : Method} {c : Code} (l : Launch) {b L : Nat} {xs : Nat → Int32} (hL : L ≤ 2560) (C0 : lw_At p s m meth c b L xs) : W p l e room_1 s m #[Value.ref b] below meth c s.heap [] 0 0 (lw_Z below #[Value.ref b] s) (entryFrame m ([Value.ref b] : List Value).toArray 4) := by
  obtain ⟨hx, hb, hr, hml, hown, hts, hX, hbl, hlocks, hgv⟩ := id C0
  have hbA : ¬ gA s.heap.size b := Nat.not_le.mpr hbl
  obtain ⟨D, cy, hF⟩ := gEntry hts hgv
  have hS : va_S (gA s.heap.size) s.heap s.heap [] := va_S.rf
  have hW : gWd s.heap.size D cy ([], fun _ _ => none, fun _ _ => 0) s.heap := ⟨rfl, fun k q h => by simp [gws] at h⟩
  have hl := lv_entry ([.ref b]) (n := 4) (Nat.le_of_ble_eq_true rfl)
  rw [lg_entry_eq]
  generalize (lg_sl ([.ref b]) ++ List.replicate (4 - (lg_sl ([.ref b])).length) Slot.unset).toArray = ls at hl ⊢
  have hl : lv_has ls 4 [(0, .ref b)] := hl
  refine law_new (ci := 11) (sh1 := [(0, 11)]) (len := 0) hx hb hown hts hF hS hW rfl wl_410 wl_411 wl_1 rfl rfl (fun _ => rfl) (fun _ => rfl) (Nat.le_of_ble_eq_true rfl) (Nat.le_of_ble_eq_true rfl) dL_0 (fun H hS hW => ?_)
  refine lv_dup hx hb dL_3 rfl ?_
  refine law_init (x := 0) (mc1 := 66) (ms1 := 1453) (mj := mX11_init) (vs := []) (S := [.ref (s.heap.size + 0)]) (d := 0 + 4) hx hb hml hown hts hF hS hW hl dL_4 cml_X11_init rfl rfl wl_413 wl_414 rfl (Nat.le_of_ble_eq_true rfl) (Nat.le_of_ble_eq_true rfl) (Nat.le_of_ble_eq_true rfl) (Nat.le_of_ble_eq_true rfl) (Nat.le_of_ble_eq_true rfl) (kX11_init_1 (fun _ _ => none) (fun _ _ => 0) (fun _ _ _ => rfl) (fun _ _ _ => rfl) 0) ?_
  rintro _ _ H locs ⟨rfl, rfl⟩ hW hS
  dsimp only [Option.map, Option.toList, List.nil_append]
  refine lv_astore_n (lv' := [(1, .ref (s.heap.size + 0)), (0, .ref b)]) hx hb dL_7 rfl hl (by decide) rfl (fun ls hl => ?_)
  have hW : gWd s.heap.size D cy (SH1, RC1, IC1) H := hW
  refine law_new (ci := 12) (sh1 := SH1 ++ [(0, 12)]) (len := 67) hx hb hown hts hF hS hW rfl wl_415 wl_416 wl_6 rfl rfl (fun j => by unfold IC1; simp (disch := omega) only [gup_off]) (fun j => by unfold RC1; simp (disch := omega) only [gupR_off, gmna_off]) (Nat.le_of_ble_eq_true rfl) (Nat.le_of_ble_eq_true rfl) dL_8 (fun H hS hW => ?_)
  refine lv_dup hx hb dL_11 rfl ?_
  refine law_init (x := 67) (mc1 := 20) (ms1 := 2042) (mj := mX12_init) (vs := []) (S := [.ref (s.heap.size + 67)]) (d := 0 + 1) hx hb hml hown hts hF hS hW hl dL_12 cml_X12_init rfl rfl wl_418 wl_419 rfl (Nat.le_of_ble_eq_true rfl) (Nat.le_of_ble_eq_true rfl) (Nat.le_of_ble_eq_true rfl) (Nat.le_of_ble_eq_true rfl) (Nat.le_of_ble_eq_true rfl) (kX12_init_1 RC1 IC1 (fun a j h => by unfold RC1; simp (disch := omega) only [gupR_off, gmna_off]) (fun a j h => by unfold IC1; simp (disch := omega) only [gup_off]) 0) ?_
  rintro _ _ H locs ⟨rfl, rfl⟩ hW hS
  dsimp only [Option.map, Option.toList, List.nil_append]
  have hW : gWd s.heap.size D cy (SH0, RC2, IC2) H := hW
  rw [RC2_eq] at hW
  refine lv_astore_n (lv' := [(2, .ref (s.heap.size + 67)), (1, .ref (s.heap.size + 0)), (0, .ref b)]) hx hb dL_15 rfl hl (by decide) rfl (fun ls hl => ?_)
  refine lv_iconst (v := 0) hx hb dL_16 (by decide) ?_
  refine lv_istore_n (lv' := [(3, .int 0), (2, .ref (s.heap.size + 67)), (1, .ref (s.heap.size + 0)), (0, .ref b)]) hx hb dL_17 rfl hl (by decide) rfl (fun ls hl => ?_)
  exact law_loop hL C0 hF 600 0 IC2 H locs ls (by omega) (by decide) IC2_inv IC2_wf hS hW (lv_sub hl [3, 2, 1, 0] rfl)
-- ===== YOUR PART ENDS =====
set_option maxHeartbeats 4000000 in
theorem lw_walk (l : Launch) (b : Addr) (xs : List Int32) : MetFree l x (headSpec (Jvm.Cond.code x code maxLocals ret :: tables_1) room_1) (lw_P b xs) (fun _ _ _ _ _ => True) lw_Q := by
  refine MetFree.of_bodyS (code := code) (maxLocals := maxLocals) (ret := ret) (by decide) ?_ ?_
  · intro args s m h hn
    obtain ⟨meth, c, h1, h2, h3, h4, h5, h6, -, -⟩ := Cond.code_spec hn (atoms_spec (ws := Jvm.Cond.code x code maxLocals ret :: tables_1) h _ List.mem_cons_self)
    exact ⟨meth, c, h1, h2, h3, h4, h5, h6⟩
  · intro p e s m args below meth c s₁ B hml0 hP _
    obtain ⟨rfl, hx, hbd, hgv⟩ := hP
    obtain ⟨scr, harrAt, hlist, hof, hsmall⟩ := hx
    obtain ⟨hcb, hkn, -, -⟩ := State.arrayAt?_spec harrAt
    have hown : s.vm.findClass R_law = some m.cls := findClass_of_methodNamed B.named
    have hts0 : ∀ c ∈ (Jvm.Cond.code x code maxLocals ret :: tables_1), c.before #[Value.ref b] s = true := atoms_spec (ws := Jvm.Cond.code x code maxLocals ret :: tables_1) B.pre
    have hts : ∀ w ∈ lw_tbl, w.before #[Value.ref b] s = true := k2_hts_sels lw_privs (fun w hw => hts0 w (List.mem_cons_of_mem _ hw)) lw_privs_ok
    have hml : c.maxLocals = 4 := B.maxLocals_eq (hts0 _ List.mem_cons_self)
    have X₀ : Stand p l e room_1 s m #[Value.ref b] below meth c s₁ [] 0 0 := Stand.of_body B
    have hh0 : s₁.heap = s.heap := by rw [B.state]; rfl
    have hsz : scr.slots.size = xs.length := by rw [← Array.length_toList, hlist, List.length_map]
    have hval : ∀ j : Nat, j < xs.length → scr.slots[j]? = some (.int (xs.getD j 0)) := fun j hj => by
      rw [← Array.getElem?_toList, hlist]
      simp [hj]
    have hbl : b < s.heap.size := (Array.getElem?_eq_some_iff.mp hcb).1
    have hX : va_X b xs.length (fun j => xs.getD j 0) s s.heap := ⟨scr, hcb, hof, hkn, hsz, hval⟩
    have K : W p l e room_1 s m #[Value.ref b] below meth c s₁.heap [] 0 0 (lw_Z below #[Value.ref b] s) (entryFrame m ([Value.ref b] : List Value).toArray 4) := by
      rw [hh0]
      exact whole_start l hbd ⟨B.exec, B.bytes, B.returns, hml, hown, hts, hX, hbl, B.notSynchronized, hgv⟩
    obtain ⟨t, a1, o, b1, b2, b3⟩ := K s₁ rfl X₀
    exact ⟨t, o, a1, b1, b2, b3⟩
theorem lw_pre_spec {args : Array Value} {s : State} (h : (Jvm.Cond.and given_1 narrow_1).before args s = true) (hr : rest_1_c.before args s = true) : ∃ (b : Addr) (xs : List Int32), lw_P b xs args s := by
  have hs := flat_of_before _ h
  have hq := flat_of_before _ hr
  have hc : (Cond.count 1).before args s = true := hs _ (by decide +kernel)
  have harr : (Cond.arrayOf (.arg 0) .int).before args s = true := hs _ (by decide +kernel)
  have hle : (Cond.le (.length (.arg 0)) (.int 2560)).before args s = true := hs _ (by decide +kernel)
  have hlen : (Cond.isInt (.length (.arg 0))).before args s = true := hq _ (by decide +kernel)
  have hall : (Cond.all (.arg 0) (.isInt (.elem (.arg 0) (.index 0)))).before args s = true := hq _ (by decide +kernel)
  obtain ⟨b, xs, hb, hx⟩ := State.ints_of_pre rfl harr hlen hall
  have hsm : xs.length < 2 ^ 31 := hx.choose_spec.2.2.2
  have hev : (Term.length (.arg 0)).eval args s none [] s = some (.int xs.length.toInt32) := hx.length_eval hb
  have hv := Cond.le_ints hev (show (Term.int 2560).eval args s none [] s = some (.int 2560) from rfl)
  have hd : xs.length.toInt32 ≤ 2560 := by
    simpa [Cond.before, Cond.holds, hv] using hle
  have hN : xs.length ≤ 2560 := (Int32.ofNat_le_ofNat hsm (by decide)).mp (show Int32.ofNat xs.length ≤ Int32.ofNat 2560 from hd)
  exact ⟨b, xs, Cond.one_arg hc (show args[0]? = some (.ref b) from hb), hx, hN, h⟩
theorem lw_comes (l : Launch) : Comes l x (Jvm.Cond.code x code maxLocals ret :: tables_1) room_1 (fun tb e args s => Calls_1 tb e args s ∧ rest_1 tb e args s ∧ Pre_1 tb e args s)
    (fun _ _ args s o t => lw_Q args s o t) := by
  intro p e ha hc hk s m args below hf hfit hheap happ hpre
  obtain ⟨b, xs, hP⟩ := lw_pre_spec hpre.2.2 hpre.2.1
  obtain ⟨k, o, h1, h2, h3, hQ⟩ := lw_walk l b xs p e ha hc hk s m args below hf ((Spec.applies_iff_loose hf).mp happ).1 hP trivial
  exact ⟨k, o, h1, h2, h3, hQ⟩
theorem lw_frame {s t : State} {o : Outcome} {args : Array Value} (h : Framed s o t [] 600000 7302250) :
    Framed s o t (fieldLocs frame_1_writes args s ++ arrayLocs frame_1_arrays args s ++ staticLocs frame_1_statics s) 600000 7302250 := h
theorem lw_limb (L : Cond) (hL : ∀ (args : Array Value) (s t : State), L.after args s (.returned (some (.int 1))) t = true) :
    ArmFor flags0 classFile x code maxLocals ret World_1 tables_1 room_1 Calls_1 rest_1 Pre_1
      (fun tb e a s o t => postC L tb e a s o t ∧ Framed s o t (fieldLocs frame_1_writes a s ++ arrayLocs frame_1_arrays a s ++ staticLocs frame_1_statics s) 600000 7302250) := by
  intro l _ _ _ p e ha hc hk s m args below hf hfit hheap happ hpre
  obtain ⟨k, o, h1, h2, h3, rfl, hF⟩ := lw_comes l p e ha hc hk s m args below hf hfit hheap happ hpre
  exact ⟨k, _, h1, h2, h3, hL args s _, lw_frame hF⟩
theorem i_vc : Claimed_1_1 ∧ Claimed_1_2 := ⟨lw_limb limb_1_1 (fun args s t => by simp [limb_1_1, Cond.after, Cond.holds, Cond.value]), lw_limb limb_1_2 (fun args s t => Cond.after_iff.mpr (by
  first | (rw [show limb_1_2 = Cond.eq .result (.int 1) from rfl, Cond.eq_ints (x := 1) (y := 1) rfl rfl]; simp; done) | (simp [limb_1_2, Cond.value, Term.eval]; done)))⟩
