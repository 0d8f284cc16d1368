set_option maxRecDepth 100000 in
set_option maxHeartbeats 4000000 in
theorem kX12_init_1 (R : gR) (I : gI) (hr : ∀ a j, 68 ≤ a → R a j = none) (hz : ∀ a j, 68 ≤ a → I a j = 0) (d : Nat) : G (d + 1) mX12_init 20 2042 0 0 0 (gent 2 [.ref 67]) [] [(0, 11), (1, 12), (1, 4), (1, 4), (5, 4), (1, 40), (1, 40), (1, 40), (1, 40), (1, 4), (1, 4), (1, 4), (4, 6), (0, 3), (0, 2), (0, 8), (0, 10), (0, 7), (0, 9), (0, 1), (1, 16), (1, 6), (1, 6), (1, 6), (1, 6), (1, 6), (1, 6), (0, 6), (1, 8), (1, 8), (1, 8), (1, 200), (1, 24), (1, 5), (1, 40), (0, 1), (1, 16), (1, 6), (1, 6), (1, 6), (1, 6), (1, 6), (1, 6), (0, 6), (1, 8), (1, 8), (1, 8), (1, 200), (1, 24), (1, 5), (1, 40), (0, 4), (1, 5), (1, 5), (1, 5), (0, 5), (1, 200), (0, 6), (1, 8), (1, 8), (1, 8), (1, 200), (2, 4), (2, 4), (2, 4), (0, 0), (1, 30), (0, 12)] R I (fun r h1 => r = none ∧ h1 = ([(0, 11), (1, 12), (1, 4), (1, 4), (5, 4), (1, 40), (1, 40), (1, 40), (1, 40), (1, 4), (1, 4), (1, 4), (4, 6), (0, 3), (0, 2), (0, 8), (0, 10), (0, 7), (0, 9), (0, 1), (1, 16), (1, 6), (1, 6), (1, 6), (1, 6), (1, 6), (1, 6), (0, 6), (1, 8), (1, 8), (1, 8), (1, 200), (1, 24), (1, 5), (1, 40), (0, 1), (1, 16), (1, 6), (1, 6), (1, 6), (1, 6), (1, 6), (1, 6), (0, 6), (1, 8), (1, 8), (1, 8), (1, 200), (1, 24), (1, 5), (1, 40), (0, 4), (1, 5), (1, 5), (1, 5), (0, 5), (1, 200), (0, 6), (1, 8), (1, 8), (1, 8), (1, 200), (2, 4), (2, 4), (2, 4), (0, 0), (1, 30), (0, 12), (1, 313), (1, 313), (1, 65), (1, 200), (1, 200), (3, 144), (1, 200), (1, 24), (1, 325), (1, 4), (1, 4), (1, 16), (1, 16), (1, 12), (1, 4), (1, 4), (1, 160), (1, 4), (1, 4), (1, 30)], (gupR (gupR (gupR (gupR (gupR (gupR (gupR (gupR (gupR (gupR (gupR (gupR (gupR (gupR (gupR (gupR (gupR (gupR (gupR (gupR R 67 0 (some 68)) 67 1 (some 69)) 67 2 (some 70)) 67 4 (some 71)) 67 5 (some 72)) 67 7 (some 73)) 67 14 (some 74)) 67 15 (some 75)) 67 16 (some 76)) 67 17 (some 77)) 67 18 (some 78)) 67 23 (some 79)) 67 24 (some 80)) 67 26 (some 81)) 67 28 (some 82)) 67 29 (some 83)) 67 30 (some 84)) 67 31 (some 85)) 67 32 (some 86)) 67 33 (some 87)), (gup (gup (gup (gup (gup (gup (gup (gup (gup (gup (gup (gup (gup (gup (gup (gup (gup (gup (gup (gup (gup (gup (gup (gup (gup (gup (gup (gup (gup (gup (gup (gup (gup (gup (gup (gup (gup (gup (gup (gup (gup (gup (gup (gup (gup (gup (gup (gup (gup (gup (gup (gup (gup (gup (gup (gup (gup (gup (gup (gup (gup (gup (gup (gup (gup (gup (gup (gup (gup (gup (gup (gup (gup (gup (gup (gup (gup (gup (gup (gup (gup (gup (gup (gup (gup (gup (gup (gup (gup (gup (gup (gup (gup (gup (gup (gup (gup (gup (gup (gup (gup (gup (gup (gup (gup (gup (gup (gup (gup (gup (gup (gup (gup (gup (gup (gup (gup (gup (gup (gup (gup (gup (gup (gup (gup (gup (gup (gup (gup (gup (gup (gup (gup (gup (gup (gup (gup (gup (gup (gup (gup (gup (gup (gup (gup (gup (gup (gup (gup (gup (gup (gup (gup (gup (gup (gup (gup (gup (gup (gup (gup (gup (gup (gup (gup (gup (gup (gup (gup (gup I 73 0 107) 73 1 101) 73 2 121) 73 3 32) 73 4 32) 73 5 32) 73 6 32) 73 7 32) 73 8 105) 73 9 114) 73 10 111) 73 11 110) 73 12 32) 73 13 32) 73 14 32) 73 15 32) 73 16 115) 73 17 108) 73 18 101) 73 19 101) 73 20 118) 73 21 101) 73 22 32) 73 23 32) 73 24 116) 73 25 104) 73 26 105) 73 27 114) 73 28 100) 73 29 32) 73 30 32) 73 31 32) 73 32 115) 73 33 97) 73 34 108) 73 35 116) 73 36 32) 73 37 32) 73 38 32) 73 39 32) 73 40 115) 73 41 112) 73 42 97) 73 43 114) 73 44 101) 73 45 32) 73 46 32) 73 47 32) 73 48 116) 73 49 117) 73 50 114) 73 51 110) 73 52 32) 73 53 32) 73 54 32) 73 55 32) 73 56 99) 73 57 97) 73 58 114) 73 59 114) 73 60 121) 73 61 32) 73 62 32) 73 63 32) 73 64 99) 73 65 104) 73 66 105) 73 67 108) 73 68 108) 73 69 32) 73 70 32) 73 71 32) 73 72 105) 73 73 102) 73 74 32) 73 75 32) 73 76 32) 73 77 32) 73 78 32) 73 79 32) 73 80 110) 73 81 111) 73 82 116) 73 83 32) 73 84 32) 73 85 32) 73 86 32) 73 87 32) 73 88 97) 73 89 110) 73 90 100) 73 91 32) 73 92 32) 73 93 32) 73 94 32) 73 95 32) 73 96 111) 73 97 114) 73 98 32) 73 99 32) 73 100 32) 73 101 32) 73 102 32) 73 103 32) 73 104 104) 73 105 97) 73 106 108) 73 107 116) 73 108 32) 73 109 32) 73 110 32) 73 111 32) 73 112 116) 73 113 101) 73 114 101) 73 115 116) 73 116 104) 73 117 32) 73 118 32) 73 119 32) 73 120 115) 73 121 116) 73 122 114) 73 123 97) 73 124 119) 73 125 32) 73 126 32) 73 127 32) 73 128 104) 73 129 101) 73 130 97) 73 131 116) 73 132 32) 73 133 32) 73 134 32) 73 135 32) 73 136 110) 73 137 117) 73 138 109) 73 139 98) 73 140 101) 73 141 114) 73 142 32) 73 143 32) 82 0 (-1)) 82 1 (-1)) 82 2 (-1)) 82 3 (-1)) 85 0 (-1)) 85 1 (-1)) 85 2 (-1)) 85 3 (-1)) 68 1 12) 68 3 1) 68 7 5) 68 8 5) 68 9 5) 68 10 5) 68 11 5) 68 12 5) 68 13 5) 68 14 5) 68 15 5) 68 16 5) 68 17 5) 68 18 5) 68 19 5) 68 20 5) 68 21 5) 68 22 5))) := by
  refine G_aload_n (pc := 0) rfl dX12_init_0 ?_
  refine G_obj (pc := 1) dX12_init_1 wd_71 wd_1 wd_2 (by decide) ?_
  refine G_aload_n (pc := 4) rfl dX12_init_4 ?_
  refine G_sipush (pc := 5) (v := 313) (by decide) dX12_init_5 ?_
  refine G_new_int (pc := 8) (N := 313) wd_3 (by decide) (by decide) (by decide) (len := 68) (sh1 := [(0, 11), (1, 12), (1, 4), (1, 4), (5, 4), (1, 40), (1, 40), (1, 40), (1, 40), (1, 4), (1, 4), (1, 4), (4, 6), (0, 3), (0, 2), (0, 8), (0, 10), (0, 7), (0, 9), (0, 1), (1, 16), (1, 6), (1, 6), (1, 6), (1, 6), (1, 6), (1, 6), (0, 6), (1, 8), (1, 8), (1, 8), (1, 200), (1, 24), (1, 5), (1, 40), (0, 1), (1, 16), (1, 6), (1, 6), (1, 6), (1, 6), (1, 6), (1, 6), (0, 6), (1, 8), (1, 8), (1, 8), (1, 200), (1, 24), (1, 5), (1, 40), (0, 4), (1, 5), (1, 5), (1, 5), (0, 5), (1, 200), (0, 6), (1, 8), (1, 8), (1, 8), (1, 200), (2, 4), (2, 4), (2, 4), (0, 0), (1, 30), (0, 12), (1, 313)]) rfl rfl (fun j => by simp [gup, hz]) (by decide) (by decide) dX12_init_8 ?_
  refine G_putF (pc := 10) (ci := 12) (j := 0) rfl lk_RX12_9 rfl rfl rfl rfl rfl rfl dX12_init_10 ?_
  refine G_aload_n (pc := 13) rfl dX12_init_13 ?_
  refine G_sipush (pc := 14) (v := 313) (by decide) dX12_init_14 ?_
  refine G_new_int (pc := 17) (N := 313) wd_3 (by decide) (by decide) (by decide) (len := 69) (sh1 := [(0, 11), (1, 12), (1, 4), (1, 4), (5, 4), (1, 40), (1, 40), (1, 40), (1, 40), (1, 4), (1, 4), (1, 4), (4, 6), (0, 3), (0, 2), (0, 8), (0, 10), (0, 7), (0, 9), (0, 1), (1, 16), (1, 6), (1, 6), (1, 6), (1, 6), (1, 6), (1, 6), (0, 6), (1, 8), (1, 8), (1, 8), (1, 200), (1, 24), (1, 5), (1, 40), (0, 1), (1, 16), (1, 6), (1, 6), (1, 6), (1, 6), (1, 6), (1, 6), (0, 6), (1, 8), (1, 8), (1, 8), (1, 200), (1, 24), (1, 5), (1, 40), (0, 4), (1, 5), (1, 5), (1, 5), (0, 5), (1, 200), (0, 6), (1, 8), (1, 8), (1, 8), (1, 200), (2, 4), (2, 4), (2, 4), (0, 0), (1, 30), (0, 12), (1, 313), (1, 313)]) rfl rfl (fun j => by simp [gup, hz]) (by decide) (by decide) dX12_init_17 ?_
  refine G_putF (pc := 19) (ci := 12) (j := 1) rfl lk_RX12_13 rfl rfl rfl rfl rfl rfl dX12_init_19 ?_
  refine G_aload_n (pc := 22) rfl dX12_init_22 ?_
  refine G_bipush (pc := 23) (v := 65) (by decide) dX12_init_23 ?_
  refine G_new_int (pc := 25) (N := 65) wd_3 (by decide) (by decide) (by decide) (len := 70) (sh1 := [(0, 11), (1, 12), (1, 4), (1, 4), (5, 4), (1, 40), (1, 40), (1, 40), (1, 40), (1, 4), (1, 4), (1, 4), (4, 6), (0, 3), (0, 2), (0, 8), (0, 10), (0, 7), (0, 9), (0, 1), (1, 16), (1, 6), (1, 6), (1, 6), (1, 6), (1, 6), (1, 6), (0, 6), (1, 8), (1, 8), (1, 8), (1, 200), (1, 24), (1, 5), (1, 40), (0, 1), (1, 16), (1, 6), (1, 6), (1, 6), (1, 6), (1, 6), (1, 6), (0, 6), (1, 8), (1, 8), (1, 8), (1, 200), (1, 24), (1, 5), (1, 40), (0, 4), (1, 5), (1, 5), (1, 5), (0, 5), (1, 200), (0, 6), (1, 8), (1, 8), (1, 8), (1, 200), (2, 4), (2, 4), (2, 4), (0, 0), (1, 30), (0, 12), (1, 313), (1, 313), (1, 65)]) rfl rfl (fun j => by simp [gup, hz]) (by decide) (by decide) dX12_init_25 ?_
  refine G_putF (pc := 27) (ci := 12) (j := 2) rfl lk_RX12_16 rfl rfl rfl rfl rfl rfl dX12_init_27 ?_
  refine G_aload_n (pc := 30) rfl dX12_init_30 ?_
  refine G_sipush (pc := 31) (v := 200) (by decide) dX12_init_31 ?_
  refine G_new_int (pc := 34) (N := 200) wd_3 (by decide) (by decide) (by decide) (len := 71) (sh1 := [(0, 11), (1, 12), (1, 4), (1, 4), (5, 4), (1, 40), (1, 40), (1, 40), (1, 40), (1, 4), (1, 4), (1, 4), (4, 6), (0, 3), (0, 2), (0, 8), (0, 10), (0, 7), (0, 9), (0, 1), (1, 16), (1, 6), (1, 6), (1, 6), (1, 6), (1, 6), (1, 6), (0, 6), (1, 8), (1, 8), (1, 8), (1, 200), (1, 24), (1, 5), (1, 40), (0, 1), (1, 16), (1, 6), (1, 6), (1, 6), (1, 6), (1, 6), (1, 6), (0, 6), (1, 8), (1, 8), (1, 8), (1, 200), (1, 24), (1, 5), (1, 40), (0, 4), (1, 5), (1, 5), (1, 5), (0, 5), (1, 200), (0, 6), (1, 8), (1, 8), (1, 8), (1, 200), (2, 4), (2, 4), (2, 4), (0, 0), (1, 30), (0, 12), (1, 313), (1, 313), (1, 65), (1, 200)]) rfl rfl (fun j => by simp [gup, hz]) (by decide) (by decide) dX12_init_34 ?_
  refine G_putF (pc := 36) (ci := 12) (j := 4) rfl lk_RX12_19 rfl rfl rfl rfl rfl rfl dX12_init_36 ?_
  refine G_aload_n (pc := 39) rfl dX12_init_39 ?_
  refine G_sipush (pc := 40) (v := 200) (by decide) dX12_init_40 ?_
  refine G_new_int (pc := 43) (N := 200) wd_3 (by decide) (by decide) (by decide) (len := 72) (sh1 := [(0, 11), (1, 12), (1, 4), (1, 4), (5, 4), (1, 40), (1, 40), (1, 40), (1, 40), (1, 4), (1, 4), (1, 4), (4, 6), (0, 3), (0, 2), (0, 8), (0, 10), (0, 7), (0, 9), (0, 1), (1, 16), (1, 6), (1, 6), (1, 6), (1, 6), (1, 6), (1, 6), (0, 6), (1, 8), (1, 8), (1, 8), (1, 200), (1, 24), (1, 5), (1, 40), (0, 1), (1, 16), (1, 6), (1, 6), (1, 6), (1, 6), (1, 6), (1, 6), (0, 6), (1, 8), (1, 8), (1, 8), (1, 200), (1, 24), (1, 5), (1, 40), (0, 4), (1, 5), (1, 5), (1, 5), (0, 5), (1, 200), (0, 6), (1, 8), (1, 8), (1, 8), (1, 200), (2, 4), (2, 4), (2, 4), (0, 0), (1, 30), (0, 12), (1, 313), (1, 313), (1, 65), (1, 200), (1, 200)]) rfl rfl (fun j => by simp [gup, hz]) (by decide) (by decide) dX12_init_43 ?_
  refine G_putF (pc := 45) (ci := 12) (j := 5) rfl lk_RX12_22 rfl rfl rfl rfl rfl rfl dX12_init_45 ?_
  refine G_aload_n (pc := 48) rfl dX12_init_48 ?_
  refine G_sipush (pc := 49) (v := 144) (by decide) dX12_init_49 ?_
  refine G_new_char (pc := 52) (N := 144) wd_72 (by decide) (by decide) (by decide) (len := 73) (sh1 := [(0, 11), (1, 12), (1, 4), (1, 4), (5, 4), (1, 40), (1, 40), (1, 40), (1, 40), (1, 4), (1, 4), (1, 4), (4, 6), (0, 3), (0, 2), (0, 8), (0, 10), (0, 7), (0, 9), (0, 1), (1, 16), (1, 6), (1, 6), (1, 6), (1, 6), (1, 6), (1, 6), (0, 6), (1, 8), (1, 8), (1, 8), (1, 200), (1, 24), (1, 5), (1, 40), (0, 1), (1, 16), (1, 6), (1, 6), (1, 6), (1, 6), (1, 6), (1, 6), (0, 6), (1, 8), (1, 8), (1, 8), (1, 200), (1, 24), (1, 5), (1, 40), (0, 4), (1, 5), (1, 5), (1, 5), (0, 5), (1, 200), (0, 6), (1, 8), (1, 8), (1, 8), (1, 200), (2, 4), (2, 4), (2, 4), (0, 0), (1, 30), (0, 12), (1, 313), (1, 313), (1, 65), (1, 200), (1, 200), (3, 144)]) rfl rfl (fun j => by simp [gup, hz]) (by decide) (by decide) dX12_init_52 ?_
  refine G_dup (pc := 54) rfl dX12_init_54 ?_
  refine G_iconst (pc := 55) (v := 0) (by decide) dX12_init_55 ?_
  refine G_bipush (pc := 56) (v := 107) (by decide) dX12_init_56 ?_
  refine G_cast (pc := 58) (jj := 0) (w := 107) (by decide) (by decide) rfl (by unfold vp_in; decide) dX12_init_58 ?_
  refine G_dup (pc := 59) rfl dX12_init_59 ?_
  refine G_iconst (pc := 60) (v := 1) (by decide) dX12_init_60 ?_
  refine G_bipush (pc := 61) (v := 101) (by decide) dX12_init_61 ?_
  refine G_cast (pc := 63) (jj := 1) (w := 101) (by decide) (by decide) rfl (by unfold vp_in; decide) dX12_init_63 ?_
  refine G_dup (pc := 64) rfl dX12_init_64 ?_
  refine G_iconst (pc := 65) (v := 2) (by decide) dX12_init_65 ?_
  refine G_bipush (pc := 66) (v := 121) (by decide) dX12_init_66 ?_
  refine G_cast (pc := 68) (jj := 2) (w := 121) (by decide) (by decide) rfl (by unfold vp_in; decide) dX12_init_68 ?_
  refine G_dup (pc := 69) rfl dX12_init_69 ?_
  refine G_iconst (pc := 70) (v := 3) (by decide) dX12_init_70 ?_
  refine G_bipush (pc := 71) (v := 32) (by decide) dX12_init_71 ?_
  refine G_cast (pc := 73) (jj := 3) (w := 32) (by decide) (by decide) rfl (by unfold vp_in; decide) dX12_init_73 ?_
  refine G_dup (pc := 74) rfl dX12_init_74 ?_
  refine G_iconst (pc := 75) (v := 4) (by decide) dX12_init_75 ?_
  refine G_bipush (pc := 76) (v := 32) (by decide) dX12_init_76 ?_
  refine G_cast (pc := 78) (jj := 4) (w := 32) (by decide) (by decide) rfl (by unfold vp_in; decide) dX12_init_78 ?_
  refine G_dup (pc := 79) rfl dX12_init_79 ?_
  refine G_iconst (pc := 80) (v := 5) (by decide) dX12_init_80 ?_
  refine G_bipush (pc := 81) (v := 32) (by decide) dX12_init_81 ?_
  refine G_cast (pc := 83) (jj := 5) (w := 32) (by decide) (by decide) rfl (by unfold vp_in; decide) dX12_init_83 ?_
  refine G_dup (pc := 84) rfl dX12_init_84 ?_
  refine G_bipush (pc := 85) (v := 6) (by decide) dX12_init_85 ?_
  refine G_bipush (pc := 87) (v := 32) (by decide) dX12_init_87 ?_
  refine G_cast (pc := 89) (jj := 6) (w := 32) (by decide) (by decide) rfl (by unfold vp_in; decide) dX12_init_89 ?_
  refine G_dup (pc := 90) rfl dX12_init_90 ?_
  refine G_bipush (pc := 91) (v := 7) (by decide) dX12_init_91 ?_
  refine G_bipush (pc := 93) (v := 32) (by decide) dX12_init_93 ?_
  refine G_cast (pc := 95) (jj := 7) (w := 32) (by decide) (by decide) rfl (by unfold vp_in; decide) dX12_init_95 ?_
  refine G_dup (pc := 96) rfl dX12_init_96 ?_
  refine G_bipush (pc := 97) (v := 8) (by decide) dX12_init_97 ?_
  refine G_bipush (pc := 99) (v := 105) (by decide) dX12_init_99 ?_
  refine G_cast (pc := 101) (jj := 8) (w := 105) (by decide) (by decide) rfl (by unfold vp_in; decide) dX12_init_101 ?_
  refine G_dup (pc := 102) rfl dX12_init_102 ?_
  refine G_bipush (pc := 103) (v := 9) (by decide) dX12_init_103 ?_
  refine G_bipush (pc := 105) (v := 114) (by decide) dX12_init_105 ?_
  refine G_cast (pc := 107) (jj := 9) (w := 114) (by decide) (by decide) rfl (by unfold vp_in; decide) dX12_init_107 ?_
  refine G_dup (pc := 108) rfl dX12_init_108 ?_
  refine G_bipush (pc := 109) (v := 10) (by decide) dX12_init_109 ?_
  refine G_bipush (pc := 111) (v := 111) (by decide) dX12_init_111 ?_
  refine G_cast (pc := 113) (jj := 10) (w := 111) (by decide) (by decide) rfl (by unfold vp_in; decide) dX12_init_113 ?_
  refine G_dup (pc := 114) rfl dX12_init_114 ?_
  refine G_bipush (pc := 115) (v := 11) (by decide) dX12_init_115 ?_
  refine G_bipush (pc := 117) (v := 110) (by decide) dX12_init_117 ?_
  refine G_cast (pc := 119) (jj := 11) (w := 110) (by decide) (by decide) rfl (by unfold vp_in; decide) dX12_init_119 ?_
  refine G_dup (pc := 120) rfl dX12_init_120 ?_
  refine G_bipush (pc := 121) (v := 12) (by decide) dX12_init_121 ?_
  refine G_bipush (pc := 123) (v := 32) (by decide) dX12_init_123 ?_
  refine G_cast (pc := 125) (jj := 12) (w := 32) (by decide) (by decide) rfl (by unfold vp_in; decide) dX12_init_125 ?_
  refine G_dup (pc := 126) rfl dX12_init_126 ?_
  refine G_bipush (pc := 127) (v := 13) (by decide) dX12_init_127 ?_
  refine G_bipush (pc := 129) (v := 32) (by decide) dX12_init_129 ?_
  refine G_cast (pc := 131) (jj := 13) (w := 32) (by decide) (by decide) rfl (by unfold vp_in; decide) dX12_init_131 ?_
  refine G_dup (pc := 132) rfl dX12_init_132 ?_
  refine G_bipush (pc := 133) (v := 14) (by decide) dX12_init_133 ?_
  refine G_bipush (pc := 135) (v := 32) (by decide) dX12_init_135 ?_
  refine G_cast (pc := 137) (jj := 14) (w := 32) (by decide) (by decide) rfl (by unfold vp_in; decide) dX12_init_137 ?_
  refine G_dup (pc := 138) rfl dX12_init_138 ?_
  refine G_bipush (pc := 139) (v := 15) (by decide) dX12_init_139 ?_
  refine G_bipush (pc := 141) (v := 32) (by decide) dX12_init_141 ?_
  refine G_cast (pc := 143) (jj := 15) (w := 32) (by decide) (by decide) rfl (by unfold vp_in; decide) dX12_init_143 ?_
  refine G_dup (pc := 144) rfl dX12_init_144 ?_
  refine G_bipush (pc := 145) (v := 16) (by decide) dX12_init_145 ?_
  refine G_bipush (pc := 147) (v := 115) (by decide) dX12_init_147 ?_
  refine G_cast (pc := 149) (jj := 16) (w := 115) (by decide) (by decide) rfl (by unfold vp_in; decide) dX12_init_149 ?_
  refine G_dup (pc := 150) rfl dX12_init_150 ?_
  refine G_bipush (pc := 151) (v := 17) (by decide) dX12_init_151 ?_
  refine G_bipush (pc := 153) (v := 108) (by decide) dX12_init_153 ?_
  refine G_cast (pc := 155) (jj := 17) (w := 108) (by decide) (by decide) rfl (by unfold vp_in; decide) dX12_init_155 ?_
  refine G_dup (pc := 156) rfl dX12_init_156 ?_
  refine G_bipush (pc := 157) (v := 18) (by decide) dX12_init_157 ?_
  refine G_bipush (pc := 159) (v := 101) (by decide) dX12_init_159 ?_
  refine G_cast (pc := 161) (jj := 18) (w := 101) (by decide) (by decide) rfl (by unfold vp_in; decide) dX12_init_161 ?_
  refine G_dup (pc := 162) rfl dX12_init_162 ?_
  refine G_bipush (pc := 163) (v := 19) (by decide) dX12_init_163 ?_
  refine G_bipush (pc := 165) (v := 101) (by decide) dX12_init_165 ?_
  refine G_cast (pc := 167) (jj := 19) (w := 101) (by decide) (by decide) rfl (by unfold vp_in; decide) dX12_init_167 ?_
  refine G_dup (pc := 168) rfl dX12_init_168 ?_
  refine G_bipush (pc := 169) (v := 20) (by decide) dX12_init_169 ?_
  refine G_bipush (pc := 171) (v := 118) (by decide) dX12_init_171 ?_
  refine G_cast (pc := 173) (jj := 20) (w := 118) (by decide) (by decide) rfl (by unfold vp_in; decide) dX12_init_173 ?_
  refine G_dup (pc := 174) rfl dX12_init_174 ?_
  refine G_bipush (pc := 175) (v := 21) (by decide) dX12_init_175 ?_
  refine G_bipush (pc := 177) (v := 101) (by decide) dX12_init_177 ?_
  refine G_cast (pc := 179) (jj := 21) (w := 101) (by decide) (by decide) rfl (by unfold vp_in; decide) dX12_init_179 ?_
  refine G_dup (pc := 180) rfl dX12_init_180 ?_
  refine G_bipush (pc := 181) (v := 22) (by decide) dX12_init_181 ?_
  refine G_bipush (pc := 183) (v := 32) (by decide) dX12_init_183 ?_
  refine G_cast (pc := 185) (jj := 22) (w := 32) (by decide) (by decide) rfl (by unfold vp_in; decide) dX12_init_185 ?_
  refine G_dup (pc := 186) rfl dX12_init_186 ?_
  refine G_bipush (pc := 187) (v := 23) (by decide) dX12_init_187 ?_
  refine G_bipush (pc := 189) (v := 32) (by decide) dX12_init_189 ?_
  refine G_cast (pc := 191) (jj := 23) (w := 32) (by decide) (by decide) rfl (by unfold vp_in; decide) dX12_init_191 ?_
  refine G_dup (pc := 192) rfl dX12_init_192 ?_
  refine G_bipush (pc := 193) (v := 24) (by decide) dX12_init_193 ?_
  refine G_bipush (pc := 195) (v := 116) (by decide) dX12_init_195 ?_
  refine G_cast (pc := 197) (jj := 24) (w := 116) (by decide) (by decide) rfl (by unfold vp_in; decide) dX12_init_197 ?_
  refine G_dup (pc := 198) rfl dX12_init_198 ?_
  refine G_bipush (pc := 199) (v := 25) (by decide) dX12_init_199 ?_
  refine G_bipush (pc := 201) (v := 104) (by decide) dX12_init_201 ?_
  refine G_cast (pc := 203) (jj := 25) (w := 104) (by decide) (by decide) rfl (by unfold vp_in; decide) dX12_init_203 ?_
  refine G_dup (pc := 204) rfl dX12_init_204 ?_
  refine G_bipush (pc := 205) (v := 26) (by decide) dX12_init_205 ?_
  refine G_bipush (pc := 207) (v := 105) (by decide) dX12_init_207 ?_
  refine G_cast (pc := 209) (jj := 26) (w := 105) (by decide) (by decide) rfl (by unfold vp_in; decide) dX12_init_209 ?_
  refine G_dup (pc := 210) rfl dX12_init_210 ?_
  refine G_bipush (pc := 211) (v := 27) (by decide) dX12_init_211 ?_
  refine G_bipush (pc := 213) (v := 114) (by decide) dX12_init_213 ?_
  refine G_cast (pc := 215) (jj := 27) (w := 114) (by decide) (by decide) rfl (by unfold vp_in; decide) dX12_init_215 ?_
  refine G_dup (pc := 216) rfl dX12_init_216 ?_
  refine G_bipush (pc := 217) (v := 28) (by decide) dX12_init_217 ?_
  refine G_bipush (pc := 219) (v := 100) (by decide) dX12_init_219 ?_
  refine G_cast (pc := 221) (jj := 28) (w := 100) (by decide) (by decide) rfl (by unfold vp_in; decide) dX12_init_221 ?_
  refine G_dup (pc := 222) rfl dX12_init_222 ?_
  refine G_bipush (pc := 223) (v := 29) (by decide) dX12_init_223 ?_
  refine G_bipush (pc := 225) (v := 32) (by decide) dX12_init_225 ?_
  refine G_cast (pc := 227) (jj := 29) (w := 32) (by decide) (by decide) rfl (by unfold vp_in; decide) dX12_init_227 ?_
  refine G_dup (pc := 228) rfl dX12_init_228 ?_
  refine G_bipush (pc := 229) (v := 30) (by decide) dX12_init_229 ?_
  refine G_bipush (pc := 231) (v := 32) (by decide) dX12_init_231 ?_
  refine G_cast (pc := 233) (jj := 30) (w := 32) (by decide) (by decide) rfl (by unfold vp_in; decide) dX12_init_233 ?_
  refine G_dup (pc := 234) rfl dX12_init_234 ?_
  refine G_bipush (pc := 235) (v := 31) (by decide) dX12_init_235 ?_
  refine G_bipush (pc := 237) (v := 32) (by decide) dX12_init_237 ?_
  refine G_cast (pc := 239) (jj := 31) (w := 32) (by decide) (by decide) rfl (by unfold vp_in; decide) dX12_init_239 ?_
  refine G_dup (pc := 240) rfl dX12_init_240 ?_
  refine G_bipush (pc := 241) (v := 32) (by decide) dX12_init_241 ?_
  refine G_bipush (pc := 243) (v := 115) (by decide) dX12_init_243 ?_
  refine G_cast (pc := 245) (jj := 32) (w := 115) (by decide) (by decide) rfl (by unfold vp_in; decide) dX12_init_245 ?_
  refine G_dup (pc := 246) rfl dX12_init_246 ?_
  refine G_bipush (pc := 247) (v := 33) (by decide) dX12_init_247 ?_
  refine G_bipush (pc := 249) (v := 97) (by decide) dX12_init_249 ?_
  refine G_cast (pc := 251) (jj := 33) (w := 97) (by decide) (by decide) rfl (by unfold vp_in; decide) dX12_init_251 ?_
  refine G_dup (pc := 252) rfl dX12_init_252 ?_
  refine G_bipush (pc := 253) (v := 34) (by decide) dX12_init_253 ?_
  refine G_bipush (pc := 255) (v := 108) (by decide) dX12_init_255 ?_
  refine G_cast (pc := 257) (jj := 34) (w := 108) (by decide) (by decide) rfl (by unfold vp_in; decide) dX12_init_257 ?_
  refine G_dup (pc := 258) rfl dX12_init_258 ?_
  refine G_bipush (pc := 259) (v := 35) (by decide) dX12_init_259 ?_
  refine G_bipush (pc := 261) (v := 116) (by decide) dX12_init_261 ?_
  refine G_cast (pc := 263) (jj := 35) (w := 116) (by decide) (by decide) rfl (by unfold vp_in; decide) dX12_init_263 ?_
  refine G_dup (pc := 264) rfl dX12_init_264 ?_
  refine G_bipush (pc := 265) (v := 36) (by decide) dX12_init_265 ?_
  refine G_bipush (pc := 267) (v := 32) (by decide) dX12_init_267 ?_
  refine G_cast (pc := 269) (jj := 36) (w := 32) (by decide) (by decide) rfl (by unfold vp_in; decide) dX12_init_269 ?_
  refine G_dup (pc := 270) rfl dX12_init_270 ?_
  refine G_bipush (pc := 271) (v := 37) (by decide) dX12_init_271 ?_
  refine G_bipush (pc := 273) (v := 32) (by decide) dX12_init_273 ?_
  refine G_cast (pc := 275) (jj := 37) (w := 32) (by decide) (by decide) rfl (by unfold vp_in; decide) dX12_init_275 ?_
  refine G_dup (pc := 276) rfl dX12_init_276 ?_
  refine G_bipush (pc := 277) (v := 38) (by decide) dX12_init_277 ?_
  refine G_bipush (pc := 279) (v := 32) (by decide) dX12_init_279 ?_
  refine G_cast (pc := 281) (jj := 38) (w := 32) (by decide) (by decide) rfl (by unfold vp_in; decide) dX12_init_281 ?_
  refine G_dup (pc := 282) rfl dX12_init_282 ?_
  refine G_bipush (pc := 283) (v := 39) (by decide) dX12_init_283 ?_
  refine G_bipush (pc := 285) (v := 32) (by decide) dX12_init_285 ?_
  refine G_cast (pc := 287) (jj := 39) (w := 32) (by decide) (by decide) rfl (by unfold vp_in; decide) dX12_init_287 ?_
  refine G_dup (pc := 288) rfl dX12_init_288 ?_
  refine G_bipush (pc := 289) (v := 40) (by decide) dX12_init_289 ?_
  refine G_bipush (pc := 291) (v := 115) (by decide) dX12_init_291 ?_
  refine G_cast (pc := 293) (jj := 40) (w := 115) (by decide) (by decide) rfl (by unfold vp_in; decide) dX12_init_293 ?_
  refine G_dup (pc := 294) rfl dX12_init_294 ?_
  refine G_bipush (pc := 295) (v := 41) (by decide) dX12_init_295 ?_
  refine G_bipush (pc := 297) (v := 112) (by decide) dX12_init_297 ?_
  refine G_cast (pc := 299) (jj := 41) (w := 112) (by decide) (by decide) rfl (by unfold vp_in; decide) dX12_init_299 ?_
  refine G_dup (pc := 300) rfl dX12_init_300 ?_
  refine G_bipush (pc := 301) (v := 42) (by decide) dX12_init_301 ?_
  refine G_bipush (pc := 303) (v := 97) (by decide) dX12_init_303 ?_
  refine G_cast (pc := 305) (jj := 42) (w := 97) (by decide) (by decide) rfl (by unfold vp_in; decide) dX12_init_305 ?_
  refine G_dup (pc := 306) rfl dX12_init_306 ?_
  refine G_bipush (pc := 307) (v := 43) (by decide) dX12_init_307 ?_
  refine G_bipush (pc := 309) (v := 114) (by decide) dX12_init_309 ?_
  refine G_cast (pc := 311) (jj := 43) (w := 114) (by decide) (by decide) rfl (by unfold vp_in; decide) dX12_init_311 ?_
  refine G_dup (pc := 312) rfl dX12_init_312 ?_
  refine G_bipush (pc := 313) (v := 44) (by decide) dX12_init_313 ?_
  refine G_bipush (pc := 315) (v := 101) (by decide) dX12_init_315 ?_
  refine G_cast (pc := 317) (jj := 44) (w := 101) (by decide) (by decide) rfl (by unfold vp_in; decide) dX12_init_317 ?_
  refine G_dup (pc := 318) rfl dX12_init_318 ?_
  refine G_bipush (pc := 319) (v := 45) (by decide) dX12_init_319 ?_
  refine G_bipush (pc := 321) (v := 32) (by decide) dX12_init_321 ?_
  refine G_cast (pc := 323) (jj := 45) (w := 32) (by decide) (by decide) rfl (by unfold vp_in; decide) dX12_init_323 ?_
  refine G_dup (pc := 324) rfl dX12_init_324 ?_
  refine G_bipush (pc := 325) (v := 46) (by decide) dX12_init_325 ?_
  refine G_bipush (pc := 327) (v := 32) (by decide) dX12_init_327 ?_
  refine G_cast (pc := 329) (jj := 46) (w := 32) (by decide) (by decide) rfl (by unfold vp_in; decide) dX12_init_329 ?_
  refine G_dup (pc := 330) rfl dX12_init_330 ?_
  refine G_bipush (pc := 331) (v := 47) (by decide) dX12_init_331 ?_
  refine G_bipush (pc := 333) (v := 32) (by decide) dX12_init_333 ?_
  refine G_cast (pc := 335) (jj := 47) (w := 32) (by decide) (by decide) rfl (by unfold vp_in; decide) dX12_init_335 ?_
  refine G_dup (pc := 336) rfl dX12_init_336 ?_
  refine G_bipush (pc := 337) (v := 48) (by decide) dX12_init_337 ?_
  refine G_bipush (pc := 339) (v := 116) (by decide) dX12_init_339 ?_
  refine G_cast (pc := 341) (jj := 48) (w := 116) (by decide) (by decide) rfl (by unfold vp_in; decide) dX12_init_341 ?_
  refine G_dup (pc := 342) rfl dX12_init_342 ?_
  refine G_bipush (pc := 343) (v := 49) (by decide) dX12_init_343 ?_
  refine G_bipush (pc := 345) (v := 117) (by decide) dX12_init_345 ?_
  refine G_cast (pc := 347) (jj := 49) (w := 117) (by decide) (by decide) rfl (by unfold vp_in; decide) dX12_init_347 ?_
  refine G_dup (pc := 348) rfl dX12_init_348 ?_
  refine G_bipush (pc := 349) (v := 50) (by decide) dX12_init_349 ?_
  refine G_bipush (pc := 351) (v := 114) (by decide) dX12_init_351 ?_
  refine G_cast (pc := 353) (jj := 50) (w := 114) (by decide) (by decide) rfl (by unfold vp_in; decide) dX12_init_353 ?_
  refine G_dup (pc := 354) rfl dX12_init_354 ?_
  refine G_bipush (pc := 355) (v := 51) (by decide) dX12_init_355 ?_
  refine G_bipush (pc := 357) (v := 110) (by decide) dX12_init_357 ?_
  refine G_cast (pc := 359) (jj := 51) (w := 110) (by decide) (by decide) rfl (by unfold vp_in; decide) dX12_init_359 ?_
  refine G_dup (pc := 360) rfl dX12_init_360 ?_
  refine G_bipush (pc := 361) (v := 52) (by decide) dX12_init_361 ?_
  refine G_bipush (pc := 363) (v := 32) (by decide) dX12_init_363 ?_
  refine G_cast (pc := 365) (jj := 52) (w := 32) (by decide) (by decide) rfl (by unfold vp_in; decide) dX12_init_365 ?_
  refine G_dup (pc := 366) rfl dX12_init_366 ?_
  refine G_bipush (pc := 367) (v := 53) (by decide) dX12_init_367 ?_
  refine G_bipush (pc := 369) (v := 32) (by decide) dX12_init_369 ?_
  refine G_cast (pc := 371) (jj := 53) (w := 32) (by decide) (by decide) rfl (by unfold vp_in; decide) dX12_init_371 ?_
  refine G_dup (pc := 372) rfl dX12_init_372 ?_
  refine G_bipush (pc := 373) (v := 54) (by decide) dX12_init_373 ?_
  refine G_bipush (pc := 375) (v := 32) (by decide) dX12_init_375 ?_
  refine G_cast (pc := 377) (jj := 54) (w := 32) (by decide) (by decide) rfl (by unfold vp_in; decide) dX12_init_377 ?_
  refine G_dup (pc := 378) rfl dX12_init_378 ?_
  refine G_bipush (pc := 379) (v := 55) (by decide) dX12_init_379 ?_
  refine G_bipush (pc := 381) (v := 32) (by decide) dX12_init_381 ?_
  refine G_cast (pc := 383) (jj := 55) (w := 32) (by decide) (by decide) rfl (by unfold vp_in; decide) dX12_init_383 ?_
  refine G_dup (pc := 384) rfl dX12_init_384 ?_
  refine G_bipush (pc := 385) (v := 56) (by decide) dX12_init_385 ?_
  refine G_bipush (pc := 387) (v := 99) (by decide) dX12_init_387 ?_
  refine G_cast (pc := 389) (jj := 56) (w := 99) (by decide) (by decide) rfl (by unfold vp_in; decide) dX12_init_389 ?_
  refine G_dup (pc := 390) rfl dX12_init_390 ?_
  refine G_bipush (pc := 391) (v := 57) (by decide) dX12_init_391 ?_
  refine G_bipush (pc := 393) (v := 97) (by decide) dX12_init_393 ?_
  refine G_cast (pc := 395) (jj := 57) (w := 97) (by decide) (by decide) rfl (by unfold vp_in; decide) dX12_init_395 ?_
  refine G_dup (pc := 396) rfl dX12_init_396 ?_
  refine G_bipush (pc := 397) (v := 58) (by decide) dX12_init_397 ?_
  refine G_bipush (pc := 399) (v := 114) (by decide) dX12_init_399 ?_
  refine G_cast (pc := 401) (jj := 58) (w := 114) (by decide) (by decide) rfl (by unfold vp_in; decide) dX12_init_401 ?_
  refine G_dup (pc := 402) rfl dX12_init_402 ?_
  refine G_bipush (pc := 403) (v := 59) (by decide) dX12_init_403 ?_
  refine G_bipush (pc := 405) (v := 114) (by decide) dX12_init_405 ?_
  refine G_cast (pc := 407) (jj := 59) (w := 114) (by decide) (by decide) rfl (by unfold vp_in; decide) dX12_init_407 ?_
  refine G_dup (pc := 408) rfl dX12_init_408 ?_
  refine G_bipush (pc := 409) (v := 60) (by decide) dX12_init_409 ?_
  refine G_bipush (pc := 411) (v := 121) (by decide) dX12_init_411 ?_
  refine G_cast (pc := 413) (jj := 60) (w := 121) (by decide) (by decide) rfl (by unfold vp_in; decide) dX12_init_413 ?_
  refine G_dup (pc := 414) rfl dX12_init_414 ?_
  refine G_bipush (pc := 415) (v := 61) (by decide) dX12_init_415 ?_
  refine G_bipush (pc := 417) (v := 32) (by decide) dX12_init_417 ?_
  refine G_cast (pc := 419) (jj := 61) (w := 32) (by decide) (by decide) rfl (by unfold vp_in; decide) dX12_init_419 ?_
  refine G_dup (pc := 420) rfl dX12_init_420 ?_
  refine G_bipush (pc := 421) (v := 62) (by decide) dX12_init_421 ?_
  refine G_bipush (pc := 423) (v := 32) (by decide) dX12_init_423 ?_
  refine G_cast (pc := 425) (jj := 62) (w := 32) (by decide) (by decide) rfl (by unfold vp_in; decide) dX12_init_425 ?_
  refine G_dup (pc := 426) rfl dX12_init_426 ?_
  refine G_bipush (pc := 427) (v := 63) (by decide) dX12_init_427 ?_
  refine G_bipush (pc := 429) (v := 32) (by decide) dX12_init_429 ?_
  refine G_cast (pc := 431) (jj := 63) (w := 32) (by decide) (by decide) rfl (by unfold vp_in; decide) dX12_init_431 ?_
  refine G_dup (pc := 432) rfl dX12_init_432 ?_
  refine G_bipush (pc := 433) (v := 64) (by decide) dX12_init_433 ?_
  refine G_bipush (pc := 435) (v := 99) (by decide) dX12_init_435 ?_
  refine G_cast (pc := 437) (jj := 64) (w := 99) (by decide) (by decide) rfl (by unfold vp_in; decide) dX12_init_437 ?_
  refine G_dup (pc := 438) rfl dX12_init_438 ?_
  refine G_bipush (pc := 439) (v := 65) (by decide) dX12_init_439 ?_
  refine G_bipush (pc := 441) (v := 104) (by decide) dX12_init_441 ?_
  refine G_cast (pc := 443) (jj := 65) (w := 104) (by decide) (by decide) rfl (by unfold vp_in; decide) dX12_init_443 ?_
  refine G_dup (pc := 444) rfl dX12_init_444 ?_
  refine G_bipush (pc := 445) (v := 66) (by decide) dX12_init_445 ?_
  refine G_bipush (pc := 447) (v := 105) (by decide) dX12_init_447 ?_
  refine G_cast (pc := 449) (jj := 66) (w := 105) (by decide) (by decide) rfl (by unfold vp_in; decide) dX12_init_449 ?_
  refine G_dup (pc := 450) rfl dX12_init_450 ?_
  refine G_bipush (pc := 451) (v := 67) (by decide) dX12_init_451 ?_
  refine G_bipush (pc := 453) (v := 108) (by decide) dX12_init_453 ?_
  refine G_cast (pc := 455) (jj := 67) (w := 108) (by decide) (by decide) rfl (by unfold vp_in; decide) dX12_init_455 ?_
  refine G_dup (pc := 456) rfl dX12_init_456 ?_
  refine G_bipush (pc := 457) (v := 68) (by decide) dX12_init_457 ?_
  refine G_bipush (pc := 459) (v := 108) (by decide) dX12_init_459 ?_
  refine G_cast (pc := 461) (jj := 68) (w := 108) (by decide) (by decide) rfl (by unfold vp_in; decide) dX12_init_461 ?_
  refine G_dup (pc := 462) rfl dX12_init_462 ?_
  refine G_bipush (pc := 463) (v := 69) (by decide) dX12_init_463 ?_
  refine G_bipush (pc := 465) (v := 32) (by decide) dX12_init_465 ?_
  refine G_cast (pc := 467) (jj := 69) (w := 32) (by decide) (by decide) rfl (by unfold vp_in; decide) dX12_init_467 ?_
  refine G_dup (pc := 468) rfl dX12_init_468 ?_
  refine G_bipush (pc := 469) (v := 70) (by decide) dX12_init_469 ?_
  refine G_bipush (pc := 471) (v := 32) (by decide) dX12_init_471 ?_
  refine G_cast (pc := 473) (jj := 70) (w := 32) (by decide) (by decide) rfl (by unfold vp_in; decide) dX12_init_473 ?_
  refine G_dup (pc := 474) rfl dX12_init_474 ?_
  refine G_bipush (pc := 475) (v := 71) (by decide) dX12_init_475 ?_
  refine G_bipush (pc := 477) (v := 32) (by decide) dX12_init_477 ?_
  refine G_cast (pc := 479) (jj := 71) (w := 32) (by decide) (by decide) rfl (by unfold vp_in; decide) dX12_init_479 ?_
  refine G_dup (pc := 480) rfl dX12_init_480 ?_
  refine G_bipush (pc := 481) (v := 72) (by decide) dX12_init_481 ?_
  refine G_bipush (pc := 483) (v := 105) (by decide) dX12_init_483 ?_
  refine G_cast (pc := 485) (jj := 72) (w := 105) (by decide) (by decide) rfl (by unfold vp_in; decide) dX12_init_485 ?_
  refine G_dup (pc := 486) rfl dX12_init_486 ?_
  refine G_bipush (pc := 487) (v := 73) (by decide) dX12_init_487 ?_
  refine G_bipush (pc := 489) (v := 102) (by decide) dX12_init_489 ?_
  refine G_cast (pc := 491) (jj := 73) (w := 102) (by decide) (by decide) rfl (by unfold vp_in; decide) dX12_init_491 ?_
  refine G_dup (pc := 492) rfl dX12_init_492 ?_
  refine G_bipush (pc := 493) (v := 74) (by decide) dX12_init_493 ?_
  refine G_bipush (pc := 495) (v := 32) (by decide) dX12_init_495 ?_
  refine G_cast (pc := 497) (jj := 74) (w := 32) (by decide) (by decide) rfl (by unfold vp_in; decide) dX12_init_497 ?_
  refine G_dup (pc := 498) rfl dX12_init_498 ?_
  refine G_bipush (pc := 499) (v := 75) (by decide) dX12_init_499 ?_
  refine G_bipush (pc := 501) (v := 32) (by decide) dX12_init_501 ?_
  refine G_cast (pc := 503) (jj := 75) (w := 32) (by decide) (by decide) rfl (by unfold vp_in; decide) dX12_init_503 ?_
  refine G_dup (pc := 504) rfl dX12_init_504 ?_
  refine G_bipush (pc := 505) (v := 76) (by decide) dX12_init_505 ?_
  refine G_bipush (pc := 507) (v := 32) (by decide) dX12_init_507 ?_
  refine G_cast (pc := 509) (jj := 76) (w := 32) (by decide) (by decide) rfl (by unfold vp_in; decide) dX12_init_509 ?_
  refine G_dup (pc := 510) rfl dX12_init_510 ?_
  refine G_bipush (pc := 511) (v := 77) (by decide) dX12_init_511 ?_
  refine G_bipush (pc := 513) (v := 32) (by decide) dX12_init_513 ?_
  refine G_cast (pc := 515) (jj := 77) (w := 32) (by decide) (by decide) rfl (by unfold vp_in; decide) dX12_init_515 ?_
  refine G_dup (pc := 516) rfl dX12_init_516 ?_
  refine G_bipush (pc := 517) (v := 78) (by decide) dX12_init_517 ?_
  refine G_bipush (pc := 519) (v := 32) (by decide) dX12_init_519 ?_
  refine G_cast (pc := 521) (jj := 78) (w := 32) (by decide) (by decide) rfl (by unfold vp_in; decide) dX12_init_521 ?_
  refine G_dup (pc := 522) rfl dX12_init_522 ?_
  refine G_bipush (pc := 523) (v := 79) (by decide) dX12_init_523 ?_
  refine G_bipush (pc := 525) (v := 32) (by decide) dX12_init_525 ?_
  refine G_cast (pc := 527) (jj := 79) (w := 32) (by decide) (by decide) rfl (by unfold vp_in; decide) dX12_init_527 ?_
  refine G_dup (pc := 528) rfl dX12_init_528 ?_
  refine G_bipush (pc := 529) (v := 80) (by decide) dX12_init_529 ?_
  refine G_bipush (pc := 531) (v := 110) (by decide) dX12_init_531 ?_
  refine G_cast (pc := 533) (jj := 80) (w := 110) (by decide) (by decide) rfl (by unfold vp_in; decide) dX12_init_533 ?_
  refine G_dup (pc := 534) rfl dX12_init_534 ?_
  refine G_bipush (pc := 535) (v := 81) (by decide) dX12_init_535 ?_
  refine G_bipush (pc := 537) (v := 111) (by decide) dX12_init_537 ?_
  refine G_cast (pc := 539) (jj := 81) (w := 111) (by decide) (by decide) rfl (by unfold vp_in; decide) dX12_init_539 ?_
  refine G_dup (pc := 540) rfl dX12_init_540 ?_
  refine G_bipush (pc := 541) (v := 82) (by decide) dX12_init_541 ?_
  refine G_bipush (pc := 543) (v := 116) (by decide) dX12_init_543 ?_
  refine G_cast (pc := 545) (jj := 82) (w := 116) (by decide) (by decide) rfl (by unfold vp_in; decide) dX12_init_545 ?_
  refine G_dup (pc := 546) rfl dX12_init_546 ?_
  refine G_bipush (pc := 547) (v := 83) (by decide) dX12_init_547 ?_
  refine G_bipush (pc := 549) (v := 32) (by decide) dX12_init_549 ?_
  refine G_cast (pc := 551) (jj := 83) (w := 32) (by decide) (by decide) rfl (by unfold vp_in; decide) dX12_init_551 ?_
  refine G_dup (pc := 552) rfl dX12_init_552 ?_
  refine G_bipush (pc := 553) (v := 84) (by decide) dX12_init_553 ?_
  refine G_bipush (pc := 555) (v := 32) (by decide) dX12_init_555 ?_
  refine G_cast (pc := 557) (jj := 84) (w := 32) (by decide) (by decide) rfl (by unfold vp_in; decide) dX12_init_557 ?_
  refine G_dup (pc := 558) rfl dX12_init_558 ?_
  refine G_bipush (pc := 559) (v := 85) (by decide) dX12_init_559 ?_
  refine G_bipush (pc := 561) (v := 32) (by decide) dX12_init_561 ?_
  refine G_cast (pc := 563) (jj := 85) (w := 32) (by decide) (by decide) rfl (by unfold vp_in; decide) dX12_init_563 ?_
  refine G_dup (pc := 564) rfl dX12_init_564 ?_
  refine G_bipush (pc := 565) (v := 86) (by decide) dX12_init_565 ?_
  refine G_bipush (pc := 567) (v := 32) (by decide) dX12_init_567 ?_
  refine G_cast (pc := 569) (jj := 86) (w := 32) (by decide) (by decide) rfl (by unfold vp_in; decide) dX12_init_569 ?_
  refine G_dup (pc := 570) rfl dX12_init_570 ?_
  refine G_bipush (pc := 571) (v := 87) (by decide) dX12_init_571 ?_
  refine G_bipush (pc := 573) (v := 32) (by decide) dX12_init_573 ?_
  refine G_cast (pc := 575) (jj := 87) (w := 32) (by decide) (by decide) rfl (by unfold vp_in; decide) dX12_init_575 ?_
  refine G_dup (pc := 576) rfl dX12_init_576 ?_
  refine G_bipush (pc := 577) (v := 88) (by decide) dX12_init_577 ?_
  refine G_bipush (pc := 579) (v := 97) (by decide) dX12_init_579 ?_
  refine G_cast (pc := 581) (jj := 88) (w := 97) (by decide) (by decide) rfl (by unfold vp_in; decide) dX12_init_581 ?_
  refine G_dup (pc := 582) rfl dX12_init_582 ?_
  refine G_bipush (pc := 583) (v := 89) (by decide) dX12_init_583 ?_
  refine G_bipush (pc := 585) (v := 110) (by decide) dX12_init_585 ?_
  refine G_cast (pc := 587) (jj := 89) (w := 110) (by decide) (by decide) rfl (by unfold vp_in; decide) dX12_init_587 ?_
  refine G_dup (pc := 588) rfl dX12_init_588 ?_
  refine G_bipush (pc := 589) (v := 90) (by decide) dX12_init_589 ?_
  refine G_bipush (pc := 591) (v := 100) (by decide) dX12_init_591 ?_
  refine G_cast (pc := 593) (jj := 90) (w := 100) (by decide) (by decide) rfl (by unfold vp_in; decide) dX12_init_593 ?_
  refine G_dup (pc := 594) rfl dX12_init_594 ?_
  refine G_bipush (pc := 595) (v := 91) (by decide) dX12_init_595 ?_
  refine G_bipush (pc := 597) (v := 32) (by decide) dX12_init_597 ?_
  refine G_cast (pc := 599) (jj := 91) (w := 32) (by decide) (by decide) rfl (by unfold vp_in; decide) dX12_init_599 ?_
  refine G_dup (pc := 600) rfl dX12_init_600 ?_
  refine G_bipush (pc := 601) (v := 92) (by decide) dX12_init_601 ?_
  refine G_bipush (pc := 603) (v := 32) (by decide) dX12_init_603 ?_
  refine G_cast (pc := 605) (jj := 92) (w := 32) (by decide) (by decide) rfl (by unfold vp_in; decide) dX12_init_605 ?_
  refine G_dup (pc := 606) rfl dX12_init_606 ?_
  refine G_bipush (pc := 607) (v := 93) (by decide) dX12_init_607 ?_
  refine G_bipush (pc := 609) (v := 32) (by decide) dX12_init_609 ?_
  refine G_cast (pc := 611) (jj := 93) (w := 32) (by decide) (by decide) rfl (by unfold vp_in; decide) dX12_init_611 ?_
  refine G_dup (pc := 612) rfl dX12_init_612 ?_
  refine G_bipush (pc := 613) (v := 94) (by decide) dX12_init_613 ?_
  refine G_bipush (pc := 615) (v := 32) (by decide) dX12_init_615 ?_
  refine G_cast (pc := 617) (jj := 94) (w := 32) (by decide) (by decide) rfl (by unfold vp_in; decide) dX12_init_617 ?_
  refine G_dup (pc := 618) rfl dX12_init_618 ?_
  refine G_bipush (pc := 619) (v := 95) (by decide) dX12_init_619 ?_
  refine G_bipush (pc := 621) (v := 32) (by decide) dX12_init_621 ?_
  refine G_cast (pc := 623) (jj := 95) (w := 32) (by decide) (by decide) rfl (by unfold vp_in; decide) dX12_init_623 ?_
  refine G_dup (pc := 624) rfl dX12_init_624 ?_
  refine G_bipush (pc := 625) (v := 96) (by decide) dX12_init_625 ?_
  refine G_bipush (pc := 627) (v := 111) (by decide) dX12_init_627 ?_
  refine G_cast (pc := 629) (jj := 96) (w := 111) (by decide) (by decide) rfl (by unfold vp_in; decide) dX12_init_629 ?_
  refine G_dup (pc := 630) rfl dX12_init_630 ?_
  refine G_bipush (pc := 631) (v := 97) (by decide) dX12_init_631 ?_
  refine G_bipush (pc := 633) (v := 114) (by decide) dX12_init_633 ?_
  refine G_cast (pc := 635) (jj := 97) (w := 114) (by decide) (by decide) rfl (by unfold vp_in; decide) dX12_init_635 ?_
  refine G_dup (pc := 636) rfl dX12_init_636 ?_
  refine G_bipush (pc := 637) (v := 98) (by decide) dX12_init_637 ?_
  refine G_bipush (pc := 639) (v := 32) (by decide) dX12_init_639 ?_
  refine G_cast (pc := 641) (jj := 98) (w := 32) (by decide) (by decide) rfl (by unfold vp_in; decide) dX12_init_641 ?_
  refine G_dup (pc := 642) rfl dX12_init_642 ?_
  refine G_bipush (pc := 643) (v := 99) (by decide) dX12_init_643 ?_
  refine G_bipush (pc := 645) (v := 32) (by decide) dX12_init_645 ?_
  refine G_cast (pc := 647) (jj := 99) (w := 32) (by decide) (by decide) rfl (by unfold vp_in; decide) dX12_init_647 ?_
  refine G_dup (pc := 648) rfl dX12_init_648 ?_
  refine G_bipush (pc := 649) (v := 100) (by decide) dX12_init_649 ?_
  refine G_bipush (pc := 651) (v := 32) (by decide) dX12_init_651 ?_
  refine G_cast (pc := 653) (jj := 100) (w := 32) (by decide) (by decide) rfl (by unfold vp_in; decide) dX12_init_653 ?_
  refine G_dup (pc := 654) rfl dX12_init_654 ?_
  refine G_bipush (pc := 655) (v := 101) (by decide) dX12_init_655 ?_
  refine G_bipush (pc := 657) (v := 32) (by decide) dX12_init_657 ?_
  refine G_cast (pc := 659) (jj := 101) (w := 32) (by decide) (by decide) rfl (by unfold vp_in; decide) dX12_init_659 ?_
  refine G_dup (pc := 660) rfl dX12_init_660 ?_
  refine G_bipush (pc := 661) (v := 102) (by decide) dX12_init_661 ?_
  refine G_bipush (pc := 663) (v := 32) (by decide) dX12_init_663 ?_
  refine G_cast (pc := 665) (jj := 102) (w := 32) (by decide) (by decide) rfl (by unfold vp_in; decide) dX12_init_665 ?_
  refine G_dup (pc := 666) rfl dX12_init_666 ?_
  refine G_bipush (pc := 667) (v := 103) (by decide) dX12_init_667 ?_
  refine G_bipush (pc := 669) (v := 32) (by decide) dX12_init_669 ?_
  refine G_cast (pc := 671) (jj := 103) (w := 32) (by decide) (by decide) rfl (by unfold vp_in; decide) dX12_init_671 ?_
  refine G_dup (pc := 672) rfl dX12_init_672 ?_
  refine G_bipush (pc := 673) (v := 104) (by decide) dX12_init_673 ?_
  refine G_bipush (pc := 675) (v := 104) (by decide) dX12_init_675 ?_
  refine G_cast (pc := 677) (jj := 104) (w := 104) (by decide) (by decide) rfl (by unfold vp_in; decide) dX12_init_677 ?_
  refine G_dup (pc := 678) rfl dX12_init_678 ?_
  refine G_bipush (pc := 679) (v := 105) (by decide) dX12_init_679 ?_
  refine G_bipush (pc := 681) (v := 97) (by decide) dX12_init_681 ?_
  refine G_cast (pc := 683) (jj := 105) (w := 97) (by decide) (by decide) rfl (by unfold vp_in; decide) dX12_init_683 ?_
  refine G_dup (pc := 684) rfl dX12_init_684 ?_
  refine G_bipush (pc := 685) (v := 106) (by decide) dX12_init_685 ?_
  refine G_bipush (pc := 687) (v := 108) (by decide) dX12_init_687 ?_
  refine G_cast (pc := 689) (jj := 106) (w := 108) (by decide) (by decide) rfl (by unfold vp_in; decide) dX12_init_689 ?_
  refine G_dup (pc := 690) rfl dX12_init_690 ?_
  refine G_bipush (pc := 691) (v := 107) (by decide) dX12_init_691 ?_
  refine G_bipush (pc := 693) (v := 116) (by decide) dX12_init_693 ?_
  refine G_cast (pc := 695) (jj := 107) (w := 116) (by decide) (by decide) rfl (by unfold vp_in; decide) dX12_init_695 ?_
  refine G_dup (pc := 696) rfl dX12_init_696 ?_
  refine G_bipush (pc := 697) (v := 108) (by decide) dX12_init_697 ?_
  refine G_bipush (pc := 699) (v := 32) (by decide) dX12_init_699 ?_
  refine G_cast (pc := 701) (jj := 108) (w := 32) (by decide) (by decide) rfl (by unfold vp_in; decide) dX12_init_701 ?_
  refine G_dup (pc := 702) rfl dX12_init_702 ?_
  refine G_bipush (pc := 703) (v := 109) (by decide) dX12_init_703 ?_
  refine G_bipush (pc := 705) (v := 32) (by decide) dX12_init_705 ?_
  refine G_cast (pc := 707) (jj := 109) (w := 32) (by decide) (by decide) rfl (by unfold vp_in; decide) dX12_init_707 ?_
  refine G_dup (pc := 708) rfl dX12_init_708 ?_
  refine G_bipush (pc := 709) (v := 110) (by decide) dX12_init_709 ?_
  refine G_bipush (pc := 711) (v := 32) (by decide) dX12_init_711 ?_
  refine G_cast (pc := 713) (jj := 110) (w := 32) (by decide) (by decide) rfl (by unfold vp_in; decide) dX12_init_713 ?_
  refine G_dup (pc := 714) rfl dX12_init_714 ?_
  refine G_bipush (pc := 715) (v := 111) (by decide) dX12_init_715 ?_
  refine G_bipush (pc := 717) (v := 32) (by decide) dX12_init_717 ?_
  refine G_cast (pc := 719) (jj := 111) (w := 32) (by decide) (by decide) rfl (by unfold vp_in; decide) dX12_init_719 ?_
  refine G_dup (pc := 720) rfl dX12_init_720 ?_
  refine G_bipush (pc := 721) (v := 112) (by decide) dX12_init_721 ?_
  refine G_bipush (pc := 723) (v := 116) (by decide) dX12_init_723 ?_
  refine G_cast (pc := 725) (jj := 112) (w := 116) (by decide) (by decide) rfl (by unfold vp_in; decide) dX12_init_725 ?_
  refine G_dup (pc := 726) rfl dX12_init_726 ?_
  refine G_bipush (pc := 727) (v := 113) (by decide) dX12_init_727 ?_
  refine G_bipush (pc := 729) (v := 101) (by decide) dX12_init_729 ?_
  refine G_cast (pc := 731) (jj := 113) (w := 101) (by decide) (by decide) rfl (by unfold vp_in; decide) dX12_init_731 ?_
  refine G_dup (pc := 732) rfl dX12_init_732 ?_
  refine G_bipush (pc := 733) (v := 114) (by decide) dX12_init_733 ?_
  refine G_bipush (pc := 735) (v := 101) (by decide) dX12_init_735 ?_
  refine G_cast (pc := 737) (jj := 114) (w := 101) (by decide) (by decide) rfl (by unfold vp_in; decide) dX12_init_737 ?_
  refine G_dup (pc := 738) rfl dX12_init_738 ?_
  refine G_bipush (pc := 739) (v := 115) (by decide) dX12_init_739 ?_
  refine G_bipush (pc := 741) (v := 116) (by decide) dX12_init_741 ?_
  refine G_cast (pc := 743) (jj := 115) (w := 116) (by decide) (by decide) rfl (by unfold vp_in; decide) dX12_init_743 ?_
  refine G_dup (pc := 744) rfl dX12_init_744 ?_
  refine G_bipush (pc := 745) (v := 116) (by decide) dX12_init_745 ?_
  refine G_bipush (pc := 747) (v := 104) (by decide) dX12_init_747 ?_
  refine G_cast (pc := 749) (jj := 116) (w := 104) (by decide) (by decide) rfl (by unfold vp_in; decide) dX12_init_749 ?_
  refine G_dup (pc := 750) rfl dX12_init_750 ?_
  refine G_bipush (pc := 751) (v := 117) (by decide) dX12_init_751 ?_
  refine G_bipush (pc := 753) (v := 32) (by decide) dX12_init_753 ?_
  refine G_cast (pc := 755) (jj := 117) (w := 32) (by decide) (by decide) rfl (by unfold vp_in; decide) dX12_init_755 ?_
  refine G_dup (pc := 756) rfl dX12_init_756 ?_
  refine G_bipush (pc := 757) (v := 118) (by decide) dX12_init_757 ?_
  refine G_bipush (pc := 759) (v := 32) (by decide) dX12_init_759 ?_
  refine G_cast (pc := 761) (jj := 118) (w := 32) (by decide) (by decide) rfl (by unfold vp_in; decide) dX12_init_761 ?_
  refine G_dup (pc := 762) rfl dX12_init_762 ?_
  refine G_bipush (pc := 763) (v := 119) (by decide) dX12_init_763 ?_
  refine G_bipush (pc := 765) (v := 32) (by decide) dX12_init_765 ?_
  refine G_cast (pc := 767) (jj := 119) (w := 32) (by decide) (by decide) rfl (by unfold vp_in; decide) dX12_init_767 ?_
  refine G_dup (pc := 768) rfl dX12_init_768 ?_
  refine G_bipush (pc := 769) (v := 120) (by decide) dX12_init_769 ?_
  refine G_bipush (pc := 771) (v := 115) (by decide) dX12_init_771 ?_
  refine G_cast (pc := 773) (jj := 120) (w := 115) (by decide) (by decide) rfl (by unfold vp_in; decide) dX12_init_773 ?_
  refine G_dup (pc := 774) rfl dX12_init_774 ?_
  refine G_bipush (pc := 775) (v := 121) (by decide) dX12_init_775 ?_
  refine G_bipush (pc := 777) (v := 116) (by decide) dX12_init_777 ?_
  refine G_cast (pc := 779) (jj := 121) (w := 116) (by decide) (by decide) rfl (by unfold vp_in; decide) dX12_init_779 ?_
  refine G_dup (pc := 780) rfl dX12_init_780 ?_
  refine G_bipush (pc := 781) (v := 122) (by decide) dX12_init_781 ?_
  refine G_bipush (pc := 783) (v := 114) (by decide) dX12_init_783 ?_
  refine G_cast (pc := 785) (jj := 122) (w := 114) (by decide) (by decide) rfl (by unfold vp_in; decide) dX12_init_785 ?_
  refine G_dup (pc := 786) rfl dX12_init_786 ?_
  refine G_bipush (pc := 787) (v := 123) (by decide) dX12_init_787 ?_
  refine G_bipush (pc := 789) (v := 97) (by decide) dX12_init_789 ?_
  refine G_cast (pc := 791) (jj := 123) (w := 97) (by decide) (by decide) rfl (by unfold vp_in; decide) dX12_init_791 ?_
  refine G_dup (pc := 792) rfl dX12_init_792 ?_
  refine G_bipush (pc := 793) (v := 124) (by decide) dX12_init_793 ?_
  refine G_bipush (pc := 795) (v := 119) (by decide) dX12_init_795 ?_
  refine G_cast (pc := 797) (jj := 124) (w := 119) (by decide) (by decide) rfl (by unfold vp_in; decide) dX12_init_797 ?_
  refine G_dup (pc := 798) rfl dX12_init_798 ?_
  refine G_bipush (pc := 799) (v := 125) (by decide) dX12_init_799 ?_
  refine G_bipush (pc := 801) (v := 32) (by decide) dX12_init_801 ?_
  refine G_cast (pc := 803) (jj := 125) (w := 32) (by decide) (by decide) rfl (by unfold vp_in; decide) dX12_init_803 ?_
  refine G_dup (pc := 804) rfl dX12_init_804 ?_
  refine G_bipush (pc := 805) (v := 126) (by decide) dX12_init_805 ?_
  refine G_bipush (pc := 807) (v := 32) (by decide) dX12_init_807 ?_
  refine G_cast (pc := 809) (jj := 126) (w := 32) (by decide) (by decide) rfl (by unfold vp_in; decide) dX12_init_809 ?_
  refine G_dup (pc := 810) rfl dX12_init_810 ?_
  refine G_bipush (pc := 811) (v := 127) (by decide) dX12_init_811 ?_
  refine G_bipush (pc := 813) (v := 32) (by decide) dX12_init_813 ?_
  refine G_cast (pc := 815) (jj := 127) (w := 32) (by decide) (by decide) rfl (by unfold vp_in; decide) dX12_init_815 ?_
  refine G_dup (pc := 816) rfl dX12_init_816 ?_
  refine G_sipush (pc := 817) (v := 128) (by decide) dX12_init_817 ?_
  refine G_bipush (pc := 820) (v := 104) (by decide) dX12_init_820 ?_
  refine G_cast (pc := 822) (jj := 128) (w := 104) (by decide) (by decide) rfl (by unfold vp_in; decide) dX12_init_822 ?_
  refine G_dup (pc := 823) rfl dX12_init_823 ?_
  refine G_sipush (pc := 824) (v := 129) (by decide) dX12_init_824 ?_
  refine G_bipush (pc := 827) (v := 101) (by decide) dX12_init_827 ?_
  refine G_cast (pc := 829) (jj := 129) (w := 101) (by decide) (by decide) rfl (by unfold vp_in; decide) dX12_init_829 ?_
  refine G_dup (pc := 830) rfl dX12_init_830 ?_
  refine G_sipush (pc := 831) (v := 130) (by decide) dX12_init_831 ?_
  refine G_bipush (pc := 834) (v := 97) (by decide) dX12_init_834 ?_
  refine G_cast (pc := 836) (jj := 130) (w := 97) (by decide) (by decide) rfl (by unfold vp_in; decide) dX12_init_836 ?_
  refine G_dup (pc := 837) rfl dX12_init_837 ?_
  refine G_sipush (pc := 838) (v := 131) (by decide) dX12_init_838 ?_
  refine G_bipush (pc := 841) (v := 116) (by decide) dX12_init_841 ?_
  refine G_cast (pc := 843) (jj := 131) (w := 116) (by decide) (by decide) rfl (by unfold vp_in; decide) dX12_init_843 ?_
  refine G_dup (pc := 844) rfl dX12_init_844 ?_
  refine G_sipush (pc := 845) (v := 132) (by decide) dX12_init_845 ?_
  refine G_bipush (pc := 848) (v := 32) (by decide) dX12_init_848 ?_
  refine G_cast (pc := 850) (jj := 132) (w := 32) (by decide) (by decide) rfl (by unfold vp_in; decide) dX12_init_850 ?_
  refine G_dup (pc := 851) rfl dX12_init_851 ?_
  refine G_sipush (pc := 852) (v := 133) (by decide) dX12_init_852 ?_
  refine G_bipush (pc := 855) (v := 32) (by decide) dX12_init_855 ?_
  refine G_cast (pc := 857) (jj := 133) (w := 32) (by decide) (by decide) rfl (by unfold vp_in; decide) dX12_init_857 ?_
  refine G_dup (pc := 858) rfl dX12_init_858 ?_
  refine G_sipush (pc := 859) (v := 134) (by decide) dX12_init_859 ?_
  refine G_bipush (pc := 862) (v := 32) (by decide) dX12_init_862 ?_
  refine G_cast (pc := 864) (jj := 134) (w := 32) (by decide) (by decide) rfl (by unfold vp_in; decide) dX12_init_864 ?_
  refine G_dup (pc := 865) rfl dX12_init_865 ?_
  refine G_sipush (pc := 866) (v := 135) (by decide) dX12_init_866 ?_
  refine G_bipush (pc := 869) (v := 32) (by decide) dX12_init_869 ?_
  refine G_cast (pc := 871) (jj := 135) (w := 32) (by decide) (by decide) rfl (by unfold vp_in; decide) dX12_init_871 ?_
  refine G_dup (pc := 872) rfl dX12_init_872 ?_
  refine G_sipush (pc := 873) (v := 136) (by decide) dX12_init_873 ?_
  refine G_bipush (pc := 876) (v := 110) (by decide) dX12_init_876 ?_
  refine G_cast (pc := 878) (jj := 136) (w := 110) (by decide) (by decide) rfl (by unfold vp_in; decide) dX12_init_878 ?_
  refine G_dup (pc := 879) rfl dX12_init_879 ?_
  refine G_sipush (pc := 880) (v := 137) (by decide) dX12_init_880 ?_
  refine G_bipush (pc := 883) (v := 117) (by decide) dX12_init_883 ?_
  refine G_cast (pc := 885) (jj := 137) (w := 117) (by decide) (by decide) rfl (by unfold vp_in; decide) dX12_init_885 ?_
  refine G_dup (pc := 886) rfl dX12_init_886 ?_
  refine G_sipush (pc := 887) (v := 138) (by decide) dX12_init_887 ?_
  refine G_bipush (pc := 890) (v := 109) (by decide) dX12_init_890 ?_
  refine G_cast (pc := 892) (jj := 138) (w := 109) (by decide) (by decide) rfl (by unfold vp_in; decide) dX12_init_892 ?_
  refine G_dup (pc := 893) rfl dX12_init_893 ?_
  refine G_sipush (pc := 894) (v := 139) (by decide) dX12_init_894 ?_
  refine G_bipush (pc := 897) (v := 98) (by decide) dX12_init_897 ?_
  refine G_cast (pc := 899) (jj := 139) (w := 98) (by decide) (by decide) rfl (by unfold vp_in; decide) dX12_init_899 ?_
  refine G_dup (pc := 900) rfl dX12_init_900 ?_
  refine G_sipush (pc := 901) (v := 140) (by decide) dX12_init_901 ?_
  refine G_bipush (pc := 904) (v := 101) (by decide) dX12_init_904 ?_
  refine G_cast (pc := 906) (jj := 140) (w := 101) (by decide) (by decide) rfl (by unfold vp_in; decide) dX12_init_906 ?_
  refine G_dup (pc := 907) rfl dX12_init_907 ?_
  refine G_sipush (pc := 908) (v := 141) (by decide) dX12_init_908 ?_
  refine G_bipush (pc := 911) (v := 114) (by decide) dX12_init_911 ?_
  refine G_cast (pc := 913) (jj := 141) (w := 114) (by decide) (by decide) rfl (by unfold vp_in; decide) dX12_init_913 ?_
  refine G_dup (pc := 914) rfl dX12_init_914 ?_
  refine G_sipush (pc := 915) (v := 142) (by decide) dX12_init_915 ?_
  refine G_bipush (pc := 918) (v := 32) (by decide) dX12_init_918 ?_
  refine G_cast (pc := 920) (jj := 142) (w := 32) (by decide) (by decide) rfl (by unfold vp_in; decide) dX12_init_920 ?_
  refine G_dup (pc := 921) rfl dX12_init_921 ?_
  refine G_sipush (pc := 922) (v := 143) (by decide) dX12_init_922 ?_
  refine G_bipush (pc := 925) (v := 32) (by decide) dX12_init_925 ?_
  refine G_cast (pc := 927) (jj := 143) (w := 32) (by decide) (by decide) rfl (by unfold vp_in; decide) dX12_init_927 ?_
  refine G_putF (pc := 928) (ci := 12) (j := 7) rfl lk_RX12_25 rfl rfl rfl rfl rfl rfl dX12_init_928 ?_
  refine G_aload_n (pc := 931) rfl dX12_init_931 ?_
  refine G_sipush (pc := 932) (v := 200) (by decide) dX12_init_932 ?_
  refine G_new_int (pc := 935) (N := 200) wd_3 (by decide) (by decide) (by decide) (len := 74) (sh1 := [(0, 11), (1, 12), (1, 4), (1, 4), (5, 4), (1, 40), (1, 40), (1, 40), (1, 40), (1, 4), (1, 4), (1, 4), (4, 6), (0, 3), (0, 2), (0, 8), (0, 10), (0, 7), (0, 9), (0, 1), (1, 16), (1, 6), (1, 6), (1, 6), (1, 6), (1, 6), (1, 6), (0, 6), (1, 8), (1, 8), (1, 8), (1, 200), (1, 24), (1, 5), (1, 40), (0, 1), (1, 16), (1, 6), (1, 6), (1, 6), (1, 6), (1, 6), (1, 6), (0, 6), (1, 8), (1, 8), (1, 8), (1, 200), (1, 24), (1, 5), (1, 40), (0, 4), (1, 5), (1, 5), (1, 5), (0, 5), (1, 200), (0, 6), (1, 8), (1, 8), (1, 8), (1, 200), (2, 4), (2, 4), (2, 4), (0, 0), (1, 30), (0, 12), (1, 313), (1, 313), (1, 65), (1, 200), (1, 200), (3, 144), (1, 200)]) rfl rfl (fun j => by simp [gup, hz]) (by decide) (by decide) dX12_init_935 ?_
  refine G_putF (pc := 937) (ci := 12) (j := 14) rfl lk_RX12_29 rfl rfl rfl rfl rfl rfl dX12_init_937 ?_
  refine G_aload_n (pc := 940) rfl dX12_init_940 ?_
  refine G_bipush (pc := 941) (v := 24) (by decide) dX12_init_941 ?_
  refine G_new_int (pc := 943) (N := 24) wd_3 (by decide) (by decide) (by decide) (len := 75) (sh1 := [(0, 11), (1, 12), (1, 4), (1, 4), (5, 4), (1, 40), (1, 40), (1, 40), (1, 40), (1, 4), (1, 4), (1, 4), (4, 6), (0, 3), (0, 2), (0, 8), (0, 10), (0, 7), (0, 9), (0, 1), (1, 16), (1, 6), (1, 6), (1, 6), (1, 6), (1, 6), (1, 6), (0, 6), (1, 8), (1, 8), (1, 8), (1, 200), (1, 24), (1, 5), (1, 40), (0, 1), (1, 16), (1, 6), (1, 6), (1, 6), (1, 6), (1, 6), (1, 6), (0, 6), (1, 8), (1, 8), (1, 8), (1, 200), (1, 24), (1, 5), (1, 40), (0, 4), (1, 5), (1, 5), (1, 5), (0, 5), (1, 200), (0, 6), (1, 8), (1, 8), (1, 8), (1, 200), (2, 4), (2, 4), (2, 4), (0, 0), (1, 30), (0, 12), (1, 313), (1, 313), (1, 65), (1, 200), (1, 200), (3, 144), (1, 200), (1, 24)]) rfl rfl (fun j => by simp [gup, hz]) (by decide) (by decide) dX12_init_943 ?_
  refine G_putF (pc := 945) (ci := 12) (j := 15) rfl lk_RX12_32 rfl rfl rfl rfl rfl rfl dX12_init_945 ?_
  refine G_aload_n (pc := 948) rfl dX12_init_948 ?_
  refine G_sipush (pc := 949) (v := 325) (by decide) dX12_init_949 ?_
  refine G_new_int (pc := 952) (N := 325) wd_3 (by decide) (by decide) (by decide) (len := 76) (sh1 := [(0, 11), (1, 12), (1, 4), (1, 4), (5, 4), (1, 40), (1, 40), (1, 40), (1, 40), (1, 4), (1, 4), (1, 4), (4, 6), (0, 3), (0, 2), (0, 8), (0, 10), (0, 7), (0, 9), (0, 1), (1, 16), (1, 6), (1, 6), (1, 6), (1, 6), (1, 6), (1, 6), (0, 6), (1, 8), (1, 8), (1, 8), (1, 200), (1, 24), (1, 5), (1, 40), (0, 1), (1, 16), (1, 6), (1, 6), (1, 6), (1, 6), (1, 6), (1, 6), (0, 6), (1, 8), (1, 8), (1, 8), (1, 200), (1, 24), (1, 5), (1, 40), (0, 4), (1, 5), (1, 5), (1, 5), (0, 5), (1, 200), (0, 6), (1, 8), (1, 8), (1, 8), (1, 200), (2, 4), (2, 4), (2, 4), (0, 0), (1, 30), (0, 12), (1, 313), (1, 313), (1, 65), (1, 200), (1, 200), (3, 144), (1, 200), (1, 24), (1, 325)]) rfl rfl (fun j => by simp [gup, hz]) (by decide) (by decide) dX12_init_952 ?_
  refine G_putF (pc := 954) (ci := 12) (j := 16) rfl lk_RX12_35 rfl rfl rfl rfl rfl rfl dX12_init_954 ?_
  refine G_aload_n (pc := 957) rfl dX12_init_957 ?_
  refine G_iconst (pc := 958) (v := 4) (by decide) dX12_init_958 ?_
  refine G_new_int (pc := 959) (N := 4) wd_3 (by decide) (by decide) (by decide) (len := 77) (sh1 := [(0, 11), (1, 12), (1, 4), (1, 4), (5, 4), (1, 40), (1, 40), (1, 40), (1, 40), (1, 4), (1, 4), (1, 4), (4, 6), (0, 3), (0, 2), (0, 8), (0, 10), (0, 7), (0, 9), (0, 1), (1, 16), (1, 6), (1, 6), (1, 6), (1, 6), (1, 6), (1, 6), (0, 6), (1, 8), (1, 8), (1, 8), (1, 200), (1, 24), (1, 5), (1, 40), (0, 1), (1, 16), (1, 6), (1, 6), (1, 6), (1, 6), (1, 6), (1, 6), (0, 6), (1, 8), (1, 8), (1, 8), (1, 200), (1, 24), (1, 5), (1, 40), (0, 4), (1, 5), (1, 5), (1, 5), (0, 5), (1, 200), (0, 6), (1, 8), (1, 8), (1, 8), (1, 200), (2, 4), (2, 4), (2, 4), (0, 0), (1, 30), (0, 12), (1, 313), (1, 313), (1, 65), (1, 200), (1, 200), (3, 144), (1, 200), (1, 24), (1, 325), (1, 4)]) rfl rfl (fun j => by simp [gup, hz]) (by decide) (by decide) dX12_init_959 ?_
  refine G_putF (pc := 961) (ci := 12) (j := 17) rfl lk_RX12_38 rfl rfl rfl rfl rfl rfl dX12_init_961 ?_
  refine G_aload_n (pc := 964) rfl dX12_init_964 ?_
  refine G_iconst (pc := 965) (v := 4) (by decide) dX12_init_965 ?_
  refine G_new_int (pc := 966) (N := 4) wd_3 (by decide) (by decide) (by decide) (len := 78) (sh1 := [(0, 11), (1, 12), (1, 4), (1, 4), (5, 4), (1, 40), (1, 40), (1, 40), (1, 40), (1, 4), (1, 4), (1, 4), (4, 6), (0, 3), (0, 2), (0, 8), (0, 10), (0, 7), (0, 9), (0, 1), (1, 16), (1, 6), (1, 6), (1, 6), (1, 6), (1, 6), (1, 6), (0, 6), (1, 8), (1, 8), (1, 8), (1, 200), (1, 24), (1, 5), (1, 40), (0, 1), (1, 16), (1, 6), (1, 6), (1, 6), (1, 6), (1, 6), (1, 6), (0, 6), (1, 8), (1, 8), (1, 8), (1, 200), (1, 24), (1, 5), (1, 40), (0, 4), (1, 5), (1, 5), (1, 5), (0, 5), (1, 200), (0, 6), (1, 8), (1, 8), (1, 8), (1, 200), (2, 4), (2, 4), (2, 4), (0, 0), (1, 30), (0, 12), (1, 313), (1, 313), (1, 65), (1, 200), (1, 200), (3, 144), (1, 200), (1, 24), (1, 325), (1, 4), (1, 4)]) rfl rfl (fun j => by simp [gup, hz]) (by decide) (by decide) dX12_init_966 ?_
  refine G_putF (pc := 968) (ci := 12) (j := 18) rfl lk_RX12_41 rfl rfl rfl rfl rfl rfl dX12_init_968 ?_
  refine G_aload_n (pc := 971) rfl dX12_init_971 ?_
  refine G_bipush (pc := 972) (v := 16) (by decide) dX12_init_972 ?_
  refine G_new_int (pc := 974) (N := 16) wd_3 (by decide) (by decide) (by decide) (len := 79) (sh1 := [(0, 11), (1, 12), (1, 4), (1, 4), (5, 4), (1, 40), (1, 40), (1, 40), (1, 40), (1, 4), (1, 4), (1, 4), (4, 6), (0, 3), (0, 2), (0, 8), (0, 10), (0, 7), (0, 9), (0, 1), (1, 16), (1, 6), (1, 6), (1, 6), (1, 6), (1, 6), (1, 6), (0, 6), (1, 8), (1, 8), (1, 8), (1, 200), (1, 24), (1, 5), (1, 40), (0, 1), (1, 16), (1, 6), (1, 6), (1, 6), (1, 6), (1, 6), (1, 6), (0, 6), (1, 8), (1, 8), (1, 8), (1, 200), (1, 24), (1, 5), (1, 40), (0, 4), (1, 5), (1, 5), (1, 5), (0, 5), (1, 200), (0, 6), (1, 8), (1, 8), (1, 8), (1, 200), (2, 4), (2, 4), (2, 4), (0, 0), (1, 30), (0, 12), (1, 313), (1, 313), (1, 65), (1, 200), (1, 200), (3, 144), (1, 200), (1, 24), (1, 325), (1, 4), (1, 4), (1, 16)]) rfl rfl (fun j => by simp [gup, hz]) (by decide) (by decide) dX12_init_974 ?_
  refine G_putF (pc := 976) (ci := 12) (j := 23) rfl lk_RX12_44 rfl rfl rfl rfl rfl rfl dX12_init_976 ?_
  refine G_aload_n (pc := 979) rfl dX12_init_979 ?_
  refine G_bipush (pc := 980) (v := 16) (by decide) dX12_init_980 ?_
  refine G_new_int (pc := 982) (N := 16) wd_3 (by decide) (by decide) (by decide) (len := 80) (sh1 := [(0, 11), (1, 12), (1, 4), (1, 4), (5, 4), (1, 40), (1, 40), (1, 40), (1, 40), (1, 4), (1, 4), (1, 4), (4, 6), (0, 3), (0, 2), (0, 8), (0, 10), (0, 7), (0, 9), (0, 1), (1, 16), (1, 6), (1, 6), (1, 6), (1, 6), (1, 6), (1, 6), (0, 6), (1, 8), (1, 8), (1, 8), (1, 200), (1, 24), (1, 5), (1, 40), (0, 1), (1, 16), (1, 6), (1, 6), (1, 6), (1, 6), (1, 6), (1, 6), (0, 6), (1, 8), (1, 8), (1, 8), (1, 200), (1, 24), (1, 5), (1, 40), (0, 4), (1, 5), (1, 5), (1, 5), (0, 5), (1, 200), (0, 6), (1, 8), (1, 8), (1, 8), (1, 200), (2, 4), (2, 4), (2, 4), (0, 0), (1, 30), (0, 12), (1, 313), (1, 313), (1, 65), (1, 200), (1, 200), (3, 144), (1, 200), (1, 24), (1, 325), (1, 4), (1, 4), (1, 16), (1, 16)]) rfl rfl (fun j => by simp [gup, hz]) (by decide) (by decide) dX12_init_982 ?_
  refine G_putF (pc := 984) (ci := 12) (j := 24) rfl lk_RX12_47 rfl rfl rfl rfl rfl rfl dX12_init_984 ?_
  refine G_aload_n (pc := 987) rfl dX12_init_987 ?_
  refine G_bipush (pc := 988) (v := 12) (by decide) dX12_init_988 ?_
  refine G_new_int (pc := 990) (N := 12) wd_3 (by decide) (by decide) (by decide) (len := 81) (sh1 := [(0, 11), (1, 12), (1, 4), (1, 4), (5, 4), (1, 40), (1, 40), (1, 40), (1, 40), (1, 4), (1, 4), (1, 4), (4, 6), (0, 3), (0, 2), (0, 8), (0, 10), (0, 7), (0, 9), (0, 1), (1, 16), (1, 6), (1, 6), (1, 6), (1, 6), (1, 6), (1, 6), (0, 6), (1, 8), (1, 8), (1, 8), (1, 200), (1, 24), (1, 5), (1, 40), (0, 1), (1, 16), (1, 6), (1, 6), (1, 6), (1, 6), (1, 6), (1, 6), (0, 6), (1, 8), (1, 8), (1, 8), (1, 200), (1, 24), (1, 5), (1, 40), (0, 4), (1, 5), (1, 5), (1, 5), (0, 5), (1, 200), (0, 6), (1, 8), (1, 8), (1, 8), (1, 200), (2, 4), (2, 4), (2, 4), (0, 0), (1, 30), (0, 12), (1, 313), (1, 313), (1, 65), (1, 200), (1, 200), (3, 144), (1, 200), (1, 24), (1, 325), (1, 4), (1, 4), (1, 16), (1, 16), (1, 12)]) rfl rfl (fun j => by simp [gup, hz]) (by decide) (by decide) dX12_init_990 ?_
  refine G_putF (pc := 992) (ci := 12) (j := 26) rfl lk_RX12_50 rfl rfl rfl rfl rfl rfl dX12_init_992 ?_
  refine G_aload_n (pc := 995) rfl dX12_init_995 ?_
  refine G_iconst (pc := 996) (v := 4) (by decide) dX12_init_996 ?_
  refine G_new_int (pc := 997) (N := 4) wd_3 (by decide) (by decide) (by decide) (len := 82) (sh1 := [(0, 11), (1, 12), (1, 4), (1, 4), (5, 4), (1, 40), (1, 40), (1, 40), (1, 40), (1, 4), (1, 4), (1, 4), (4, 6), (0, 3), (0, 2), (0, 8), (0, 10), (0, 7), (0, 9), (0, 1), (1, 16), (1, 6), (1, 6), (1, 6), (1, 6), (1, 6), (1, 6), (0, 6), (1, 8), (1, 8), (1, 8), (1, 200), (1, 24), (1, 5), (1, 40), (0, 1), (1, 16), (1, 6), (1, 6), (1, 6), (1, 6), (1, 6), (1, 6), (0, 6), (1, 8), (1, 8), (1, 8), (1, 200), (1, 24), (1, 5), (1, 40), (0, 4), (1, 5), (1, 5), (1, 5), (0, 5), (1, 200), (0, 6), (1, 8), (1, 8), (1, 8), (1, 200), (2, 4), (2, 4), (2, 4), (0, 0), (1, 30), (0, 12), (1, 313), (1, 313), (1, 65), (1, 200), (1, 200), (3, 144), (1, 200), (1, 24), (1, 325), (1, 4), (1, 4), (1, 16), (1, 16), (1, 12), (1, 4)]) rfl rfl (fun j => by simp [gup, hz]) (by decide) (by decide) dX12_init_997 ?_
  refine G_dup (pc := 999) rfl dX12_init_999 ?_
  refine G_iconst (pc := 1000) (v := 0) (by decide) dX12_init_1000 ?_
  refine G_iconst (pc := 1001) (v := (-1)) (by decide) dX12_init_1001 ?_
  refine G_iast (pc := 1002) (jj := 0) (by decide) rfl (by unfold vp_in; decide) dX12_init_1002 ?_
  refine G_dup (pc := 1003) rfl dX12_init_1003 ?_
  refine G_iconst (pc := 1004) (v := 1) (by decide) dX12_init_1004 ?_
  refine G_iconst (pc := 1005) (v := (-1)) (by decide) dX12_init_1005 ?_
  refine G_iast (pc := 1006) (jj := 1) (by decide) rfl (by unfold vp_in; decide) dX12_init_1006 ?_
  refine G_dup (pc := 1007) rfl dX12_init_1007 ?_
  refine G_iconst (pc := 1008) (v := 2) (by decide) dX12_init_1008 ?_
  refine G_iconst (pc := 1009) (v := (-1)) (by decide) dX12_init_1009 ?_
  refine G_iast (pc := 1010) (jj := 2) (by decide) rfl (by unfold vp_in; decide) dX12_init_1010 ?_
  refine G_dup (pc := 1011) rfl dX12_init_1011 ?_
  refine G_iconst (pc := 1012) (v := 3) (by decide) dX12_init_1012 ?_
  refine G_iconst (pc := 1013) (v := (-1)) (by decide) dX12_init_1013 ?_
  refine G_iast (pc := 1014) (jj := 3) (by decide) rfl (by unfold vp_in; decide) dX12_init_1014 ?_
  refine G_putF (pc := 1015) (ci := 12) (j := 28) rfl lk_RX12_53 rfl rfl rfl rfl rfl rfl dX12_init_1015 ?_
  refine G_aload_n (pc := 1018) rfl dX12_init_1018 ?_
  refine G_iconst (pc := 1019) (v := 4) (by decide) dX12_init_1019 ?_
  refine G_new_int (pc := 1020) (N := 4) wd_3 (by decide) (by decide) (by decide) (len := 83) (sh1 := [(0, 11), (1, 12), (1, 4), (1, 4), (5, 4), (1, 40), (1, 40), (1, 40), (1, 40), (1, 4), (1, 4), (1, 4), (4, 6), (0, 3), (0, 2), (0, 8), (0, 10), (0, 7), (0, 9), (0, 1), (1, 16), (1, 6), (1, 6), (1, 6), (1, 6), (1, 6), (1, 6), (0, 6), (1, 8), (1, 8), (1, 8), (1, 200), (1, 24), (1, 5), (1, 40), (0, 1), (1, 16), (1, 6), (1, 6), (1, 6), (1, 6), (1, 6), (1, 6), (0, 6), (1, 8), (1, 8), (1, 8), (1, 200), (1, 24), (1, 5), (1, 40), (0, 4), (1, 5), (1, 5), (1, 5), (0, 5), (1, 200), (0, 6), (1, 8), (1, 8), (1, 8), (1, 200), (2, 4), (2, 4), (2, 4), (0, 0), (1, 30), (0, 12), (1, 313), (1, 313), (1, 65), (1, 200), (1, 200), (3, 144), (1, 200), (1, 24), (1, 325), (1, 4), (1, 4), (1, 16), (1, 16), (1, 12), (1, 4), (1, 4)]) rfl rfl (fun j => by simp [gup, hz]) (by decide) (by decide) dX12_init_1020 ?_
  refine G_putF (pc := 1022) (ci := 12) (j := 29) rfl lk_RX12_56 rfl rfl rfl rfl rfl rfl dX12_init_1022 ?_
  refine G_aload_n (pc := 1025) rfl dX12_init_1025 ?_
  refine G_sipush (pc := 1026) (v := 160) (by decide) dX12_init_1026 ?_
  refine G_new_int (pc := 1029) (N := 160) wd_3 (by decide) (by decide) (by decide) (len := 84) (sh1 := [(0, 11), (1, 12), (1, 4), (1, 4), (5, 4), (1, 40), (1, 40), (1, 40), (1, 40), (1, 4), (1, 4), (1, 4), (4, 6), (0, 3), (0, 2), (0, 8), (0, 10), (0, 7), (0, 9), (0, 1), (1, 16), (1, 6), (1, 6), (1, 6), (1, 6), (1, 6), (1, 6), (0, 6), (1, 8), (1, 8), (1, 8), (1, 200), (1, 24), (1, 5), (1, 40), (0, 1), (1, 16), (1, 6), (1, 6), (1, 6), (1, 6), (1, 6), (1, 6), (0, 6), (1, 8), (1, 8), (1, 8), (1, 200), (1, 24), (1, 5), (1, 40), (0, 4), (1, 5), (1, 5), (1, 5), (0, 5), (1, 200), (0, 6), (1, 8), (1, 8), (1, 8), (1, 200), (2, 4), (2, 4), (2, 4), (0, 0), (1, 30), (0, 12), (1, 313), (1, 313), (1, 65), (1, 200), (1, 200), (3, 144), (1, 200), (1, 24), (1, 325), (1, 4), (1, 4), (1, 16), (1, 16), (1, 12), (1, 4), (1, 4), (1, 160)]) rfl rfl (fun j => by simp [gup, hz]) (by decide) (by decide) dX12_init_1029 ?_
  refine G_putF (pc := 1031) (ci := 12) (j := 30) rfl lk_RX12_59 rfl rfl rfl rfl rfl rfl dX12_init_1031 ?_
  refine G_aload_n (pc := 1034) rfl dX12_init_1034 ?_
  refine G_iconst (pc := 1035) (v := 4) (by decide) dX12_init_1035 ?_
  refine G_new_int (pc := 1036) (N := 4) wd_3 (by decide) (by decide) (by decide) (len := 85) (sh1 := [(0, 11), (1, 12), (1, 4), (1, 4), (5, 4), (1, 40), (1, 40), (1, 40), (1, 40), (1, 4), (1, 4), (1, 4), (4, 6), (0, 3), (0, 2), (0, 8), (0, 10), (0, 7), (0, 9), (0, 1), (1, 16), (1, 6), (1, 6), (1, 6), (1, 6), (1, 6), (1, 6), (0, 6), (1, 8), (1, 8), (1, 8), (1, 200), (1, 24), (1, 5), (1, 40), (0, 1), (1, 16), (1, 6), (1, 6), (1, 6), (1, 6), (1, 6), (1, 6), (0, 6), (1, 8), (1, 8), (1, 8), (1, 200), (1, 24), (1, 5), (1, 40), (0, 4), (1, 5), (1, 5), (1, 5), (0, 5), (1, 200), (0, 6), (1, 8), (1, 8), (1, 8), (1, 200), (2, 4), (2, 4), (2, 4), (0, 0), (1, 30), (0, 12), (1, 313), (1, 313), (1, 65), (1, 200), (1, 200), (3, 144), (1, 200), (1, 24), (1, 325), (1, 4), (1, 4), (1, 16), (1, 16), (1, 12), (1, 4), (1, 4), (1, 160), (1, 4)]) rfl rfl (fun j => by simp [gup, hz]) (by decide) (by decide) dX12_init_1036 ?_
  refine G_dup (pc := 1038) rfl dX12_init_1038 ?_
  refine G_iconst (pc := 1039) (v := 0) (by decide) dX12_init_1039 ?_
  refine G_iconst (pc := 1040) (v := (-1)) (by decide) dX12_init_1040 ?_
  refine G_iast (pc := 1041) (jj := 0) (by decide) rfl (by unfold vp_in; decide) dX12_init_1041 ?_
  refine G_dup (pc := 1042) rfl dX12_init_1042 ?_
  refine G_iconst (pc := 1043) (v := 1) (by decide) dX12_init_1043 ?_
  refine G_iconst (pc := 1044) (v := (-1)) (by decide) dX12_init_1044 ?_
  refine G_iast (pc := 1045) (jj := 1) (by decide) rfl (by unfold vp_in; decide) dX12_init_1045 ?_
  refine G_dup (pc := 1046) rfl dX12_init_1046 ?_
  refine G_iconst (pc := 1047) (v := 2) (by decide) dX12_init_1047 ?_
  refine G_iconst (pc := 1048) (v := (-1)) (by decide) dX12_init_1048 ?_
  refine G_iast (pc := 1049) (jj := 2) (by decide) rfl (by unfold vp_in; decide) dX12_init_1049 ?_
  refine G_dup (pc := 1050) rfl dX12_init_1050 ?_
  refine G_iconst (pc := 1051) (v := 3) (by decide) dX12_init_1051 ?_
  refine G_iconst (pc := 1052) (v := (-1)) (by decide) dX12_init_1052 ?_
  refine G_iast (pc := 1053) (jj := 3) (by decide) rfl (by unfold vp_in; decide) dX12_init_1053 ?_
  refine G_putF (pc := 1054) (ci := 12) (j := 31) rfl lk_RX12_62 rfl rfl rfl rfl rfl rfl dX12_init_1054 ?_
  refine G_aload_n (pc := 1057) rfl dX12_init_1057 ?_
  refine G_iconst (pc := 1058) (v := 4) (by decide) dX12_init_1058 ?_
  refine G_new_int (pc := 1059) (N := 4) wd_3 (by decide) (by decide) (by decide) (len := 86) (sh1 := [(0, 11), (1, 12), (1, 4), (1, 4), (5, 4), (1, 40), (1, 40), (1, 40), (1, 40), (1, 4), (1, 4), (1, 4), (4, 6), (0, 3), (0, 2), (0, 8), (0, 10), (0, 7), (0, 9), (0, 1), (1, 16), (1, 6), (1, 6), (1, 6), (1, 6), (1, 6), (1, 6), (0, 6), (1, 8), (1, 8), (1, 8), (1, 200), (1, 24), (1, 5), (1, 40), (0, 1), (1, 16), (1, 6), (1, 6), (1, 6), (1, 6), (1, 6), (1, 6), (0, 6), (1, 8), (1, 8), (1, 8), (1, 200), (1, 24), (1, 5), (1, 40), (0, 4), (1, 5), (1, 5), (1, 5), (0, 5), (1, 200), (0, 6), (1, 8), (1, 8), (1, 8), (1, 200), (2, 4), (2, 4), (2, 4), (0, 0), (1, 30), (0, 12), (1, 313), (1, 313), (1, 65), (1, 200), (1, 200), (3, 144), (1, 200), (1, 24), (1, 325), (1, 4), (1, 4), (1, 16), (1, 16), (1, 12), (1, 4), (1, 4), (1, 160), (1, 4), (1, 4)]) rfl rfl (fun j => by simp [gup, hz]) (by decide) (by decide) dX12_init_1059 ?_
  refine G_putF (pc := 1061) (ci := 12) (j := 32) rfl lk_RX12_65 rfl rfl rfl rfl rfl rfl dX12_init_1061 ?_
  refine G_aload_n (pc := 1064) rfl dX12_init_1064 ?_
  refine G_bipush (pc := 1065) (v := 30) (by decide) dX12_init_1065 ?_
  refine G_new_int (pc := 1067) (N := 30) wd_3 (by decide) (by decide) (by decide) (len := 87) (sh1 := [(0, 11), (1, 12), (1, 4), (1, 4), (5, 4), (1, 40), (1, 40), (1, 40), (1, 40), (1, 4), (1, 4), (1, 4), (4, 6), (0, 3), (0, 2), (0, 8), (0, 10), (0, 7), (0, 9), (0, 1), (1, 16), (1, 6), (1, 6), (1, 6), (1, 6), (1, 6), (1, 6), (0, 6), (1, 8), (1, 8), (1, 8), (1, 200), (1, 24), (1, 5), (1, 40), (0, 1), (1, 16), (1, 6), (1, 6), (1, 6), (1, 6), (1, 6), (1, 6), (0, 6), (1, 8), (1, 8), (1, 8), (1, 200), (1, 24), (1, 5), (1, 40), (0, 4), (1, 5), (1, 5), (1, 5), (0, 5), (1, 200), (0, 6), (1, 8), (1, 8), (1, 8), (1, 200), (2, 4), (2, 4), (2, 4), (0, 0), (1, 30), (0, 12), (1, 313), (1, 313), (1, 65), (1, 200), (1, 200), (3, 144), (1, 200), (1, 24), (1, 325), (1, 4), (1, 4), (1, 16), (1, 16), (1, 12), (1, 4), (1, 4), (1, 160), (1, 4), (1, 4), (1, 30)]) rfl rfl (fun j => by simp [gup, hz]) (by decide) (by decide) dX12_init_1067 ?_
  refine G_putF (pc := 1069) (ci := 12) (j := 33) rfl lk_RX12_68 rfl rfl rfl rfl rfl rfl dX12_init_1069 ?_
  refine G_aload_n (pc := 1072) rfl dX12_init_1072 ?_
  refine G_getR (pc := 1073) (r := 68) (ci := 12) (j := 0) rfl lk_RX12_9 rfl rfl (by simp [gupR, gmna]) dX12_init_1073 ?_
  refine G_iconst (pc := 1076) (v := 1) (by decide) dX12_init_1076 ?_
  refine G_bipush (pc := 1077) (v := 12) (by decide) dX12_init_1077 ?_
  refine G_iast (pc := 1079) (jj := 1) (by decide) rfl (by unfold vp_in; decide) dX12_init_1079 ?_
  refine G_aload_n (pc := 1080) rfl dX12_init_1080 ?_
  refine G_getR (pc := 1081) (r := 68) (ci := 12) (j := 0) rfl lk_RX12_9 rfl rfl (by simp [gupR, gmna]) dX12_init_1081 ?_
  refine G_iconst (pc := 1084) (v := 3) (by decide) dX12_init_1084 ?_
  refine G_iconst (pc := 1085) (v := 1) (by decide) dX12_init_1085 ?_
  refine G_iast (pc := 1086) (jj := 3) (by decide) rfl (by unfold vp_in; decide) dX12_init_1086 ?_
  refine G_iconst (pc := 1087) (v := 0) (by decide) dX12_init_1087 ?_
  refine G_istore_n (pc := 1088) (L1 := [some (.ref 67), some (.int 0)]) rfl rfl (by decide) dX12_init_1088 ?_
  refine G_iload_n (pc := 1089) rfl dX12_init_1089 ?_
  refine G_bipush (pc := 1090) (v := 16) (by decide) dX12_init_1090 ?_
  refine G_icmp_ge (pc := 1092) (tgt := 1111) (by decide) dX12_init_1092 (fun z => absurd z (by decide)) (fun _ => ?_)
  refine G_aload_n (pc := 1095) rfl dX12_init_1095 ?_
  refine G_getR (pc := 1096) (r := 68) (ci := 12) (j := 0) rfl lk_RX12_9 rfl rfl (by simp [gupR, gmna]) dX12_init_1096 ?_
  refine G_bipush (pc := 1099) (v := 7) (by decide) dX12_init_1099 ?_
  refine G_iload_n (pc := 1101) rfl dX12_init_1101 ?_
  refine G_iadd (pc := 1102) (z := 7) (by decide) dX12_init_1102 ?_
  refine G_iconst (pc := 1103) (v := 5) (by decide) dX12_init_1103 ?_
  refine G_iast (pc := 1104) (jj := 7) (by decide) rfl (by unfold vp_in; decide) dX12_init_1104 ?_
  refine G_iinc (pc := 1105) (v := 1) (w := 1) (L1 := [some (.ref 67), some (.int 1)]) (by decide) rfl rfl (by decide) rfl (by decide) dX12_init_1105 ?_
  refine G_goto (pc := 1108) (tgt := 1089) (by decide) dX12_init_1108 ?_
  refine G_iload_n (pc := 1089) rfl dX12_init_1089 ?_
  refine G_bipush (pc := 1090) (v := 16) (by decide) dX12_init_1090 ?_
  refine G_icmp_ge (pc := 1092) (tgt := 1111) (by decide) dX12_init_1092 (fun z => absurd z (by decide)) (fun _ => ?_)
  refine G_aload_n (pc := 1095) rfl dX12_init_1095 ?_
  refine G_getR (pc := 1096) (r := 68) (ci := 12) (j := 0) rfl lk_RX12_9 rfl rfl (by simp [gupR, gmna]) dX12_init_1096 ?_
  refine G_bipush (pc := 1099) (v := 7) (by decide) dX12_init_1099 ?_
  refine G_iload_n (pc := 1101) rfl dX12_init_1101 ?_
  refine G_iadd (pc := 1102) (z := 8) (by decide) dX12_init_1102 ?_
  refine G_iconst (pc := 1103) (v := 5) (by decide) dX12_init_1103 ?_
  refine G_iast (pc := 1104) (jj := 8) (by decide) rfl (by unfold vp_in; decide) dX12_init_1104 ?_
  refine G_iinc (pc := 1105) (v := 1) (w := 2) (L1 := [some (.ref 67), some (.int 2)]) (by decide) rfl rfl (by decide) rfl (by decide) dX12_init_1105 ?_
  refine G_goto (pc := 1108) (tgt := 1089) (by decide) dX12_init_1108 ?_
  refine G_iload_n (pc := 1089) rfl dX12_init_1089 ?_
  refine G_bipush (pc := 1090) (v := 16) (by decide) dX12_init_1090 ?_
  refine G_icmp_ge (pc := 1092) (tgt := 1111) (by decide) dX12_init_1092 (fun z => absurd z (by decide)) (fun _ => ?_)
  refine G_aload_n (pc := 1095) rfl dX12_init_1095 ?_
  refine G_getR (pc := 1096) (r := 68) (ci := 12) (j := 0) rfl lk_RX12_9 rfl rfl (by simp [gupR, gmna]) dX12_init_1096 ?_
  refine G_bipush (pc := 1099) (v := 7) (by decide) dX12_init_1099 ?_
  refine G_iload_n (pc := 1101) rfl dX12_init_1101 ?_
  refine G_iadd (pc := 1102) (z := 9) (by decide) dX12_init_1102 ?_
  refine G_iconst (pc := 1103) (v := 5) (by decide) dX12_init_1103 ?_
  refine G_iast (pc := 1104) (jj := 9) (by decide) rfl (by unfold vp_in; decide) dX12_init_1104 ?_
  refine G_iinc (pc := 1105) (v := 1) (w := 3) (L1 := [some (.ref 67), some (.int 3)]) (by decide) rfl rfl (by decide) rfl (by decide) dX12_init_1105 ?_
  refine G_goto (pc := 1108) (tgt := 1089) (by decide) dX12_init_1108 ?_
  refine G_iload_n (pc := 1089) rfl dX12_init_1089 ?_
  refine G_bipush (pc := 1090) (v := 16) (by decide) dX12_init_1090 ?_
  refine G_icmp_ge (pc := 1092) (tgt := 1111) (by decide) dX12_init_1092 (fun z => absurd z (by decide)) (fun _ => ?_)
  refine G_aload_n (pc := 1095) rfl dX12_init_1095 ?_
  refine G_getR (pc := 1096) (r := 68) (ci := 12) (j := 0) rfl lk_RX12_9 rfl rfl (by simp [gupR, gmna]) dX12_init_1096 ?_
  refine G_bipush (pc := 1099) (v := 7) (by decide) dX12_init_1099 ?_
  refine G_iload_n (pc := 1101) rfl dX12_init_1101 ?_
  refine G_iadd (pc := 1102) (z := 10) (by decide) dX12_init_1102 ?_
  refine G_iconst (pc := 1103) (v := 5) (by decide) dX12_init_1103 ?_
  refine G_iast (pc := 1104) (jj := 10) (by decide) rfl (by unfold vp_in; decide) dX12_init_1104 ?_
  refine G_iinc (pc := 1105) (v := 1) (w := 4) (L1 := [some (.ref 67), some (.int 4)]) (by decide) rfl rfl (by decide) rfl (by decide) dX12_init_1105 ?_
  refine G_goto (pc := 1108) (tgt := 1089) (by decide) dX12_init_1108 ?_
  refine G_iload_n (pc := 1089) rfl dX12_init_1089 ?_
  refine G_bipush (pc := 1090) (v := 16) (by decide) dX12_init_1090 ?_
  refine G_icmp_ge (pc := 1092) (tgt := 1111) (by decide) dX12_init_1092 (fun z => absurd z (by decide)) (fun _ => ?_)
  refine G_aload_n (pc := 1095) rfl dX12_init_1095 ?_
  refine G_getR (pc := 1096) (r := 68) (ci := 12) (j := 0) rfl lk_RX12_9 rfl rfl (by simp [gupR, gmna]) dX12_init_1096 ?_
  refine G_bipush (pc := 1099) (v := 7) (by decide) dX12_init_1099 ?_
  refine G_iload_n (pc := 1101) rfl dX12_init_1101 ?_
  refine G_iadd (pc := 1102) (z := 11) (by decide) dX12_init_1102 ?_
  refine G_iconst (pc := 1103) (v := 5) (by decide) dX12_init_1103 ?_
  refine G_iast (pc := 1104) (jj := 11) (by decide) rfl (by unfold vp_in; decide) dX12_init_1104 ?_
  refine G_iinc (pc := 1105) (v := 1) (w := 5) (L1 := [some (.ref 67), some (.int 5)]) (by decide) rfl rfl (by decide) rfl (by decide) dX12_init_1105 ?_
  refine G_goto (pc := 1108) (tgt := 1089) (by decide) dX12_init_1108 ?_
  refine G_iload_n (pc := 1089) rfl dX12_init_1089 ?_
  refine G_bipush (pc := 1090) (v := 16) (by decide) dX12_init_1090 ?_
  refine G_icmp_ge (pc := 1092) (tgt := 1111) (by decide) dX12_init_1092 (fun z => absurd z (by decide)) (fun _ => ?_)
  refine G_aload_n (pc := 1095) rfl dX12_init_1095 ?_
  refine G_getR (pc := 1096) (r := 68) (ci := 12) (j := 0) rfl lk_RX12_9 rfl rfl (by simp [gupR, gmna]) dX12_init_1096 ?_
  refine G_bipush (pc := 1099) (v := 7) (by decide) dX12_init_1099 ?_
  refine G_iload_n (pc := 1101) rfl dX12_init_1101 ?_
  refine G_iadd (pc := 1102) (z := 12) (by decide) dX12_init_1102 ?_
  refine G_iconst (pc := 1103) (v := 5) (by decide) dX12_init_1103 ?_
  refine G_iast (pc := 1104) (jj := 12) (by decide) rfl (by unfold vp_in; decide) dX12_init_1104 ?_
  refine G_iinc (pc := 1105) (v := 1) (w := 6) (L1 := [some (.ref 67), some (.int 6)]) (by decide) rfl rfl (by decide) rfl (by decide) dX12_init_1105 ?_
  refine G_goto (pc := 1108) (tgt := 1089) (by decide) dX12_init_1108 ?_
  refine G_iload_n (pc := 1089) rfl dX12_init_1089 ?_
  refine G_bipush (pc := 1090) (v := 16) (by decide) dX12_init_1090 ?_
  refine G_icmp_ge (pc := 1092) (tgt := 1111) (by decide) dX12_init_1092 (fun z => absurd z (by decide)) (fun _ => ?_)
  refine G_aload_n (pc := 1095) rfl dX12_init_1095 ?_
  refine G_getR (pc := 1096) (r := 68) (ci := 12) (j := 0) rfl lk_RX12_9 rfl rfl (by simp [gupR, gmna]) dX12_init_1096 ?_
  refine G_bipush (pc := 1099) (v := 7) (by decide) dX12_init_1099 ?_
  refine G_iload_n (pc := 1101) rfl dX12_init_1101 ?_
  refine G_iadd (pc := 1102) (z := 13) (by decide) dX12_init_1102 ?_
  refine G_iconst (pc := 1103) (v := 5) (by decide) dX12_init_1103 ?_
  refine G_iast (pc := 1104) (jj := 13) (by decide) rfl (by unfold vp_in; decide) dX12_init_1104 ?_
  refine G_iinc (pc := 1105) (v := 1) (w := 7) (L1 := [some (.ref 67), some (.int 7)]) (by decide) rfl rfl (by decide) rfl (by decide) dX12_init_1105 ?_
  refine G_goto (pc := 1108) (tgt := 1089) (by decide) dX12_init_1108 ?_
  refine G_iload_n (pc := 1089) rfl dX12_init_1089 ?_
  refine G_bipush (pc := 1090) (v := 16) (by decide) dX12_init_1090 ?_
  refine G_icmp_ge (pc := 1092) (tgt := 1111) (by decide) dX12_init_1092 (fun z => absurd z (by decide)) (fun _ => ?_)
  refine G_aload_n (pc := 1095) rfl dX12_init_1095 ?_
  refine G_getR (pc := 1096) (r := 68) (ci := 12) (j := 0) rfl lk_RX12_9 rfl rfl (by simp [gupR, gmna]) dX12_init_1096 ?_
  refine G_bipush (pc := 1099) (v := 7) (by decide) dX12_init_1099 ?_
  refine G_iload_n (pc := 1101) rfl dX12_init_1101 ?_
  refine G_iadd (pc := 1102) (z := 14) (by decide) dX12_init_1102 ?_
  refine G_iconst (pc := 1103) (v := 5) (by decide) dX12_init_1103 ?_
  refine G_iast (pc := 1104) (jj := 14) (by decide) rfl (by unfold vp_in; decide) dX12_init_1104 ?_
  refine G_iinc (pc := 1105) (v := 1) (w := 8) (L1 := [some (.ref 67), some (.int 8)]) (by decide) rfl rfl (by decide) rfl (by decide) dX12_init_1105 ?_
  refine G_goto (pc := 1108) (tgt := 1089) (by decide) dX12_init_1108 ?_
  refine G_iload_n (pc := 1089) rfl dX12_init_1089 ?_
  refine G_bipush (pc := 1090) (v := 16) (by decide) dX12_init_1090 ?_
  refine G_icmp_ge (pc := 1092) (tgt := 1111) (by decide) dX12_init_1092 (fun z => absurd z (by decide)) (fun _ => ?_)
  refine G_aload_n (pc := 1095) rfl dX12_init_1095 ?_
  refine G_getR (pc := 1096) (r := 68) (ci := 12) (j := 0) rfl lk_RX12_9 rfl rfl (by simp [gupR, gmna]) dX12_init_1096 ?_
  refine G_bipush (pc := 1099) (v := 7) (by decide) dX12_init_1099 ?_
  refine G_iload_n (pc := 1101) rfl dX12_init_1101 ?_
  refine G_iadd (pc := 1102) (z := 15) (by decide) dX12_init_1102 ?_
  refine G_iconst (pc := 1103) (v := 5) (by decide) dX12_init_1103 ?_
  refine G_iast (pc := 1104) (jj := 15) (by decide) rfl (by unfold vp_in; decide) dX12_init_1104 ?_
  refine G_iinc (pc := 1105) (v := 1) (w := 9) (L1 := [some (.ref 67), some (.int 9)]) (by decide) rfl rfl (by decide) rfl (by decide) dX12_init_1105 ?_
  refine G_goto (pc := 1108) (tgt := 1089) (by decide) dX12_init_1108 ?_
  refine G_iload_n (pc := 1089) rfl dX12_init_1089 ?_
  refine G_bipush (pc := 1090) (v := 16) (by decide) dX12_init_1090 ?_
  refine G_icmp_ge (pc := 1092) (tgt := 1111) (by decide) dX12_init_1092 (fun z => absurd z (by decide)) (fun _ => ?_)
  refine G_aload_n (pc := 1095) rfl dX12_init_1095 ?_
  refine G_getR (pc := 1096) (r := 68) (ci := 12) (j := 0) rfl lk_RX12_9 rfl rfl (by simp [gupR, gmna]) dX12_init_1096 ?_
  refine G_bipush (pc := 1099) (v := 7) (by decide) dX12_init_1099 ?_
  refine G_iload_n (pc := 1101) rfl dX12_init_1101 ?_
  refine G_iadd (pc := 1102) (z := 16) (by decide) dX12_init_1102 ?_
  refine G_iconst (pc := 1103) (v := 5) (by decide) dX12_init_1103 ?_
  refine G_iast (pc := 1104) (jj := 16) (by decide) rfl (by unfold vp_in; decide) dX12_init_1104 ?_
  refine G_iinc (pc := 1105) (v := 1) (w := 10) (L1 := [some (.ref 67), some (.int 10)]) (by decide) rfl rfl (by decide) rfl (by decide) dX12_init_1105 ?_
  refine G_goto (pc := 1108) (tgt := 1089) (by decide) dX12_init_1108 ?_
  refine G_iload_n (pc := 1089) rfl dX12_init_1089 ?_
  refine G_bipush (pc := 1090) (v := 16) (by decide) dX12_init_1090 ?_
  refine G_icmp_ge (pc := 1092) (tgt := 1111) (by decide) dX12_init_1092 (fun z => absurd z (by decide)) (fun _ => ?_)
  refine G_aload_n (pc := 1095) rfl dX12_init_1095 ?_
  refine G_getR (pc := 1096) (r := 68) (ci := 12) (j := 0) rfl lk_RX12_9 rfl rfl (by simp [gupR, gmna]) dX12_init_1096 ?_
  refine G_bipush (pc := 1099) (v := 7) (by decide) dX12_init_1099 ?_
  refine G_iload_n (pc := 1101) rfl dX12_init_1101 ?_
  refine G_iadd (pc := 1102) (z := 17) (by decide) dX12_init_1102 ?_
  refine G_iconst (pc := 1103) (v := 5) (by decide) dX12_init_1103 ?_
  refine G_iast (pc := 1104) (jj := 17) (by decide) rfl (by unfold vp_in; decide) dX12_init_1104 ?_
  refine G_iinc (pc := 1105) (v := 1) (w := 11) (L1 := [some (.ref 67), some (.int 11)]) (by decide) rfl rfl (by decide) rfl (by decide) dX12_init_1105 ?_
  refine G_goto (pc := 1108) (tgt := 1089) (by decide) dX12_init_1108 ?_
  refine G_iload_n (pc := 1089) rfl dX12_init_1089 ?_
  refine G_bipush (pc := 1090) (v := 16) (by decide) dX12_init_1090 ?_
  refine G_icmp_ge (pc := 1092) (tgt := 1111) (by decide) dX12_init_1092 (fun z => absurd z (by decide)) (fun _ => ?_)
  refine G_aload_n (pc := 1095) rfl dX12_init_1095 ?_
  refine G_getR (pc := 1096) (r := 68) (ci := 12) (j := 0) rfl lk_RX12_9 rfl rfl (by simp [gupR, gmna]) dX12_init_1096 ?_
  refine G_bipush (pc := 1099) (v := 7) (by decide) dX12_init_1099 ?_
  refine G_iload_n (pc := 1101) rfl dX12_init_1101 ?_
  refine G_iadd (pc := 1102) (z := 18) (by decide) dX12_init_1102 ?_
  refine G_iconst (pc := 1103) (v := 5) (by decide) dX12_init_1103 ?_
  refine G_iast (pc := 1104) (jj := 18) (by decide) rfl (by unfold vp_in; decide) dX12_init_1104 ?_
  refine G_iinc (pc := 1105) (v := 1) (w := 12) (L1 := [some (.ref 67), some (.int 12)]) (by decide) rfl rfl (by decide) rfl (by decide) dX12_init_1105 ?_
  refine G_goto (pc := 1108) (tgt := 1089) (by decide) dX12_init_1108 ?_
  refine G_iload_n (pc := 1089) rfl dX12_init_1089 ?_
  refine G_bipush (pc := 1090) (v := 16) (by decide) dX12_init_1090 ?_
  refine G_icmp_ge (pc := 1092) (tgt := 1111) (by decide) dX12_init_1092 (fun z => absurd z (by decide)) (fun _ => ?_)
  refine G_aload_n (pc := 1095) rfl dX12_init_1095 ?_
  refine G_getR (pc := 1096) (r := 68) (ci := 12) (j := 0) rfl lk_RX12_9 rfl rfl (by simp [gupR, gmna]) dX12_init_1096 ?_
  refine G_bipush (pc := 1099) (v := 7) (by decide) dX12_init_1099 ?_
  refine G_iload_n (pc := 1101) rfl dX12_init_1101 ?_
  refine G_iadd (pc := 1102) (z := 19) (by decide) dX12_init_1102 ?_
  refine G_iconst (pc := 1103) (v := 5) (by decide) dX12_init_1103 ?_
  refine G_iast (pc := 1104) (jj := 19) (by decide) rfl (by unfold vp_in; decide) dX12_init_1104 ?_
  refine G_iinc (pc := 1105) (v := 1) (w := 13) (L1 := [some (.ref 67), some (.int 13)]) (by decide) rfl rfl (by decide) rfl (by decide) dX12_init_1105 ?_
  refine G_goto (pc := 1108) (tgt := 1089) (by decide) dX12_init_1108 ?_
  refine G_iload_n (pc := 1089) rfl dX12_init_1089 ?_
  refine G_bipush (pc := 1090) (v := 16) (by decide) dX12_init_1090 ?_
  refine G_icmp_ge (pc := 1092) (tgt := 1111) (by decide) dX12_init_1092 (fun z => absurd z (by decide)) (fun _ => ?_)
  refine G_aload_n (pc := 1095) rfl dX12_init_1095 ?_
  refine G_getR (pc := 1096) (r := 68) (ci := 12) (j := 0) rfl lk_RX12_9 rfl rfl (by simp [gupR, gmna]) dX12_init_1096 ?_
  refine G_bipush (pc := 1099) (v := 7) (by decide) dX12_init_1099 ?_
  refine G_iload_n (pc := 1101) rfl dX12_init_1101 ?_
  refine G_iadd (pc := 1102) (z := 20) (by decide) dX12_init_1102 ?_
  refine G_iconst (pc := 1103) (v := 5) (by decide) dX12_init_1103 ?_
  refine G_iast (pc := 1104) (jj := 20) (by decide) rfl (by unfold vp_in; decide) dX12_init_1104 ?_
  refine G_iinc (pc := 1105) (v := 1) (w := 14) (L1 := [some (.ref 67), some (.int 14)]) (by decide) rfl rfl (by decide) rfl (by decide) dX12_init_1105 ?_
  refine G_goto (pc := 1108) (tgt := 1089) (by decide) dX12_init_1108 ?_
  refine G_iload_n (pc := 1089) rfl dX12_init_1089 ?_
  refine G_bipush (pc := 1090) (v := 16) (by decide) dX12_init_1090 ?_
  refine G_icmp_ge (pc := 1092) (tgt := 1111) (by decide) dX12_init_1092 (fun z => absurd z (by decide)) (fun _ => ?_)
  refine G_aload_n (pc := 1095) rfl dX12_init_1095 ?_
  refine G_getR (pc := 1096) (r := 68) (ci := 12) (j := 0) rfl lk_RX12_9 rfl rfl (by simp [gupR, gmna]) dX12_init_1096 ?_
  refine G_bipush (pc := 1099) (v := 7) (by decide) dX12_init_1099 ?_
  refine G_iload_n (pc := 1101) rfl dX12_init_1101 ?_
  refine G_iadd (pc := 1102) (z := 21) (by decide) dX12_init_1102 ?_
  refine G_iconst (pc := 1103) (v := 5) (by decide) dX12_init_1103 ?_
  refine G_iast (pc := 1104) (jj := 21) (by decide) rfl (by unfold vp_in; decide) dX12_init_1104 ?_
  refine G_iinc (pc := 1105) (v := 1) (w := 15) (L1 := [some (.ref 67), some (.int 15)]) (by decide) rfl rfl (by decide) rfl (by decide) dX12_init_1105 ?_
  refine G_goto (pc := 1108) (tgt := 1089) (by decide) dX12_init_1108 ?_
  refine G_iload_n (pc := 1089) rfl dX12_init_1089 ?_
  refine G_bipush (pc := 1090) (v := 16) (by decide) dX12_init_1090 ?_
  refine G_icmp_ge (pc := 1092) (tgt := 1111) (by decide) dX12_init_1092 (fun z => absurd z (by decide)) (fun _ => ?_)
  refine G_aload_n (pc := 1095) rfl dX12_init_1095 ?_
  refine G_getR (pc := 1096) (r := 68) (ci := 12) (j := 0) rfl lk_RX12_9 rfl rfl (by simp [gupR, gmna]) dX12_init_1096 ?_
  refine G_bipush (pc := 1099) (v := 7) (by decide) dX12_init_1099 ?_
  refine G_iload_n (pc := 1101) rfl dX12_init_1101 ?_
  refine G_iadd (pc := 1102) (z := 22) (by decide) dX12_init_1102 ?_
  refine G_iconst (pc := 1103) (v := 5) (by decide) dX12_init_1103 ?_
  refine G_iast (pc := 1104) (jj := 22) (by decide) rfl (by unfold vp_in; decide) dX12_init_1104 ?_
  refine G_iinc (pc := 1105) (v := 1) (w := 16) (L1 := [some (.ref 67), some (.int 16)]) (by decide) rfl rfl (by decide) rfl (by decide) dX12_init_1105 ?_
  refine G_goto (pc := 1108) (tgt := 1089) (by decide) dX12_init_1108 ?_
  refine G_iload_n (pc := 1089) rfl dX12_init_1089 ?_
  refine G_bipush (pc := 1090) (v := 16) (by decide) dX12_init_1090 ?_
  refine G_icmp_ge (pc := 1092) (tgt := 1111) (by decide) dX12_init_1092 (fun _ => ?_) (fun z => absurd (by decide) z)
  exact G_vret (pc := 1111) (by decide) (by decide) rfl dX12_init_1111 ⟨rfl, rfl⟩
