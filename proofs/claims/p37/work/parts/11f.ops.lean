theorem dX11_change_0 : decode cX11_change 0 = .ok (.aload_n 0, 1) := by decide +kernel
theorem dX11_change_1 : decode cX11_change 1 = .ok (.getfield 56, 3) := by decide +kernel
theorem dX11_change_4 : decode cX11_change 4 = .ok (.iload_n 1, 1) := by decide +kernel
theorem dX11_change_5 : decode cX11_change 5 = .ok (.invokevirtual 113, 3) := by decide +kernel
theorem dX11_change_8 : decode cX11_change 8 = .ok (.ifCond .ne 5, 3) := by decide +kernel
theorem dX11_change_11 : decode cX11_change 11 = .ok (.iconst (-1), 1) := by decide +kernel
theorem dX11_change_12 : decode cX11_change 12 = .ok (.ireturn, 1) := by decide +kernel
theorem dX11_change_13 : decode cX11_change 13 = .ok (.iload_n 2, 1) := by decide +kernel
theorem dX11_change_14 : decode cX11_change 14 = .ok (.tableswitch 81 1 4 #[30, 45, 60, 74], 30) := by decide +kernel
theorem dX11_change_44 : decode cX11_change 44 = .ok (.aload_n 0, 1) := by decide +kernel
theorem dX11_change_45 : decode cX11_change 45 = .ok (.getfield 56, 3) := by decide +kernel
theorem dX11_change_48 : decode cX11_change 48 = .ok (.getfield 104, 3) := by decide +kernel
theorem dX11_change_51 : decode cX11_change 51 = .ok (.iload_n 1, 1) := by decide +kernel
theorem dX11_change_52 : decode cX11_change 52 = .ok (.iload_n 3, 1) := by decide +kernel
theorem dX11_change_53 : decode cX11_change 53 = .ok (.bipush 99, 2) := by decide +kernel
theorem dX11_change_55 : decode cX11_change 55 = .ok (.invokestatic 135, 3) := by decide +kernel
theorem dX11_change_58 : decode cX11_change 58 = .ok (.ireturn, 1) := by decide +kernel
theorem dX11_change_59 : decode cX11_change 59 = .ok (.aload_n 0, 1) := by decide +kernel
theorem dX11_change_60 : decode cX11_change 60 = .ok (.getfield 56, 3) := by decide +kernel
theorem dX11_change_63 : decode cX11_change 63 = .ok (.getfield 107, 3) := by decide +kernel
theorem dX11_change_66 : decode cX11_change 66 = .ok (.iload_n 1, 1) := by decide +kernel
theorem dX11_change_67 : decode cX11_change 67 = .ok (.iload_n 3, 1) := by decide +kernel
theorem dX11_change_68 : decode cX11_change 68 = .ok (.bipush 9, 2) := by decide +kernel
theorem dX11_change_70 : decode cX11_change 70 = .ok (.invokestatic 135, 3) := by decide +kernel
theorem dX11_change_73 : decode cX11_change 73 = .ok (.ireturn, 1) := by decide +kernel
theorem dX11_change_74 : decode cX11_change 74 = .ok (.aload_n 0, 1) := by decide +kernel
theorem dX11_change_75 : decode cX11_change 75 = .ok (.getfield 56, 3) := by decide +kernel
theorem dX11_change_78 : decode cX11_change 78 = .ok (.getfield 110, 3) := by decide +kernel
theorem dX11_change_81 : decode cX11_change 81 = .ok (.iload_n 1, 1) := by decide +kernel
theorem dX11_change_82 : decode cX11_change 82 = .ok (.iload_n 3, 1) := by decide +kernel
theorem dX11_change_83 : decode cX11_change 83 = .ok (.iconst 5, 1) := by decide +kernel
theorem dX11_change_84 : decode cX11_change 84 = .ok (.invokestatic 135, 3) := by decide +kernel
theorem dX11_change_87 : decode cX11_change 87 = .ok (.ireturn, 1) := by decide +kernel
theorem dX11_change_88 : decode cX11_change 88 = .ok (.aload_n 0, 1) := by decide +kernel
theorem dX11_change_89 : decode cX11_change 89 = .ok (.iload_n 1, 1) := by decide +kernel
theorem dX11_change_90 : decode cX11_change 90 = .ok (.iload_n 3, 1) := by decide +kernel
theorem dX11_change_91 : decode cX11_change 91 = .ok (.invokevirtual 139, 3) := by decide +kernel
theorem dX11_change_94 : decode cX11_change 94 = .ok (.ireturn, 1) := by decide +kernel
theorem dX11_change_95 : decode cX11_change 95 = .ok (.iconst (-1), 1) := by decide +kernel
theorem dX11_change_96 : decode cX11_change 96 = .ok (.ireturn, 1) := by decide +kernel
theorem oX11_change_0 : oP MT mX11_change 0 (1, 1, 0, 1, []) := o_aload_n dX11_change_0 rfl
theorem oX11_change_1 : oP MT mX11_change 1 (13, 3, 0, 11, []) := o_getR (M := mX11_change) (C := RX11) (T := TX11) (ci := 11) (j := 0) (z := 11) dX11_change_1 rfl lq_RX11_56 rfl rfl
theorem oX11_change_4 : oP MT mX11_change 4 (1, 1, 1, 0, []) := o_iload_n dX11_change_4 rfl
theorem oX11_change_5 : oP MT mX11_change 5 (26, 3, 0, 1, [(1, 26)]) := o_callO ((vA.cons (v_callV dX11_change_5 (ci := 1) rfl rfl (mj := mX1_isKey) mt_X1_isKey cmq_X1_isKey wq_388 wq_120 wq_121 (by decide) (by decide)) vA.nil))
theorem oX11_change_8 : oP MT mX11_change 8 (10, 3, 1, 13, []) := o_if_ne dX11_change_8 (by decide) (by decide)
theorem oX11_change_11 : oP MT mX11_change 11 (0, 1, 0, (-1), []) := o_iconst dX11_change_11 (by decide)
theorem oX11_change_12 : oP MT mX11_change 12 (21, 1, 0, 0, []) := o_iret dX11_change_12 rfl
theorem oX11_change_13 : oP MT mX11_change 13 (1, 1, 2, 0, []) := o_iload_n dX11_change_13 rfl
theorem oX11_change_14 : oP MT mX11_change 14 (24, 30, 95, 0, [(1, 44), (2, 59), (3, 74), (4, 88)]) := o_table dX11_change_14 rfl (by decide) (by decide) (by decide)
theorem oX11_change_44 : oP MT mX11_change 44 (1, 1, 0, 1, []) := o_aload_n dX11_change_44 rfl
theorem oX11_change_45 : oP MT mX11_change 45 (13, 3, 0, 11, []) := o_getR (M := mX11_change) (C := RX11) (T := TX11) (ci := 11) (j := 0) (z := 11) dX11_change_45 rfl lq_RX11_56 rfl rfl
theorem oX11_change_48 : oP MT mX11_change 48 (13, 3, 11, 1, []) := o_getR (M := mX11_change) (C := RX1) (T := TX1) (ci := 1) (j := 11) (z := 1) dX11_change_48 rfl lq_RX11_104 rfl rfl
theorem oX11_change_51 : oP MT mX11_change 51 (1, 1, 1, 0, []) := o_iload_n dX11_change_51 rfl
theorem oX11_change_52 : oP MT mX11_change 52 (1, 1, 3, 0, []) := o_iload_n dX11_change_52 rfl
theorem oX11_change_53 : oP MT mX11_change 53 (0, 2, 0, 99, []) := o_bipush dX11_change_53 (by decide)
theorem oX11_change_55 : oP MT mX11_change 55 (25, 3, 78, 4, []) := o_callS dX11_change_55 (mj := mX11_put) mt_X11_put cmq_X11_put wq_661 wq_663 (by decide) (by decide)
theorem oX11_change_58 : oP MT mX11_change 58 (21, 1, 0, 0, []) := o_iret dX11_change_58 rfl
theorem oX11_change_59 : oP MT mX11_change 59 (1, 1, 0, 1, []) := o_aload_n dX11_change_59 rfl
theorem oX11_change_60 : oP MT mX11_change 60 (13, 3, 0, 11, []) := o_getR (M := mX11_change) (C := RX11) (T := TX11) (ci := 11) (j := 0) (z := 11) dX11_change_60 rfl lq_RX11_56 rfl rfl
theorem oX11_change_63 : oP MT mX11_change 63 (13, 3, 12, 1, []) := o_getR (M := mX11_change) (C := RX1) (T := TX1) (ci := 1) (j := 12) (z := 1) dX11_change_63 rfl lq_RX11_107 rfl rfl
theorem oX11_change_66 : oP MT mX11_change 66 (1, 1, 1, 0, []) := o_iload_n dX11_change_66 rfl
theorem oX11_change_67 : oP MT mX11_change 67 (1, 1, 3, 0, []) := o_iload_n dX11_change_67 rfl
theorem oX11_change_68 : oP MT mX11_change 68 (0, 2, 0, 9, []) := o_bipush dX11_change_68 (by decide)
theorem oX11_change_70 : oP MT mX11_change 70 (25, 3, 78, 4, []) := o_callS dX11_change_70 (mj := mX11_put) mt_X11_put cmq_X11_put wq_661 wq_663 (by decide) (by decide)
theorem oX11_change_73 : oP MT mX11_change 73 (21, 1, 0, 0, []) := o_iret dX11_change_73 rfl
theorem oX11_change_74 : oP MT mX11_change 74 (1, 1, 0, 1, []) := o_aload_n dX11_change_74 rfl
theorem oX11_change_75 : oP MT mX11_change 75 (13, 3, 0, 11, []) := o_getR (M := mX11_change) (C := RX11) (T := TX11) (ci := 11) (j := 0) (z := 11) dX11_change_75 rfl lq_RX11_56 rfl rfl
theorem oX11_change_78 : oP MT mX11_change 78 (13, 3, 13, 1, []) := o_getR (M := mX11_change) (C := RX1) (T := TX1) (ci := 1) (j := 13) (z := 1) dX11_change_78 rfl lq_RX11_110 rfl rfl
theorem oX11_change_81 : oP MT mX11_change 81 (1, 1, 1, 0, []) := o_iload_n dX11_change_81 rfl
theorem oX11_change_82 : oP MT mX11_change 82 (1, 1, 3, 0, []) := o_iload_n dX11_change_82 rfl
theorem oX11_change_83 : oP MT mX11_change 83 (0, 1, 0, 5, []) := o_iconst dX11_change_83 (by decide)
theorem oX11_change_84 : oP MT mX11_change 84 (25, 3, 78, 4, []) := o_callS dX11_change_84 (mj := mX11_put) mt_X11_put cmq_X11_put wq_661 wq_663 (by decide) (by decide)
theorem oX11_change_87 : oP MT mX11_change 87 (21, 1, 0, 0, []) := o_iret dX11_change_87 rfl
theorem oX11_change_88 : oP MT mX11_change 88 (1, 1, 0, 1, []) := o_aload_n dX11_change_88 rfl
theorem oX11_change_89 : oP MT mX11_change 89 (1, 1, 1, 0, []) := o_iload_n dX11_change_89 rfl
theorem oX11_change_90 : oP MT mX11_change 90 (1, 1, 3, 0, []) := o_iload_n dX11_change_90 rfl
theorem oX11_change_91 : oP MT mX11_change 91 (26, 3, 0, 2, [(11, 79)]) := o_callO ((vA.cons (v_callV dX11_change_91 (ci := 11) rfl rfl (mj := mX11_changeTurned) mt_X11_changeTurned cmq_X11_changeTurned wq_664 wq_666 wq_667 (by decide) (by decide)) vA.nil))
theorem oX11_change_94 : oP MT mX11_change 94 (21, 1, 0, 0, []) := o_iret dX11_change_94 rfl
theorem oX11_change_95 : oP MT mX11_change 95 (0, 1, 0, (-1), []) := o_iconst dX11_change_95 (by decide)
theorem oX11_change_96 : oP MT mX11_change 96 (21, 1, 0, 0, []) := o_iret dX11_change_96 rfl
def ops_X11_change : List (Nat × aO) := [(0, (1, 1, 0, 1, [])), (1, (13, 3, 0, 11, [])), (4, (1, 1, 1, 0, [])), (5, (26, 3, 0, 1, [(1, 26)])), (8, (10, 3, 1, 13, [])), (11, (0, 1, 0, (-1), [])), (12, (21, 1, 0, 0, [])), (13, (1, 1, 2, 0, [])), (14, (24, 30, 95, 0, [(1, 44), (2, 59), (3, 74), (4, 88)])), (44, (1, 1, 0, 1, [])), (45, (13, 3, 0, 11, [])), (48, (13, 3, 11, 1, [])), (51, (1, 1, 1, 0, [])), (52, (1, 1, 3, 0, [])), (53, (0, 2, 0, 99, [])), (55, (25, 3, 78, 4, [])), (58, (21, 1, 0, 0, [])), (59, (1, 1, 0, 1, [])), (60, (13, 3, 0, 11, [])), (63, (13, 3, 12, 1, [])), (66, (1, 1, 1, 0, [])), (67, (1, 1, 3, 0, [])), (68, (0, 2, 0, 9, [])), (70, (25, 3, 78, 4, [])), (73, (21, 1, 0, 0, [])), (74, (1, 1, 0, 1, [])), (75, (13, 3, 0, 11, [])), (78, (13, 3, 13, 1, [])), (81, (1, 1, 1, 0, [])), (82, (1, 1, 3, 0, [])), (83, (0, 1, 0, 5, [])), (84, (25, 3, 78, 4, [])), (87, (21, 1, 0, 0, [])), (88, (1, 1, 0, 1, [])), (89, (1, 1, 1, 0, [])), (90, (1, 1, 3, 0, [])), (91, (26, 3, 0, 2, [(11, 79)])), (94, (21, 1, 0, 0, [])), (95, (0, 1, 0, (-1), [])), (96, (21, 1, 0, 0, []))]
theorem os_X11_change : oA MT mX11_change ops_X11_change := (oA.cons oX11_change_0 (oA.cons oX11_change_1 (oA.cons oX11_change_4 (oA.cons oX11_change_5 (oA.cons oX11_change_8 (oA.cons oX11_change_11 (oA.cons oX11_change_12 (oA.cons oX11_change_13 (oA.cons oX11_change_14 (oA.cons oX11_change_44 (oA.cons oX11_change_45 (oA.cons oX11_change_48 (oA.cons oX11_change_51 (oA.cons oX11_change_52 (oA.cons oX11_change_53 (oA.cons oX11_change_55 (oA.cons oX11_change_58 (oA.cons oX11_change_59 (oA.cons oX11_change_60 (oA.cons oX11_change_63 (oA.cons oX11_change_66 (oA.cons oX11_change_67 (oA.cons oX11_change_68 (oA.cons oX11_change_70 (oA.cons oX11_change_73 (oA.cons oX11_change_74 (oA.cons oX11_change_75 (oA.cons oX11_change_78 (oA.cons oX11_change_81 (oA.cons oX11_change_82 (oA.cons oX11_change_83 (oA.cons oX11_change_84 (oA.cons oX11_change_87 (oA.cons oX11_change_88 (oA.cons oX11_change_89 (oA.cons oX11_change_90 (oA.cons oX11_change_91 (oA.cons oX11_change_94 (oA.cons oX11_change_95 (oA.cons oX11_change_96 oA.nil))))))))))))))))))))))))))))))))))))))))
theorem dX11_remake_0 : decode cX11_remake 0 = .ok (.aload_n 0, 1) := by decide +kernel
theorem dX11_remake_1 : decode cX11_remake 1 = .ok (.getfield 56, 3) := by decide +kernel
theorem dX11_remake_4 : decode cX11_remake 4 = .ok (.iload_n 1, 1) := by decide +kernel
theorem dX11_remake_5 : decode cX11_remake 5 = .ok (.invokevirtual 113, 3) := by decide +kernel
theorem dX11_remake_8 : decode cX11_remake 8 = .ok (.ifCond .eq 10, 3) := by decide +kernel
theorem dX11_remake_11 : decode cX11_remake 11 = .ok (.iload_n 2, 1) := by decide +kernel
theorem dX11_remake_12 : decode cX11_remake 12 = .ok (.invokestatic 86, 3) := by decide +kernel
theorem dX11_remake_15 : decode cX11_remake 15 = .ok (.ifCond .ne 5, 3) := by decide +kernel
theorem dX11_remake_18 : decode cX11_remake 18 = .ok (.iconst (-1), 1) := by decide +kernel
theorem dX11_remake_19 : decode cX11_remake 19 = .ok (.ireturn, 1) := by decide +kernel
theorem dX11_remake_20 : decode cX11_remake 20 = .ok (.aload_n 0, 1) := by decide +kernel
theorem dX11_remake_21 : decode cX11_remake 21 = .ok (.getfield 56, 3) := by decide +kernel
theorem dX11_remake_24 : decode cX11_remake 24 = .ok (.getfield 101, 3) := by decide +kernel
theorem dX11_remake_27 : decode cX11_remake 27 = .ok (.iload_n 1, 1) := by decide +kernel
theorem dX11_remake_28 : decode cX11_remake 28 = .ok (.iaload, 1) := by decide +kernel
theorem dX11_remake_29 : decode cX11_remake 29 = .ok (.istore_n 3, 1) := by decide +kernel
theorem dX11_remake_30 : decode cX11_remake 30 = .ok (.aload_n 0, 1) := by decide +kernel
theorem dX11_remake_31 : decode cX11_remake 31 = .ok (.getfield 56, 3) := by decide +kernel
theorem dX11_remake_34 : decode cX11_remake 34 = .ok (.getfield 101, 3) := by decide +kernel
theorem dX11_remake_37 : decode cX11_remake 37 = .ok (.iload_n 1, 1) := by decide +kernel
theorem dX11_remake_38 : decode cX11_remake 38 = .ok (.iload_n 2, 1) := by decide +kernel
theorem dX11_remake_39 : decode cX11_remake 39 = .ok (.iastore, 1) := by decide +kernel
theorem dX11_remake_40 : decode cX11_remake 40 = .ok (.iload_n 3, 1) := by decide +kernel
theorem dX11_remake_41 : decode cX11_remake 41 = .ok (.ireturn, 1) := by decide +kernel
theorem oX11_remake_0 : oP MT mX11_remake 0 (1, 1, 0, 1, []) := o_aload_n dX11_remake_0 rfl
theorem oX11_remake_1 : oP MT mX11_remake 1 (13, 3, 0, 11, []) := o_getR (M := mX11_remake) (C := RX11) (T := TX11) (ci := 11) (j := 0) (z := 11) dX11_remake_1 rfl lq_RX11_56 rfl rfl
theorem oX11_remake_4 : oP MT mX11_remake 4 (1, 1, 1, 0, []) := o_iload_n dX11_remake_4 rfl
theorem oX11_remake_5 : oP MT mX11_remake 5 (26, 3, 0, 1, [(1, 26)]) := o_callO ((vA.cons (v_callV dX11_remake_5 (ci := 1) rfl rfl (mj := mX1_isKey) mt_X1_isKey cmq_X1_isKey wq_388 wq_120 wq_121 (by decide) (by decide)) vA.nil))
theorem oX11_remake_8 : oP MT mX11_remake 8 (10, 3, 0, 18, []) := o_if_eq dX11_remake_8 (by decide) (by decide)
theorem oX11_remake_11 : oP MT mX11_remake 11 (1, 1, 2, 0, []) := o_iload_n dX11_remake_11 rfl
theorem oX11_remake_12 : oP MT mX11_remake 12 (25, 3, 184, 1, []) := o_callS dX11_remake_12 (mj := mX11_isKeyKind) mt_X11_isKeyKind cmq_X11_isKeyKind wq_641 wq_643 (by decide) (by decide)
theorem oX11_remake_15 : oP MT mX11_remake 15 (10, 3, 1, 20, []) := o_if_ne dX11_remake_15 (by decide) (by decide)
theorem oX11_remake_18 : oP MT mX11_remake 18 (0, 1, 0, (-1), []) := o_iconst dX11_remake_18 (by decide)
theorem oX11_remake_19 : oP MT mX11_remake 19 (21, 1, 0, 0, []) := o_iret dX11_remake_19 rfl
theorem oX11_remake_20 : oP MT mX11_remake 20 (1, 1, 0, 1, []) := o_aload_n dX11_remake_20 rfl
theorem oX11_remake_21 : oP MT mX11_remake 21 (13, 3, 0, 11, []) := o_getR (M := mX11_remake) (C := RX11) (T := TX11) (ci := 11) (j := 0) (z := 11) dX11_remake_21 rfl lq_RX11_56 rfl rfl
theorem oX11_remake_24 : oP MT mX11_remake 24 (13, 3, 10, 1, []) := o_getR (M := mX11_remake) (C := RX1) (T := TX1) (ci := 1) (j := 10) (z := 1) dX11_remake_24 rfl lq_RX11_101 rfl rfl
theorem oX11_remake_27 : oP MT mX11_remake 27 (1, 1, 1, 0, []) := o_iload_n dX11_remake_27 rfl
theorem oX11_remake_28 : oP MT mX11_remake 28 (16, 1, 1, 0, []) := o_iaload dX11_remake_28
theorem oX11_remake_29 : oP MT mX11_remake 29 (2, 1, 3, 0, []) := o_istore_n dX11_remake_29 rfl (by decide)
theorem oX11_remake_30 : oP MT mX11_remake 30 (1, 1, 0, 1, []) := o_aload_n dX11_remake_30 rfl
theorem oX11_remake_31 : oP MT mX11_remake 31 (13, 3, 0, 11, []) := o_getR (M := mX11_remake) (C := RX11) (T := TX11) (ci := 11) (j := 0) (z := 11) dX11_remake_31 rfl lq_RX11_56 rfl rfl
theorem oX11_remake_34 : oP MT mX11_remake 34 (13, 3, 10, 1, []) := o_getR (M := mX11_remake) (C := RX1) (T := TX1) (ci := 1) (j := 10) (z := 1) dX11_remake_34 rfl lq_RX11_101 rfl rfl
theorem oX11_remake_37 : oP MT mX11_remake 37 (1, 1, 1, 0, []) := o_iload_n dX11_remake_37 rfl
theorem oX11_remake_38 : oP MT mX11_remake 38 (1, 1, 2, 0, []) := o_iload_n dX11_remake_38 rfl
theorem oX11_remake_39 : oP MT mX11_remake 39 (18, 1, 0, 0, []) := o_iastore dX11_remake_39
theorem oX11_remake_40 : oP MT mX11_remake 40 (1, 1, 3, 0, []) := o_iload_n dX11_remake_40 rfl
theorem oX11_remake_41 : oP MT mX11_remake 41 (21, 1, 0, 0, []) := o_iret dX11_remake_41 rfl
def ops_X11_remake : List (Nat × aO) := [(0, (1, 1, 0, 1, [])), (1, (13, 3, 0, 11, [])), (4, (1, 1, 1, 0, [])), (5, (26, 3, 0, 1, [(1, 26)])), (8, (10, 3, 0, 18, [])), (11, (1, 1, 2, 0, [])), (12, (25, 3, 184, 1, [])), (15, (10, 3, 1, 20, [])), (18, (0, 1, 0, (-1), [])), (19, (21, 1, 0, 0, [])), (20, (1, 1, 0, 1, [])), (21, (13, 3, 0, 11, [])), (24, (13, 3, 10, 1, [])), (27, (1, 1, 1, 0, [])), (28, (16, 1, 1, 0, [])), (29, (2, 1, 3, 0, [])), (30, (1, 1, 0, 1, [])), (31, (13, 3, 0, 11, [])), (34, (13, 3, 10, 1, [])), (37, (1, 1, 1, 0, [])), (38, (1, 1, 2, 0, [])), (39, (18, 1, 0, 0, [])), (40, (1, 1, 3, 0, [])), (41, (21, 1, 0, 0, []))]
theorem os_X11_remake : oA MT mX11_remake ops_X11_remake := (oA.cons oX11_remake_0 (oA.cons oX11_remake_1 (oA.cons oX11_remake_4 (oA.cons oX11_remake_5 (oA.cons oX11_remake_8 (oA.cons oX11_remake_11 (oA.cons oX11_remake_12 (oA.cons oX11_remake_15 (oA.cons oX11_remake_18 (oA.cons oX11_remake_19 (oA.cons oX11_remake_20 (oA.cons oX11_remake_21 (oA.cons oX11_remake_24 (oA.cons oX11_remake_27 (oA.cons oX11_remake_28 (oA.cons oX11_remake_29 (oA.cons oX11_remake_30 (oA.cons oX11_remake_31 (oA.cons oX11_remake_34 (oA.cons oX11_remake_37 (oA.cons oX11_remake_38 (oA.cons oX11_remake_39 (oA.cons oX11_remake_40 (oA.cons oX11_remake_41 oA.nil))))))))))))))))))))))))
theorem dX11_sun_0 : decode cX11_sun 0 = .ok (.aload_n 0, 1) := by decide +kernel
theorem dX11_sun_1 : decode cX11_sun 1 = .ok (.getfield 56, 3) := by decide +kernel
theorem dX11_sun_4 : decode cX11_sun 4 = .ok (.getfield 147, 3) := by decide +kernel
theorem dX11_sun_7 : decode cX11_sun 7 = .ok (.iload_n 1, 1) := by decide +kernel
theorem dX11_sun_8 : decode cX11_sun 8 = .ok (.iload_n 2, 1) := by decide +kernel
theorem dX11_sun_9 : decode cX11_sun 9 = .ok (.bipush 15, 2) := by decide +kernel
theorem dX11_sun_11 : decode cX11_sun 11 = .ok (.invokestatic 135, 3) := by decide +kernel
theorem dX11_sun_14 : decode cX11_sun 14 = .ok (.ireturn, 1) := by decide +kernel
theorem oX11_sun_0 : oP MT mX11_sun 0 (1, 1, 0, 1, []) := o_aload_n dX11_sun_0 rfl
theorem oX11_sun_1 : oP MT mX11_sun 1 (13, 3, 0, 11, []) := o_getR (M := mX11_sun) (C := RX11) (T := TX11) (ci := 11) (j := 0) (z := 11) dX11_sun_1 rfl lq_RX11_56 rfl rfl
theorem oX11_sun_4 : oP MT mX11_sun 4 (13, 3, 5, 1, []) := o_getR (M := mX11_sun) (C := RX1) (T := TX1) (ci := 1) (j := 5) (z := 1) dX11_sun_4 rfl lq_RX11_147 rfl rfl
theorem oX11_sun_7 : oP MT mX11_sun 7 (1, 1, 1, 0, []) := o_iload_n dX11_sun_7 rfl
theorem oX11_sun_8 : oP MT mX11_sun 8 (1, 1, 2, 0, []) := o_iload_n dX11_sun_8 rfl
theorem oX11_sun_9 : oP MT mX11_sun 9 (0, 2, 0, 15, []) := o_bipush dX11_sun_9 (by decide)
theorem oX11_sun_11 : oP MT mX11_sun 11 (25, 3, 78, 4, []) := o_callS dX11_sun_11 (mj := mX11_put) mt_X11_put cmq_X11_put wq_661 wq_663 (by decide) (by decide)
theorem oX11_sun_14 : oP MT mX11_sun 14 (21, 1, 0, 0, []) := o_iret dX11_sun_14 rfl
def ops_X11_sun : List (Nat × aO) := [(0, (1, 1, 0, 1, [])), (1, (13, 3, 0, 11, [])), (4, (13, 3, 5, 1, [])), (7, (1, 1, 1, 0, [])), (8, (1, 1, 2, 0, [])), (9, (0, 2, 0, 15, [])), (11, (25, 3, 78, 4, [])), (14, (21, 1, 0, 0, []))]
theorem os_X11_sun : oA MT mX11_sun ops_X11_sun := (oA.cons oX11_sun_0 (oA.cons oX11_sun_1 (oA.cons oX11_sun_4 (oA.cons oX11_sun_7 (oA.cons oX11_sun_8 (oA.cons oX11_sun_9 (oA.cons oX11_sun_11 (oA.cons oX11_sun_14 oA.nil))))))))
theorem dX11_gate_0 : decode cX11_gate 0 = .ok (.iload_n 2, 1) := by decide +kernel
theorem dX11_gate_1 : decode cX11_gate 1 = .ok (.lookupswitch 57 #[(0, 27), (1, 42)], 27) := by decide +kernel
theorem dX11_gate_28 : decode cX11_gate 28 = .ok (.aload_n 0, 1) := by decide +kernel
theorem dX11_gate_29 : decode cX11_gate 29 = .ok (.getfield 56, 3) := by decide +kernel
theorem dX11_gate_32 : decode cX11_gate 32 = .ok (.getfield 150, 3) := by decide +kernel
theorem dX11_gate_35 : decode cX11_gate 35 = .ok (.iload_n 1, 1) := by decide +kernel
theorem dX11_gate_36 : decode cX11_gate 36 = .ok (.iload_n 3, 1) := by decide +kernel
theorem dX11_gate_37 : decode cX11_gate 37 = .ok (.bipush 9, 2) := by decide +kernel
theorem dX11_gate_39 : decode cX11_gate 39 = .ok (.invokestatic 135, 3) := by decide +kernel
theorem dX11_gate_42 : decode cX11_gate 42 = .ok (.ireturn, 1) := by decide +kernel
theorem dX11_gate_43 : decode cX11_gate 43 = .ok (.aload_n 0, 1) := by decide +kernel
theorem dX11_gate_44 : decode cX11_gate 44 = .ok (.getfield 56, 3) := by decide +kernel
theorem dX11_gate_47 : decode cX11_gate 47 = .ok (.getfield 153, 3) := by decide +kernel
theorem dX11_gate_50 : decode cX11_gate 50 = .ok (.iload_n 1, 1) := by decide +kernel
theorem dX11_gate_51 : decode cX11_gate 51 = .ok (.iload_n 3, 1) := by decide +kernel
theorem dX11_gate_52 : decode cX11_gate 52 = .ok (.bipush 9, 2) := by decide +kernel
theorem dX11_gate_54 : decode cX11_gate 54 = .ok (.invokestatic 135, 3) := by decide +kernel
theorem dX11_gate_57 : decode cX11_gate 57 = .ok (.ireturn, 1) := by decide +kernel
theorem dX11_gate_58 : decode cX11_gate 58 = .ok (.iconst (-1), 1) := by decide +kernel
theorem dX11_gate_59 : decode cX11_gate 59 = .ok (.ireturn, 1) := by decide +kernel
theorem oX11_gate_0 : oP MT mX11_gate 0 (1, 1, 2, 0, []) := o_iload_n dX11_gate_0 rfl
theorem oX11_gate_1 : oP MT mX11_gate 1 (24, 27, 58, 0, [(0, 28), (1, 43)]) := o_look dX11_gate_1 rfl (by decide) (by decide) (by decide) (fun x => look2 _ _ _ _ _ x (by decide))
theorem oX11_gate_28 : oP MT mX11_gate 28 (1, 1, 0, 1, []) := o_aload_n dX11_gate_28 rfl
theorem oX11_gate_29 : oP MT mX11_gate 29 (13, 3, 0, 11, []) := o_getR (M := mX11_gate) (C := RX11) (T := TX11) (ci := 11) (j := 0) (z := 11) dX11_gate_29 rfl lq_RX11_56 rfl rfl
theorem oX11_gate_32 : oP MT mX11_gate 32 (13, 3, 6, 1, []) := o_getR (M := mX11_gate) (C := RX1) (T := TX1) (ci := 1) (j := 6) (z := 1) dX11_gate_32 rfl lq_RX11_150 rfl rfl
theorem oX11_gate_35 : oP MT mX11_gate 35 (1, 1, 1, 0, []) := o_iload_n dX11_gate_35 rfl
theorem oX11_gate_36 : oP MT mX11_gate 36 (1, 1, 3, 0, []) := o_iload_n dX11_gate_36 rfl
theorem oX11_gate_37 : oP MT mX11_gate 37 (0, 2, 0, 9, []) := o_bipush dX11_gate_37 (by decide)
theorem oX11_gate_39 : oP MT mX11_gate 39 (25, 3, 78, 4, []) := o_callS dX11_gate_39 (mj := mX11_put) mt_X11_put cmq_X11_put wq_661 wq_663 (by decide) (by decide)
theorem oX11_gate_42 : oP MT mX11_gate 42 (21, 1, 0, 0, []) := o_iret dX11_gate_42 rfl
theorem oX11_gate_43 : oP MT mX11_gate 43 (1, 1, 0, 1, []) := o_aload_n dX11_gate_43 rfl
theorem oX11_gate_44 : oP MT mX11_gate 44 (13, 3, 0, 11, []) := o_getR (M := mX11_gate) (C := RX11) (T := TX11) (ci := 11) (j := 0) (z := 11) dX11_gate_44 rfl lq_RX11_56 rfl rfl
theorem oX11_gate_47 : oP MT mX11_gate 47 (13, 3, 7, 1, []) := o_getR (M := mX11_gate) (C := RX1) (T := TX1) (ci := 1) (j := 7) (z := 1) dX11_gate_47 rfl lq_RX11_153 rfl rfl
theorem oX11_gate_50 : oP MT mX11_gate 50 (1, 1, 1, 0, []) := o_iload_n dX11_gate_50 rfl
theorem oX11_gate_51 : oP MT mX11_gate 51 (1, 1, 3, 0, []) := o_iload_n dX11_gate_51 rfl
theorem oX11_gate_52 : oP MT mX11_gate 52 (0, 2, 0, 9, []) := o_bipush dX11_gate_52 (by decide)
theorem oX11_gate_54 : oP MT mX11_gate 54 (25, 3, 78, 4, []) := o_callS dX11_gate_54 (mj := mX11_put) mt_X11_put cmq_X11_put wq_661 wq_663 (by decide) (by decide)
theorem oX11_gate_57 : oP MT mX11_gate 57 (21, 1, 0, 0, []) := o_iret dX11_gate_57 rfl
theorem oX11_gate_58 : oP MT mX11_gate 58 (0, 1, 0, (-1), []) := o_iconst dX11_gate_58 (by decide)
theorem oX11_gate_59 : oP MT mX11_gate 59 (21, 1, 0, 0, []) := o_iret dX11_gate_59 rfl
def ops_X11_gate : List (Nat × aO) := [(0, (1, 1, 2, 0, [])), (1, (24, 27, 58, 0, [(0, 28), (1, 43)])), (28, (1, 1, 0, 1, [])), (29, (13, 3, 0, 11, [])), (32, (13, 3, 6, 1, [])), (35, (1, 1, 1, 0, [])), (36, (1, 1, 3, 0, [])), (37, (0, 2, 0, 9, [])), (39, (25, 3, 78, 4, [])), (42, (21, 1, 0, 0, [])), (43, (1, 1, 0, 1, [])), (44, (13, 3, 0, 11, [])), (47, (13, 3, 7, 1, [])), (50, (1, 1, 1, 0, [])), (51, (1, 1, 3, 0, [])), (52, (0, 2, 0, 9, [])), (54, (25, 3, 78, 4, [])), (57, (21, 1, 0, 0, [])), (58, (0, 1, 0, (-1), [])), (59, (21, 1, 0, 0, []))]
theorem os_X11_gate : oA MT mX11_gate ops_X11_gate := (oA.cons oX11_gate_0 (oA.cons oX11_gate_1 (oA.cons oX11_gate_28 (oA.cons oX11_gate_29 (oA.cons oX11_gate_32 (oA.cons oX11_gate_35 (oA.cons oX11_gate_36 (oA.cons oX11_gate_37 (oA.cons oX11_gate_39 (oA.cons oX11_gate_42 (oA.cons oX11_gate_43 (oA.cons oX11_gate_44 (oA.cons oX11_gate_47 (oA.cons oX11_gate_50 (oA.cons oX11_gate_51 (oA.cons oX11_gate_52 (oA.cons oX11_gate_54 (oA.cons oX11_gate_57 (oA.cons oX11_gate_58 (oA.cons oX11_gate_59 oA.nil))))))))))))))))))))
theorem dX11_gateOf_0 : decode cX11_gateOf 0 = .ok (.iload_n 1, 1) := by decide +kernel
theorem dX11_gateOf_1 : decode cX11_gateOf 1 = .ok (.invokestatic 94, 3) := by decide +kernel
theorem dX11_gateOf_4 : decode cX11_gateOf 4 = .ok (.ifCond .ne 5, 3) := by decide +kernel
theorem dX11_gateOf_7 : decode cX11_gateOf 7 = .ok (.iconst (-1), 1) := by decide +kernel
theorem dX11_gateOf_8 : decode cX11_gateOf 8 = .ok (.ireturn, 1) := by decide +kernel
theorem dX11_gateOf_9 : decode cX11_gateOf 9 = .ok (.iload_n 2, 1) := by decide +kernel
theorem dX11_gateOf_10 : decode cX11_gateOf 10 = .ok (.lookupswitch 46 #[(0, 26), (1, 36)], 26) := by decide +kernel
theorem dX11_gateOf_36 : decode cX11_gateOf 36 = .ok (.aload_n 0, 1) := by decide +kernel
theorem dX11_gateOf_37 : decode cX11_gateOf 37 = .ok (.getfield 56, 3) := by decide +kernel
theorem dX11_gateOf_40 : decode cX11_gateOf 40 = .ok (.getfield 150, 3) := by decide +kernel
theorem dX11_gateOf_43 : decode cX11_gateOf 43 = .ok (.iload_n 1, 1) := by decide +kernel
theorem dX11_gateOf_44 : decode cX11_gateOf 44 = .ok (.iaload, 1) := by decide +kernel
theorem dX11_gateOf_45 : decode cX11_gateOf 45 = .ok (.ireturn, 1) := by decide +kernel
theorem dX11_gateOf_46 : decode cX11_gateOf 46 = .ok (.aload_n 0, 1) := by decide +kernel
theorem dX11_gateOf_47 : decode cX11_gateOf 47 = .ok (.getfield 56, 3) := by decide +kernel
theorem dX11_gateOf_50 : decode cX11_gateOf 50 = .ok (.getfield 153, 3) := by decide +kernel
theorem dX11_gateOf_53 : decode cX11_gateOf 53 = .ok (.iload_n 1, 1) := by decide +kernel
theorem dX11_gateOf_54 : decode cX11_gateOf 54 = .ok (.iaload, 1) := by decide +kernel
theorem dX11_gateOf_55 : decode cX11_gateOf 55 = .ok (.ireturn, 1) := by decide +kernel
theorem dX11_gateOf_56 : decode cX11_gateOf 56 = .ok (.iconst (-1), 1) := by decide +kernel
theorem dX11_gateOf_57 : decode cX11_gateOf 57 = .ok (.ireturn, 1) := by decide +kernel
theorem oX11_gateOf_0 : oP MT mX11_gateOf 0 (1, 1, 1, 0, []) := o_iload_n dX11_gateOf_0 rfl
theorem oX11_gateOf_1 : oP MT mX11_gateOf 1 (25, 3, 185, 1, []) := o_callS dX11_gateOf_1 (mj := mX11_isGate) mt_X11_isGate cmq_X11_isGate wq_644 wq_646 (by decide) (by decide)
theorem oX11_gateOf_4 : oP MT mX11_gateOf 4 (10, 3, 1, 9, []) := o_if_ne dX11_gateOf_4 (by decide) (by decide)
theorem oX11_gateOf_7 : oP MT mX11_gateOf 7 (0, 1, 0, (-1), []) := o_iconst dX11_gateOf_7 (by decide)
theorem oX11_gateOf_8 : oP MT mX11_gateOf 8 (21, 1, 0, 0, []) := o_iret dX11_gateOf_8 rfl
theorem oX11_gateOf_9 : oP MT mX11_gateOf 9 (1, 1, 2, 0, []) := o_iload_n dX11_gateOf_9 rfl
theorem oX11_gateOf_10 : oP MT mX11_gateOf 10 (24, 26, 56, 0, [(0, 36), (1, 46)]) := o_look dX11_gateOf_10 rfl (by decide) (by decide) (by decide) (fun x => look2 _ _ _ _ _ x (by decide))
theorem oX11_gateOf_36 : oP MT mX11_gateOf 36 (1, 1, 0, 1, []) := o_aload_n dX11_gateOf_36 rfl
theorem oX11_gateOf_37 : oP MT mX11_gateOf 37 (13, 3, 0, 11, []) := o_getR (M := mX11_gateOf) (C := RX11) (T := TX11) (ci := 11) (j := 0) (z := 11) dX11_gateOf_37 rfl lq_RX11_56 rfl rfl
theorem oX11_gateOf_40 : oP MT mX11_gateOf 40 (13, 3, 6, 1, []) := o_getR (M := mX11_gateOf) (C := RX1) (T := TX1) (ci := 1) (j := 6) (z := 1) dX11_gateOf_40 rfl lq_RX11_150 rfl rfl
theorem oX11_gateOf_43 : oP MT mX11_gateOf 43 (1, 1, 1, 0, []) := o_iload_n dX11_gateOf_43 rfl
theorem oX11_gateOf_44 : oP MT mX11_gateOf 44 (16, 1, 1, 0, []) := o_iaload dX11_gateOf_44
theorem oX11_gateOf_45 : oP MT mX11_gateOf 45 (21, 1, 0, 0, []) := o_iret dX11_gateOf_45 rfl
theorem oX11_gateOf_46 : oP MT mX11_gateOf 46 (1, 1, 0, 1, []) := o_aload_n dX11_gateOf_46 rfl
theorem oX11_gateOf_47 : oP MT mX11_gateOf 47 (13, 3, 0, 11, []) := o_getR (M := mX11_gateOf) (C := RX11) (T := TX11) (ci := 11) (j := 0) (z := 11) dX11_gateOf_47 rfl lq_RX11_56 rfl rfl
theorem oX11_gateOf_50 : oP MT mX11_gateOf 50 (13, 3, 7, 1, []) := o_getR (M := mX11_gateOf) (C := RX1) (T := TX1) (ci := 1) (j := 7) (z := 1) dX11_gateOf_50 rfl lq_RX11_153 rfl rfl
theorem oX11_gateOf_53 : oP MT mX11_gateOf 53 (1, 1, 1, 0, []) := o_iload_n dX11_gateOf_53 rfl
theorem oX11_gateOf_54 : oP MT mX11_gateOf 54 (16, 1, 1, 0, []) := o_iaload dX11_gateOf_54
theorem oX11_gateOf_55 : oP MT mX11_gateOf 55 (21, 1, 0, 0, []) := o_iret dX11_gateOf_55 rfl
theorem oX11_gateOf_56 : oP MT mX11_gateOf 56 (0, 1, 0, (-1), []) := o_iconst dX11_gateOf_56 (by decide)
theorem oX11_gateOf_57 : oP MT mX11_gateOf 57 (21, 1, 0, 0, []) := o_iret dX11_gateOf_57 rfl
def ops_X11_gateOf : List (Nat × aO) := [(0, (1, 1, 1, 0, [])), (1, (25, 3, 185, 1, [])), (4, (10, 3, 1, 9, [])), (7, (0, 1, 0, (-1), [])), (8, (21, 1, 0, 0, [])), (9, (1, 1, 2, 0, [])), (10, (24, 26, 56, 0, [(0, 36), (1, 46)])), (36, (1, 1, 0, 1, [])), (37, (13, 3, 0, 11, [])), (40, (13, 3, 6, 1, [])), (43, (1, 1, 1, 0, [])), (44, (16, 1, 1, 0, [])), (45, (21, 1, 0, 0, [])), (46, (1, 1, 0, 1, [])), (47, (13, 3, 0, 11, [])), (50, (13, 3, 7, 1, [])), (53, (1, 1, 1, 0, [])), (54, (16, 1, 1, 0, [])), (55, (21, 1, 0, 0, [])), (56, (0, 1, 0, (-1), [])), (57, (21, 1, 0, 0, []))]
theorem os_X11_gateOf : oA MT mX11_gateOf ops_X11_gateOf := (oA.cons oX11_gateOf_0 (oA.cons oX11_gateOf_1 (oA.cons oX11_gateOf_4 (oA.cons oX11_gateOf_7 (oA.cons oX11_gateOf_8 (oA.cons oX11_gateOf_9 (oA.cons oX11_gateOf_10 (oA.cons oX11_gateOf_36 (oA.cons oX11_gateOf_37 (oA.cons oX11_gateOf_40 (oA.cons oX11_gateOf_43 (oA.cons oX11_gateOf_44 (oA.cons oX11_gateOf_45 (oA.cons oX11_gateOf_46 (oA.cons oX11_gateOf_47 (oA.cons oX11_gateOf_50 (oA.cons oX11_gateOf_53 (oA.cons oX11_gateOf_54 (oA.cons oX11_gateOf_55 (oA.cons oX11_gateOf_56 (oA.cons oX11_gateOf_57 oA.nil)))))))))))))))))))))
theorem dX11_ends_0 : decode cX11_ends 0 = .ok (.iload_n 1, 1) := by decide +kernel
theorem dX11_ends_1 : decode cX11_ends 1 = .ok (.iconst 1, 1) := by decide +kernel
theorem dX11_ends_2 : decode cX11_ends 2 = .ok (.bipush 16, 2) := by decide +kernel
theorem dX11_ends_4 : decode cX11_ends 4 = .ok (.invokestatic 90, 3) := by decide +kernel
theorem dX11_ends_7 : decode cX11_ends 7 = .ok (.ifCond .ne 5, 3) := by decide +kernel
theorem dX11_ends_10 : decode cX11_ends 10 = .ok (.iconst (-1), 1) := by decide +kernel
theorem dX11_ends_11 : decode cX11_ends 11 = .ok (.ireturn, 1) := by decide +kernel
theorem dX11_ends_12 : decode cX11_ends 12 = .ok (.iload_n 1, 1) := by decide +kernel
theorem dX11_ends_13 : decode cX11_ends 13 = .ok (.aload_n 0, 1) := by decide +kernel
theorem dX11_ends_14 : decode cX11_ends 14 = .ok (.getfield 56, 3) := by decide +kernel
theorem dX11_ends_17 : decode cX11_ends 17 = .ok (.getfield 156, 3) := by decide +kernel
theorem dX11_ends_20 : decode cX11_ends 20 = .ok (.if_icmp .ge 6, 3) := by decide +kernel
theorem dX11_ends_23 : decode cX11_ends 23 = .ok (.bipush (-4), 2) := by decide +kernel
theorem dX11_ends_25 : decode cX11_ends 25 = .ok (.ireturn, 1) := by decide +kernel
theorem dX11_ends_26 : decode cX11_ends 26 = .ok (.aload_n 0, 1) := by decide +kernel
theorem dX11_ends_27 : decode cX11_ends 27 = .ok (.getfield 56, 3) := by decide +kernel
theorem dX11_ends_30 : decode cX11_ends 30 = .ok (.getfield 159, 3) := by decide +kernel
theorem dX11_ends_33 : decode cX11_ends 33 = .ok (.istore_n 2, 1) := by decide +kernel
theorem dX11_ends_34 : decode cX11_ends 34 = .ok (.aload_n 0, 1) := by decide +kernel
theorem dX11_ends_35 : decode cX11_ends 35 = .ok (.getfield 56, 3) := by decide +kernel
theorem dX11_ends_38 : decode cX11_ends 38 = .ok (.iload_n 1, 1) := by decide +kernel
theorem dX11_ends_39 : decode cX11_ends 39 = .ok (.putfield 159, 3) := by decide +kernel
theorem dX11_ends_42 : decode cX11_ends 42 = .ok (.iload_n 2, 1) := by decide +kernel
theorem dX11_ends_43 : decode cX11_ends 43 = .ok (.ireturn, 1) := by decide +kernel
theorem oX11_ends_0 : oP MT mX11_ends 0 (1, 1, 1, 0, []) := o_iload_n dX11_ends_0 rfl
theorem oX11_ends_1 : oP MT mX11_ends 1 (0, 1, 0, 1, []) := o_iconst dX11_ends_1 (by decide)
theorem oX11_ends_2 : oP MT mX11_ends 2 (0, 2, 0, 16, []) := o_bipush dX11_ends_2 (by decide)
theorem oX11_ends_4 : oP MT mX11_ends 4 (25, 3, 37, 3, []) := o_callS dX11_ends_4 (mj := mX11_isIn) mt_X11_isIn cmq_X11_isIn wq_282 wq_144 (by decide) (by decide)
theorem oX11_ends_7 : oP MT mX11_ends 7 (10, 3, 1, 12, []) := o_if_ne dX11_ends_7 (by decide) (by decide)
theorem oX11_ends_10 : oP MT mX11_ends 10 (0, 1, 0, (-1), []) := o_iconst dX11_ends_10 (by decide)
theorem oX11_ends_11 : oP MT mX11_ends 11 (21, 1, 0, 0, []) := o_iret dX11_ends_11 rfl
theorem oX11_ends_12 : oP MT mX11_ends 12 (1, 1, 1, 0, []) := o_iload_n dX11_ends_12 rfl
theorem oX11_ends_13 : oP MT mX11_ends 13 (1, 1, 0, 1, []) := o_aload_n dX11_ends_13 rfl
theorem oX11_ends_14 : oP MT mX11_ends 14 (13, 3, 0, 11, []) := o_getR (M := mX11_ends) (C := RX11) (T := TX11) (ci := 11) (j := 0) (z := 11) dX11_ends_14 rfl lq_RX11_56 rfl rfl
theorem oX11_ends_17 : oP MT mX11_ends 17 (12, 3, 1, 1, []) := o_getI (M := mX11_ends) (C := RX1) (T := TX1) (ci := 1) (j := 1) (z := 1) dX11_ends_17 rfl lq_RX11_156 rfl rfl
theorem oX11_ends_20 : oP MT mX11_ends 20 (11, 3, 3, 26, []) := o_icmp_ge dX11_ends_20 (by decide) (by decide)
theorem oX11_ends_23 : oP MT mX11_ends 23 (0, 2, 0, (-4), []) := o_bipush dX11_ends_23 (by decide)
theorem oX11_ends_25 : oP MT mX11_ends 25 (21, 1, 0, 0, []) := o_iret dX11_ends_25 rfl
theorem oX11_ends_26 : oP MT mX11_ends 26 (1, 1, 0, 1, []) := o_aload_n dX11_ends_26 rfl
theorem oX11_ends_27 : oP MT mX11_ends 27 (13, 3, 0, 11, []) := o_getR (M := mX11_ends) (C := RX11) (T := TX11) (ci := 11) (j := 0) (z := 11) dX11_ends_27 rfl lq_RX11_56 rfl rfl
theorem oX11_ends_30 : oP MT mX11_ends 30 (12, 3, 2, 1, []) := o_getI (M := mX11_ends) (C := RX1) (T := TX1) (ci := 1) (j := 2) (z := 1) dX11_ends_30 rfl lq_RX11_159 rfl rfl
theorem oX11_ends_33 : oP MT mX11_ends 33 (2, 1, 2, 0, []) := o_istore_n dX11_ends_33 rfl (by decide)
theorem oX11_ends_34 : oP MT mX11_ends 34 (1, 1, 0, 1, []) := o_aload_n dX11_ends_34 rfl
theorem oX11_ends_35 : oP MT mX11_ends 35 (13, 3, 0, 11, []) := o_getR (M := mX11_ends) (C := RX11) (T := TX11) (ci := 11) (j := 0) (z := 11) dX11_ends_35 rfl lq_RX11_56 rfl rfl
theorem oX11_ends_38 : oP MT mX11_ends 38 (1, 1, 1, 0, []) := o_iload_n dX11_ends_38 rfl
theorem oX11_ends_39 : oP MT mX11_ends 39 (14, 3, 2, 1, []) := o_putI (M := mX11_ends) (C := RX1) (T := TX1) (ci := 1) (j := 2) (z := 1) dX11_ends_39 rfl lq_RX11_159 rfl rfl rfl rfl
theorem oX11_ends_42 : oP MT mX11_ends 42 (1, 1, 2, 0, []) := o_iload_n dX11_ends_42 rfl
theorem oX11_ends_43 : oP MT mX11_ends 43 (21, 1, 0, 0, []) := o_iret dX11_ends_43 rfl
def ops_X11_ends : List (Nat × aO) := [(0, (1, 1, 1, 0, [])), (1, (0, 1, 0, 1, [])), (2, (0, 2, 0, 16, [])), (4, (25, 3, 37, 3, [])), (7, (10, 3, 1, 12, [])), (10, (0, 1, 0, (-1), [])), (11, (21, 1, 0, 0, [])), (12, (1, 1, 1, 0, [])), (13, (1, 1, 0, 1, [])), (14, (13, 3, 0, 11, [])), (17, (12, 3, 1, 1, [])), (20, (11, 3, 3, 26, [])), (23, (0, 2, 0, (-4), [])), (25, (21, 1, 0, 0, [])), (26, (1, 1, 0, 1, [])), (27, (13, 3, 0, 11, [])), (30, (12, 3, 2, 1, [])), (33, (2, 1, 2, 0, [])), (34, (1, 1, 0, 1, [])), (35, (13, 3, 0, 11, [])), (38, (1, 1, 1, 0, [])), (39, (14, 3, 2, 1, [])), (42, (1, 1, 2, 0, [])), (43, (21, 1, 0, 0, []))]
theorem os_X11_ends : oA MT mX11_ends ops_X11_ends := (oA.cons oX11_ends_0 (oA.cons oX11_ends_1 (oA.cons oX11_ends_2 (oA.cons oX11_ends_4 (oA.cons oX11_ends_7 (oA.cons oX11_ends_10 (oA.cons oX11_ends_11 (oA.cons oX11_ends_12 (oA.cons oX11_ends_13 (oA.cons oX11_ends_14 (oA.cons oX11_ends_17 (oA.cons oX11_ends_20 (oA.cons oX11_ends_23 (oA.cons oX11_ends_25 (oA.cons oX11_ends_26 (oA.cons oX11_ends_27 (oA.cons oX11_ends_30 (oA.cons oX11_ends_33 (oA.cons oX11_ends_34 (oA.cons oX11_ends_35 (oA.cons oX11_ends_38 (oA.cons oX11_ends_39 (oA.cons oX11_ends_42 (oA.cons oX11_ends_43 oA.nil))))))))))))))))))))))))
theorem dX11_anew_0 : decode cX11_anew 0 = .ok (.aload_n 0, 1) := by decide +kernel
theorem dX11_anew_1 : decode cX11_anew 1 = .ok (.getfield 56, 3) := by decide +kernel
theorem dX11_anew_4 : decode cX11_anew 4 = .ok (.getfield 156, 3) := by decide +kernel
theorem dX11_anew_7 : decode cX11_anew 7 = .ok (.istore_n 1, 1) := by decide +kernel
theorem dX11_anew_8 : decode cX11_anew 8 = .ok (.aload_n 0, 1) := by decide +kernel
theorem dX11_anew_9 : decode cX11_anew 9 = .ok (.getfield 56, 3) := by decide +kernel
theorem dX11_anew_12 : decode cX11_anew 12 = .ok (.iconst 0, 1) := by decide +kernel
theorem dX11_anew_13 : decode cX11_anew 13 = .ok (.putfield 156, 3) := by decide +kernel
theorem dX11_anew_16 : decode cX11_anew 16 = .ok (.aload_n 0, 1) := by decide +kernel
theorem dX11_anew_17 : decode cX11_anew 17 = .ok (.getfield 56, 3) := by decide +kernel
theorem dX11_anew_20 : decode cX11_anew 20 = .ok (.iconst 0, 1) := by decide +kernel
theorem dX11_anew_21 : decode cX11_anew 21 = .ok (.putfield 162, 3) := by decide +kernel
theorem dX11_anew_24 : decode cX11_anew 24 = .ok (.aload_n 0, 1) := by decide +kernel
theorem dX11_anew_25 : decode cX11_anew 25 = .ok (.getfield 56, 3) := by decide +kernel
theorem dX11_anew_28 : decode cX11_anew 28 = .ok (.iconst 0, 1) := by decide +kernel
theorem dX11_anew_29 : decode cX11_anew 29 = .ok (.putfield 165, 3) := by decide +kernel
theorem dX11_anew_32 : decode cX11_anew 32 = .ok (.iload_n 1, 1) := by decide +kernel
theorem dX11_anew_33 : decode cX11_anew 33 = .ok (.ireturn, 1) := by decide +kernel
theorem oX11_anew_0 : oP MT mX11_anew 0 (1, 1, 0, 1, []) := o_aload_n dX11_anew_0 rfl
theorem oX11_anew_1 : oP MT mX11_anew 1 (13, 3, 0, 11, []) := o_getR (M := mX11_anew) (C := RX11) (T := TX11) (ci := 11) (j := 0) (z := 11) dX11_anew_1 rfl lq_RX11_56 rfl rfl
theorem oX11_anew_4 : oP MT mX11_anew 4 (12, 3, 1, 1, []) := o_getI (M := mX11_anew) (C := RX1) (T := TX1) (ci := 1) (j := 1) (z := 1) dX11_anew_4 rfl lq_RX11_156 rfl rfl
theorem oX11_anew_7 : oP MT mX11_anew 7 (2, 1, 1, 0, []) := o_istore_n dX11_anew_7 rfl (by decide)
theorem oX11_anew_8 : oP MT mX11_anew 8 (1, 1, 0, 1, []) := o_aload_n dX11_anew_8 rfl
theorem oX11_anew_9 : oP MT mX11_anew 9 (13, 3, 0, 11, []) := o_getR (M := mX11_anew) (C := RX11) (T := TX11) (ci := 11) (j := 0) (z := 11) dX11_anew_9 rfl lq_RX11_56 rfl rfl
theorem oX11_anew_12 : oP MT mX11_anew 12 (0, 1, 0, 0, []) := o_iconst dX11_anew_12 (by decide)
theorem oX11_anew_13 : oP MT mX11_anew 13 (14, 3, 1, 1, []) := o_putI (M := mX11_anew) (C := RX1) (T := TX1) (ci := 1) (j := 1) (z := 1) dX11_anew_13 rfl lq_RX11_156 rfl rfl rfl rfl
theorem oX11_anew_16 : oP MT mX11_anew 16 (1, 1, 0, 1, []) := o_aload_n dX11_anew_16 rfl
theorem oX11_anew_17 : oP MT mX11_anew 17 (13, 3, 0, 11, []) := o_getR (M := mX11_anew) (C := RX11) (T := TX11) (ci := 11) (j := 0) (z := 11) dX11_anew_17 rfl lq_RX11_56 rfl rfl
theorem oX11_anew_20 : oP MT mX11_anew 20 (0, 1, 0, 0, []) := o_iconst dX11_anew_20 (by decide)
theorem oX11_anew_21 : oP MT mX11_anew 21 (14, 3, 3, 1, []) := o_putI (M := mX11_anew) (C := RX1) (T := TX1) (ci := 1) (j := 3) (z := 1) dX11_anew_21 rfl lq_RX11_162 rfl rfl rfl rfl
theorem oX11_anew_24 : oP MT mX11_anew 24 (1, 1, 0, 1, []) := o_aload_n dX11_anew_24 rfl
theorem oX11_anew_25 : oP MT mX11_anew 25 (13, 3, 0, 11, []) := o_getR (M := mX11_anew) (C := RX11) (T := TX11) (ci := 11) (j := 0) (z := 11) dX11_anew_25 rfl lq_RX11_56 rfl rfl
theorem oX11_anew_28 : oP MT mX11_anew 28 (0, 1, 0, 0, []) := o_iconst dX11_anew_28 (by decide)
theorem oX11_anew_29 : oP MT mX11_anew 29 (14, 3, 9, 1, []) := o_putI (M := mX11_anew) (C := RX1) (T := TX1) (ci := 1) (j := 9) (z := 1) dX11_anew_29 rfl lq_RX11_165 rfl rfl rfl rfl
theorem oX11_anew_32 : oP MT mX11_anew 32 (1, 1, 1, 0, []) := o_iload_n dX11_anew_32 rfl
theorem oX11_anew_33 : oP MT mX11_anew 33 (21, 1, 0, 0, []) := o_iret dX11_anew_33 rfl
def ops_X11_anew : List (Nat × aO) := [(0, (1, 1, 0, 1, [])), (1, (13, 3, 0, 11, [])), (4, (12, 3, 1, 1, [])), (7, (2, 1, 1, 0, [])), (8, (1, 1, 0, 1, [])), (9, (13, 3, 0, 11, [])), (12, (0, 1, 0, 0, [])), (13, (14, 3, 1, 1, [])), (16, (1, 1, 0, 1, [])), (17, (13, 3, 0, 11, [])), (20, (0, 1, 0, 0, [])), (21, (14, 3, 3, 1, [])), (24, (1, 1, 0, 1, [])), (25, (13, 3, 0, 11, [])), (28, (0, 1, 0, 0, [])), (29, (14, 3, 9, 1, [])), (32, (1, 1, 1, 0, [])), (33, (21, 1, 0, 0, []))]
theorem os_X11_anew : oA MT mX11_anew ops_X11_anew := (oA.cons oX11_anew_0 (oA.cons oX11_anew_1 (oA.cons oX11_anew_4 (oA.cons oX11_anew_7 (oA.cons oX11_anew_8 (oA.cons oX11_anew_9 (oA.cons oX11_anew_12 (oA.cons oX11_anew_13 (oA.cons oX11_anew_16 (oA.cons oX11_anew_17 (oA.cons oX11_anew_20 (oA.cons oX11_anew_21 (oA.cons oX11_anew_24 (oA.cons oX11_anew_25 (oA.cons oX11_anew_28 (oA.cons oX11_anew_29 (oA.cons oX11_anew_32 (oA.cons oX11_anew_33 oA.nil))))))))))))))))))
theorem dX11_state_0 : decode cX11_state 0 = .ok (.iload_n 1, 1) := by decide +kernel
theorem dX11_state_1 : decode cX11_state 1 = .ok (.tableswitch 114 0 6 #[43, 51, 59, 67, 83, 91, 106], 43) := by decide +kernel
theorem dX11_state_44 : decode cX11_state 44 = .ok (.aload_n 0, 1) := by decide +kernel
theorem dX11_state_45 : decode cX11_state 45 = .ok (.getfield 56, 3) := by decide +kernel
theorem dX11_state_48 : decode cX11_state 48 = .ok (.getfield 156, 3) := by decide +kernel
theorem dX11_state_51 : decode cX11_state 51 = .ok (.ireturn, 1) := by decide +kernel
theorem dX11_state_52 : decode cX11_state 52 = .ok (.aload_n 0, 1) := by decide +kernel
theorem dX11_state_53 : decode cX11_state 53 = .ok (.getfield 56, 3) := by decide +kernel
theorem dX11_state_56 : decode cX11_state 56 = .ok (.getfield 159, 3) := by decide +kernel
theorem dX11_state_59 : decode cX11_state 59 = .ok (.ireturn, 1) := by decide +kernel
theorem dX11_state_60 : decode cX11_state 60 = .ok (.aload_n 0, 1) := by decide +kernel
theorem dX11_state_61 : decode cX11_state 61 = .ok (.getfield 56, 3) := by decide +kernel
theorem dX11_state_64 : decode cX11_state 64 = .ok (.getfield 162, 3) := by decide +kernel
theorem dX11_state_67 : decode cX11_state 67 = .ok (.ireturn, 1) := by decide +kernel
theorem dX11_state_68 : decode cX11_state 68 = .ok (.aload_n 0, 1) := by decide +kernel
theorem dX11_state_69 : decode cX11_state 69 = .ok (.getfield 56, 3) := by decide +kernel
theorem dX11_state_72 : decode cX11_state 72 = .ok (.invokevirtual 168, 3) := by decide +kernel
theorem dX11_state_75 : decode cX11_state 75 = .ok (.ifCond .eq 7, 3) := by decide +kernel
theorem dX11_state_78 : decode cX11_state 78 = .ok (.iconst 1, 1) := by decide +kernel
theorem dX11_state_79 : decode cX11_state 79 = .ok (.goto 4, 3) := by decide +kernel
theorem dX11_state_82 : decode cX11_state 82 = .ok (.iconst 0, 1) := by decide +kernel
theorem dX11_state_83 : decode cX11_state 83 = .ok (.ireturn, 1) := by decide +kernel
theorem dX11_state_84 : decode cX11_state 84 = .ok (.aload_n 0, 1) := by decide +kernel
theorem dX11_state_85 : decode cX11_state 85 = .ok (.getfield 56, 3) := by decide +kernel
theorem dX11_state_88 : decode cX11_state 88 = .ok (.getfield 165, 3) := by decide +kernel
theorem dX11_state_91 : decode cX11_state 91 = .ok (.ireturn, 1) := by decide +kernel
theorem dX11_state_92 : decode cX11_state 92 = .ok (.aload_n 0, 1) := by decide +kernel
theorem dX11_state_93 : decode cX11_state 93 = .ok (.getfield 56, 3) := by decide +kernel
theorem dX11_state_96 : decode cX11_state 96 = .ok (.aload_n 0, 1) := by decide +kernel
theorem dX11_state_97 : decode cX11_state 97 = .ok (.getfield 56, 3) := by decide +kernel
theorem dX11_state_100 : decode cX11_state 100 = .ok (.getfield 156, 3) := by decide +kernel
theorem dX11_state_103 : decode cX11_state 103 = .ok (.invokevirtual 172, 3) := by decide +kernel
theorem dX11_state_106 : decode cX11_state 106 = .ok (.ireturn, 1) := by decide +kernel
theorem dX11_state_107 : decode cX11_state 107 = .ok (.aload_n 0, 1) := by decide +kernel
theorem dX11_state_108 : decode cX11_state 108 = .ok (.getfield 56, 3) := by decide +kernel
theorem dX11_state_111 : decode cX11_state 111 = .ok (.invokevirtual 175, 3) := by decide +kernel
theorem dX11_state_114 : decode cX11_state 114 = .ok (.ireturn, 1) := by decide +kernel
theorem dX11_state_115 : decode cX11_state 115 = .ok (.iconst (-1), 1) := by decide +kernel
theorem dX11_state_116 : decode cX11_state 116 = .ok (.ireturn, 1) := by decide +kernel
theorem oX11_state_0 : oP MT mX11_state 0 (1, 1, 1, 0, []) := o_iload_n dX11_state_0 rfl
theorem oX11_state_1 : oP MT mX11_state 1 (24, 43, 115, 0, [(0, 44), (1, 52), (2, 60), (3, 68), (4, 84), (5, 92), (6, 107)]) := o_table dX11_state_1 rfl (by decide) (by decide) (by decide)
theorem oX11_state_44 : oP MT mX11_state 44 (1, 1, 0, 1, []) := o_aload_n dX11_state_44 rfl
theorem oX11_state_45 : oP MT mX11_state 45 (13, 3, 0, 11, []) := o_getR (M := mX11_state) (C := RX11) (T := TX11) (ci := 11) (j := 0) (z := 11) dX11_state_45 rfl lq_RX11_56 rfl rfl
theorem oX11_state_48 : oP MT mX11_state 48 (12, 3, 1, 1, []) := o_getI (M := mX11_state) (C := RX1) (T := TX1) (ci := 1) (j := 1) (z := 1) dX11_state_48 rfl lq_RX11_156 rfl rfl
theorem oX11_state_51 : oP MT mX11_state 51 (21, 1, 0, 0, []) := o_iret dX11_state_51 rfl
theorem oX11_state_52 : oP MT mX11_state 52 (1, 1, 0, 1, []) := o_aload_n dX11_state_52 rfl
theorem oX11_state_53 : oP MT mX11_state 53 (13, 3, 0, 11, []) := o_getR (M := mX11_state) (C := RX11) (T := TX11) (ci := 11) (j := 0) (z := 11) dX11_state_53 rfl lq_RX11_56 rfl rfl
theorem oX11_state_56 : oP MT mX11_state 56 (12, 3, 2, 1, []) := o_getI (M := mX11_state) (C := RX1) (T := TX1) (ci := 1) (j := 2) (z := 1) dX11_state_56 rfl lq_RX11_159 rfl rfl
theorem oX11_state_59 : oP MT mX11_state 59 (21, 1, 0, 0, []) := o_iret dX11_state_59 rfl
theorem oX11_state_60 : oP MT mX11_state 60 (1, 1, 0, 1, []) := o_aload_n dX11_state_60 rfl
theorem oX11_state_61 : oP MT mX11_state 61 (13, 3, 0, 11, []) := o_getR (M := mX11_state) (C := RX11) (T := TX11) (ci := 11) (j := 0) (z := 11) dX11_state_61 rfl lq_RX11_56 rfl rfl
theorem oX11_state_64 : oP MT mX11_state 64 (12, 3, 3, 1, []) := o_getI (M := mX11_state) (C := RX1) (T := TX1) (ci := 1) (j := 3) (z := 1) dX11_state_64 rfl lq_RX11_162 rfl rfl
theorem oX11_state_67 : oP MT mX11_state 67 (21, 1, 0, 0, []) := o_iret dX11_state_67 rfl
theorem oX11_state_68 : oP MT mX11_state 68 (1, 1, 0, 1, []) := o_aload_n dX11_state_68 rfl
theorem oX11_state_69 : oP MT mX11_state 69 (13, 3, 0, 11, []) := o_getR (M := mX11_state) (C := RX11) (T := TX11) (ci := 11) (j := 0) (z := 11) dX11_state_69 rfl lq_RX11_56 rfl rfl
theorem oX11_state_72 : oP MT mX11_state 72 (26, 3, 0, 0, [(1, 31)]) := o_callO ((vA.cons (v_callV dX11_state_72 (ci := 1) rfl rfl (mj := mX1_isOver) mt_X1_isOver cmq_X1_isOver wq_375 wq_201 wq_202 (by decide) (by decide)) vA.nil))
theorem oX11_state_75 : oP MT mX11_state 75 (10, 3, 0, 82, []) := o_if_eq dX11_state_75 (by decide) (by decide)
theorem oX11_state_78 : oP MT mX11_state 78 (0, 1, 0, 1, []) := o_iconst dX11_state_78 (by decide)
theorem oX11_state_79 : oP MT mX11_state 79 (9, 3, 83, 0, []) := o_goto dX11_state_79 (by decide)
theorem oX11_state_82 : oP MT mX11_state 82 (0, 1, 0, 0, []) := o_iconst dX11_state_82 (by decide)
theorem oX11_state_83 : oP MT mX11_state 83 (21, 1, 0, 0, []) := o_iret dX11_state_83 rfl
theorem oX11_state_84 : oP MT mX11_state 84 (1, 1, 0, 1, []) := o_aload_n dX11_state_84 rfl
theorem oX11_state_85 : oP MT mX11_state 85 (13, 3, 0, 11, []) := o_getR (M := mX11_state) (C := RX11) (T := TX11) (ci := 11) (j := 0) (z := 11) dX11_state_85 rfl lq_RX11_56 rfl rfl
theorem oX11_state_88 : oP MT mX11_state 88 (12, 3, 9, 1, []) := o_getI (M := mX11_state) (C := RX1) (T := TX1) (ci := 1) (j := 9) (z := 1) dX11_state_88 rfl lq_RX11_165 rfl rfl
theorem oX11_state_91 : oP MT mX11_state 91 (21, 1, 0, 0, []) := o_iret dX11_state_91 rfl
theorem oX11_state_92 : oP MT mX11_state 92 (1, 1, 0, 1, []) := o_aload_n dX11_state_92 rfl
theorem oX11_state_93 : oP MT mX11_state 93 (13, 3, 0, 11, []) := o_getR (M := mX11_state) (C := RX11) (T := TX11) (ci := 11) (j := 0) (z := 11) dX11_state_93 rfl lq_RX11_56 rfl rfl
theorem oX11_state_96 : oP MT mX11_state 96 (1, 1, 0, 1, []) := o_aload_n dX11_state_96 rfl
theorem oX11_state_97 : oP MT mX11_state 97 (13, 3, 0, 11, []) := o_getR (M := mX11_state) (C := RX11) (T := TX11) (ci := 11) (j := 0) (z := 11) dX11_state_97 rfl lq_RX11_56 rfl rfl
theorem oX11_state_100 : oP MT mX11_state 100 (12, 3, 1, 1, []) := o_getI (M := mX11_state) (C := RX1) (T := TX1) (ci := 1) (j := 1) (z := 1) dX11_state_100 rfl lq_RX11_156 rfl rfl
theorem oX11_state_103 : oP MT mX11_state 103 (26, 3, 0, 1, [(1, 2)]) := o_callO ((vA.cons (v_callV dX11_state_103 (ci := 1) rfl rfl (mj := mX1_sunAt) mt_X1_sunAt cmq_X1_sunAt wq_672 wq_7 wq_8 (by decide) (by decide)) vA.nil))
theorem oX11_state_106 : oP MT mX11_state 106 (21, 1, 0, 0, []) := o_iret dX11_state_106 rfl
theorem oX11_state_107 : oP MT mX11_state 107 (1, 1, 0, 1, []) := o_aload_n dX11_state_107 rfl
theorem oX11_state_108 : oP MT mX11_state 108 (13, 3, 0, 11, []) := o_getR (M := mX11_state) (C := RX11) (T := TX11) (ci := 11) (j := 0) (z := 11) dX11_state_108 rfl lq_RX11_56 rfl rfl
theorem oX11_state_111 : oP MT mX11_state 111 (26, 3, 0, 0, [(1, 85)]) := o_callO ((vA.cons (v_callV dX11_state_111 (ci := 1) rfl rfl (mj := mX1_allTeeth) mt_X1_allTeeth cmq_X1_allTeeth wq_673 wq_675 wq_676 (by decide) (by decide)) vA.nil))
theorem oX11_state_114 : oP MT mX11_state 114 (21, 1, 0, 0, []) := o_iret dX11_state_114 rfl
theorem oX11_state_115 : oP MT mX11_state 115 (0, 1, 0, (-1), []) := o_iconst dX11_state_115 (by decide)
theorem oX11_state_116 : oP MT mX11_state 116 (21, 1, 0, 0, []) := o_iret dX11_state_116 rfl
def ops_X11_state : List (Nat × aO) := [(0, (1, 1, 1, 0, [])), (1, (24, 43, 115, 0, [(0, 44), (1, 52), (2, 60), (3, 68), (4, 84), (5, 92), (6, 107)])), (44, (1, 1, 0, 1, [])), (45, (13, 3, 0, 11, [])), (48, (12, 3, 1, 1, [])), (51, (21, 1, 0, 0, [])), (52, (1, 1, 0, 1, [])), (53, (13, 3, 0, 11, [])), (56, (12, 3, 2, 1, [])), (59, (21, 1, 0, 0, [])), (60, (1, 1, 0, 1, [])), (61, (13, 3, 0, 11, [])), (64, (12, 3, 3, 1, [])), (67, (21, 1, 0, 0, [])), (68, (1, 1, 0, 1, [])), (69, (13, 3, 0, 11, [])), (72, (26, 3, 0, 0, [(1, 31)])), (75, (10, 3, 0, 82, [])), (78, (0, 1, 0, 1, [])), (79, (9, 3, 83, 0, [])), (82, (0, 1, 0, 0, [])), (83, (21, 1, 0, 0, [])), (84, (1, 1, 0, 1, [])), (85, (13, 3, 0, 11, [])), (88, (12, 3, 9, 1, [])), (91, (21, 1, 0, 0, [])), (92, (1, 1, 0, 1, [])), (93, (13, 3, 0, 11, [])), (96, (1, 1, 0, 1, [])), (97, (13, 3, 0, 11, [])), (100, (12, 3, 1, 1, [])), (103, (26, 3, 0, 1, [(1, 2)])), (106, (21, 1, 0, 0, [])), (107, (1, 1, 0, 1, [])), (108, (13, 3, 0, 11, [])), (111, (26, 3, 0, 0, [(1, 85)])), (114, (21, 1, 0, 0, [])), (115, (0, 1, 0, (-1), [])), (116, (21, 1, 0, 0, []))]
theorem os_X11_state : oA MT mX11_state ops_X11_state := (oA.cons oX11_state_0 (oA.cons oX11_state_1 (oA.cons oX11_state_44 (oA.cons oX11_state_45 (oA.cons oX11_state_48 (oA.cons oX11_state_51 (oA.cons oX11_state_52 (oA.cons oX11_state_53 (oA.cons oX11_state_56 (oA.cons oX11_state_59 (oA.cons oX11_state_60 (oA.cons oX11_state_61 (oA.cons oX11_state_64 (oA.cons oX11_state_67 (oA.cons oX11_state_68 (oA.cons oX11_state_69 (oA.cons oX11_state_72 (oA.cons oX11_state_75 (oA.cons oX11_state_78 (oA.cons oX11_state_79 (oA.cons oX11_state_82 (oA.cons oX11_state_83 (oA.cons oX11_state_84 (oA.cons oX11_state_85 (oA.cons oX11_state_88 (oA.cons oX11_state_91 (oA.cons oX11_state_92 (oA.cons oX11_state_93 (oA.cons oX11_state_96 (oA.cons oX11_state_97 (oA.cons oX11_state_100 (oA.cons oX11_state_103 (oA.cons oX11_state_106 (oA.cons oX11_state_107 (oA.cons oX11_state_108 (oA.cons oX11_state_111 (oA.cons oX11_state_114 (oA.cons oX11_state_115 (oA.cons oX11_state_116 oA.nil)))))))))))))))))))))))))))))))))))))))
theorem dX11_feed_0 : decode cX11_feed 0 = .ok (.iload_n 3, 1) := by decide +kernel
theorem dX11_feed_1 : decode cX11_feed 1 = .ok (.iconst 1, 1) := by decide +kernel
theorem dX11_feed_2 : decode cX11_feed 2 = .ok (.bipush 8, 2) := by decide +kernel
theorem dX11_feed_4 : decode cX11_feed 4 = .ok (.invokestatic 90, 3) := by decide +kernel
theorem dX11_feed_7 : decode cX11_feed 7 = .ok (.ifCond .ne 5, 3) := by decide +kernel
theorem dX11_feed_10 : decode cX11_feed 10 = .ok (.iconst (-1), 1) := by decide +kernel
theorem dX11_feed_11 : decode cX11_feed 11 = .ok (.ireturn, 1) := by decide +kernel
theorem dX11_feed_12 : decode cX11_feed 12 = .ok (.aload_n 0, 1) := by decide +kernel
theorem dX11_feed_13 : decode cX11_feed 13 = .ok (.getfield 75, 3) := by decide +kernel
theorem dX11_feed_16 : decode cX11_feed 16 = .ok (.getfield 179, 3) := by decide +kernel
theorem dX11_feed_19 : decode cX11_feed 19 = .ok (.iload_n 3, 1) := by decide +kernel
theorem dX11_feed_20 : decode cX11_feed 20 = .ok (.iadd, 1) := by decide +kernel
theorem dX11_feed_21 : decode cX11_feed 21 = .ok (.sipush 200, 3) := by decide +kernel
theorem dX11_feed_24 : decode cX11_feed 24 = .ok (.if_icmp .le 6, 3) := by decide +kernel
theorem dX11_feed_27 : decode cX11_feed 27 = .ok (.bipush (-2), 2) := by decide +kernel
theorem dX11_feed_29 : decode cX11_feed 29 = .ok (.ireturn, 1) := by decide +kernel
theorem dX11_feed_30 : decode cX11_feed 30 = .ok (.iconst 0, 1) := by decide +kernel
theorem dX11_feed_31 : decode cX11_feed 31 = .ok (.istore 4, 2) := by decide +kernel
theorem dX11_feed_33 : decode cX11_feed 33 = .ok (.iload 4, 2) := by decide +kernel
theorem dX11_feed_35 : decode cX11_feed 35 = .ok (.iload_n 3, 1) := by decide +kernel
theorem dX11_feed_36 : decode cX11_feed 36 = .ok (.if_icmp .ge 28, 3) := by decide +kernel
theorem dX11_feed_39 : decode cX11_feed 39 = .ok (.aload_n 0, 1) := by decide +kernel
theorem dX11_feed_40 : decode cX11_feed 40 = .ok (.getfield 75, 3) := by decide +kernel
theorem dX11_feed_43 : decode cX11_feed 43 = .ok (.lload_n 1, 1) := by decide +kernel
theorem dX11_feed_44 : decode cX11_feed 44 = .ok (.bipush 8, 2) := by decide +kernel
theorem dX11_feed_46 : decode cX11_feed 46 = .ok (.iload 4, 2) := by decide +kernel
theorem dX11_feed_48 : decode cX11_feed 48 = .ok (.imul, 1) := by decide +kernel
theorem dX11_feed_49 : decode cX11_feed 49 = .ok (.lushr, 1) := by decide +kernel
theorem dX11_feed_50 : decode cX11_feed 50 = .ok (.l2i, 1) := by decide +kernel
theorem dX11_feed_51 : decode cX11_feed 51 = .ok (.sipush 255, 3) := by decide +kernel
theorem dX11_feed_54 : decode cX11_feed 54 = .ok (.iand, 1) := by decide +kernel
theorem dX11_feed_55 : decode cX11_feed 55 = .ok (.invokevirtual 182, 3) := by decide +kernel
theorem dX11_feed_58 : decode cX11_feed 58 = .ok (.iinc 4 1, 3) := by decide +kernel
theorem dX11_feed_61 : decode cX11_feed 61 = .ok (.goto (-28), 3) := by decide +kernel
theorem dX11_feed_64 : decode cX11_feed 64 = .ok (.aload_n 0, 1) := by decide +kernel
theorem dX11_feed_65 : decode cX11_feed 65 = .ok (.getfield 75, 3) := by decide +kernel
theorem dX11_feed_68 : decode cX11_feed 68 = .ok (.getfield 179, 3) := by decide +kernel
theorem dX11_feed_71 : decode cX11_feed 71 = .ok (.ireturn, 1) := by decide +kernel
theorem oX11_feed_0 : oP MT mX11_feed 0 (1, 1, 3, 0, []) := o_iload_n dX11_feed_0 rfl
theorem oX11_feed_1 : oP MT mX11_feed 1 (0, 1, 0, 1, []) := o_iconst dX11_feed_1 (by decide)
theorem oX11_feed_2 : oP MT mX11_feed 2 (0, 2, 0, 8, []) := o_bipush dX11_feed_2 (by decide)
theorem oX11_feed_4 : oP MT mX11_feed 4 (25, 3, 37, 3, []) := o_callS dX11_feed_4 (mj := mX11_isIn) mt_X11_isIn cmq_X11_isIn wq_282 wq_144 (by decide) (by decide)
theorem oX11_feed_7 : oP MT mX11_feed 7 (10, 3, 1, 12, []) := o_if_ne dX11_feed_7 (by decide) (by decide)
theorem oX11_feed_10 : oP MT mX11_feed 10 (0, 1, 0, (-1), []) := o_iconst dX11_feed_10 (by decide)
theorem oX11_feed_11 : oP MT mX11_feed 11 (21, 1, 0, 0, []) := o_iret dX11_feed_11 rfl
theorem oX11_feed_12 : oP MT mX11_feed 12 (1, 1, 0, 1, []) := o_aload_n dX11_feed_12 rfl
theorem oX11_feed_13 : oP MT mX11_feed 13 (13, 3, 4, 11, []) := o_getR (M := mX11_feed) (C := RX11) (T := TX11) (ci := 11) (j := 4) (z := 11) dX11_feed_13 rfl lq_RX11_75 rfl rfl
theorem oX11_feed_16 : oP MT mX11_feed 16 (12, 3, 1, 5, []) := o_getI (M := mX11_feed) (C := RX5) (T := TX5) (ci := 5) (j := 1) (z := 5) dX11_feed_16 rfl lq_RX11_179 rfl rfl
theorem oX11_feed_19 : oP MT mX11_feed 19 (1, 1, 3, 0, []) := o_iload_n dX11_feed_19 rfl
theorem oX11_feed_20 : oP MT mX11_feed 20 (4, 1, 0, 0, []) := o_iadd dX11_feed_20
theorem oX11_feed_21 : oP MT mX11_feed 21 (0, 3, 0, 200, []) := o_sipush dX11_feed_21 (by decide)
theorem oX11_feed_24 : oP MT mX11_feed 24 (11, 3, 5, 30, []) := o_icmp_le dX11_feed_24 (by decide) (by decide)
theorem oX11_feed_27 : oP MT mX11_feed 27 (0, 2, 0, (-2), []) := o_bipush dX11_feed_27 (by decide)
theorem oX11_feed_29 : oP MT mX11_feed 29 (21, 1, 0, 0, []) := o_iret dX11_feed_29 rfl
theorem oX11_feed_30 : oP MT mX11_feed 30 (0, 1, 0, 0, []) := o_iconst dX11_feed_30 (by decide)
theorem oX11_feed_31 : oP MT mX11_feed 31 (2, 2, 4, 0, []) := o_istore dX11_feed_31 (by decide)
theorem oX11_feed_33 : oP MT mX11_feed 33 (1, 2, 4, 0, []) := o_iload dX11_feed_33
theorem oX11_feed_35 : oP MT mX11_feed 35 (1, 1, 3, 0, []) := o_iload_n dX11_feed_35 rfl
theorem oX11_feed_36 : oP MT mX11_feed 36 (11, 3, 3, 64, []) := o_icmp_ge dX11_feed_36 (by decide) (by decide)
theorem oX11_feed_39 : oP MT mX11_feed 39 (1, 1, 0, 1, []) := o_aload_n dX11_feed_39 rfl
theorem oX11_feed_40 : oP MT mX11_feed 40 (13, 3, 4, 11, []) := o_getR (M := mX11_feed) (C := RX11) (T := TX11) (ci := 11) (j := 4) (z := 11) dX11_feed_40 rfl lq_RX11_75 rfl rfl
theorem oX11_feed_44 : oP MT mX11_feed 44 (0, 2, 0, 8, []) := o_bipush dX11_feed_44 (by decide)
theorem oX11_feed_46 : oP MT mX11_feed 46 (1, 2, 4, 0, []) := o_iload dX11_feed_46
theorem oX11_feed_48 : oP MT mX11_feed 48 (4, 1, 2, 0, []) := o_imul dX11_feed_48
theorem oX11_feed_51 : oP MT mX11_feed 51 (0, 3, 0, 255, []) := o_sipush dX11_feed_51 (by decide)
theorem oX11_feed_54 : oP MT mX11_feed 54 (4, 1, 3, 0, []) := o_iand dX11_feed_54
theorem oX11_feed_55 : oP MT mX11_feed 55 (26, 3, 0, 1, [(5, 209)]) := o_callO ((vA.cons (v_callV dX11_feed_55 (ci := 5) rfl rfl (mj := mX5_add) mt_X5_add cmq_X5_add wq_681 wq_683 wq_684 (by decide) (by decide)) vA.nil))
theorem oX11_feed_58 : oP MT mX11_feed 58 (3, 3, 4, 1, []) := o_iinc dX11_feed_58 (by decide) (by decide)
theorem oX11_feed_61 : oP MT mX11_feed 61 (9, 3, 33, 0, []) := o_goto dX11_feed_61 (by decide)
theorem oX11_feed_64 : oP MT mX11_feed 64 (1, 1, 0, 1, []) := o_aload_n dX11_feed_64 rfl
theorem oX11_feed_65 : oP MT mX11_feed 65 (13, 3, 4, 11, []) := o_getR (M := mX11_feed) (C := RX11) (T := TX11) (ci := 11) (j := 4) (z := 11) dX11_feed_65 rfl lq_RX11_75 rfl rfl
theorem oX11_feed_68 : oP MT mX11_feed 68 (12, 3, 1, 5, []) := o_getI (M := mX11_feed) (C := RX5) (T := TX5) (ci := 5) (j := 1) (z := 5) dX11_feed_68 rfl lq_RX11_179 rfl rfl
theorem oX11_feed_71 : oP MT mX11_feed 71 (21, 1, 0, 0, []) := o_iret dX11_feed_71 rfl
def ops_X11_feed : List (Nat × aO) := [(0, (1, 1, 3, 0, [])), (1, (0, 1, 0, 1, [])), (2, (0, 2, 0, 8, [])), (4, (25, 3, 37, 3, [])), (7, (10, 3, 1, 12, [])), (10, (0, 1, 0, (-1), [])), (11, (21, 1, 0, 0, [])), (12, (1, 1, 0, 1, [])), (13, (13, 3, 4, 11, [])), (16, (12, 3, 1, 5, [])), (19, (1, 1, 3, 0, [])), (20, (4, 1, 0, 0, [])), (21, (0, 3, 0, 200, [])), (24, (11, 3, 5, 30, [])), (27, (0, 2, 0, (-2), [])), (29, (21, 1, 0, 0, [])), (30, (0, 1, 0, 0, [])), (31, (2, 2, 4, 0, [])), (33, (1, 2, 4, 0, [])), (35, (1, 1, 3, 0, [])), (36, (11, 3, 3, 64, [])), (39, (1, 1, 0, 1, [])), (40, (13, 3, 4, 11, [])), (44, (0, 2, 0, 8, [])), (46, (1, 2, 4, 0, [])), (48, (4, 1, 2, 0, [])), (51, (0, 3, 0, 255, [])), (54, (4, 1, 3, 0, [])), (55, (26, 3, 0, 1, [(5, 209)])), (58, (3, 3, 4, 1, [])), (61, (9, 3, 33, 0, [])), (64, (1, 1, 0, 1, [])), (65, (13, 3, 4, 11, [])), (68, (12, 3, 1, 5, [])), (71, (21, 1, 0, 0, []))]
theorem os_X11_feed : oA MT mX11_feed ops_X11_feed := (oA.cons oX11_feed_0 (oA.cons oX11_feed_1 (oA.cons oX11_feed_2 (oA.cons oX11_feed_4 (oA.cons oX11_feed_7 (oA.cons oX11_feed_10 (oA.cons oX11_feed_11 (oA.cons oX11_feed_12 (oA.cons oX11_feed_13 (oA.cons oX11_feed_16 (oA.cons oX11_feed_19 (oA.cons oX11_feed_20 (oA.cons oX11_feed_21 (oA.cons oX11_feed_24 (oA.cons oX11_feed_27 (oA.cons oX11_feed_29 (oA.cons oX11_feed_30 (oA.cons oX11_feed_31 (oA.cons oX11_feed_33 (oA.cons oX11_feed_35 (oA.cons oX11_feed_36 (oA.cons oX11_feed_39 (oA.cons oX11_feed_40 (oA.cons oX11_feed_44 (oA.cons oX11_feed_46 (oA.cons oX11_feed_48 (oA.cons oX11_feed_51 (oA.cons oX11_feed_54 (oA.cons oX11_feed_55 (oA.cons oX11_feed_58 (oA.cons oX11_feed_61 (oA.cons oX11_feed_64 (oA.cons oX11_feed_65 (oA.cons oX11_feed_68 (oA.cons oX11_feed_71 oA.nil)))))))))))))))))))))))))))))))))))
theorem dX5_add_0 : decode cX5_add 0 = .ok (.aload_n 0, 1) := by decide +kernel
theorem dX5_add_1 : decode cX5_add 1 = .ok (.getfield 32, 3) := by decide +kernel
theorem dX5_add_4 : decode cX5_add 4 = .ok (.sipush 200, 3) := by decide +kernel
theorem dX5_add_7 : decode cX5_add 7 = .ok (.if_icmp .ge 23, 3) := by decide +kernel
theorem dX5_add_10 : decode cX5_add 10 = .ok (.aload_n 0, 1) := by decide +kernel
theorem dX5_add_11 : decode cX5_add 11 = .ok (.getfield 9, 3) := by decide +kernel
theorem dX5_add_14 : decode cX5_add 14 = .ok (.aload_n 0, 1) := by decide +kernel
theorem dX5_add_15 : decode cX5_add 15 = .ok (.getfield 32, 3) := by decide +kernel
theorem dX5_add_18 : decode cX5_add 18 = .ok (.iload_n 1, 1) := by decide +kernel
theorem dX5_add_19 : decode cX5_add 19 = .ok (.iastore, 1) := by decide +kernel
theorem dX5_add_20 : decode cX5_add 20 = .ok (.aload_n 0, 1) := by decide +kernel
theorem dX5_add_21 : decode cX5_add 21 = .ok (.dup, 1) := by decide +kernel
theorem dX5_add_22 : decode cX5_add 22 = .ok (.getfield 32, 3) := by decide +kernel
theorem dX5_add_25 : decode cX5_add 25 = .ok (.iconst 1, 1) := by decide +kernel
theorem dX5_add_26 : decode cX5_add 26 = .ok (.iadd, 1) := by decide +kernel
theorem dX5_add_27 : decode cX5_add 27 = .ok (.putfield 32, 3) := by decide +kernel
theorem dX5_add_30 : decode cX5_add 30 = .ok (.return_, 1) := by decide +kernel
theorem oX5_add_0 : oP MT mX5_add 0 (1, 1, 0, 1, []) := o_aload_n dX5_add_0 rfl
theorem oX5_add_1 : oP MT mX5_add 1 (12, 3, 1, 5, []) := o_getI (M := mX5_add) (C := RX5) (T := TX5) (ci := 5) (j := 1) (z := 5) dX5_add_1 rfl lq_RX5_32 rfl rfl
theorem oX5_add_4 : oP MT mX5_add 4 (0, 3, 0, 200, []) := o_sipush dX5_add_4 (by decide)
theorem oX5_add_7 : oP MT mX5_add 7 (11, 3, 3, 30, []) := o_icmp_ge dX5_add_7 (by decide) (by decide)
theorem oX5_add_10 : oP MT mX5_add 10 (1, 1, 0, 1, []) := o_aload_n dX5_add_10 rfl
theorem oX5_add_11 : oP MT mX5_add 11 (13, 3, 0, 5, []) := o_getR (M := mX5_add) (C := RX5) (T := TX5) (ci := 5) (j := 0) (z := 5) dX5_add_11 rfl lq_RX5_9 rfl rfl
theorem oX5_add_14 : oP MT mX5_add 14 (1, 1, 0, 1, []) := o_aload_n dX5_add_14 rfl
theorem oX5_add_15 : oP MT mX5_add 15 (12, 3, 1, 5, []) := o_getI (M := mX5_add) (C := RX5) (T := TX5) (ci := 5) (j := 1) (z := 5) dX5_add_15 rfl lq_RX5_32 rfl rfl
theorem oX5_add_18 : oP MT mX5_add 18 (1, 1, 1, 0, []) := o_iload_n dX5_add_18 rfl
theorem oX5_add_19 : oP MT mX5_add 19 (18, 1, 0, 0, []) := o_iastore dX5_add_19
theorem oX5_add_20 : oP MT mX5_add 20 (1, 1, 0, 1, []) := o_aload_n dX5_add_20 rfl
theorem oX5_add_21 : oP MT mX5_add 21 (6, 1, 0, 0, []) := o_dup dX5_add_21
theorem oX5_add_22 : oP MT mX5_add 22 (12, 3, 1, 5, []) := o_getI (M := mX5_add) (C := RX5) (T := TX5) (ci := 5) (j := 1) (z := 5) dX5_add_22 rfl lq_RX5_32 rfl rfl
theorem oX5_add_25 : oP MT mX5_add 25 (0, 1, 0, 1, []) := o_iconst dX5_add_25 (by decide)
theorem oX5_add_26 : oP MT mX5_add 26 (4, 1, 0, 0, []) := o_iadd dX5_add_26
theorem oX5_add_27 : oP MT mX5_add 27 (14, 3, 1, 5, []) := o_putI (M := mX5_add) (C := RX5) (T := TX5) (ci := 5) (j := 1) (z := 5) dX5_add_27 rfl lq_RX5_32 rfl rfl rfl rfl
theorem oX5_add_30 : oP MT mX5_add 30 (23, 1, 0, 0, []) := o_vret dX5_add_30 rfl
def ops_X5_add : List (Nat × aO) := [(0, (1, 1, 0, 1, [])), (1, (12, 3, 1, 5, [])), (4, (0, 3, 0, 200, [])), (7, (11, 3, 3, 30, [])), (10, (1, 1, 0, 1, [])), (11, (13, 3, 0, 5, [])), (14, (1, 1, 0, 1, [])), (15, (12, 3, 1, 5, [])), (18, (1, 1, 1, 0, [])), (19, (18, 1, 0, 0, [])), (20, (1, 1, 0, 1, [])), (21, (6, 1, 0, 0, [])), (22, (12, 3, 1, 5, [])), (25, (0, 1, 0, 1, [])), (26, (4, 1, 0, 0, [])), (27, (14, 3, 1, 5, [])), (30, (23, 1, 0, 0, []))]
theorem os_X5_add : oA MT mX5_add ops_X5_add := (oA.cons oX5_add_0 (oA.cons oX5_add_1 (oA.cons oX5_add_4 (oA.cons oX5_add_7 (oA.cons oX5_add_10 (oA.cons oX5_add_11 (oA.cons oX5_add_14 (oA.cons oX5_add_15 (oA.cons oX5_add_18 (oA.cons oX5_add_19 (oA.cons oX5_add_20 (oA.cons oX5_add_21 (oA.cons oX5_add_22 (oA.cons oX5_add_25 (oA.cons oX5_add_26 (oA.cons oX5_add_27 (oA.cons oX5_add_30 oA.nil)))))))))))))))))
theorem dX11_rules_0 : decode cX11_rules 0 = .ok (.aload_n 0, 1) := by decide +kernel
theorem dX11_rules_1 : decode cX11_rules 1 = .ok (.getfield 75, 3) := by decide +kernel
theorem dX11_rules_4 : decode cX11_rules 4 = .ok (.invokevirtual 186, 3) := by decide +kernel
theorem dX11_rules_7 : decode cX11_rules 7 = .ok (.istore_n 1, 1) := by decide +kernel
theorem dX11_rules_8 : decode cX11_rules 8 = .ok (.iload_n 1, 1) := by decide +kernel
theorem dX11_rules_9 : decode cX11_rules 9 = .ok (.ifCond .lt 8, 3) := by decide +kernel
theorem dX11_rules_12 : decode cX11_rules 12 = .ok (.bipush (-100), 2) := by decide +kernel
theorem dX11_rules_14 : decode cX11_rules 14 = .ok (.iload_n 1, 1) := by decide +kernel
theorem dX11_rules_15 : decode cX11_rules 15 = .ok (.isub, 1) := by decide +kernel
theorem dX11_rules_16 : decode cX11_rules 16 = .ok (.ireturn, 1) := by decide +kernel
theorem dX11_rules_17 : decode cX11_rules 17 = .ok (.aload_n 0, 1) := by decide +kernel
theorem dX11_rules_18 : decode cX11_rules 18 = .ok (.getfield 56, 3) := by decide +kernel
theorem dX11_rules_21 : decode cX11_rules 21 = .ok (.getfield 189, 3) := by decide +kernel
theorem dX11_rules_24 : decode cX11_rules 24 = .ok (.aload_n 0, 1) := by decide +kernel
theorem dX11_rules_25 : decode cX11_rules 25 = .ok (.getfield 75, 3) := by decide +kernel
theorem dX11_rules_28 : decode cX11_rules 28 = .ok (.getfield 193, 3) := by decide +kernel
theorem dX11_rules_31 : decode cX11_rules 31 = .ok (.invokevirtual 196, 3) := by decide +kernel
theorem dX11_rules_34 : decode cX11_rules 34 = .ok (.aload_n 0, 1) := by decide +kernel
theorem dX11_rules_35 : decode cX11_rules 35 = .ok (.getfield 56, 3) := by decide +kernel
theorem dX11_rules_38 : decode cX11_rules 38 = .ok (.getfield 189, 3) := by decide +kernel
theorem dX11_rules_41 : decode cX11_rules 41 = .ok (.getfield 202, 3) := by decide +kernel
theorem dX11_rules_44 : decode cX11_rules 44 = .ok (.ireturn, 1) := by decide +kernel
theorem oX11_rules_0 : oP MT mX11_rules 0 (1, 1, 0, 1, []) := o_aload_n dX11_rules_0 rfl
theorem oX11_rules_1 : oP MT mX11_rules 1 (13, 3, 4, 11, []) := o_getR (M := mX11_rules) (C := RX11) (T := TX11) (ci := 11) (j := 4) (z := 11) dX11_rules_1 rfl lq_RX11_75 rfl rfl
theorem oX11_rules_4 : oP MT mX11_rules 4 (26, 3, 0, 0, [(5, 80)]) := o_callO ((vA.cons (v_callV dX11_rules_4 (ci := 5) rfl rfl (mj := mX5_read) mt_X5_read cmq_X5_read wq_685 wq_687 wq_688 (by decide) (by decide)) vA.nil))
theorem oX11_rules_7 : oP MT mX11_rules 7 (2, 1, 1, 0, []) := o_istore_n dX11_rules_7 rfl (by decide)
theorem oX11_rules_8 : oP MT mX11_rules 8 (1, 1, 1, 0, []) := o_iload_n dX11_rules_8 rfl
theorem oX11_rules_9 : oP MT mX11_rules 9 (10, 3, 2, 17, []) := o_if_lt dX11_rules_9 (by decide) (by decide)
theorem oX11_rules_12 : oP MT mX11_rules 12 (0, 2, 0, (-100), []) := o_bipush dX11_rules_12 (by decide)
theorem oX11_rules_14 : oP MT mX11_rules 14 (1, 1, 1, 0, []) := o_iload_n dX11_rules_14 rfl
theorem oX11_rules_15 : oP MT mX11_rules 15 (4, 1, 1, 0, []) := o_isub dX11_rules_15
theorem oX11_rules_16 : oP MT mX11_rules 16 (21, 1, 0, 0, []) := o_iret dX11_rules_16 rfl
theorem oX11_rules_17 : oP MT mX11_rules 17 (1, 1, 0, 1, []) := o_aload_n dX11_rules_17 rfl
theorem oX11_rules_18 : oP MT mX11_rules 18 (13, 3, 0, 11, []) := o_getR (M := mX11_rules) (C := RX11) (T := TX11) (ci := 11) (j := 0) (z := 11) dX11_rules_18 rfl lq_RX11_56 rfl rfl
theorem oX11_rules_21 : oP MT mX11_rules 21 (13, 3, 14, 1, []) := o_getR (M := mX11_rules) (C := RX1) (T := TX1) (ci := 1) (j := 14) (z := 1) dX11_rules_21 rfl lq_RX11_189 rfl rfl
theorem oX11_rules_24 : oP MT mX11_rules 24 (1, 1, 0, 1, []) := o_aload_n dX11_rules_24 rfl
theorem oX11_rules_25 : oP MT mX11_rules 25 (13, 3, 4, 11, []) := o_getR (M := mX11_rules) (C := RX11) (T := TX11) (ci := 11) (j := 4) (z := 11) dX11_rules_25 rfl lq_RX11_75 rfl rfl
theorem oX11_rules_28 : oP MT mX11_rules 28 (13, 3, 2, 5, []) := o_getR (M := mX11_rules) (C := RX5) (T := TX5) (ci := 5) (j := 2) (z := 5) dX11_rules_28 rfl lq_RX11_193 rfl rfl
theorem oX11_rules_31 : oP MT mX11_rules 31 (26, 3, 0, 1, [(6, 0)]) := o_callO ((vA.cons (v_callV dX11_rules_31 (ci := 6) rfl rfl (mj := mX6_copyFrom) mt_X6_copyFrom cmq_X6_copyFrom wq_689 wq_418 wq_419 (by decide) (by decide)) vA.nil))
theorem oX11_rules_34 : oP MT mX11_rules 34 (1, 1, 0, 1, []) := o_aload_n dX11_rules_34 rfl
theorem oX11_rules_35 : oP MT mX11_rules 35 (13, 3, 0, 11, []) := o_getR (M := mX11_rules) (C := RX11) (T := TX11) (ci := 11) (j := 0) (z := 11) dX11_rules_35 rfl lq_RX11_56 rfl rfl
theorem oX11_rules_38 : oP MT mX11_rules 38 (13, 3, 14, 1, []) := o_getR (M := mX11_rules) (C := RX1) (T := TX1) (ci := 1) (j := 14) (z := 1) dX11_rules_38 rfl lq_RX11_189 rfl rfl
theorem oX11_rules_41 : oP MT mX11_rules 41 (12, 3, 0, 6, []) := o_getI (M := mX11_rules) (C := RX6) (T := TX6) (ci := 6) (j := 0) (z := 6) dX11_rules_41 rfl lq_RX11_202 rfl rfl
theorem oX11_rules_44 : oP MT mX11_rules 44 (21, 1, 0, 0, []) := o_iret dX11_rules_44 rfl
def ops_X11_rules : List (Nat × aO) := [(0, (1, 1, 0, 1, [])), (1, (13, 3, 4, 11, [])), (4, (26, 3, 0, 0, [(5, 80)])), (7, (2, 1, 1, 0, [])), (8, (1, 1, 1, 0, [])), (9, (10, 3, 2, 17, [])), (12, (0, 2, 0, (-100), [])), (14, (1, 1, 1, 0, [])), (15, (4, 1, 1, 0, [])), (16, (21, 1, 0, 0, [])), (17, (1, 1, 0, 1, [])), (18, (13, 3, 0, 11, [])), (21, (13, 3, 14, 1, [])), (24, (1, 1, 0, 1, [])), (25, (13, 3, 4, 11, [])), (28, (13, 3, 2, 5, [])), (31, (26, 3, 0, 1, [(6, 0)])), (34, (1, 1, 0, 1, [])), (35, (13, 3, 0, 11, [])), (38, (13, 3, 14, 1, [])), (41, (12, 3, 0, 6, [])), (44, (21, 1, 0, 0, []))]
theorem os_X11_rules : oA MT mX11_rules ops_X11_rules := (oA.cons oX11_rules_0 (oA.cons oX11_rules_1 (oA.cons oX11_rules_4 (oA.cons oX11_rules_7 (oA.cons oX11_rules_8 (oA.cons oX11_rules_9 (oA.cons oX11_rules_12 (oA.cons oX11_rules_14 (oA.cons oX11_rules_15 (oA.cons oX11_rules_16 (oA.cons oX11_rules_17 (oA.cons oX11_rules_18 (oA.cons oX11_rules_21 (oA.cons oX11_rules_24 (oA.cons oX11_rules_25 (oA.cons oX11_rules_28 (oA.cons oX11_rules_31 (oA.cons oX11_rules_34 (oA.cons oX11_rules_35 (oA.cons oX11_rules_38 (oA.cons oX11_rules_41 (oA.cons oX11_rules_44 oA.nil))))))))))))))))))))))
theorem dX11_halt_0 : decode cX11_halt 0 = .ok (.aload_n 0, 1) := by decide +kernel
theorem dX11_halt_1 : decode cX11_halt 1 = .ok (.getfield 56, 3) := by decide +kernel
theorem dX11_halt_4 : decode cX11_halt 4 = .ok (.invokevirtual 168, 3) := by decide +kernel
theorem dX11_halt_7 : decode cX11_halt 7 = .ok (.ifCond .eq 6, 3) := by decide +kernel
theorem dX11_halt_10 : decode cX11_halt 10 = .ok (.bipush (-4), 2) := by decide +kernel
theorem dX11_halt_12 : decode cX11_halt 12 = .ok (.ireturn, 1) := by decide +kernel
theorem dX11_halt_13 : decode cX11_halt 13 = .ok (.aload_n 0, 1) := by decide +kernel
theorem dX11_halt_14 : decode cX11_halt 14 = .ok (.aload_n 0, 1) := by decide +kernel
theorem dX11_halt_15 : decode cX11_halt 15 = .ok (.getfield 56, 3) := by decide +kernel
theorem dX11_halt_18 : decode cX11_halt 18 = .ok (.aload_n 0, 1) := by decide +kernel
theorem dX11_halt_19 : decode cX11_halt 19 = .ok (.getfield 56, 3) := by decide +kernel
theorem dX11_halt_22 : decode cX11_halt 22 = .ok (.invokevirtual 203, 3) := by decide +kernel
theorem dX11_halt_25 : decode cX11_halt 25 = .ok (.invokevirtual 206, 3) := by decide +kernel
theorem dX11_halt_28 : decode cX11_halt 28 = .ok (.invokevirtual 209, 3) := by decide +kernel
theorem dX11_halt_31 : decode cX11_halt 31 = .ok (.ireturn, 1) := by decide +kernel
theorem oX11_halt_0 : oP MT mX11_halt 0 (1, 1, 0, 1, []) := o_aload_n dX11_halt_0 rfl
theorem oX11_halt_1 : oP MT mX11_halt 1 (13, 3, 0, 11, []) := o_getR (M := mX11_halt) (C := RX11) (T := TX11) (ci := 11) (j := 0) (z := 11) dX11_halt_1 rfl lq_RX11_56 rfl rfl
theorem oX11_halt_4 : oP MT mX11_halt 4 (26, 3, 0, 0, [(1, 31)]) := o_callO ((vA.cons (v_callV dX11_halt_4 (ci := 1) rfl rfl (mj := mX1_isOver) mt_X1_isOver cmq_X1_isOver wq_375 wq_201 wq_202 (by decide) (by decide)) vA.nil))
theorem oX11_halt_7 : oP MT mX11_halt 7 (10, 3, 0, 13, []) := o_if_eq dX11_halt_7 (by decide) (by decide)
theorem oX11_halt_10 : oP MT mX11_halt 10 (0, 2, 0, (-4), []) := o_bipush dX11_halt_10 (by decide)
theorem oX11_halt_12 : oP MT mX11_halt 12 (21, 1, 0, 0, []) := o_iret dX11_halt_12 rfl
theorem oX11_halt_13 : oP MT mX11_halt 13 (1, 1, 0, 1, []) := o_aload_n dX11_halt_13 rfl
theorem oX11_halt_14 : oP MT mX11_halt 14 (1, 1, 0, 1, []) := o_aload_n dX11_halt_14 rfl
theorem oX11_halt_15 : oP MT mX11_halt 15 (13, 3, 0, 11, []) := o_getR (M := mX11_halt) (C := RX11) (T := TX11) (ci := 11) (j := 0) (z := 11) dX11_halt_15 rfl lq_RX11_56 rfl rfl
theorem oX11_halt_18 : oP MT mX11_halt 18 (1, 1, 0, 1, []) := o_aload_n dX11_halt_18 rfl
theorem oX11_halt_19 : oP MT mX11_halt 19 (13, 3, 0, 11, []) := o_getR (M := mX11_halt) (C := RX11) (T := TX11) (ci := 11) (j := 0) (z := 11) dX11_halt_19 rfl lq_RX11_56 rfl rfl
theorem oX11_halt_22 : oP MT mX11_halt 22 (26, 3, 0, 0, [(1, 32)]) := o_callO ((vA.cons (v_callV dX11_halt_22 (ci := 1) rfl rfl (mj := mX1_restAct) mt_X1_restAct cmq_X1_restAct wq_694 wq_308 wq_309 (by decide) (by decide)) vA.nil))
theorem oX11_halt_25 : oP MT mX11_halt 25 (26, 3, 0, 1, [(1, 81)]) := o_callO ((vA.cons (v_callV dX11_halt_25 (ci := 1) rfl rfl (mj := mX1_goBy) mt_X1_goBy cmq_X1_goBy wq_380 wq_382 wq_383 (by decide) (by decide)) vA.nil))
theorem oX11_halt_28 : oP MT mX11_halt 28 (26, 3, 0, 1, [(11, 82)]) := o_callO ((vA.cons (v_callV dX11_halt_28 (ci := 11) rfl rfl (mj := mX11_scored) mt_X11_scored cmq_X11_scored wq_695 wq_697 wq_698 (by decide) (by decide)) vA.nil))
theorem oX11_halt_31 : oP MT mX11_halt 31 (21, 1, 0, 0, []) := o_iret dX11_halt_31 rfl
def ops_X11_halt : List (Nat × aO) := [(0, (1, 1, 0, 1, [])), (1, (13, 3, 0, 11, [])), (4, (26, 3, 0, 0, [(1, 31)])), (7, (10, 3, 0, 13, [])), (10, (0, 2, 0, (-4), [])), (12, (21, 1, 0, 0, [])), (13, (1, 1, 0, 1, [])), (14, (1, 1, 0, 1, [])), (15, (13, 3, 0, 11, [])), (18, (1, 1, 0, 1, [])), (19, (13, 3, 0, 11, [])), (22, (26, 3, 0, 0, [(1, 32)])), (25, (26, 3, 0, 1, [(1, 81)])), (28, (26, 3, 0, 1, [(11, 82)])), (31, (21, 1, 0, 0, []))]
theorem os_X11_halt : oA MT mX11_halt ops_X11_halt := (oA.cons oX11_halt_0 (oA.cons oX11_halt_1 (oA.cons oX11_halt_4 (oA.cons oX11_halt_7 (oA.cons oX11_halt_10 (oA.cons oX11_halt_12 (oA.cons oX11_halt_13 (oA.cons oX11_halt_14 (oA.cons oX11_halt_15 (oA.cons oX11_halt_18 (oA.cons oX11_halt_19 (oA.cons oX11_halt_22 (oA.cons oX11_halt_25 (oA.cons oX11_halt_28 (oA.cons oX11_halt_31 oA.nil)))))))))))))))
theorem dX11_on_0 : decode cX11_on 0 = .ok (.iload_n 1, 1) := by decide +kernel
theorem dX11_on_1 : decode cX11_on 1 = .ok (.iconst 0, 1) := by decide +kernel
theorem dX11_on_2 : decode cX11_on 2 = .ok (.bipush 16, 2) := by decide +kernel
theorem dX11_on_4 : decode cX11_on 4 = .ok (.invokestatic 90, 3) := by decide +kernel
theorem dX11_on_7 : decode cX11_on 7 = .ok (.ifCond .ne 5, 3) := by decide +kernel
theorem dX11_on_10 : decode cX11_on 10 = .ok (.iconst (-1), 1) := by decide +kernel
theorem dX11_on_11 : decode cX11_on 11 = .ok (.ireturn, 1) := by decide +kernel
theorem dX11_on_12 : decode cX11_on 12 = .ok (.aload_n 0, 1) := by decide +kernel
theorem dX11_on_13 : decode cX11_on 13 = .ok (.getfield 56, 3) := by decide +kernel
theorem dX11_on_16 : decode cX11_on 16 = .ok (.iconst 0, 1) := by decide +kernel
theorem dX11_on_17 : decode cX11_on 17 = .ok (.invokevirtual 212, 3) := by decide +kernel
theorem dX11_on_20 : decode cX11_on 20 = .ok (.aload_n 0, 1) := by decide +kernel
theorem dX11_on_21 : decode cX11_on 21 = .ok (.getfield 56, 3) := by decide +kernel
theorem dX11_on_24 : decode cX11_on 24 = .ok (.iload_n 1, 1) := by decide +kernel
theorem dX11_on_25 : decode cX11_on 25 = .ok (.invokevirtual 215, 3) := by decide +kernel
theorem dX11_on_28 : decode cX11_on 28 = .ok (.istore_n 2, 1) := by decide +kernel
theorem dX11_on_29 : decode cX11_on 29 = .ok (.aload_n 0, 1) := by decide +kernel
theorem dX11_on_30 : decode cX11_on 30 = .ok (.getfield 56, 3) := by decide +kernel
theorem dX11_on_33 : decode cX11_on 33 = .ok (.iconst 0, 1) := by decide +kernel
theorem dX11_on_34 : decode cX11_on 34 = .ok (.invokevirtual 218, 3) := by decide +kernel
theorem dX11_on_37 : decode cX11_on 37 = .ok (.iload_n 2, 1) := by decide +kernel
theorem dX11_on_38 : decode cX11_on 38 = .ok (.ireturn, 1) := by decide +kernel
theorem oX11_on_0 : oP MT mX11_on 0 (1, 1, 1, 0, []) := o_iload_n dX11_on_0 rfl
theorem oX11_on_1 : oP MT mX11_on 1 (0, 1, 0, 0, []) := o_iconst dX11_on_1 (by decide)
theorem oX11_on_2 : oP MT mX11_on 2 (0, 2, 0, 16, []) := o_bipush dX11_on_2 (by decide)
theorem oX11_on_4 : oP MT mX11_on 4 (25, 3, 37, 3, []) := o_callS dX11_on_4 (mj := mX11_isIn) mt_X11_isIn cmq_X11_isIn wq_282 wq_144 (by decide) (by decide)
theorem oX11_on_7 : oP MT mX11_on 7 (10, 3, 1, 12, []) := o_if_ne dX11_on_7 (by decide) (by decide)
theorem oX11_on_10 : oP MT mX11_on 10 (0, 1, 0, (-1), []) := o_iconst dX11_on_10 (by decide)
theorem oX11_on_11 : oP MT mX11_on 11 (21, 1, 0, 0, []) := o_iret dX11_on_11 rfl
theorem oX11_on_12 : oP MT mX11_on 12 (1, 1, 0, 1, []) := o_aload_n dX11_on_12 rfl
theorem oX11_on_13 : oP MT mX11_on 13 (13, 3, 0, 11, []) := o_getR (M := mX11_on) (C := RX11) (T := TX11) (ci := 11) (j := 0) (z := 11) dX11_on_13 rfl lq_RX11_56 rfl rfl
theorem oX11_on_16 : oP MT mX11_on 16 (0, 1, 0, 0, []) := o_iconst dX11_on_16 (by decide)
theorem oX11_on_17 : oP MT mX11_on 17 (26, 3, 0, 1, [(1, 50)]) := o_callO ((vA.cons (v_callV dX11_on_17 (ci := 1) rfl rfl (mj := mX1_save) mt_X1_save cmq_X1_save wq_310 wq_312 wq_313 (by decide) (by decide)) vA.nil))
theorem oX11_on_20 : oP MT mX11_on 20 (1, 1, 0, 1, []) := o_aload_n dX11_on_20 rfl
theorem oX11_on_21 : oP MT mX11_on 21 (13, 3, 0, 11, []) := o_getR (M := mX11_on) (C := RX11) (T := TX11) (ci := 11) (j := 0) (z := 11) dX11_on_21 rfl lq_RX11_56 rfl rfl
theorem oX11_on_24 : oP MT mX11_on 24 (1, 1, 1, 0, []) := o_iload_n dX11_on_24 rfl
theorem oX11_on_25 : oP MT mX11_on 25 (26, 3, 0, 1, [(1, 83)]) := o_callO ((vA.cons (v_callV dX11_on_25 (ci := 1) rfl rfl (mj := mX1_goRest) mt_X1_goRest cmq_X1_goRest wq_314 wq_316 wq_317 (by decide) (by decide)) vA.nil))
theorem oX11_on_28 : oP MT mX11_on 28 (2, 1, 2, 0, []) := o_istore_n dX11_on_28 rfl (by decide)
theorem oX11_on_29 : oP MT mX11_on 29 (1, 1, 0, 1, []) := o_aload_n dX11_on_29 rfl
theorem oX11_on_30 : oP MT mX11_on 30 (13, 3, 0, 11, []) := o_getR (M := mX11_on) (C := RX11) (T := TX11) (ci := 11) (j := 0) (z := 11) dX11_on_30 rfl lq_RX11_56 rfl rfl
theorem oX11_on_33 : oP MT mX11_on 33 (0, 1, 0, 0, []) := o_iconst dX11_on_33 (by decide)
theorem oX11_on_34 : oP MT mX11_on 34 (26, 3, 0, 1, [(1, 51)]) := o_callO ((vA.cons (v_callV dX11_on_34 (ci := 1) rfl rfl (mj := mX1_restore) mt_X1_restore cmq_X1_restore wq_318 wq_320 wq_321 (by decide) (by decide)) vA.nil))
theorem oX11_on_37 : oP MT mX11_on 37 (1, 1, 2, 0, []) := o_iload_n dX11_on_37 rfl
theorem oX11_on_38 : oP MT mX11_on 38 (21, 1, 0, 0, []) := o_iret dX11_on_38 rfl
def ops_X11_on : List (Nat × aO) := [(0, (1, 1, 1, 0, [])), (1, (0, 1, 0, 0, [])), (2, (0, 2, 0, 16, [])), (4, (25, 3, 37, 3, [])), (7, (10, 3, 1, 12, [])), (10, (0, 1, 0, (-1), [])), (11, (21, 1, 0, 0, [])), (12, (1, 1, 0, 1, [])), (13, (13, 3, 0, 11, [])), (16, (0, 1, 0, 0, [])), (17, (26, 3, 0, 1, [(1, 50)])), (20, (1, 1, 0, 1, [])), (21, (13, 3, 0, 11, [])), (24, (1, 1, 1, 0, [])), (25, (26, 3, 0, 1, [(1, 83)])), (28, (2, 1, 2, 0, [])), (29, (1, 1, 0, 1, [])), (30, (13, 3, 0, 11, [])), (33, (0, 1, 0, 0, [])), (34, (26, 3, 0, 1, [(1, 51)])), (37, (1, 1, 2, 0, [])), (38, (21, 1, 0, 0, []))]
theorem os_X11_on : oA MT mX11_on ops_X11_on := (oA.cons oX11_on_0 (oA.cons oX11_on_1 (oA.cons oX11_on_2 (oA.cons oX11_on_4 (oA.cons oX11_on_7 (oA.cons oX11_on_10 (oA.cons oX11_on_11 (oA.cons oX11_on_12 (oA.cons oX11_on_13 (oA.cons oX11_on_16 (oA.cons oX11_on_17 (oA.cons oX11_on_20 (oA.cons oX11_on_21 (oA.cons oX11_on_24 (oA.cons oX11_on_25 (oA.cons oX11_on_28 (oA.cons oX11_on_29 (oA.cons oX11_on_30 (oA.cons oX11_on_33 (oA.cons oX11_on_34 (oA.cons oX11_on_37 (oA.cons oX11_on_38 oA.nil))))))))))))))))))))))
theorem dX11_when_0 : decode cX11_when 0 = .ok (.aload_n 0, 1) := by decide +kernel
theorem dX11_when_1 : decode cX11_when 1 = .ok (.getfield 56, 3) := by decide +kernel
theorem dX11_when_4 : decode cX11_when 4 = .ok (.iload_n 1, 1) := by decide +kernel
theorem dX11_when_5 : decode cX11_when 5 = .ok (.invokevirtual 113, 3) := by decide +kernel
theorem dX11_when_8 : decode cX11_when 8 = .ok (.ifCond .ne 5, 3) := by decide +kernel
theorem dX11_when_11 : decode cX11_when 11 = .ok (.iconst (-1), 1) := by decide +kernel
theorem dX11_when_12 : decode cX11_when 12 = .ok (.ireturn, 1) := by decide +kernel
theorem dX11_when_13 : decode cX11_when 13 = .ok (.aload_n 0, 1) := by decide +kernel
theorem dX11_when_14 : decode cX11_when 14 = .ok (.getfield 56, 3) := by decide +kernel
theorem dX11_when_17 : decode cX11_when 17 = .ok (.iload_n 1, 1) := by decide +kernel
theorem dX11_when_18 : decode cX11_when 18 = .ok (.invokevirtual 116, 3) := by decide +kernel
theorem dX11_when_21 : decode cX11_when 21 = .ok (.ifCond .eq 6, 3) := by decide +kernel
theorem dX11_when_24 : decode cX11_when 24 = .ok (.bipush (-3), 2) := by decide +kernel
theorem dX11_when_26 : decode cX11_when 26 = .ok (.ireturn, 1) := by decide +kernel
theorem dX11_when_27 : decode cX11_when 27 = .ok (.bipush (-3), 2) := by decide +kernel
theorem dX11_when_29 : decode cX11_when 29 = .ok (.istore_n 2, 1) := by decide +kernel
theorem dX11_when_30 : decode cX11_when 30 = .ok (.aload_n 0, 1) := by decide +kernel
theorem dX11_when_31 : decode cX11_when 31 = .ok (.getfield 56, 3) := by decide +kernel
theorem dX11_when_34 : decode cX11_when 34 = .ok (.iconst 0, 1) := by decide +kernel
theorem dX11_when_35 : decode cX11_when 35 = .ok (.invokevirtual 212, 3) := by decide +kernel
theorem dX11_when_38 : decode cX11_when 38 = .ok (.iconst 0, 1) := by decide +kernel
theorem dX11_when_39 : decode cX11_when 39 = .ok (.istore_n 3, 1) := by decide +kernel
theorem dX11_when_40 : decode cX11_when 40 = .ok (.iload_n 3, 1) := by decide +kernel
theorem dX11_when_41 : decode cX11_when 41 = .ok (.bipush 16, 2) := by decide +kernel
theorem dX11_when_43 : decode cX11_when 43 = .ok (.if_icmp .ge 63, 3) := by decide +kernel
theorem dX11_when_46 : decode cX11_when 46 = .ok (.iload_n 2, 1) := by decide +kernel
theorem dX11_when_47 : decode cX11_when 47 = .ok (.bipush (-3), 2) := by decide +kernel
theorem dX11_when_49 : decode cX11_when 49 = .ok (.if_icmp .ne 57, 3) := by decide +kernel
theorem dX11_when_52 : decode cX11_when 52 = .ok (.aload_n 0, 1) := by decide +kernel
theorem dX11_when_53 : decode cX11_when 53 = .ok (.getfield 56, 3) := by decide +kernel
theorem dX11_when_56 : decode cX11_when 56 = .ok (.invokevirtual 168, 3) := by decide +kernel
theorem dX11_when_59 : decode cX11_when 59 = .ok (.ifCond .ne 47, 3) := by decide +kernel
theorem dX11_when_62 : decode cX11_when 62 = .ok (.aload_n 0, 1) := by decide +kernel
theorem dX11_when_63 : decode cX11_when 63 = .ok (.getfield 56, 3) := by decide +kernel
theorem dX11_when_66 : decode cX11_when 66 = .ok (.getfield 156, 3) := by decide +kernel
theorem dX11_when_69 : decode cX11_when 69 = .ok (.istore 4, 2) := by decide +kernel
theorem dX11_when_71 : decode cX11_when 71 = .ok (.aload_n 0, 1) := by decide +kernel
theorem dX11_when_72 : decode cX11_when 72 = .ok (.getfield 56, 3) := by decide +kernel
theorem dX11_when_75 : decode cX11_when 75 = .ok (.aload_n 0, 1) := by decide +kernel
theorem dX11_when_76 : decode cX11_when 76 = .ok (.getfield 56, 3) := by decide +kernel
theorem dX11_when_79 : decode cX11_when 79 = .ok (.invokevirtual 203, 3) := by decide +kernel
theorem dX11_when_82 : decode cX11_when 82 = .ok (.invokevirtual 206, 3) := by decide +kernel
theorem dX11_when_85 : decode cX11_when 85 = .ok (.pop, 1) := by decide +kernel
theorem dX11_when_86 : decode cX11_when 86 = .ok (.aload_n 0, 1) := by decide +kernel
theorem dX11_when_87 : decode cX11_when 87 = .ok (.getfield 56, 3) := by decide +kernel
theorem dX11_when_90 : decode cX11_when 90 = .ok (.iload_n 1, 1) := by decide +kernel
theorem dX11_when_91 : decode cX11_when 91 = .ok (.invokevirtual 116, 3) := by decide +kernel
theorem dX11_when_94 : decode cX11_when 94 = .ok (.ifCond .eq 6, 3) := by decide +kernel
theorem dX11_when_97 : decode cX11_when 97 = .ok (.iload 4, 2) := by decide +kernel
theorem dX11_when_99 : decode cX11_when 99 = .ok (.istore_n 2, 1) := by decide +kernel
theorem dX11_when_100 : decode cX11_when 100 = .ok (.iinc 3 1, 3) := by decide +kernel
theorem dX11_when_103 : decode cX11_when 103 = .ok (.goto (-63), 3) := by decide +kernel
theorem dX11_when_106 : decode cX11_when 106 = .ok (.aload_n 0, 1) := by decide +kernel
theorem dX11_when_107 : decode cX11_when 107 = .ok (.getfield 56, 3) := by decide +kernel
theorem dX11_when_110 : decode cX11_when 110 = .ok (.iconst 0, 1) := by decide +kernel
theorem dX11_when_111 : decode cX11_when 111 = .ok (.invokevirtual 218, 3) := by decide +kernel
theorem dX11_when_114 : decode cX11_when 114 = .ok (.iload_n 2, 1) := by decide +kernel
theorem dX11_when_115 : decode cX11_when 115 = .ok (.ireturn, 1) := by decide +kernel
theorem oX11_when_0 : oP MT mX11_when 0 (1, 1, 0, 1, []) := o_aload_n dX11_when_0 rfl
theorem oX11_when_1 : oP MT mX11_when 1 (13, 3, 0, 11, []) := o_getR (M := mX11_when) (C := RX11) (T := TX11) (ci := 11) (j := 0) (z := 11) dX11_when_1 rfl lq_RX11_56 rfl rfl
theorem oX11_when_4 : oP MT mX11_when 4 (1, 1, 1, 0, []) := o_iload_n dX11_when_4 rfl
theorem oX11_when_5 : oP MT mX11_when 5 (26, 3, 0, 1, [(1, 26)]) := o_callO ((vA.cons (v_callV dX11_when_5 (ci := 1) rfl rfl (mj := mX1_isKey) mt_X1_isKey cmq_X1_isKey wq_388 wq_120 wq_121 (by decide) (by decide)) vA.nil))
theorem oX11_when_8 : oP MT mX11_when 8 (10, 3, 1, 13, []) := o_if_ne dX11_when_8 (by decide) (by decide)
theorem oX11_when_11 : oP MT mX11_when 11 (0, 1, 0, (-1), []) := o_iconst dX11_when_11 (by decide)
theorem oX11_when_12 : oP MT mX11_when 12 (21, 1, 0, 0, []) := o_iret dX11_when_12 rfl
theorem oX11_when_13 : oP MT mX11_when 13 (1, 1, 0, 1, []) := o_aload_n dX11_when_13 rfl
theorem oX11_when_14 : oP MT mX11_when 14 (13, 3, 0, 11, []) := o_getR (M := mX11_when) (C := RX11) (T := TX11) (ci := 11) (j := 0) (z := 11) dX11_when_14 rfl lq_RX11_56 rfl rfl
theorem oX11_when_17 : oP MT mX11_when 17 (1, 1, 1, 0, []) := o_iload_n dX11_when_17 rfl
theorem oX11_when_18 : oP MT mX11_when 18 (26, 3, 0, 1, [(1, 11)]) := o_callO ((vA.cons (v_callV dX11_when_18 (ci := 1) rfl rfl (mj := mX1_isTurned) mt_X1_isTurned cmq_X1_isTurned wq_283 wq_33 wq_34 (by decide) (by decide)) vA.nil))
theorem oX11_when_21 : oP MT mX11_when 21 (10, 3, 0, 27, []) := o_if_eq dX11_when_21 (by decide) (by decide)
theorem oX11_when_24 : oP MT mX11_when 24 (0, 2, 0, (-3), []) := o_bipush dX11_when_24 (by decide)
theorem oX11_when_26 : oP MT mX11_when 26 (21, 1, 0, 0, []) := o_iret dX11_when_26 rfl
theorem oX11_when_27 : oP MT mX11_when 27 (0, 2, 0, (-3), []) := o_bipush dX11_when_27 (by decide)
theorem oX11_when_29 : oP MT mX11_when 29 (2, 1, 2, 0, []) := o_istore_n dX11_when_29 rfl (by decide)
theorem oX11_when_30 : oP MT mX11_when 30 (1, 1, 0, 1, []) := o_aload_n dX11_when_30 rfl
theorem oX11_when_31 : oP MT mX11_when 31 (13, 3, 0, 11, []) := o_getR (M := mX11_when) (C := RX11) (T := TX11) (ci := 11) (j := 0) (z := 11) dX11_when_31 rfl lq_RX11_56 rfl rfl
theorem oX11_when_34 : oP MT mX11_when 34 (0, 1, 0, 0, []) := o_iconst dX11_when_34 (by decide)
theorem oX11_when_35 : oP MT mX11_when 35 (26, 3, 0, 1, [(1, 50)]) := o_callO ((vA.cons (v_callV dX11_when_35 (ci := 1) rfl rfl (mj := mX1_save) mt_X1_save cmq_X1_save wq_310 wq_312 wq_313 (by decide) (by decide)) vA.nil))
theorem oX11_when_38 : oP MT mX11_when 38 (0, 1, 0, 0, []) := o_iconst dX11_when_38 (by decide)
theorem oX11_when_39 : oP MT mX11_when 39 (2, 1, 3, 0, []) := o_istore_n dX11_when_39 rfl (by decide)
theorem oX11_when_40 : oP MT mX11_when 40 (1, 1, 3, 0, []) := o_iload_n dX11_when_40 rfl
theorem oX11_when_41 : oP MT mX11_when 41 (0, 2, 0, 16, []) := o_bipush dX11_when_41 (by decide)
theorem oX11_when_43 : oP MT mX11_when 43 (11, 3, 3, 106, []) := o_icmp_ge dX11_when_43 (by decide) (by decide)
theorem oX11_when_46 : oP MT mX11_when 46 (1, 1, 2, 0, []) := o_iload_n dX11_when_46 rfl
theorem oX11_when_47 : oP MT mX11_when 47 (0, 2, 0, (-3), []) := o_bipush dX11_when_47 (by decide)
theorem oX11_when_49 : oP MT mX11_when 49 (11, 3, 1, 106, []) := o_icmp_ne dX11_when_49 (by decide) (by decide)
theorem oX11_when_52 : oP MT mX11_when 52 (1, 1, 0, 1, []) := o_aload_n dX11_when_52 rfl
theorem oX11_when_53 : oP MT mX11_when 53 (13, 3, 0, 11, []) := o_getR (M := mX11_when) (C := RX11) (T := TX11) (ci := 11) (j := 0) (z := 11) dX11_when_53 rfl lq_RX11_56 rfl rfl
theorem oX11_when_56 : oP MT mX11_when 56 (26, 3, 0, 0, [(1, 31)]) := o_callO ((vA.cons (v_callV dX11_when_56 (ci := 1) rfl rfl (mj := mX1_isOver) mt_X1_isOver cmq_X1_isOver wq_375 wq_201 wq_202 (by decide) (by decide)) vA.nil))
theorem oX11_when_59 : oP MT mX11_when 59 (10, 3, 1, 106, []) := o_if_ne dX11_when_59 (by decide) (by decide)
theorem oX11_when_62 : oP MT mX11_when 62 (1, 1, 0, 1, []) := o_aload_n dX11_when_62 rfl
theorem oX11_when_63 : oP MT mX11_when 63 (13, 3, 0, 11, []) := o_getR (M := mX11_when) (C := RX11) (T := TX11) (ci := 11) (j := 0) (z := 11) dX11_when_63 rfl lq_RX11_56 rfl rfl
theorem oX11_when_66 : oP MT mX11_when 66 (12, 3, 1, 1, []) := o_getI (M := mX11_when) (C := RX1) (T := TX1) (ci := 1) (j := 1) (z := 1) dX11_when_66 rfl lq_RX11_156 rfl rfl
theorem oX11_when_69 : oP MT mX11_when 69 (2, 2, 4, 0, []) := o_istore dX11_when_69 (by decide)
theorem oX11_when_71 : oP MT mX11_when 71 (1, 1, 0, 1, []) := o_aload_n dX11_when_71 rfl
theorem oX11_when_72 : oP MT mX11_when 72 (13, 3, 0, 11, []) := o_getR (M := mX11_when) (C := RX11) (T := TX11) (ci := 11) (j := 0) (z := 11) dX11_when_72 rfl lq_RX11_56 rfl rfl
theorem oX11_when_75 : oP MT mX11_when 75 (1, 1, 0, 1, []) := o_aload_n dX11_when_75 rfl
theorem oX11_when_76 : oP MT mX11_when 76 (13, 3, 0, 11, []) := o_getR (M := mX11_when) (C := RX11) (T := TX11) (ci := 11) (j := 0) (z := 11) dX11_when_76 rfl lq_RX11_56 rfl rfl
theorem oX11_when_79 : oP MT mX11_when 79 (26, 3, 0, 0, [(1, 32)]) := o_callO ((vA.cons (v_callV dX11_when_79 (ci := 1) rfl rfl (mj := mX1_restAct) mt_X1_restAct cmq_X1_restAct wq_694 wq_308 wq_309 (by decide) (by decide)) vA.nil))
theorem oX11_when_82 : oP MT mX11_when 82 (26, 3, 0, 1, [(1, 81)]) := o_callO ((vA.cons (v_callV dX11_when_82 (ci := 1) rfl rfl (mj := mX1_goBy) mt_X1_goBy cmq_X1_goBy wq_380 wq_382 wq_383 (by decide) (by decide)) vA.nil))
theorem oX11_when_85 : oP MT mX11_when 85 (8, 1, 0, 0, []) := o_pop dX11_when_85
theorem oX11_when_86 : oP MT mX11_when 86 (1, 1, 0, 1, []) := o_aload_n dX11_when_86 rfl
theorem oX11_when_87 : oP MT mX11_when 87 (13, 3, 0, 11, []) := o_getR (M := mX11_when) (C := RX11) (T := TX11) (ci := 11) (j := 0) (z := 11) dX11_when_87 rfl lq_RX11_56 rfl rfl
theorem oX11_when_90 : oP MT mX11_when 90 (1, 1, 1, 0, []) := o_iload_n dX11_when_90 rfl
theorem oX11_when_91 : oP MT mX11_when 91 (26, 3, 0, 1, [(1, 11)]) := o_callO ((vA.cons (v_callV dX11_when_91 (ci := 1) rfl rfl (mj := mX1_isTurned) mt_X1_isTurned cmq_X1_isTurned wq_283 wq_33 wq_34 (by decide) (by decide)) vA.nil))
theorem oX11_when_94 : oP MT mX11_when 94 (10, 3, 0, 100, []) := o_if_eq dX11_when_94 (by decide) (by decide)
theorem oX11_when_97 : oP MT mX11_when 97 (1, 2, 4, 0, []) := o_iload dX11_when_97
theorem oX11_when_99 : oP MT mX11_when 99 (2, 1, 2, 0, []) := o_istore_n dX11_when_99 rfl (by decide)
theorem oX11_when_100 : oP MT mX11_when 100 (3, 3, 3, 1, []) := o_iinc dX11_when_100 (by decide) (by decide)
theorem oX11_when_103 : oP MT mX11_when 103 (9, 3, 40, 0, []) := o_goto dX11_when_103 (by decide)
theorem oX11_when_106 : oP MT mX11_when 106 (1, 1, 0, 1, []) := o_aload_n dX11_when_106 rfl
theorem oX11_when_107 : oP MT mX11_when 107 (13, 3, 0, 11, []) := o_getR (M := mX11_when) (C := RX11) (T := TX11) (ci := 11) (j := 0) (z := 11) dX11_when_107 rfl lq_RX11_56 rfl rfl
theorem oX11_when_110 : oP MT mX11_when 110 (0, 1, 0, 0, []) := o_iconst dX11_when_110 (by decide)
theorem oX11_when_111 : oP MT mX11_when 111 (26, 3, 0, 1, [(1, 51)]) := o_callO ((vA.cons (v_callV dX11_when_111 (ci := 1) rfl rfl (mj := mX1_restore) mt_X1_restore cmq_X1_restore wq_318 wq_320 wq_321 (by decide) (by decide)) vA.nil))
theorem oX11_when_114 : oP MT mX11_when 114 (1, 1, 2, 0, []) := o_iload_n dX11_when_114 rfl
theorem oX11_when_115 : oP MT mX11_when 115 (21, 1, 0, 0, []) := o_iret dX11_when_115 rfl
def ops_X11_when : List (Nat × aO) := [(0, (1, 1, 0, 1, [])), (1, (13, 3, 0, 11, [])), (4, (1, 1, 1, 0, [])), (5, (26, 3, 0, 1, [(1, 26)])), (8, (10, 3, 1, 13, [])), (11, (0, 1, 0, (-1), [])), (12, (21, 1, 0, 0, [])), (13, (1, 1, 0, 1, [])), (14, (13, 3, 0, 11, [])), (17, (1, 1, 1, 0, [])), (18, (26, 3, 0, 1, [(1, 11)])), (21, (10, 3, 0, 27, [])), (24, (0, 2, 0, (-3), [])), (26, (21, 1, 0, 0, [])), (27, (0, 2, 0, (-3), [])), (29, (2, 1, 2, 0, [])), (30, (1, 1, 0, 1, [])), (31, (13, 3, 0, 11, [])), (34, (0, 1, 0, 0, [])), (35, (26, 3, 0, 1, [(1, 50)])), (38, (0, 1, 0, 0, [])), (39, (2, 1, 3, 0, [])), (40, (1, 1, 3, 0, [])), (41, (0, 2, 0, 16, [])), (43, (11, 3, 3, 106, [])), (46, (1, 1, 2, 0, [])), (47, (0, 2, 0, (-3), [])), (49, (11, 3, 1, 106, [])), (52, (1, 1, 0, 1, [])), (53, (13, 3, 0, 11, [])), (56, (26, 3, 0, 0, [(1, 31)])), (59, (10, 3, 1, 106, [])), (62, (1, 1, 0, 1, [])), (63, (13, 3, 0, 11, [])), (66, (12, 3, 1, 1, [])), (69, (2, 2, 4, 0, [])), (71, (1, 1, 0, 1, [])), (72, (13, 3, 0, 11, [])), (75, (1, 1, 0, 1, [])), (76, (13, 3, 0, 11, [])), (79, (26, 3, 0, 0, [(1, 32)])), (82, (26, 3, 0, 1, [(1, 81)])), (85, (8, 1, 0, 0, [])), (86, (1, 1, 0, 1, [])), (87, (13, 3, 0, 11, [])), (90, (1, 1, 1, 0, [])), (91, (26, 3, 0, 1, [(1, 11)])), (94, (10, 3, 0, 100, [])), (97, (1, 2, 4, 0, [])), (99, (2, 1, 2, 0, [])), (100, (3, 3, 3, 1, [])), (103, (9, 3, 40, 0, [])), (106, (1, 1, 0, 1, [])), (107, (13, 3, 0, 11, [])), (110, (0, 1, 0, 0, [])), (111, (26, 3, 0, 1, [(1, 51)])), (114, (1, 1, 2, 0, [])), (115, (21, 1, 0, 0, []))]
theorem os_X11_when : oA MT mX11_when ops_X11_when := (oA.cons oX11_when_0 (oA.cons oX11_when_1 (oA.cons oX11_when_4 (oA.cons oX11_when_5 (oA.cons oX11_when_8 (oA.cons oX11_when_11 (oA.cons oX11_when_12 (oA.cons oX11_when_13 (oA.cons oX11_when_14 (oA.cons oX11_when_17 (oA.cons oX11_when_18 (oA.cons oX11_when_21 (oA.cons oX11_when_24 (oA.cons oX11_when_26 (oA.cons oX11_when_27 (oA.cons oX11_when_29 (oA.cons oX11_when_30 (oA.cons oX11_when_31 (oA.cons oX11_when_34 (oA.cons oX11_when_35 (oA.cons oX11_when_38 (oA.cons oX11_when_39 (oA.cons oX11_when_40 (oA.cons oX11_when_41 (oA.cons oX11_when_43 (oA.cons oX11_when_46 (oA.cons oX11_when_47 (oA.cons oX11_when_49 (oA.cons oX11_when_52 (oA.cons oX11_when_53 (oA.cons oX11_when_56 (oA.cons oX11_when_59 (oA.cons oX11_when_62 (oA.cons oX11_when_63 (oA.cons oX11_when_66 (oA.cons oX11_when_69 (oA.cons oX11_when_71 (oA.cons oX11_when_72 (oA.cons oX11_when_75 (oA.cons oX11_when_76 (oA.cons oX11_when_79 (oA.cons oX11_when_82 (oA.cons oX11_when_85 (oA.cons oX11_when_86 (oA.cons oX11_when_87 (oA.cons oX11_when_90 (oA.cons oX11_when_91 (oA.cons oX11_when_94 (oA.cons oX11_when_97 (oA.cons oX11_when_99 (oA.cons oX11_when_100 (oA.cons oX11_when_103 (oA.cons oX11_when_106 (oA.cons oX11_when_107 (oA.cons oX11_when_110 (oA.cons oX11_when_111 (oA.cons oX11_when_114 (oA.cons oX11_when_115 oA.nil))))))))))))))))))))))))))))))))))))))))))))))))))))))))))
theorem dX11_strawFor_0 : decode cX11_strawFor 0 = .ok (.aload_n 0, 1) := by decide +kernel
theorem dX11_strawFor_1 : decode cX11_strawFor 1 = .ok (.getfield 56, 3) := by decide +kernel
theorem dX11_strawFor_4 : decode cX11_strawFor 4 = .ok (.iload_n 1, 1) := by decide +kernel
theorem dX11_strawFor_5 : decode cX11_strawFor 5 = .ok (.invokevirtual 113, 3) := by decide +kernel
theorem dX11_strawFor_8 : decode cX11_strawFor 8 = .ok (.ifCond .eq 20, 3) := by decide +kernel
theorem dX11_strawFor_11 : decode cX11_strawFor 11 = .ok (.aload_n 0, 1) := by decide +kernel
theorem dX11_strawFor_12 : decode cX11_strawFor 12 = .ok (.aload_n 0, 1) := by decide +kernel
theorem dX11_strawFor_13 : decode cX11_strawFor 13 = .ok (.getfield 56, 3) := by decide +kernel
theorem dX11_strawFor_16 : decode cX11_strawFor 16 = .ok (.getfield 107, 3) := by decide +kernel
theorem dX11_strawFor_19 : decode cX11_strawFor 19 = .ok (.iload_n 1, 1) := by decide +kernel
theorem dX11_strawFor_20 : decode cX11_strawFor 20 = .ok (.bipush 9, 2) := by decide +kernel
theorem dX11_strawFor_22 : decode cX11_strawFor 22 = .ok (.invokevirtual 221, 3) := by decide +kernel
theorem dX11_strawFor_25 : decode cX11_strawFor 25 = .ok (.goto 4, 3) := by decide +kernel
theorem dX11_strawFor_28 : decode cX11_strawFor 28 = .ok (.iconst (-1), 1) := by decide +kernel
theorem dX11_strawFor_29 : decode cX11_strawFor 29 = .ok (.ireturn, 1) := by decide +kernel
theorem oX11_strawFor_0 : oP MT mX11_strawFor 0 (1, 1, 0, 1, []) := o_aload_n dX11_strawFor_0 rfl
theorem oX11_strawFor_1 : oP MT mX11_strawFor 1 (13, 3, 0, 11, []) := o_getR (M := mX11_strawFor) (C := RX11) (T := TX11) (ci := 11) (j := 0) (z := 11) dX11_strawFor_1 rfl lq_RX11_56 rfl rfl
theorem oX11_strawFor_4 : oP MT mX11_strawFor 4 (1, 1, 1, 0, []) := o_iload_n dX11_strawFor_4 rfl
theorem oX11_strawFor_5 : oP MT mX11_strawFor 5 (26, 3, 0, 1, [(1, 26)]) := o_callO ((vA.cons (v_callV dX11_strawFor_5 (ci := 1) rfl rfl (mj := mX1_isKey) mt_X1_isKey cmq_X1_isKey wq_388 wq_120 wq_121 (by decide) (by decide)) vA.nil))
theorem oX11_strawFor_8 : oP MT mX11_strawFor 8 (10, 3, 0, 28, []) := o_if_eq dX11_strawFor_8 (by decide) (by decide)
theorem oX11_strawFor_11 : oP MT mX11_strawFor 11 (1, 1, 0, 1, []) := o_aload_n dX11_strawFor_11 rfl
theorem oX11_strawFor_12 : oP MT mX11_strawFor 12 (1, 1, 0, 1, []) := o_aload_n dX11_strawFor_12 rfl
theorem oX11_strawFor_13 : oP MT mX11_strawFor 13 (13, 3, 0, 11, []) := o_getR (M := mX11_strawFor) (C := RX11) (T := TX11) (ci := 11) (j := 0) (z := 11) dX11_strawFor_13 rfl lq_RX11_56 rfl rfl
theorem oX11_strawFor_16 : oP MT mX11_strawFor 16 (13, 3, 12, 1, []) := o_getR (M := mX11_strawFor) (C := RX1) (T := TX1) (ci := 1) (j := 12) (z := 1) dX11_strawFor_16 rfl lq_RX11_107 rfl rfl
theorem oX11_strawFor_19 : oP MT mX11_strawFor 19 (1, 1, 1, 0, []) := o_iload_n dX11_strawFor_19 rfl
theorem oX11_strawFor_20 : oP MT mX11_strawFor 20 (0, 2, 0, 9, []) := o_bipush dX11_strawFor_20 (by decide)
theorem oX11_strawFor_22 : oP MT mX11_strawFor 22 (26, 3, 0, 3, [(11, 84)]) := o_callO ((vA.cons (v_callV dX11_strawFor_22 (ci := 11) rfl rfl (mj := mX11_bestValue) mt_X11_bestValue cmq_X11_bestValue wq_699 wq_701 wq_702 (by decide) (by decide)) vA.nil))
theorem oX11_strawFor_25 : oP MT mX11_strawFor 25 (9, 3, 29, 0, []) := o_goto dX11_strawFor_25 (by decide)
theorem oX11_strawFor_28 : oP MT mX11_strawFor 28 (0, 1, 0, (-1), []) := o_iconst dX11_strawFor_28 (by decide)
theorem oX11_strawFor_29 : oP MT mX11_strawFor 29 (21, 1, 0, 0, []) := o_iret dX11_strawFor_29 rfl
def ops_X11_strawFor : List (Nat × aO) := [(0, (1, 1, 0, 1, [])), (1, (13, 3, 0, 11, [])), (4, (1, 1, 1, 0, [])), (5, (26, 3, 0, 1, [(1, 26)])), (8, (10, 3, 0, 28, [])), (11, (1, 1, 0, 1, [])), (12, (1, 1, 0, 1, [])), (13, (13, 3, 0, 11, [])), (16, (13, 3, 12, 1, [])), (19, (1, 1, 1, 0, [])), (20, (0, 2, 0, 9, [])), (22, (26, 3, 0, 3, [(11, 84)])), (25, (9, 3, 29, 0, [])), (28, (0, 1, 0, (-1), [])), (29, (21, 1, 0, 0, []))]
theorem os_X11_strawFor : oA MT mX11_strawFor ops_X11_strawFor := (oA.cons oX11_strawFor_0 (oA.cons oX11_strawFor_1 (oA.cons oX11_strawFor_4 (oA.cons oX11_strawFor_5 (oA.cons oX11_strawFor_8 (oA.cons oX11_strawFor_11 (oA.cons oX11_strawFor_12 (oA.cons oX11_strawFor_13 (oA.cons oX11_strawFor_16 (oA.cons oX11_strawFor_19 (oA.cons oX11_strawFor_20 (oA.cons oX11_strawFor_22 (oA.cons oX11_strawFor_25 (oA.cons oX11_strawFor_28 (oA.cons oX11_strawFor_29 oA.nil)))))))))))))))
theorem dX11_gateFor_0 : decode cX11_gateFor 0 = .ok (.aload_n 0, 1) := by decide +kernel
theorem dX11_gateFor_1 : decode cX11_gateFor 1 = .ok (.getfield 56, 3) := by decide +kernel
theorem dX11_gateFor_4 : decode cX11_gateFor 4 = .ok (.iload_n 1, 1) := by decide +kernel
theorem dX11_gateFor_5 : decode cX11_gateFor 5 = .ok (.invokevirtual 113, 3) := by decide +kernel
theorem dX11_gateFor_8 : decode cX11_gateFor 8 = .ok (.ifCond .eq 19, 3) := by decide +kernel
theorem dX11_gateFor_11 : decode cX11_gateFor 11 = .ok (.aload_n 0, 1) := by decide +kernel
theorem dX11_gateFor_12 : decode cX11_gateFor 12 = .ok (.aload_n 0, 1) := by decide +kernel
theorem dX11_gateFor_13 : decode cX11_gateFor 13 = .ok (.getfield 56, 3) := by decide +kernel
theorem dX11_gateFor_16 : decode cX11_gateFor 16 = .ok (.getfield 110, 3) := by decide +kernel
theorem dX11_gateFor_19 : decode cX11_gateFor 19 = .ok (.iload_n 1, 1) := by decide +kernel
theorem dX11_gateFor_20 : decode cX11_gateFor 20 = .ok (.iconst 5, 1) := by decide +kernel
theorem dX11_gateFor_21 : decode cX11_gateFor 21 = .ok (.invokevirtual 221, 3) := by decide +kernel
theorem dX11_gateFor_24 : decode cX11_gateFor 24 = .ok (.goto 4, 3) := by decide +kernel
theorem dX11_gateFor_27 : decode cX11_gateFor 27 = .ok (.iconst (-1), 1) := by decide +kernel
theorem dX11_gateFor_28 : decode cX11_gateFor 28 = .ok (.ireturn, 1) := by decide +kernel
theorem oX11_gateFor_0 : oP MT mX11_gateFor 0 (1, 1, 0, 1, []) := o_aload_n dX11_gateFor_0 rfl
theorem oX11_gateFor_1 : oP MT mX11_gateFor 1 (13, 3, 0, 11, []) := o_getR (M := mX11_gateFor) (C := RX11) (T := TX11) (ci := 11) (j := 0) (z := 11) dX11_gateFor_1 rfl lq_RX11_56 rfl rfl
theorem oX11_gateFor_4 : oP MT mX11_gateFor 4 (1, 1, 1, 0, []) := o_iload_n dX11_gateFor_4 rfl
theorem oX11_gateFor_5 : oP MT mX11_gateFor 5 (26, 3, 0, 1, [(1, 26)]) := o_callO ((vA.cons (v_callV dX11_gateFor_5 (ci := 1) rfl rfl (mj := mX1_isKey) mt_X1_isKey cmq_X1_isKey wq_388 wq_120 wq_121 (by decide) (by decide)) vA.nil))
theorem oX11_gateFor_8 : oP MT mX11_gateFor 8 (10, 3, 0, 27, []) := o_if_eq dX11_gateFor_8 (by decide) (by decide)
theorem oX11_gateFor_11 : oP MT mX11_gateFor 11 (1, 1, 0, 1, []) := o_aload_n dX11_gateFor_11 rfl
theorem oX11_gateFor_12 : oP MT mX11_gateFor 12 (1, 1, 0, 1, []) := o_aload_n dX11_gateFor_12 rfl
theorem oX11_gateFor_13 : oP MT mX11_gateFor 13 (13, 3, 0, 11, []) := o_getR (M := mX11_gateFor) (C := RX11) (T := TX11) (ci := 11) (j := 0) (z := 11) dX11_gateFor_13 rfl lq_RX11_56 rfl rfl
theorem oX11_gateFor_16 : oP MT mX11_gateFor 16 (13, 3, 13, 1, []) := o_getR (M := mX11_gateFor) (C := RX1) (T := TX1) (ci := 1) (j := 13) (z := 1) dX11_gateFor_16 rfl lq_RX11_110 rfl rfl
theorem oX11_gateFor_19 : oP MT mX11_gateFor 19 (1, 1, 1, 0, []) := o_iload_n dX11_gateFor_19 rfl
theorem oX11_gateFor_20 : oP MT mX11_gateFor 20 (0, 1, 0, 5, []) := o_iconst dX11_gateFor_20 (by decide)
theorem oX11_gateFor_21 : oP MT mX11_gateFor 21 (26, 3, 0, 3, [(11, 84)]) := o_callO ((vA.cons (v_callV dX11_gateFor_21 (ci := 11) rfl rfl (mj := mX11_bestValue) mt_X11_bestValue cmq_X11_bestValue wq_699 wq_701 wq_702 (by decide) (by decide)) vA.nil))
theorem oX11_gateFor_24 : oP MT mX11_gateFor 24 (9, 3, 28, 0, []) := o_goto dX11_gateFor_24 (by decide)
theorem oX11_gateFor_27 : oP MT mX11_gateFor 27 (0, 1, 0, (-1), []) := o_iconst dX11_gateFor_27 (by decide)
theorem oX11_gateFor_28 : oP MT mX11_gateFor 28 (21, 1, 0, 0, []) := o_iret dX11_gateFor_28 rfl
def ops_X11_gateFor : List (Nat × aO) := [(0, (1, 1, 0, 1, [])), (1, (13, 3, 0, 11, [])), (4, (1, 1, 1, 0, [])), (5, (26, 3, 0, 1, [(1, 26)])), (8, (10, 3, 0, 27, [])), (11, (1, 1, 0, 1, [])), (12, (1, 1, 0, 1, [])), (13, (13, 3, 0, 11, [])), (16, (13, 3, 13, 1, [])), (19, (1, 1, 1, 0, [])), (20, (0, 1, 0, 5, [])), (21, (26, 3, 0, 3, [(11, 84)])), (24, (9, 3, 28, 0, [])), (27, (0, 1, 0, (-1), [])), (28, (21, 1, 0, 0, []))]
theorem os_X11_gateFor : oA MT mX11_gateFor ops_X11_gateFor := (oA.cons oX11_gateFor_0 (oA.cons oX11_gateFor_1 (oA.cons oX11_gateFor_4 (oA.cons oX11_gateFor_5 (oA.cons oX11_gateFor_8 (oA.cons oX11_gateFor_11 (oA.cons oX11_gateFor_12 (oA.cons oX11_gateFor_13 (oA.cons oX11_gateFor_16 (oA.cons oX11_gateFor_19 (oA.cons oX11_gateFor_20 (oA.cons oX11_gateFor_21 (oA.cons oX11_gateFor_24 (oA.cons oX11_gateFor_27 (oA.cons oX11_gateFor_28 oA.nil)))))))))))))))
theorem dX11_gone_0 : decode cX11_gone 0 = .ok (.aload_n 0, 1) := by decide +kernel
theorem dX11_gone_1 : decode cX11_gone 1 = .ok (.getfield 56, 3) := by decide +kernel
theorem dX11_gone_4 : decode cX11_gone 4 = .ok (.iload_n 1, 1) := by decide +kernel
theorem dX11_gone_5 : decode cX11_gone 5 = .ok (.invokevirtual 113, 3) := by decide +kernel
theorem dX11_gone_8 : decode cX11_gone 8 = .ok (.ifCond .ne 5, 3) := by decide +kernel
theorem dX11_gone_11 : decode cX11_gone 11 = .ok (.iconst (-1), 1) := by decide +kernel
theorem dX11_gone_12 : decode cX11_gone 12 = .ok (.ireturn, 1) := by decide +kernel
theorem dX11_gone_13 : decode cX11_gone 13 = .ok (.aload_n 0, 1) := by decide +kernel
theorem dX11_gone_14 : decode cX11_gone 14 = .ok (.getfield 56, 3) := by decide +kernel
theorem dX11_gone_17 : decode cX11_gone 17 = .ok (.iconst 0, 1) := by decide +kernel
theorem dX11_gone_18 : decode cX11_gone 18 = .ok (.invokevirtual 212, 3) := by decide +kernel
theorem dX11_gone_21 : decode cX11_gone 21 = .ok (.iconst 0, 1) := by decide +kernel
theorem dX11_gone_22 : decode cX11_gone 22 = .ok (.istore_n 2, 1) := by decide +kernel
theorem dX11_gone_23 : decode cX11_gone 23 = .ok (.iload_n 2, 1) := by decide +kernel
theorem dX11_gone_24 : decode cX11_gone 24 = .ok (.bipush 16, 2) := by decide +kernel
theorem dX11_gone_26 : decode cX11_gone 26 = .ok (.if_icmp .ge 46, 3) := by decide +kernel
theorem dX11_gone_29 : decode cX11_gone 29 = .ok (.aload_n 0, 1) := by decide +kernel
theorem dX11_gone_30 : decode cX11_gone 30 = .ok (.getfield 56, 3) := by decide +kernel
theorem dX11_gone_33 : decode cX11_gone 33 = .ok (.getfield 104, 3) := by decide +kernel
theorem dX11_gone_36 : decode cX11_gone 36 = .ok (.iload_n 1, 1) := by decide +kernel
theorem dX11_gone_37 : decode cX11_gone 37 = .ok (.iaload, 1) := by decide +kernel
theorem dX11_gone_38 : decode cX11_gone 38 = .ok (.ifCond .le 34, 3) := by decide +kernel
theorem dX11_gone_41 : decode cX11_gone 41 = .ok (.aload_n 0, 1) := by decide +kernel
theorem dX11_gone_42 : decode cX11_gone 42 = .ok (.getfield 56, 3) := by decide +kernel
theorem dX11_gone_45 : decode cX11_gone 45 = .ok (.invokevirtual 168, 3) := by decide +kernel
theorem dX11_gone_48 : decode cX11_gone 48 = .ok (.ifCond .ne 24, 3) := by decide +kernel
theorem dX11_gone_51 : decode cX11_gone 51 = .ok (.aload_n 0, 1) := by decide +kernel
theorem dX11_gone_52 : decode cX11_gone 52 = .ok (.getfield 56, 3) := by decide +kernel
theorem dX11_gone_55 : decode cX11_gone 55 = .ok (.aload_n 0, 1) := by decide +kernel
theorem dX11_gone_56 : decode cX11_gone 56 = .ok (.getfield 56, 3) := by decide +kernel
theorem dX11_gone_59 : decode cX11_gone 59 = .ok (.invokevirtual 203, 3) := by decide +kernel
theorem dX11_gone_62 : decode cX11_gone 62 = .ok (.invokevirtual 206, 3) := by decide +kernel
theorem dX11_gone_65 : decode cX11_gone 65 = .ok (.pop, 1) := by decide +kernel
theorem dX11_gone_66 : decode cX11_gone 66 = .ok (.iinc 2 1, 3) := by decide +kernel
theorem dX11_gone_69 : decode cX11_gone 69 = .ok (.goto (-46), 3) := by decide +kernel
theorem dX11_gone_72 : decode cX11_gone 72 = .ok (.aload_n 0, 1) := by decide +kernel
theorem dX11_gone_73 : decode cX11_gone 73 = .ok (.getfield 56, 3) := by decide +kernel
theorem dX11_gone_76 : decode cX11_gone 76 = .ok (.getfield 104, 3) := by decide +kernel
theorem dX11_gone_79 : decode cX11_gone 79 = .ok (.iload_n 1, 1) := by decide +kernel
theorem dX11_gone_80 : decode cX11_gone 80 = .ok (.iaload, 1) := by decide +kernel
theorem dX11_gone_81 : decode cX11_gone 81 = .ok (.ifCond .ne 13, 3) := by decide +kernel
theorem dX11_gone_84 : decode cX11_gone 84 = .ok (.aload_n 0, 1) := by decide +kernel
theorem dX11_gone_85 : decode cX11_gone 85 = .ok (.getfield 56, 3) := by decide +kernel
theorem dX11_gone_88 : decode cX11_gone 88 = .ok (.getfield 156, 3) := by decide +kernel
theorem dX11_gone_91 : decode cX11_gone 91 = .ok (.goto 5, 3) := by decide +kernel
theorem dX11_gone_94 : decode cX11_gone 94 = .ok (.bipush (-3), 2) := by decide +kernel
theorem dX11_gone_96 : decode cX11_gone 96 = .ok (.istore_n 2, 1) := by decide +kernel
theorem dX11_gone_97 : decode cX11_gone 97 = .ok (.aload_n 0, 1) := by decide +kernel
theorem dX11_gone_98 : decode cX11_gone 98 = .ok (.getfield 56, 3) := by decide +kernel
theorem dX11_gone_101 : decode cX11_gone 101 = .ok (.iconst 0, 1) := by decide +kernel
theorem dX11_gone_102 : decode cX11_gone 102 = .ok (.invokevirtual 218, 3) := by decide +kernel
theorem dX11_gone_105 : decode cX11_gone 105 = .ok (.iload_n 2, 1) := by decide +kernel
theorem dX11_gone_106 : decode cX11_gone 106 = .ok (.ireturn, 1) := by decide +kernel
theorem oX11_gone_0 : oP MT mX11_gone 0 (1, 1, 0, 1, []) := o_aload_n dX11_gone_0 rfl
theorem oX11_gone_1 : oP MT mX11_gone 1 (13, 3, 0, 11, []) := o_getR (M := mX11_gone) (C := RX11) (T := TX11) (ci := 11) (j := 0) (z := 11) dX11_gone_1 rfl lq_RX11_56 rfl rfl
theorem oX11_gone_4 : oP MT mX11_gone 4 (1, 1, 1, 0, []) := o_iload_n dX11_gone_4 rfl
theorem oX11_gone_5 : oP MT mX11_gone 5 (26, 3, 0, 1, [(1, 26)]) := o_callO ((vA.cons (v_callV dX11_gone_5 (ci := 1) rfl rfl (mj := mX1_isKey) mt_X1_isKey cmq_X1_isKey wq_388 wq_120 wq_121 (by decide) (by decide)) vA.nil))
theorem oX11_gone_8 : oP MT mX11_gone 8 (10, 3, 1, 13, []) := o_if_ne dX11_gone_8 (by decide) (by decide)
theorem oX11_gone_11 : oP MT mX11_gone 11 (0, 1, 0, (-1), []) := o_iconst dX11_gone_11 (by decide)
theorem oX11_gone_12 : oP MT mX11_gone 12 (21, 1, 0, 0, []) := o_iret dX11_gone_12 rfl
theorem oX11_gone_13 : oP MT mX11_gone 13 (1, 1, 0, 1, []) := o_aload_n dX11_gone_13 rfl
theorem oX11_gone_14 : oP MT mX11_gone 14 (13, 3, 0, 11, []) := o_getR (M := mX11_gone) (C := RX11) (T := TX11) (ci := 11) (j := 0) (z := 11) dX11_gone_14 rfl lq_RX11_56 rfl rfl
theorem oX11_gone_17 : oP MT mX11_gone 17 (0, 1, 0, 0, []) := o_iconst dX11_gone_17 (by decide)
theorem oX11_gone_18 : oP MT mX11_gone 18 (26, 3, 0, 1, [(1, 50)]) := o_callO ((vA.cons (v_callV dX11_gone_18 (ci := 1) rfl rfl (mj := mX1_save) mt_X1_save cmq_X1_save wq_310 wq_312 wq_313 (by decide) (by decide)) vA.nil))
theorem oX11_gone_21 : oP MT mX11_gone 21 (0, 1, 0, 0, []) := o_iconst dX11_gone_21 (by decide)
theorem oX11_gone_22 : oP MT mX11_gone 22 (2, 1, 2, 0, []) := o_istore_n dX11_gone_22 rfl (by decide)
theorem oX11_gone_23 : oP MT mX11_gone 23 (1, 1, 2, 0, []) := o_iload_n dX11_gone_23 rfl
theorem oX11_gone_24 : oP MT mX11_gone 24 (0, 2, 0, 16, []) := o_bipush dX11_gone_24 (by decide)
theorem oX11_gone_26 : oP MT mX11_gone 26 (11, 3, 3, 72, []) := o_icmp_ge dX11_gone_26 (by decide) (by decide)
theorem oX11_gone_29 : oP MT mX11_gone 29 (1, 1, 0, 1, []) := o_aload_n dX11_gone_29 rfl
theorem oX11_gone_30 : oP MT mX11_gone 30 (13, 3, 0, 11, []) := o_getR (M := mX11_gone) (C := RX11) (T := TX11) (ci := 11) (j := 0) (z := 11) dX11_gone_30 rfl lq_RX11_56 rfl rfl
theorem oX11_gone_33 : oP MT mX11_gone 33 (13, 3, 11, 1, []) := o_getR (M := mX11_gone) (C := RX1) (T := TX1) (ci := 1) (j := 11) (z := 1) dX11_gone_33 rfl lq_RX11_104 rfl rfl
theorem oX11_gone_36 : oP MT mX11_gone 36 (1, 1, 1, 0, []) := o_iload_n dX11_gone_36 rfl
theorem oX11_gone_37 : oP MT mX11_gone 37 (16, 1, 1, 0, []) := o_iaload dX11_gone_37
theorem oX11_gone_38 : oP MT mX11_gone 38 (10, 3, 5, 72, []) := o_if_le dX11_gone_38 (by decide) (by decide)
theorem oX11_gone_41 : oP MT mX11_gone 41 (1, 1, 0, 1, []) := o_aload_n dX11_gone_41 rfl
theorem oX11_gone_42 : oP MT mX11_gone 42 (13, 3, 0, 11, []) := o_getR (M := mX11_gone) (C := RX11) (T := TX11) (ci := 11) (j := 0) (z := 11) dX11_gone_42 rfl lq_RX11_56 rfl rfl
theorem oX11_gone_45 : oP MT mX11_gone 45 (26, 3, 0, 0, [(1, 31)]) := o_callO ((vA.cons (v_callV dX11_gone_45 (ci := 1) rfl rfl (mj := mX1_isOver) mt_X1_isOver cmq_X1_isOver wq_375 wq_201 wq_202 (by decide) (by decide)) vA.nil))
theorem oX11_gone_48 : oP MT mX11_gone 48 (10, 3, 1, 72, []) := o_if_ne dX11_gone_48 (by decide) (by decide)
theorem oX11_gone_51 : oP MT mX11_gone 51 (1, 1, 0, 1, []) := o_aload_n dX11_gone_51 rfl
theorem oX11_gone_52 : oP MT mX11_gone 52 (13, 3, 0, 11, []) := o_getR (M := mX11_gone) (C := RX11) (T := TX11) (ci := 11) (j := 0) (z := 11) dX11_gone_52 rfl lq_RX11_56 rfl rfl
theorem oX11_gone_55 : oP MT mX11_gone 55 (1, 1, 0, 1, []) := o_aload_n dX11_gone_55 rfl
theorem oX11_gone_56 : oP MT mX11_gone 56 (13, 3, 0, 11, []) := o_getR (M := mX11_gone) (C := RX11) (T := TX11) (ci := 11) (j := 0) (z := 11) dX11_gone_56 rfl lq_RX11_56 rfl rfl
theorem oX11_gone_59 : oP MT mX11_gone 59 (26, 3, 0, 0, [(1, 32)]) := o_callO ((vA.cons (v_callV dX11_gone_59 (ci := 1) rfl rfl (mj := mX1_restAct) mt_X1_restAct cmq_X1_restAct wq_694 wq_308 wq_309 (by decide) (by decide)) vA.nil))
theorem oX11_gone_62 : oP MT mX11_gone 62 (26, 3, 0, 1, [(1, 81)]) := o_callO ((vA.cons (v_callV dX11_gone_62 (ci := 1) rfl rfl (mj := mX1_goBy) mt_X1_goBy cmq_X1_goBy wq_380 wq_382 wq_383 (by decide) (by decide)) vA.nil))
theorem oX11_gone_65 : oP MT mX11_gone 65 (8, 1, 0, 0, []) := o_pop dX11_gone_65
theorem oX11_gone_66 : oP MT mX11_gone 66 (3, 3, 2, 1, []) := o_iinc dX11_gone_66 (by decide) (by decide)
theorem oX11_gone_69 : oP MT mX11_gone 69 (9, 3, 23, 0, []) := o_goto dX11_gone_69 (by decide)
theorem oX11_gone_72 : oP MT mX11_gone 72 (1, 1, 0, 1, []) := o_aload_n dX11_gone_72 rfl
theorem oX11_gone_73 : oP MT mX11_gone 73 (13, 3, 0, 11, []) := o_getR (M := mX11_gone) (C := RX11) (T := TX11) (ci := 11) (j := 0) (z := 11) dX11_gone_73 rfl lq_RX11_56 rfl rfl
theorem oX11_gone_76 : oP MT mX11_gone 76 (13, 3, 11, 1, []) := o_getR (M := mX11_gone) (C := RX1) (T := TX1) (ci := 1) (j := 11) (z := 1) dX11_gone_76 rfl lq_RX11_104 rfl rfl
theorem oX11_gone_79 : oP MT mX11_gone 79 (1, 1, 1, 0, []) := o_iload_n dX11_gone_79 rfl
theorem oX11_gone_80 : oP MT mX11_gone 80 (16, 1, 1, 0, []) := o_iaload dX11_gone_80
theorem oX11_gone_81 : oP MT mX11_gone 81 (10, 3, 1, 94, []) := o_if_ne dX11_gone_81 (by decide) (by decide)
theorem oX11_gone_84 : oP MT mX11_gone 84 (1, 1, 0, 1, []) := o_aload_n dX11_gone_84 rfl
theorem oX11_gone_85 : oP MT mX11_gone 85 (13, 3, 0, 11, []) := o_getR (M := mX11_gone) (C := RX11) (T := TX11) (ci := 11) (j := 0) (z := 11) dX11_gone_85 rfl lq_RX11_56 rfl rfl
theorem oX11_gone_88 : oP MT mX11_gone 88 (12, 3, 1, 1, []) := o_getI (M := mX11_gone) (C := RX1) (T := TX1) (ci := 1) (j := 1) (z := 1) dX11_gone_88 rfl lq_RX11_156 rfl rfl
theorem oX11_gone_91 : oP MT mX11_gone 91 (9, 3, 96, 0, []) := o_goto dX11_gone_91 (by decide)
theorem oX11_gone_94 : oP MT mX11_gone 94 (0, 2, 0, (-3), []) := o_bipush dX11_gone_94 (by decide)
theorem oX11_gone_96 : oP MT mX11_gone 96 (2, 1, 2, 0, []) := o_istore_n dX11_gone_96 rfl (by decide)
theorem oX11_gone_97 : oP MT mX11_gone 97 (1, 1, 0, 1, []) := o_aload_n dX11_gone_97 rfl
theorem oX11_gone_98 : oP MT mX11_gone 98 (13, 3, 0, 11, []) := o_getR (M := mX11_gone) (C := RX11) (T := TX11) (ci := 11) (j := 0) (z := 11) dX11_gone_98 rfl lq_RX11_56 rfl rfl
theorem oX11_gone_101 : oP MT mX11_gone 101 (0, 1, 0, 0, []) := o_iconst dX11_gone_101 (by decide)
theorem oX11_gone_102 : oP MT mX11_gone 102 (26, 3, 0, 1, [(1, 51)]) := o_callO ((vA.cons (v_callV dX11_gone_102 (ci := 1) rfl rfl (mj := mX1_restore) mt_X1_restore cmq_X1_restore wq_318 wq_320 wq_321 (by decide) (by decide)) vA.nil))
theorem oX11_gone_105 : oP MT mX11_gone 105 (1, 1, 2, 0, []) := o_iload_n dX11_gone_105 rfl
theorem oX11_gone_106 : oP MT mX11_gone 106 (21, 1, 0, 0, []) := o_iret dX11_gone_106 rfl
def ops_X11_gone : List (Nat × aO) := [(0, (1, 1, 0, 1, [])), (1, (13, 3, 0, 11, [])), (4, (1, 1, 1, 0, [])), (5, (26, 3, 0, 1, [(1, 26)])), (8, (10, 3, 1, 13, [])), (11, (0, 1, 0, (-1), [])), (12, (21, 1, 0, 0, [])), (13, (1, 1, 0, 1, [])), (14, (13, 3, 0, 11, [])), (17, (0, 1, 0, 0, [])), (18, (26, 3, 0, 1, [(1, 50)])), (21, (0, 1, 0, 0, [])), (22, (2, 1, 2, 0, [])), (23, (1, 1, 2, 0, [])), (24, (0, 2, 0, 16, [])), (26, (11, 3, 3, 72, [])), (29, (1, 1, 0, 1, [])), (30, (13, 3, 0, 11, [])), (33, (13, 3, 11, 1, [])), (36, (1, 1, 1, 0, [])), (37, (16, 1, 1, 0, [])), (38, (10, 3, 5, 72, [])), (41, (1, 1, 0, 1, [])), (42, (13, 3, 0, 11, [])), (45, (26, 3, 0, 0, [(1, 31)])), (48, (10, 3, 1, 72, [])), (51, (1, 1, 0, 1, [])), (52, (13, 3, 0, 11, [])), (55, (1, 1, 0, 1, [])), (56, (13, 3, 0, 11, [])), (59, (26, 3, 0, 0, [(1, 32)])), (62, (26, 3, 0, 1, [(1, 81)])), (65, (8, 1, 0, 0, [])), (66, (3, 3, 2, 1, [])), (69, (9, 3, 23, 0, [])), (72, (1, 1, 0, 1, [])), (73, (13, 3, 0, 11, [])), (76, (13, 3, 11, 1, [])), (79, (1, 1, 1, 0, [])), (80, (16, 1, 1, 0, [])), (81, (10, 3, 1, 94, [])), (84, (1, 1, 0, 1, [])), (85, (13, 3, 0, 11, [])), (88, (12, 3, 1, 1, [])), (91, (9, 3, 96, 0, [])), (94, (0, 2, 0, (-3), [])), (96, (2, 1, 2, 0, [])), (97, (1, 1, 0, 1, [])), (98, (13, 3, 0, 11, [])), (101, (0, 1, 0, 0, [])), (102, (26, 3, 0, 1, [(1, 51)])), (105, (1, 1, 2, 0, [])), (106, (21, 1, 0, 0, []))]
theorem os_X11_gone : oA MT mX11_gone ops_X11_gone := (oA.cons oX11_gone_0 (oA.cons oX11_gone_1 (oA.cons oX11_gone_4 (oA.cons oX11_gone_5 (oA.cons oX11_gone_8 (oA.cons oX11_gone_11 (oA.cons oX11_gone_12 (oA.cons oX11_gone_13 (oA.cons oX11_gone_14 (oA.cons oX11_gone_17 (oA.cons oX11_gone_18 (oA.cons oX11_gone_21 (oA.cons oX11_gone_22 (oA.cons oX11_gone_23 (oA.cons oX11_gone_24 (oA.cons oX11_gone_26 (oA.cons oX11_gone_29 (oA.cons oX11_gone_30 (oA.cons oX11_gone_33 (oA.cons oX11_gone_36 (oA.cons oX11_gone_37 (oA.cons oX11_gone_38 (oA.cons oX11_gone_41 (oA.cons oX11_gone_42 (oA.cons oX11_gone_45 (oA.cons oX11_gone_48 (oA.cons oX11_gone_51 (oA.cons oX11_gone_52 (oA.cons oX11_gone_55 (oA.cons oX11_gone_56 (oA.cons oX11_gone_59 (oA.cons oX11_gone_62 (oA.cons oX11_gone_65 (oA.cons oX11_gone_66 (oA.cons oX11_gone_69 (oA.cons oX11_gone_72 (oA.cons oX11_gone_73 (oA.cons oX11_gone_76 (oA.cons oX11_gone_79 (oA.cons oX11_gone_80 (oA.cons oX11_gone_81 (oA.cons oX11_gone_84 (oA.cons oX11_gone_85 (oA.cons oX11_gone_88 (oA.cons oX11_gone_91 (oA.cons oX11_gone_94 (oA.cons oX11_gone_96 (oA.cons oX11_gone_97 (oA.cons oX11_gone_98 (oA.cons oX11_gone_101 (oA.cons oX11_gone_102 (oA.cons oX11_gone_105 (oA.cons oX11_gone_106 oA.nil)))))))))))))))))))))))))))))))))))))))))))))))))))))
theorem dX11_opens_0 : decode cX11_opens 0 = .ok (.aload_n 0, 1) := by decide +kernel
theorem dX11_opens_1 : decode cX11_opens 1 = .ok (.getfield 56, 3) := by decide +kernel
theorem dX11_opens_4 : decode cX11_opens 4 = .ok (.iload_n 1, 1) := by decide +kernel
theorem dX11_opens_5 : decode cX11_opens 5 = .ok (.invokevirtual 113, 3) := by decide +kernel
theorem dX11_opens_8 : decode cX11_opens 8 = .ok (.ifCond .ne 5, 3) := by decide +kernel
theorem dX11_opens_11 : decode cX11_opens 11 = .ok (.iconst (-1), 1) := by decide +kernel
theorem dX11_opens_12 : decode cX11_opens 12 = .ok (.ireturn, 1) := by decide +kernel
theorem dX11_opens_13 : decode cX11_opens 13 = .ok (.iconst 0, 1) := by decide +kernel
theorem dX11_opens_14 : decode cX11_opens 14 = .ok (.istore_n 2, 1) := by decide +kernel
theorem dX11_opens_15 : decode cX11_opens 15 = .ok (.iconst 0, 1) := by decide +kernel
theorem dX11_opens_16 : decode cX11_opens 16 = .ok (.istore_n 3, 1) := by decide +kernel
theorem dX11_opens_17 : decode cX11_opens 17 = .ok (.iload_n 3, 1) := by decide +kernel
theorem dX11_opens_18 : decode cX11_opens 18 = .ok (.bipush 9, 2) := by decide +kernel
theorem dX11_opens_20 : decode cX11_opens 20 = .ok (.if_icmp .gt 27, 3) := by decide +kernel
theorem dX11_opens_23 : decode cX11_opens 23 = .ok (.aload_n 0, 1) := by decide +kernel
theorem dX11_opens_24 : decode cX11_opens 24 = .ok (.getfield 56, 3) := by decide +kernel
theorem dX11_opens_27 : decode cX11_opens 27 = .ok (.iload_n 1, 1) := by decide +kernel
theorem dX11_opens_28 : decode cX11_opens 28 = .ok (.iload_n 3, 1) := by decide +kernel
theorem dX11_opens_29 : decode cX11_opens 29 = .ok (.invokevirtual 225, 3) := by decide +kernel
theorem dX11_opens_32 : decode cX11_opens 32 = .ok (.ifCond .eq 9, 3) := by decide +kernel
theorem dX11_opens_35 : decode cX11_opens 35 = .ok (.iload_n 2, 1) := by decide +kernel
theorem dX11_opens_36 : decode cX11_opens 36 = .ok (.iconst 1, 1) := by decide +kernel
theorem dX11_opens_37 : decode cX11_opens 37 = .ok (.iload_n 3, 1) := by decide +kernel
theorem dX11_opens_38 : decode cX11_opens 38 = .ok (.ishl, 1) := by decide +kernel
theorem dX11_opens_39 : decode cX11_opens 39 = .ok (.ior, 1) := by decide +kernel
theorem dX11_opens_40 : decode cX11_opens 40 = .ok (.istore_n 2, 1) := by decide +kernel
theorem dX11_opens_41 : decode cX11_opens 41 = .ok (.iinc 3 1, 3) := by decide +kernel
theorem dX11_opens_44 : decode cX11_opens 44 = .ok (.goto (-27), 3) := by decide +kernel
theorem dX11_opens_47 : decode cX11_opens 47 = .ok (.iload_n 2, 1) := by decide +kernel
theorem dX11_opens_48 : decode cX11_opens 48 = .ok (.ireturn, 1) := by decide +kernel
theorem oX11_opens_0 : oP MT mX11_opens 0 (1, 1, 0, 1, []) := o_aload_n dX11_opens_0 rfl
theorem oX11_opens_1 : oP MT mX11_opens 1 (13, 3, 0, 11, []) := o_getR (M := mX11_opens) (C := RX11) (T := TX11) (ci := 11) (j := 0) (z := 11) dX11_opens_1 rfl lq_RX11_56 rfl rfl
theorem oX11_opens_4 : oP MT mX11_opens 4 (1, 1, 1, 0, []) := o_iload_n dX11_opens_4 rfl
theorem oX11_opens_5 : oP MT mX11_opens 5 (26, 3, 0, 1, [(1, 26)]) := o_callO ((vA.cons (v_callV dX11_opens_5 (ci := 1) rfl rfl (mj := mX1_isKey) mt_X1_isKey cmq_X1_isKey wq_388 wq_120 wq_121 (by decide) (by decide)) vA.nil))
theorem oX11_opens_8 : oP MT mX11_opens 8 (10, 3, 1, 13, []) := o_if_ne dX11_opens_8 (by decide) (by decide)
theorem oX11_opens_11 : oP MT mX11_opens 11 (0, 1, 0, (-1), []) := o_iconst dX11_opens_11 (by decide)
theorem oX11_opens_12 : oP MT mX11_opens 12 (21, 1, 0, 0, []) := o_iret dX11_opens_12 rfl
theorem oX11_opens_13 : oP MT mX11_opens 13 (0, 1, 0, 0, []) := o_iconst dX11_opens_13 (by decide)
theorem oX11_opens_14 : oP MT mX11_opens 14 (2, 1, 2, 0, []) := o_istore_n dX11_opens_14 rfl (by decide)
theorem oX11_opens_15 : oP MT mX11_opens 15 (0, 1, 0, 0, []) := o_iconst dX11_opens_15 (by decide)
theorem oX11_opens_16 : oP MT mX11_opens 16 (2, 1, 3, 0, []) := o_istore_n dX11_opens_16 rfl (by decide)
theorem oX11_opens_17 : oP MT mX11_opens 17 (1, 1, 3, 0, []) := o_iload_n dX11_opens_17 rfl
theorem oX11_opens_18 : oP MT mX11_opens 18 (0, 2, 0, 9, []) := o_bipush dX11_opens_18 (by decide)
theorem oX11_opens_20 : oP MT mX11_opens 20 (11, 3, 4, 47, []) := o_icmp_gt dX11_opens_20 (by decide) (by decide)
theorem oX11_opens_23 : oP MT mX11_opens 23 (1, 1, 0, 1, []) := o_aload_n dX11_opens_23 rfl
theorem oX11_opens_24 : oP MT mX11_opens 24 (13, 3, 0, 11, []) := o_getR (M := mX11_opens) (C := RX11) (T := TX11) (ci := 11) (j := 0) (z := 11) dX11_opens_24 rfl lq_RX11_56 rfl rfl
theorem oX11_opens_27 : oP MT mX11_opens 27 (1, 1, 1, 0, []) := o_iload_n dX11_opens_27 rfl
theorem oX11_opens_28 : oP MT mX11_opens 28 (1, 1, 3, 0, []) := o_iload_n dX11_opens_28 rfl
theorem oX11_opens_29 : oP MT mX11_opens 29 (26, 3, 0, 2, [(1, 18)]) := o_callO ((vA.cons (v_callV dX11_opens_29 (ci := 1) rfl rfl (mj := mX1_fitsWard) mt_X1_fitsWard cmq_X1_fitsWard wq_707 wq_86 wq_87 (by decide) (by decide)) vA.nil))
theorem oX11_opens_32 : oP MT mX11_opens 32 (10, 3, 0, 41, []) := o_if_eq dX11_opens_32 (by decide) (by decide)
theorem oX11_opens_35 : oP MT mX11_opens 35 (1, 1, 2, 0, []) := o_iload_n dX11_opens_35 rfl
theorem oX11_opens_36 : oP MT mX11_opens 36 (0, 1, 0, 1, []) := o_iconst dX11_opens_36 (by decide)
theorem oX11_opens_37 : oP MT mX11_opens 37 (1, 1, 3, 0, []) := o_iload_n dX11_opens_37 rfl
theorem oX11_opens_38 : oP MT mX11_opens 38 (4, 1, 6, 0, []) := o_ishl dX11_opens_38
theorem oX11_opens_39 : oP MT mX11_opens 39 (4, 1, 4, 0, []) := o_ior dX11_opens_39
theorem oX11_opens_40 : oP MT mX11_opens 40 (2, 1, 2, 0, []) := o_istore_n dX11_opens_40 rfl (by decide)
theorem oX11_opens_41 : oP MT mX11_opens 41 (3, 3, 3, 1, []) := o_iinc dX11_opens_41 (by decide) (by decide)
theorem oX11_opens_44 : oP MT mX11_opens 44 (9, 3, 17, 0, []) := o_goto dX11_opens_44 (by decide)
theorem oX11_opens_47 : oP MT mX11_opens 47 (1, 1, 2, 0, []) := o_iload_n dX11_opens_47 rfl
theorem oX11_opens_48 : oP MT mX11_opens 48 (21, 1, 0, 0, []) := o_iret dX11_opens_48 rfl
def ops_X11_opens : List (Nat × aO) := [(0, (1, 1, 0, 1, [])), (1, (13, 3, 0, 11, [])), (4, (1, 1, 1, 0, [])), (5, (26, 3, 0, 1, [(1, 26)])), (8, (10, 3, 1, 13, [])), (11, (0, 1, 0, (-1), [])), (12, (21, 1, 0, 0, [])), (13, (0, 1, 0, 0, [])), (14, (2, 1, 2, 0, [])), (15, (0, 1, 0, 0, [])), (16, (2, 1, 3, 0, [])), (17, (1, 1, 3, 0, [])), (18, (0, 2, 0, 9, [])), (20, (11, 3, 4, 47, [])), (23, (1, 1, 0, 1, [])), (24, (13, 3, 0, 11, [])), (27, (1, 1, 1, 0, [])), (28, (1, 1, 3, 0, [])), (29, (26, 3, 0, 2, [(1, 18)])), (32, (10, 3, 0, 41, [])), (35, (1, 1, 2, 0, [])), (36, (0, 1, 0, 1, [])), (37, (1, 1, 3, 0, [])), (38, (4, 1, 6, 0, [])), (39, (4, 1, 4, 0, [])), (40, (2, 1, 2, 0, [])), (41, (3, 3, 3, 1, [])), (44, (9, 3, 17, 0, [])), (47, (1, 1, 2, 0, [])), (48, (21, 1, 0, 0, []))]
theorem os_X11_opens : oA MT mX11_opens ops_X11_opens := (oA.cons oX11_opens_0 (oA.cons oX11_opens_1 (oA.cons oX11_opens_4 (oA.cons oX11_opens_5 (oA.cons oX11_opens_8 (oA.cons oX11_opens_11 (oA.cons oX11_opens_12 (oA.cons oX11_opens_13 (oA.cons oX11_opens_14 (oA.cons oX11_opens_15 (oA.cons oX11_opens_16 (oA.cons oX11_opens_17 (oA.cons oX11_opens_18 (oA.cons oX11_opens_20 (oA.cons oX11_opens_23 (oA.cons oX11_opens_24 (oA.cons oX11_opens_27 (oA.cons oX11_opens_28 (oA.cons oX11_opens_29 (oA.cons oX11_opens_32 (oA.cons oX11_opens_35 (oA.cons oX11_opens_36 (oA.cons oX11_opens_37 (oA.cons oX11_opens_38 (oA.cons oX11_opens_39 (oA.cons oX11_opens_40 (oA.cons oX11_opens_41 (oA.cons oX11_opens_44 (oA.cons oX11_opens_47 (oA.cons oX11_opens_48 oA.nil))))))))))))))))))))))))))))))
theorem dX11_left_0 : decode cX11_left 0 = .ok (.iload_n 1, 1) := by decide +kernel
theorem dX11_left_1 : decode cX11_left 1 = .ok (.iconst 0, 1) := by decide +kernel
theorem dX11_left_2 : decode cX11_left 2 = .ok (.bipush 16, 2) := by decide +kernel
theorem dX11_left_4 : decode cX11_left 4 = .ok (.invokestatic 90, 3) := by decide +kernel
theorem dX11_left_7 : decode cX11_left 7 = .ok (.ifCond .eq 12, 3) := by decide +kernel
theorem dX11_left_10 : decode cX11_left 10 = .ok (.iload_n 2, 1) := by decide +kernel
theorem dX11_left_11 : decode cX11_left 11 = .ok (.iconst 0, 1) := by decide +kernel
theorem dX11_left_12 : decode cX11_left 12 = .ok (.iconst 1, 1) := by decide +kernel
theorem dX11_left_13 : decode cX11_left 13 = .ok (.invokestatic 90, 3) := by decide +kernel
theorem dX11_left_16 : decode cX11_left 16 = .ok (.ifCond .ne 5, 3) := by decide +kernel
theorem dX11_left_19 : decode cX11_left 19 = .ok (.iconst (-1), 1) := by decide +kernel
theorem dX11_left_20 : decode cX11_left 20 = .ok (.ireturn, 1) := by decide +kernel
theorem dX11_left_21 : decode cX11_left 21 = .ok (.aload_n 0, 1) := by decide +kernel
theorem dX11_left_22 : decode cX11_left 22 = .ok (.getfield 56, 3) := by decide +kernel
theorem dX11_left_25 : decode cX11_left 25 = .ok (.iconst 0, 1) := by decide +kernel
theorem dX11_left_26 : decode cX11_left 26 = .ok (.invokevirtual 212, 3) := by decide +kernel
theorem dX11_left_29 : decode cX11_left 29 = .ok (.aload_n 0, 1) := by decide +kernel
theorem dX11_left_30 : decode cX11_left 30 = .ok (.getfield 56, 3) := by decide +kernel
theorem dX11_left_33 : decode cX11_left 33 = .ok (.iload_n 1, 1) := by decide +kernel
theorem dX11_left_34 : decode cX11_left 34 = .ok (.invokevirtual 215, 3) := by decide +kernel
theorem dX11_left_37 : decode cX11_left 37 = .ok (.pop, 1) := by decide +kernel
theorem dX11_left_38 : decode cX11_left 38 = .ok (.iload_n 2, 1) := by decide +kernel
theorem dX11_left_39 : decode cX11_left 39 = .ok (.ifCond .ne 13, 3) := by decide +kernel
theorem dX11_left_42 : decode cX11_left 42 = .ok (.aload_n 0, 1) := by decide +kernel
theorem dX11_left_43 : decode cX11_left 43 = .ok (.getfield 56, 3) := by decide +kernel
theorem dX11_left_46 : decode cX11_left 46 = .ok (.invokevirtual 175, 3) := by decide +kernel
theorem dX11_left_49 : decode cX11_left 49 = .ok (.goto 10, 3) := by decide +kernel
theorem dX11_left_52 : decode cX11_left 52 = .ok (.aload_n 0, 1) := by decide +kernel
theorem dX11_left_53 : decode cX11_left 53 = .ok (.getfield 56, 3) := by decide +kernel
theorem dX11_left_56 : decode cX11_left 56 = .ok (.getfield 165, 3) := by decide +kernel
theorem dX11_left_59 : decode cX11_left 59 = .ok (.istore_n 3, 1) := by decide +kernel
theorem dX11_left_60 : decode cX11_left 60 = .ok (.aload_n 0, 1) := by decide +kernel
theorem dX11_left_61 : decode cX11_left 61 = .ok (.getfield 56, 3) := by decide +kernel
theorem dX11_left_64 : decode cX11_left 64 = .ok (.iconst 0, 1) := by decide +kernel
theorem dX11_left_65 : decode cX11_left 65 = .ok (.invokevirtual 218, 3) := by decide +kernel
theorem dX11_left_68 : decode cX11_left 68 = .ok (.iload_n 3, 1) := by decide +kernel
theorem dX11_left_69 : decode cX11_left 69 = .ok (.ireturn, 1) := by decide +kernel
theorem oX11_left_0 : oP MT mX11_left 0 (1, 1, 1, 0, []) := o_iload_n dX11_left_0 rfl
theorem oX11_left_1 : oP MT mX11_left 1 (0, 1, 0, 0, []) := o_iconst dX11_left_1 (by decide)
theorem oX11_left_2 : oP MT mX11_left 2 (0, 2, 0, 16, []) := o_bipush dX11_left_2 (by decide)
theorem oX11_left_4 : oP MT mX11_left 4 (25, 3, 37, 3, []) := o_callS dX11_left_4 (mj := mX11_isIn) mt_X11_isIn cmq_X11_isIn wq_282 wq_144 (by decide) (by decide)
theorem oX11_left_7 : oP MT mX11_left 7 (10, 3, 0, 19, []) := o_if_eq dX11_left_7 (by decide) (by decide)
theorem oX11_left_10 : oP MT mX11_left 10 (1, 1, 2, 0, []) := o_iload_n dX11_left_10 rfl
theorem oX11_left_11 : oP MT mX11_left 11 (0, 1, 0, 0, []) := o_iconst dX11_left_11 (by decide)
theorem oX11_left_12 : oP MT mX11_left 12 (0, 1, 0, 1, []) := o_iconst dX11_left_12 (by decide)
theorem oX11_left_13 : oP MT mX11_left 13 (25, 3, 37, 3, []) := o_callS dX11_left_13 (mj := mX11_isIn) mt_X11_isIn cmq_X11_isIn wq_282 wq_144 (by decide) (by decide)
theorem oX11_left_16 : oP MT mX11_left 16 (10, 3, 1, 21, []) := o_if_ne dX11_left_16 (by decide) (by decide)
theorem oX11_left_19 : oP MT mX11_left 19 (0, 1, 0, (-1), []) := o_iconst dX11_left_19 (by decide)
theorem oX11_left_20 : oP MT mX11_left 20 (21, 1, 0, 0, []) := o_iret dX11_left_20 rfl
theorem oX11_left_21 : oP MT mX11_left 21 (1, 1, 0, 1, []) := o_aload_n dX11_left_21 rfl
theorem oX11_left_22 : oP MT mX11_left 22 (13, 3, 0, 11, []) := o_getR (M := mX11_left) (C := RX11) (T := TX11) (ci := 11) (j := 0) (z := 11) dX11_left_22 rfl lq_RX11_56 rfl rfl
theorem oX11_left_25 : oP MT mX11_left 25 (0, 1, 0, 0, []) := o_iconst dX11_left_25 (by decide)
theorem oX11_left_26 : oP MT mX11_left 26 (26, 3, 0, 1, [(1, 50)]) := o_callO ((vA.cons (v_callV dX11_left_26 (ci := 1) rfl rfl (mj := mX1_save) mt_X1_save cmq_X1_save wq_310 wq_312 wq_313 (by decide) (by decide)) vA.nil))
theorem oX11_left_29 : oP MT mX11_left 29 (1, 1, 0, 1, []) := o_aload_n dX11_left_29 rfl
theorem oX11_left_30 : oP MT mX11_left 30 (13, 3, 0, 11, []) := o_getR (M := mX11_left) (C := RX11) (T := TX11) (ci := 11) (j := 0) (z := 11) dX11_left_30 rfl lq_RX11_56 rfl rfl
theorem oX11_left_33 : oP MT mX11_left 33 (1, 1, 1, 0, []) := o_iload_n dX11_left_33 rfl
theorem oX11_left_34 : oP MT mX11_left 34 (26, 3, 0, 1, [(1, 83)]) := o_callO ((vA.cons (v_callV dX11_left_34 (ci := 1) rfl rfl (mj := mX1_goRest) mt_X1_goRest cmq_X1_goRest wq_314 wq_316 wq_317 (by decide) (by decide)) vA.nil))
theorem oX11_left_37 : oP MT mX11_left 37 (8, 1, 0, 0, []) := o_pop dX11_left_37
theorem oX11_left_38 : oP MT mX11_left 38 (1, 1, 2, 0, []) := o_iload_n dX11_left_38 rfl
theorem oX11_left_39 : oP MT mX11_left 39 (10, 3, 1, 52, []) := o_if_ne dX11_left_39 (by decide) (by decide)
theorem oX11_left_42 : oP MT mX11_left 42 (1, 1, 0, 1, []) := o_aload_n dX11_left_42 rfl
theorem oX11_left_43 : oP MT mX11_left 43 (13, 3, 0, 11, []) := o_getR (M := mX11_left) (C := RX11) (T := TX11) (ci := 11) (j := 0) (z := 11) dX11_left_43 rfl lq_RX11_56 rfl rfl
theorem oX11_left_46 : oP MT mX11_left 46 (26, 3, 0, 0, [(1, 85)]) := o_callO ((vA.cons (v_callV dX11_left_46 (ci := 1) rfl rfl (mj := mX1_allTeeth) mt_X1_allTeeth cmq_X1_allTeeth wq_673 wq_675 wq_676 (by decide) (by decide)) vA.nil))
theorem oX11_left_49 : oP MT mX11_left 49 (9, 3, 59, 0, []) := o_goto dX11_left_49 (by decide)
theorem oX11_left_52 : oP MT mX11_left 52 (1, 1, 0, 1, []) := o_aload_n dX11_left_52 rfl
theorem oX11_left_53 : oP MT mX11_left 53 (13, 3, 0, 11, []) := o_getR (M := mX11_left) (C := RX11) (T := TX11) (ci := 11) (j := 0) (z := 11) dX11_left_53 rfl lq_RX11_56 rfl rfl
theorem oX11_left_56 : oP MT mX11_left 56 (12, 3, 9, 1, []) := o_getI (M := mX11_left) (C := RX1) (T := TX1) (ci := 1) (j := 9) (z := 1) dX11_left_56 rfl lq_RX11_165 rfl rfl
theorem oX11_left_59 : oP MT mX11_left 59 (2, 1, 3, 0, []) := o_istore_n dX11_left_59 rfl (by decide)
theorem oX11_left_60 : oP MT mX11_left 60 (1, 1, 0, 1, []) := o_aload_n dX11_left_60 rfl
theorem oX11_left_61 : oP MT mX11_left 61 (13, 3, 0, 11, []) := o_getR (M := mX11_left) (C := RX11) (T := TX11) (ci := 11) (j := 0) (z := 11) dX11_left_61 rfl lq_RX11_56 rfl rfl
theorem oX11_left_64 : oP MT mX11_left 64 (0, 1, 0, 0, []) := o_iconst dX11_left_64 (by decide)
theorem oX11_left_65 : oP MT mX11_left 65 (26, 3, 0, 1, [(1, 51)]) := o_callO ((vA.cons (v_callV dX11_left_65 (ci := 1) rfl rfl (mj := mX1_restore) mt_X1_restore cmq_X1_restore wq_318 wq_320 wq_321 (by decide) (by decide)) vA.nil))
theorem oX11_left_68 : oP MT mX11_left 68 (1, 1, 3, 0, []) := o_iload_n dX11_left_68 rfl
theorem oX11_left_69 : oP MT mX11_left 69 (21, 1, 0, 0, []) := o_iret dX11_left_69 rfl
def ops_X11_left : List (Nat × aO) := [(0, (1, 1, 1, 0, [])), (1, (0, 1, 0, 0, [])), (2, (0, 2, 0, 16, [])), (4, (25, 3, 37, 3, [])), (7, (10, 3, 0, 19, [])), (10, (1, 1, 2, 0, [])), (11, (0, 1, 0, 0, [])), (12, (0, 1, 0, 1, [])), (13, (25, 3, 37, 3, [])), (16, (10, 3, 1, 21, [])), (19, (0, 1, 0, (-1), [])), (20, (21, 1, 0, 0, [])), (21, (1, 1, 0, 1, [])), (22, (13, 3, 0, 11, [])), (25, (0, 1, 0, 0, [])), (26, (26, 3, 0, 1, [(1, 50)])), (29, (1, 1, 0, 1, [])), (30, (13, 3, 0, 11, [])), (33, (1, 1, 1, 0, [])), (34, (26, 3, 0, 1, [(1, 83)])), (37, (8, 1, 0, 0, [])), (38, (1, 1, 2, 0, [])), (39, (10, 3, 1, 52, [])), (42, (1, 1, 0, 1, [])), (43, (13, 3, 0, 11, [])), (46, (26, 3, 0, 0, [(1, 85)])), (49, (9, 3, 59, 0, [])), (52, (1, 1, 0, 1, [])), (53, (13, 3, 0, 11, [])), (56, (12, 3, 9, 1, [])), (59, (2, 1, 3, 0, [])), (60, (1, 1, 0, 1, [])), (61, (13, 3, 0, 11, [])), (64, (0, 1, 0, 0, [])), (65, (26, 3, 0, 1, [(1, 51)])), (68, (1, 1, 3, 0, [])), (69, (21, 1, 0, 0, []))]
theorem os_X11_left : oA MT mX11_left ops_X11_left := (oA.cons oX11_left_0 (oA.cons oX11_left_1 (oA.cons oX11_left_2 (oA.cons oX11_left_4 (oA.cons oX11_left_7 (oA.cons oX11_left_10 (oA.cons oX11_left_11 (oA.cons oX11_left_12 (oA.cons oX11_left_13 (oA.cons oX11_left_16 (oA.cons oX11_left_19 (oA.cons oX11_left_20 (oA.cons oX11_left_21 (oA.cons oX11_left_22 (oA.cons oX11_left_25 (oA.cons oX11_left_26 (oA.cons oX11_left_29 (oA.cons oX11_left_30 (oA.cons oX11_left_33 (oA.cons oX11_left_34 (oA.cons oX11_left_37 (oA.cons oX11_left_38 (oA.cons oX11_left_39 (oA.cons oX11_left_42 (oA.cons oX11_left_43 (oA.cons oX11_left_46 (oA.cons oX11_left_49 (oA.cons oX11_left_52 (oA.cons oX11_left_53 (oA.cons oX11_left_56 (oA.cons oX11_left_59 (oA.cons oX11_left_60 (oA.cons oX11_left_61 (oA.cons oX11_left_64 (oA.cons oX11_left_65 (oA.cons oX11_left_68 (oA.cons oX11_left_69 oA.nil)))))))))))))))))))))))))))))))))))))
theorem dX11_bunches_0 : decode cX11_bunches 0 = .ok (.iload_n 1, 1) := by decide +kernel
theorem dX11_bunches_1 : decode cX11_bunches 1 = .ok (.iconst (-1), 1) := by decide +kernel
theorem dX11_bunches_2 : decode cX11_bunches 2 = .ok (.if_icmp .ne 8, 3) := by decide +kernel
theorem dX11_bunches_5 : decode cX11_bunches 5 = .ok (.aload_n 0, 1) := by decide +kernel
theorem dX11_bunches_6 : decode cX11_bunches 6 = .ok (.invokevirtual 229, 3) := by decide +kernel
theorem dX11_bunches_9 : decode cX11_bunches 9 = .ok (.ireturn, 1) := by decide +kernel
theorem dX11_bunches_10 : decode cX11_bunches 10 = .ok (.aload_n 0, 1) := by decide +kernel
theorem dX11_bunches_11 : decode cX11_bunches 11 = .ok (.getfield 56, 3) := by decide +kernel
theorem dX11_bunches_14 : decode cX11_bunches 14 = .ok (.iload_n 1, 1) := by decide +kernel
theorem dX11_bunches_15 : decode cX11_bunches 15 = .ok (.invokevirtual 113, 3) := by decide +kernel
theorem dX11_bunches_18 : decode cX11_bunches 18 = .ok (.ifCond .eq 14, 3) := by decide +kernel
theorem dX11_bunches_21 : decode cX11_bunches 21 = .ok (.aload_n 0, 1) := by decide +kernel
theorem dX11_bunches_22 : decode cX11_bunches 22 = .ok (.getfield 56, 3) := by decide +kernel
theorem dX11_bunches_25 : decode cX11_bunches 25 = .ok (.iload_n 1, 1) := by decide +kernel
theorem dX11_bunches_26 : decode cX11_bunches 26 = .ok (.invokevirtual 232, 3) := by decide +kernel
theorem dX11_bunches_29 : decode cX11_bunches 29 = .ok (.goto 4, 3) := by decide +kernel
theorem dX11_bunches_32 : decode cX11_bunches 32 = .ok (.iconst (-1), 1) := by decide +kernel
theorem dX11_bunches_33 : decode cX11_bunches 33 = .ok (.ireturn, 1) := by decide +kernel
theorem oX11_bunches_0 : oP MT mX11_bunches 0 (1, 1, 1, 0, []) := o_iload_n dX11_bunches_0 rfl
theorem oX11_bunches_1 : oP MT mX11_bunches 1 (0, 1, 0, (-1), []) := o_iconst dX11_bunches_1 (by decide)
theorem oX11_bunches_2 : oP MT mX11_bunches 2 (11, 3, 1, 10, []) := o_icmp_ne dX11_bunches_2 (by decide) (by decide)
theorem oX11_bunches_5 : oP MT mX11_bunches 5 (1, 1, 0, 1, []) := o_aload_n dX11_bunches_5 rfl
theorem oX11_bunches_6 : oP MT mX11_bunches 6 (26, 3, 0, 0, [(11, 88)]) := o_callO ((vA.cons (v_callV dX11_bunches_6 (ci := 11) rfl rfl (mj := mX11_countBunches) mt_X11_countBunches cmq_X11_countBunches wq_708 wq_710 wq_711 (by decide) (by decide)) vA.nil))
theorem oX11_bunches_9 : oP MT mX11_bunches 9 (21, 1, 0, 0, []) := o_iret dX11_bunches_9 rfl
theorem oX11_bunches_10 : oP MT mX11_bunches 10 (1, 1, 0, 1, []) := o_aload_n dX11_bunches_10 rfl
theorem oX11_bunches_11 : oP MT mX11_bunches 11 (13, 3, 0, 11, []) := o_getR (M := mX11_bunches) (C := RX11) (T := TX11) (ci := 11) (j := 0) (z := 11) dX11_bunches_11 rfl lq_RX11_56 rfl rfl
theorem oX11_bunches_14 : oP MT mX11_bunches 14 (1, 1, 1, 0, []) := o_iload_n dX11_bunches_14 rfl
theorem oX11_bunches_15 : oP MT mX11_bunches 15 (26, 3, 0, 1, [(1, 26)]) := o_callO ((vA.cons (v_callV dX11_bunches_15 (ci := 1) rfl rfl (mj := mX1_isKey) mt_X1_isKey cmq_X1_isKey wq_388 wq_120 wq_121 (by decide) (by decide)) vA.nil))
theorem oX11_bunches_18 : oP MT mX11_bunches 18 (10, 3, 0, 32, []) := o_if_eq dX11_bunches_18 (by decide) (by decide)
theorem oX11_bunches_21 : oP MT mX11_bunches 21 (1, 1, 0, 1, []) := o_aload_n dX11_bunches_21 rfl
theorem oX11_bunches_22 : oP MT mX11_bunches 22 (13, 3, 0, 11, []) := o_getR (M := mX11_bunches) (C := RX11) (T := TX11) (ci := 11) (j := 0) (z := 11) dX11_bunches_22 rfl lq_RX11_56 rfl rfl
theorem oX11_bunches_25 : oP MT mX11_bunches 25 (1, 1, 1, 0, []) := o_iload_n dX11_bunches_25 rfl
theorem oX11_bunches_26 : oP MT mX11_bunches 26 (26, 3, 0, 1, [(1, 86)]) := o_callO ((vA.cons (v_callV dX11_bunches_26 (ci := 1) rfl rfl (mj := mX1_bunchOf) mt_X1_bunchOf cmq_X1_bunchOf wq_330 wq_332 wq_333 (by decide) (by decide)) vA.nil))
theorem oX11_bunches_29 : oP MT mX11_bunches 29 (9, 3, 33, 0, []) := o_goto dX11_bunches_29 (by decide)
theorem oX11_bunches_32 : oP MT mX11_bunches 32 (0, 1, 0, (-1), []) := o_iconst dX11_bunches_32 (by decide)
theorem oX11_bunches_33 : oP MT mX11_bunches 33 (21, 1, 0, 0, []) := o_iret dX11_bunches_33 rfl
def ops_X11_bunches : List (Nat × aO) := [(0, (1, 1, 1, 0, [])), (1, (0, 1, 0, (-1), [])), (2, (11, 3, 1, 10, [])), (5, (1, 1, 0, 1, [])), (6, (26, 3, 0, 0, [(11, 88)])), (9, (21, 1, 0, 0, [])), (10, (1, 1, 0, 1, [])), (11, (13, 3, 0, 11, [])), (14, (1, 1, 1, 0, [])), (15, (26, 3, 0, 1, [(1, 26)])), (18, (10, 3, 0, 32, [])), (21, (1, 1, 0, 1, [])), (22, (13, 3, 0, 11, [])), (25, (1, 1, 1, 0, [])), (26, (26, 3, 0, 1, [(1, 86)])), (29, (9, 3, 33, 0, [])), (32, (0, 1, 0, (-1), [])), (33, (21, 1, 0, 0, []))]
theorem os_X11_bunches : oA MT mX11_bunches ops_X11_bunches := (oA.cons oX11_bunches_0 (oA.cons oX11_bunches_1 (oA.cons oX11_bunches_2 (oA.cons oX11_bunches_5 (oA.cons oX11_bunches_6 (oA.cons oX11_bunches_9 (oA.cons oX11_bunches_10 (oA.cons oX11_bunches_11 (oA.cons oX11_bunches_14 (oA.cons oX11_bunches_15 (oA.cons oX11_bunches_18 (oA.cons oX11_bunches_21 (oA.cons oX11_bunches_22 (oA.cons oX11_bunches_25 (oA.cons oX11_bunches_26 (oA.cons oX11_bunches_29 (oA.cons oX11_bunches_32 (oA.cons oX11_bunches_33 oA.nil))))))))))))))))))
theorem dX11_best_0 : decode cX11_best 0 = .ok (.iload_n 1, 1) := by decide +kernel
theorem dX11_best_1 : decode cX11_best 1 = .ok (.invokestatic 238, 3) := by decide +kernel
theorem dX11_best_4 : decode cX11_best 4 = .ok (.ifCond .ne 5, 3) := by decide +kernel
theorem dX11_best_7 : decode cX11_best 7 = .ok (.iconst (-1), 1) := by decide +kernel
theorem dX11_best_8 : decode cX11_best 8 = .ok (.ireturn, 1) := by decide +kernel
theorem dX11_best_9 : decode cX11_best 9 = .ok (.aload_n 0, 1) := by decide +kernel
theorem dX11_best_10 : decode cX11_best 10 = .ok (.getfield 68, 3) := by decide +kernel
theorem dX11_best_13 : decode cX11_best 13 = .ok (.iconst 0, 1) := by decide +kernel
theorem dX11_best_14 : decode cX11_best 14 = .ok (.iload_n 1, 1) := by decide +kernel
theorem dX11_best_15 : decode cX11_best 15 = .ok (.invokevirtual 241, 3) := by decide +kernel
theorem dX11_best_18 : decode cX11_best 18 = .ok (.aload_n 0, 1) := by decide +kernel
theorem dX11_best_19 : decode cX11_best 19 = .ok (.getfield 68, 3) := by decide +kernel
theorem dX11_best_22 : decode cX11_best 22 = .ok (.getfield 245, 3) := by decide +kernel
theorem dX11_best_25 : decode cX11_best 25 = .ok (.iconst 0, 1) := by decide +kernel
theorem dX11_best_26 : decode cX11_best 26 = .ok (.iaload, 1) := by decide +kernel
theorem dX11_best_27 : decode cX11_best 27 = .ok (.ireturn, 1) := by decide +kernel
theorem oX11_best_0 : oP MT mX11_best 0 (1, 1, 1, 0, []) := o_iload_n dX11_best_0 rfl
theorem oX11_best_1 : oP MT mX11_best 1 (25, 3, 89, 1, []) := o_callS dX11_best_1 (mj := mX11_isPlan) mt_X11_isPlan cmq_X11_isPlan wq_716 wq_718 (by decide) (by decide)
theorem oX11_best_4 : oP MT mX11_best 4 (10, 3, 1, 9, []) := o_if_ne dX11_best_4 (by decide) (by decide)
theorem oX11_best_7 : oP MT mX11_best 7 (0, 1, 0, (-1), []) := o_iconst dX11_best_7 (by decide)
theorem oX11_best_8 : oP MT mX11_best 8 (21, 1, 0, 0, []) := o_iret dX11_best_8 rfl
theorem oX11_best_9 : oP MT mX11_best 9 (1, 1, 0, 1, []) := o_aload_n dX11_best_9 rfl
theorem oX11_best_10 : oP MT mX11_best 10 (13, 3, 3, 11, []) := o_getR (M := mX11_best) (C := RX11) (T := TX11) (ci := 11) (j := 3) (z := 11) dX11_best_10 rfl lq_RX11_68 rfl rfl
theorem oX11_best_13 : oP MT mX11_best 13 (0, 1, 0, 0, []) := o_iconst dX11_best_13 (by decide)
theorem oX11_best_14 : oP MT mX11_best 14 (1, 1, 1, 0, []) := o_iload_n dX11_best_14 rfl
theorem oX11_best_15 : oP MT mX11_best 15 (26, 3, 0, 2, [(4, 90)]) := o_callO ((vA.cons (v_callVN (host := "IceKeys") dX11_best_15 (ci := 4) rfl rfl (mj := mX4_seek) mt_X4_seek cmq_X4_seek (by decide) wq_347 wq_348 (by decide) (by decide)) vA.nil))
theorem oX11_best_18 : oP MT mX11_best 18 (1, 1, 0, 1, []) := o_aload_n dX11_best_18 rfl
theorem oX11_best_19 : oP MT mX11_best 19 (13, 3, 3, 11, []) := o_getR (M := mX11_best) (C := RX11) (T := TX11) (ci := 11) (j := 3) (z := 11) dX11_best_19 rfl lq_RX11_68 rfl rfl
theorem oX11_best_22 : oP MT mX11_best 22 (13, 3, 1, 4, []) := o_getR (M := mX11_best) (C := RX4) (T := TX4) (ci := 4) (j := 1) (z := 4) dX11_best_22 rfl lq_RX11_245 rfl rfl
theorem oX11_best_25 : oP MT mX11_best 25 (0, 1, 0, 0, []) := o_iconst dX11_best_25 (by decide)
theorem oX11_best_26 : oP MT mX11_best 26 (16, 1, 1, 0, []) := o_iaload dX11_best_26
theorem oX11_best_27 : oP MT mX11_best 27 (21, 1, 0, 0, []) := o_iret dX11_best_27 rfl
def ops_X11_best : List (Nat × aO) := [(0, (1, 1, 1, 0, [])), (1, (25, 3, 89, 1, [])), (4, (10, 3, 1, 9, [])), (7, (0, 1, 0, (-1), [])), (8, (21, 1, 0, 0, [])), (9, (1, 1, 0, 1, [])), (10, (13, 3, 3, 11, [])), (13, (0, 1, 0, 0, [])), (14, (1, 1, 1, 0, [])), (15, (26, 3, 0, 2, [(4, 90)])), (18, (1, 1, 0, 1, [])), (19, (13, 3, 3, 11, [])), (22, (13, 3, 1, 4, [])), (25, (0, 1, 0, 0, [])), (26, (16, 1, 1, 0, [])), (27, (21, 1, 0, 0, []))]
theorem os_X11_best : oA MT mX11_best ops_X11_best := (oA.cons oX11_best_0 (oA.cons oX11_best_1 (oA.cons oX11_best_4 (oA.cons oX11_best_7 (oA.cons oX11_best_8 (oA.cons oX11_best_9 (oA.cons oX11_best_10 (oA.cons oX11_best_13 (oA.cons oX11_best_14 (oA.cons oX11_best_15 (oA.cons oX11_best_18 (oA.cons oX11_best_19 (oA.cons oX11_best_22 (oA.cons oX11_best_25 (oA.cons oX11_best_26 (oA.cons oX11_best_27 oA.nil))))))))))))))))
theorem dX11_ith_0 : decode cX11_ith 0 = .ok (.iload_n 1, 1) := by decide +kernel
theorem dX11_ith_1 : decode cX11_ith 1 = .ok (.invokestatic 238, 3) := by decide +kernel
theorem dX11_ith_4 : decode cX11_ith 4 = .ok (.ifCond .eq 12, 3) := by decide +kernel
theorem dX11_ith_7 : decode cX11_ith 7 = .ok (.iload_n 2, 1) := by decide +kernel
theorem dX11_ith_8 : decode cX11_ith 8 = .ok (.iconst 0, 1) := by decide +kernel
theorem dX11_ith_9 : decode cX11_ith 9 = .ok (.iconst 3, 1) := by decide +kernel
theorem dX11_ith_10 : decode cX11_ith 10 = .ok (.invokestatic 90, 3) := by decide +kernel
theorem dX11_ith_13 : decode cX11_ith 13 = .ok (.ifCond .ne 5, 3) := by decide +kernel
theorem dX11_ith_16 : decode cX11_ith 16 = .ok (.iconst (-1), 1) := by decide +kernel
theorem dX11_ith_17 : decode cX11_ith 17 = .ok (.ireturn, 1) := by decide +kernel
theorem dX11_ith_18 : decode cX11_ith 18 = .ok (.iload_n 2, 1) := by decide +kernel
theorem dX11_ith_19 : decode cX11_ith 19 = .ok (.aload_n 0, 1) := by decide +kernel
theorem dX11_ith_20 : decode cX11_ith 20 = .ok (.getfield 56, 3) := by decide +kernel
theorem dX11_ith_23 : decode cX11_ith 23 = .ok (.iload_n 1, 1) := by decide +kernel
theorem dX11_ith_24 : decode cX11_ith 24 = .ok (.invokevirtual 248, 3) := by decide +kernel
theorem dX11_ith_27 : decode cX11_ith 27 = .ok (.if_icmp .lt 6, 3) := by decide +kernel
theorem dX11_ith_30 : decode cX11_ith 30 = .ok (.bipush (-3), 2) := by decide +kernel
theorem dX11_ith_32 : decode cX11_ith 32 = .ok (.ireturn, 1) := by decide +kernel
theorem dX11_ith_33 : decode cX11_ith 33 = .ok (.aload_n 0, 1) := by decide +kernel
theorem dX11_ith_34 : decode cX11_ith 34 = .ok (.getfield 68, 3) := by decide +kernel
theorem dX11_ith_37 : decode cX11_ith 37 = .ok (.iconst 0, 1) := by decide +kernel
theorem dX11_ith_38 : decode cX11_ith 38 = .ok (.iload_n 1, 1) := by decide +kernel
theorem dX11_ith_39 : decode cX11_ith 39 = .ok (.invokevirtual 241, 3) := by decide +kernel
theorem dX11_ith_42 : decode cX11_ith 42 = .ok (.aload_n 0, 1) := by decide +kernel
theorem dX11_ith_43 : decode cX11_ith 43 = .ok (.getfield 68, 3) := by decide +kernel
theorem dX11_ith_46 : decode cX11_ith 46 = .ok (.getfield 251, 3) := by decide +kernel
theorem dX11_ith_49 : decode cX11_ith 49 = .ok (.iconst 0, 1) := by decide +kernel
theorem dX11_ith_50 : decode cX11_ith 50 = .ok (.iaload, 1) := by decide +kernel
theorem dX11_ith_51 : decode cX11_ith 51 = .ok (.iconst 3, 1) := by decide +kernel
theorem dX11_ith_52 : decode cX11_ith 52 = .ok (.iload_n 2, 1) := by decide +kernel
theorem dX11_ith_53 : decode cX11_ith 53 = .ok (.imul, 1) := by decide +kernel
theorem dX11_ith_54 : decode cX11_ith 54 = .ok (.ishr, 1) := by decide +kernel
theorem dX11_ith_55 : decode cX11_ith 55 = .ok (.bipush 7, 2) := by decide +kernel
theorem dX11_ith_57 : decode cX11_ith 57 = .ok (.iand, 1) := by decide +kernel
theorem dX11_ith_58 : decode cX11_ith 58 = .ok (.ireturn, 1) := by decide +kernel
theorem oX11_ith_0 : oP MT mX11_ith 0 (1, 1, 1, 0, []) := o_iload_n dX11_ith_0 rfl
theorem oX11_ith_1 : oP MT mX11_ith 1 (25, 3, 89, 1, []) := o_callS dX11_ith_1 (mj := mX11_isPlan) mt_X11_isPlan cmq_X11_isPlan wq_716 wq_718 (by decide) (by decide)
theorem oX11_ith_4 : oP MT mX11_ith 4 (10, 3, 0, 16, []) := o_if_eq dX11_ith_4 (by decide) (by decide)
theorem oX11_ith_7 : oP MT mX11_ith 7 (1, 1, 2, 0, []) := o_iload_n dX11_ith_7 rfl
theorem oX11_ith_8 : oP MT mX11_ith 8 (0, 1, 0, 0, []) := o_iconst dX11_ith_8 (by decide)
theorem oX11_ith_9 : oP MT mX11_ith 9 (0, 1, 0, 3, []) := o_iconst dX11_ith_9 (by decide)
theorem oX11_ith_10 : oP MT mX11_ith 10 (25, 3, 37, 3, []) := o_callS dX11_ith_10 (mj := mX11_isIn) mt_X11_isIn cmq_X11_isIn wq_282 wq_144 (by decide) (by decide)
theorem oX11_ith_13 : oP MT mX11_ith 13 (10, 3, 1, 18, []) := o_if_ne dX11_ith_13 (by decide) (by decide)
theorem oX11_ith_16 : oP MT mX11_ith 16 (0, 1, 0, (-1), []) := o_iconst dX11_ith_16 (by decide)
theorem oX11_ith_17 : oP MT mX11_ith 17 (21, 1, 0, 0, []) := o_iret dX11_ith_17 rfl
theorem oX11_ith_18 : oP MT mX11_ith 18 (1, 1, 2, 0, []) := o_iload_n dX11_ith_18 rfl
theorem oX11_ith_19 : oP MT mX11_ith 19 (1, 1, 0, 1, []) := o_aload_n dX11_ith_19 rfl
theorem oX11_ith_20 : oP MT mX11_ith 20 (13, 3, 0, 11, []) := o_getR (M := mX11_ith) (C := RX11) (T := TX11) (ci := 11) (j := 0) (z := 11) dX11_ith_20 rfl lq_RX11_56 rfl rfl
theorem oX11_ith_23 : oP MT mX11_ith 23 (1, 1, 1, 0, []) := o_iload_n dX11_ith_23 rfl
theorem oX11_ith_24 : oP MT mX11_ith 24 (26, 3, 0, 1, [(1, 91)]) := o_callO ((vA.cons (v_callV dX11_ith_24 (ci := 1) rfl rfl (mj := mX1_haltsOf) mt_X1_haltsOf cmq_X1_haltsOf wq_726 wq_728 wq_729 (by decide) (by decide)) vA.nil))
theorem oX11_ith_27 : oP MT mX11_ith 27 (11, 3, 2, 33, []) := o_icmp_lt dX11_ith_27 (by decide) (by decide)
theorem oX11_ith_30 : oP MT mX11_ith 30 (0, 2, 0, (-3), []) := o_bipush dX11_ith_30 (by decide)
theorem oX11_ith_32 : oP MT mX11_ith 32 (21, 1, 0, 0, []) := o_iret dX11_ith_32 rfl
theorem oX11_ith_33 : oP MT mX11_ith 33 (1, 1, 0, 1, []) := o_aload_n dX11_ith_33 rfl
theorem oX11_ith_34 : oP MT mX11_ith 34 (13, 3, 3, 11, []) := o_getR (M := mX11_ith) (C := RX11) (T := TX11) (ci := 11) (j := 3) (z := 11) dX11_ith_34 rfl lq_RX11_68 rfl rfl
theorem oX11_ith_37 : oP MT mX11_ith 37 (0, 1, 0, 0, []) := o_iconst dX11_ith_37 (by decide)
theorem oX11_ith_38 : oP MT mX11_ith 38 (1, 1, 1, 0, []) := o_iload_n dX11_ith_38 rfl
theorem oX11_ith_39 : oP MT mX11_ith 39 (26, 3, 0, 2, [(4, 90)]) := o_callO ((vA.cons (v_callVN (host := "IceKeys") dX11_ith_39 (ci := 4) rfl rfl (mj := mX4_seek) mt_X4_seek cmq_X4_seek (by decide) wq_347 wq_348 (by decide) (by decide)) vA.nil))
theorem oX11_ith_42 : oP MT mX11_ith 42 (1, 1, 0, 1, []) := o_aload_n dX11_ith_42 rfl
theorem oX11_ith_43 : oP MT mX11_ith 43 (13, 3, 3, 11, []) := o_getR (M := mX11_ith) (C := RX11) (T := TX11) (ci := 11) (j := 3) (z := 11) dX11_ith_43 rfl lq_RX11_68 rfl rfl
theorem oX11_ith_46 : oP MT mX11_ith 46 (13, 3, 3, 4, []) := o_getR (M := mX11_ith) (C := RX4) (T := TX4) (ci := 4) (j := 3) (z := 4) dX11_ith_46 rfl lq_RX11_251 rfl rfl
theorem oX11_ith_49 : oP MT mX11_ith 49 (0, 1, 0, 0, []) := o_iconst dX11_ith_49 (by decide)
theorem oX11_ith_50 : oP MT mX11_ith 50 (16, 1, 1, 0, []) := o_iaload dX11_ith_50
theorem oX11_ith_51 : oP MT mX11_ith 51 (0, 1, 0, 3, []) := o_iconst dX11_ith_51 (by decide)
theorem oX11_ith_52 : oP MT mX11_ith 52 (1, 1, 2, 0, []) := o_iload_n dX11_ith_52 rfl
theorem oX11_ith_53 : oP MT mX11_ith 53 (4, 1, 2, 0, []) := o_imul dX11_ith_53
theorem oX11_ith_54 : oP MT mX11_ith 54 (4, 1, 7, 0, []) := o_ishr dX11_ith_54
theorem oX11_ith_55 : oP MT mX11_ith 55 (0, 2, 0, 7, []) := o_bipush dX11_ith_55 (by decide)
theorem oX11_ith_57 : oP MT mX11_ith 57 (4, 1, 3, 0, []) := o_iand dX11_ith_57
theorem oX11_ith_58 : oP MT mX11_ith 58 (21, 1, 0, 0, []) := o_iret dX11_ith_58 rfl
def ops_X11_ith : List (Nat × aO) := [(0, (1, 1, 1, 0, [])), (1, (25, 3, 89, 1, [])), (4, (10, 3, 0, 16, [])), (7, (1, 1, 2, 0, [])), (8, (0, 1, 0, 0, [])), (9, (0, 1, 0, 3, [])), (10, (25, 3, 37, 3, [])), (13, (10, 3, 1, 18, [])), (16, (0, 1, 0, (-1), [])), (17, (21, 1, 0, 0, [])), (18, (1, 1, 2, 0, [])), (19, (1, 1, 0, 1, [])), (20, (13, 3, 0, 11, [])), (23, (1, 1, 1, 0, [])), (24, (26, 3, 0, 1, [(1, 91)])), (27, (11, 3, 2, 33, [])), (30, (0, 2, 0, (-3), [])), (32, (21, 1, 0, 0, [])), (33, (1, 1, 0, 1, [])), (34, (13, 3, 3, 11, [])), (37, (0, 1, 0, 0, [])), (38, (1, 1, 1, 0, [])), (39, (26, 3, 0, 2, [(4, 90)])), (42, (1, 1, 0, 1, [])), (43, (13, 3, 3, 11, [])), (46, (13, 3, 3, 4, [])), (49, (0, 1, 0, 0, [])), (50, (16, 1, 1, 0, [])), (51, (0, 1, 0, 3, [])), (52, (1, 1, 2, 0, [])), (53, (4, 1, 2, 0, [])), (54, (4, 1, 7, 0, [])), (55, (0, 2, 0, 7, [])), (57, (4, 1, 3, 0, [])), (58, (21, 1, 0, 0, []))]
theorem os_X11_ith : oA MT mX11_ith ops_X11_ith := (oA.cons oX11_ith_0 (oA.cons oX11_ith_1 (oA.cons oX11_ith_4 (oA.cons oX11_ith_7 (oA.cons oX11_ith_8 (oA.cons oX11_ith_9 (oA.cons oX11_ith_10 (oA.cons oX11_ith_13 (oA.cons oX11_ith_16 (oA.cons oX11_ith_17 (oA.cons oX11_ith_18 (oA.cons oX11_ith_19 (oA.cons oX11_ith_20 (oA.cons oX11_ith_23 (oA.cons oX11_ith_24 (oA.cons oX11_ith_27 (oA.cons oX11_ith_30 (oA.cons oX11_ith_32 (oA.cons oX11_ith_33 (oA.cons oX11_ith_34 (oA.cons oX11_ith_37 (oA.cons oX11_ith_38 (oA.cons oX11_ith_39 (oA.cons oX11_ith_42 (oA.cons oX11_ith_43 (oA.cons oX11_ith_46 (oA.cons oX11_ith_49 (oA.cons oX11_ith_50 (oA.cons oX11_ith_51 (oA.cons oX11_ith_52 (oA.cons oX11_ith_53 (oA.cons oX11_ith_54 (oA.cons oX11_ith_55 (oA.cons oX11_ith_57 (oA.cons oX11_ith_58 oA.nil)))))))))))))))))))))))))))))))))))
theorem dX11_ways_0 : decode cX11_ways 0 = .ok (.iload_n 1, 1) := by decide +kernel
theorem dX11_ways_1 : decode cX11_ways 1 = .ok (.invokestatic 238, 3) := by decide +kernel
theorem dX11_ways_4 : decode cX11_ways 4 = .ok (.ifCond .ne 5, 3) := by decide +kernel
theorem dX11_ways_7 : decode cX11_ways 7 = .ok (.iconst (-1), 1) := by decide +kernel
theorem dX11_ways_8 : decode cX11_ways 8 = .ok (.ireturn, 1) := by decide +kernel
theorem dX11_ways_9 : decode cX11_ways 9 = .ok (.aload_n 0, 1) := by decide +kernel
theorem dX11_ways_10 : decode cX11_ways 10 = .ok (.getfield 68, 3) := by decide +kernel
theorem dX11_ways_13 : decode cX11_ways 13 = .ok (.iconst 0, 1) := by decide +kernel
theorem dX11_ways_14 : decode cX11_ways 14 = .ok (.iload_n 1, 1) := by decide +kernel
theorem dX11_ways_15 : decode cX11_ways 15 = .ok (.invokevirtual 241, 3) := by decide +kernel
theorem dX11_ways_18 : decode cX11_ways 18 = .ok (.aload_n 0, 1) := by decide +kernel
theorem dX11_ways_19 : decode cX11_ways 19 = .ok (.getfield 68, 3) := by decide +kernel
theorem dX11_ways_22 : decode cX11_ways 22 = .ok (.getfield 254, 3) := by decide +kernel
theorem dX11_ways_25 : decode cX11_ways 25 = .ok (.iconst 0, 1) := by decide +kernel
theorem dX11_ways_26 : decode cX11_ways 26 = .ok (.iaload, 1) := by decide +kernel
theorem dX11_ways_27 : decode cX11_ways 27 = .ok (.ireturn, 1) := by decide +kernel
theorem oX11_ways_0 : oP MT mX11_ways 0 (1, 1, 1, 0, []) := o_iload_n dX11_ways_0 rfl
theorem oX11_ways_1 : oP MT mX11_ways 1 (25, 3, 89, 1, []) := o_callS dX11_ways_1 (mj := mX11_isPlan) mt_X11_isPlan cmq_X11_isPlan wq_716 wq_718 (by decide) (by decide)
theorem oX11_ways_4 : oP MT mX11_ways 4 (10, 3, 1, 9, []) := o_if_ne dX11_ways_4 (by decide) (by decide)
theorem oX11_ways_7 : oP MT mX11_ways 7 (0, 1, 0, (-1), []) := o_iconst dX11_ways_7 (by decide)
theorem oX11_ways_8 : oP MT mX11_ways 8 (21, 1, 0, 0, []) := o_iret dX11_ways_8 rfl
theorem oX11_ways_9 : oP MT mX11_ways 9 (1, 1, 0, 1, []) := o_aload_n dX11_ways_9 rfl
theorem oX11_ways_10 : oP MT mX11_ways 10 (13, 3, 3, 11, []) := o_getR (M := mX11_ways) (C := RX11) (T := TX11) (ci := 11) (j := 3) (z := 11) dX11_ways_10 rfl lq_RX11_68 rfl rfl
theorem oX11_ways_13 : oP MT mX11_ways 13 (0, 1, 0, 0, []) := o_iconst dX11_ways_13 (by decide)
theorem oX11_ways_14 : oP MT mX11_ways 14 (1, 1, 1, 0, []) := o_iload_n dX11_ways_14 rfl
theorem oX11_ways_15 : oP MT mX11_ways 15 (26, 3, 0, 2, [(4, 90)]) := o_callO ((vA.cons (v_callVN (host := "IceKeys") dX11_ways_15 (ci := 4) rfl rfl (mj := mX4_seek) mt_X4_seek cmq_X4_seek (by decide) wq_347 wq_348 (by decide) (by decide)) vA.nil))
theorem oX11_ways_18 : oP MT mX11_ways 18 (1, 1, 0, 1, []) := o_aload_n dX11_ways_18 rfl
theorem oX11_ways_19 : oP MT mX11_ways 19 (13, 3, 3, 11, []) := o_getR (M := mX11_ways) (C := RX11) (T := TX11) (ci := 11) (j := 3) (z := 11) dX11_ways_19 rfl lq_RX11_68 rfl rfl
theorem oX11_ways_22 : oP MT mX11_ways 22 (13, 3, 2, 4, []) := o_getR (M := mX11_ways) (C := RX4) (T := TX4) (ci := 4) (j := 2) (z := 4) dX11_ways_22 rfl lq_RX11_254 rfl rfl
theorem oX11_ways_25 : oP MT mX11_ways 25 (0, 1, 0, 0, []) := o_iconst dX11_ways_25 (by decide)
theorem oX11_ways_26 : oP MT mX11_ways 26 (16, 1, 1, 0, []) := o_iaload dX11_ways_26
theorem oX11_ways_27 : oP MT mX11_ways 27 (21, 1, 0, 0, []) := o_iret dX11_ways_27 rfl
def ops_X11_ways : List (Nat × aO) := [(0, (1, 1, 1, 0, [])), (1, (25, 3, 89, 1, [])), (4, (10, 3, 1, 9, [])), (7, (0, 1, 0, (-1), [])), (8, (21, 1, 0, 0, [])), (9, (1, 1, 0, 1, [])), (10, (13, 3, 3, 11, [])), (13, (0, 1, 0, 0, [])), (14, (1, 1, 1, 0, [])), (15, (26, 3, 0, 2, [(4, 90)])), (18, (1, 1, 0, 1, [])), (19, (13, 3, 3, 11, [])), (22, (13, 3, 2, 4, [])), (25, (0, 1, 0, 0, [])), (26, (16, 1, 1, 0, [])), (27, (21, 1, 0, 0, []))]
theorem os_X11_ways : oA MT mX11_ways ops_X11_ways := (oA.cons oX11_ways_0 (oA.cons oX11_ways_1 (oA.cons oX11_ways_4 (oA.cons oX11_ways_7 (oA.cons oX11_ways_8 (oA.cons oX11_ways_9 (oA.cons oX11_ways_10 (oA.cons oX11_ways_13 (oA.cons oX11_ways_14 (oA.cons oX11_ways_15 (oA.cons oX11_ways_18 (oA.cons oX11_ways_19 (oA.cons oX11_ways_22 (oA.cons oX11_ways_25 (oA.cons oX11_ways_26 (oA.cons oX11_ways_27 oA.nil))))))))))))))))
theorem dX11_order_0 : decode cX11_order 0 = .ok (.iload_n 1, 1) := by decide +kernel
theorem dX11_order_1 : decode cX11_order 1 = .ok (.invokestatic 238, 3) := by decide +kernel
theorem dX11_order_4 : decode cX11_order 4 = .ok (.ifCond .eq 11, 3) := by decide +kernel
theorem dX11_order_7 : decode cX11_order 7 = .ok (.aload_n 0, 1) := by decide +kernel
theorem dX11_order_8 : decode cX11_order 8 = .ok (.iload_n 2, 1) := by decide +kernel
theorem dX11_order_9 : decode cX11_order 9 = .ok (.invokevirtual 257, 3) := by decide +kernel
theorem dX11_order_12 : decode cX11_order 12 = .ok (.ifCond .ne 5, 3) := by decide +kernel
theorem dX11_order_15 : decode cX11_order 15 = .ok (.iconst (-1), 1) := by decide +kernel
theorem dX11_order_16 : decode cX11_order 16 = .ok (.ireturn, 1) := by decide +kernel
theorem dX11_order_17 : decode cX11_order 17 = .ok (.aload_n 0, 1) := by decide +kernel
theorem dX11_order_18 : decode cX11_order 18 = .ok (.getfield 68, 3) := by decide +kernel
theorem dX11_order_21 : decode cX11_order 21 = .ok (.iconst 0, 1) := by decide +kernel
theorem dX11_order_22 : decode cX11_order 22 = .ok (.iload_n 1, 1) := by decide +kernel
theorem dX11_order_23 : decode cX11_order 23 = .ok (.iload_n 2, 1) := by decide +kernel
theorem dX11_order_24 : decode cX11_order 24 = .ok (.invokevirtual 260, 3) := by decide +kernel
theorem dX11_order_27 : decode cX11_order 27 = .ok (.istore_n 3, 1) := by decide +kernel
theorem dX11_order_28 : decode cX11_order 28 = .ok (.iload_n 3, 1) := by decide +kernel
theorem dX11_order_29 : decode cX11_order 29 = .ok (.iload_n 1, 1) := by decide +kernel
theorem dX11_order_30 : decode cX11_order 30 = .ok (.if_icmp .le 8, 3) := by decide +kernel
theorem dX11_order_33 : decode cX11_order 33 = .ok (.bipush (-3), 2) := by decide +kernel
theorem dX11_order_35 : decode cX11_order 35 = .ok (.goto 4, 3) := by decide +kernel
theorem dX11_order_38 : decode cX11_order 38 = .ok (.iload_n 3, 1) := by decide +kernel
theorem dX11_order_39 : decode cX11_order 39 = .ok (.ireturn, 1) := by decide +kernel
theorem oX11_order_0 : oP MT mX11_order 0 (1, 1, 1, 0, []) := o_iload_n dX11_order_0 rfl
theorem oX11_order_1 : oP MT mX11_order 1 (25, 3, 89, 1, []) := o_callS dX11_order_1 (mj := mX11_isPlan) mt_X11_isPlan cmq_X11_isPlan wq_716 wq_718 (by decide) (by decide)
theorem oX11_order_4 : oP MT mX11_order 4 (10, 3, 0, 15, []) := o_if_eq dX11_order_4 (by decide) (by decide)
theorem oX11_order_7 : oP MT mX11_order 7 (1, 1, 0, 1, []) := o_aload_n dX11_order_7 rfl
theorem oX11_order_8 : oP MT mX11_order 8 (1, 1, 2, 0, []) := o_iload_n dX11_order_8 rfl
theorem oX11_order_9 : oP MT mX11_order 9 (26, 3, 0, 1, [(11, 92)]) := o_callO ((vA.cons (v_callV dX11_order_9 (ci := 11) rfl rfl (mj := mX11_isKeySet) mt_X11_isKeySet cmq_X11_isKeySet wq_730 wq_732 wq_733 (by decide) (by decide)) vA.nil))
theorem oX11_order_12 : oP MT mX11_order 12 (10, 3, 1, 17, []) := o_if_ne dX11_order_12 (by decide) (by decide)
theorem oX11_order_15 : oP MT mX11_order 15 (0, 1, 0, (-1), []) := o_iconst dX11_order_15 (by decide)
theorem oX11_order_16 : oP MT mX11_order 16 (21, 1, 0, 0, []) := o_iret dX11_order_16 rfl
theorem oX11_order_17 : oP MT mX11_order 17 (1, 1, 0, 1, []) := o_aload_n dX11_order_17 rfl
theorem oX11_order_18 : oP MT mX11_order 18 (13, 3, 3, 11, []) := o_getR (M := mX11_order) (C := RX11) (T := TX11) (ci := 11) (j := 3) (z := 11) dX11_order_18 rfl lq_RX11_68 rfl rfl
theorem oX11_order_21 : oP MT mX11_order 21 (0, 1, 0, 0, []) := o_iconst dX11_order_21 (by decide)
theorem oX11_order_22 : oP MT mX11_order 22 (1, 1, 1, 0, []) := o_iload_n dX11_order_22 rfl
theorem oX11_order_23 : oP MT mX11_order 23 (1, 1, 2, 0, []) := o_iload_n dX11_order_23 rfl
theorem oX11_order_24 : oP MT mX11_order 24 (26, 3, 0, 3, [(4, 93)]) := o_callO ((vA.cons (v_callVN (host := "IceKeys") dX11_order_24 (ci := 4) rfl rfl (mj := mX4_fewest) mt_X4_fewest cmq_X4_fewest (by decide) wq_356 wq_357 (by decide) (by decide)) vA.nil))
theorem oX11_order_27 : oP MT mX11_order 27 (2, 1, 3, 0, []) := o_istore_n dX11_order_27 rfl (by decide)
theorem oX11_order_28 : oP MT mX11_order 28 (1, 1, 3, 0, []) := o_iload_n dX11_order_28 rfl
theorem oX11_order_29 : oP MT mX11_order 29 (1, 1, 1, 0, []) := o_iload_n dX11_order_29 rfl
theorem oX11_order_30 : oP MT mX11_order 30 (11, 3, 5, 38, []) := o_icmp_le dX11_order_30 (by decide) (by decide)
theorem oX11_order_33 : oP MT mX11_order 33 (0, 2, 0, (-3), []) := o_bipush dX11_order_33 (by decide)
theorem oX11_order_35 : oP MT mX11_order 35 (9, 3, 39, 0, []) := o_goto dX11_order_35 (by decide)
theorem oX11_order_38 : oP MT mX11_order 38 (1, 1, 3, 0, []) := o_iload_n dX11_order_38 rfl
theorem oX11_order_39 : oP MT mX11_order 39 (21, 1, 0, 0, []) := o_iret dX11_order_39 rfl
def ops_X11_order : List (Nat × aO) := [(0, (1, 1, 1, 0, [])), (1, (25, 3, 89, 1, [])), (4, (10, 3, 0, 15, [])), (7, (1, 1, 0, 1, [])), (8, (1, 1, 2, 0, [])), (9, (26, 3, 0, 1, [(11, 92)])), (12, (10, 3, 1, 17, [])), (15, (0, 1, 0, (-1), [])), (16, (21, 1, 0, 0, [])), (17, (1, 1, 0, 1, [])), (18, (13, 3, 3, 11, [])), (21, (0, 1, 0, 0, [])), (22, (1, 1, 1, 0, [])), (23, (1, 1, 2, 0, [])), (24, (26, 3, 0, 3, [(4, 93)])), (27, (2, 1, 3, 0, [])), (28, (1, 1, 3, 0, [])), (29, (1, 1, 1, 0, [])), (30, (11, 3, 5, 38, [])), (33, (0, 2, 0, (-3), [])), (35, (9, 3, 39, 0, [])), (38, (1, 1, 3, 0, [])), (39, (21, 1, 0, 0, []))]
theorem os_X11_order : oA MT mX11_order ops_X11_order := (oA.cons oX11_order_0 (oA.cons oX11_order_1 (oA.cons oX11_order_4 (oA.cons oX11_order_7 (oA.cons oX11_order_8 (oA.cons oX11_order_9 (oA.cons oX11_order_12 (oA.cons oX11_order_15 (oA.cons oX11_order_16 (oA.cons oX11_order_17 (oA.cons oX11_order_18 (oA.cons oX11_order_21 (oA.cons oX11_order_22 (oA.cons oX11_order_23 (oA.cons oX11_order_24 (oA.cons oX11_order_27 (oA.cons oX11_order_28 (oA.cons oX11_order_29 (oA.cons oX11_order_30 (oA.cons oX11_order_33 (oA.cons oX11_order_35 (oA.cons oX11_order_38 (oA.cons oX11_order_39 oA.nil)))))))))))))))))))))))
theorem dX11_bars_0 : decode cX11_bars 0 = .ok (.iload_n 1, 1) := by decide +kernel
theorem dX11_bars_1 : decode cX11_bars 1 = .ok (.invokestatic 238, 3) := by decide +kernel
theorem dX11_bars_4 : decode cX11_bars 4 = .ok (.ifCond .eq 11, 3) := by decide +kernel
theorem dX11_bars_7 : decode cX11_bars 7 = .ok (.aload_n 0, 1) := by decide +kernel
theorem dX11_bars_8 : decode cX11_bars 8 = .ok (.iload_n 2, 1) := by decide +kernel
theorem dX11_bars_9 : decode cX11_bars 9 = .ok (.invokevirtual 257, 3) := by decide +kernel
theorem dX11_bars_12 : decode cX11_bars 12 = .ok (.ifCond .ne 5, 3) := by decide +kernel
theorem dX11_bars_15 : decode cX11_bars 15 = .ok (.iconst (-1), 1) := by decide +kernel
theorem dX11_bars_16 : decode cX11_bars 16 = .ok (.ireturn, 1) := by decide +kernel
theorem dX11_bars_17 : decode cX11_bars 17 = .ok (.iload_n 2, 1) := by decide +kernel
theorem dX11_bars_18 : decode cX11_bars 18 = .ok (.aload_n 0, 1) := by decide +kernel
theorem dX11_bars_19 : decode cX11_bars 19 = .ok (.getfield 68, 3) := by decide +kernel
theorem dX11_bars_22 : decode cX11_bars 22 = .ok (.iconst 0, 1) := by decide +kernel
theorem dX11_bars_23 : decode cX11_bars 23 = .ok (.iload_n 1, 1) := by decide +kernel
theorem dX11_bars_24 : decode cX11_bars 24 = .ok (.invokevirtual 264, 3) := by decide +kernel
theorem dX11_bars_27 : decode cX11_bars 27 = .ok (.iconst (-1), 1) := by decide +kernel
theorem dX11_bars_28 : decode cX11_bars 28 = .ok (.ixor, 1) := by decide +kernel
theorem dX11_bars_29 : decode cX11_bars 29 = .ok (.iand, 1) := by decide +kernel
theorem dX11_bars_30 : decode cX11_bars 30 = .ok (.istore_n 3, 1) := by decide +kernel
theorem dX11_bars_31 : decode cX11_bars 31 = .ok (.iload_n 3, 1) := by decide +kernel
theorem dX11_bars_32 : decode cX11_bars 32 = .ok (.ifCond .ne 8, 3) := by decide +kernel
theorem dX11_bars_35 : decode cX11_bars 35 = .ok (.bipush (-3), 2) := by decide +kernel
theorem dX11_bars_37 : decode cX11_bars 37 = .ok (.goto 7, 3) := by decide +kernel
theorem dX11_bars_40 : decode cX11_bars 40 = .ok (.iload_n 3, 1) := by decide +kernel
theorem dX11_bars_41 : decode cX11_bars 41 = .ok (.invokestatic 235, 3) := by decide +kernel
theorem dX11_bars_44 : decode cX11_bars 44 = .ok (.ireturn, 1) := by decide +kernel
theorem oX11_bars_0 : oP MT mX11_bars 0 (1, 1, 1, 0, []) := o_iload_n dX11_bars_0 rfl
theorem oX11_bars_1 : oP MT mX11_bars 1 (25, 3, 89, 1, []) := o_callS dX11_bars_1 (mj := mX11_isPlan) mt_X11_isPlan cmq_X11_isPlan wq_716 wq_718 (by decide) (by decide)
theorem oX11_bars_4 : oP MT mX11_bars 4 (10, 3, 0, 15, []) := o_if_eq dX11_bars_4 (by decide) (by decide)
theorem oX11_bars_7 : oP MT mX11_bars 7 (1, 1, 0, 1, []) := o_aload_n dX11_bars_7 rfl
theorem oX11_bars_8 : oP MT mX11_bars 8 (1, 1, 2, 0, []) := o_iload_n dX11_bars_8 rfl
theorem oX11_bars_9 : oP MT mX11_bars 9 (26, 3, 0, 1, [(11, 92)]) := o_callO ((vA.cons (v_callV dX11_bars_9 (ci := 11) rfl rfl (mj := mX11_isKeySet) mt_X11_isKeySet cmq_X11_isKeySet wq_730 wq_732 wq_733 (by decide) (by decide)) vA.nil))
theorem oX11_bars_12 : oP MT mX11_bars 12 (10, 3, 1, 17, []) := o_if_ne dX11_bars_12 (by decide) (by decide)
theorem oX11_bars_15 : oP MT mX11_bars 15 (0, 1, 0, (-1), []) := o_iconst dX11_bars_15 (by decide)
theorem oX11_bars_16 : oP MT mX11_bars 16 (21, 1, 0, 0, []) := o_iret dX11_bars_16 rfl
theorem oX11_bars_17 : oP MT mX11_bars 17 (1, 1, 2, 0, []) := o_iload_n dX11_bars_17 rfl
theorem oX11_bars_18 : oP MT mX11_bars 18 (1, 1, 0, 1, []) := o_aload_n dX11_bars_18 rfl
theorem oX11_bars_19 : oP MT mX11_bars 19 (13, 3, 3, 11, []) := o_getR (M := mX11_bars) (C := RX11) (T := TX11) (ci := 11) (j := 3) (z := 11) dX11_bars_19 rfl lq_RX11_68 rfl rfl
theorem oX11_bars_22 : oP MT mX11_bars 22 (0, 1, 0, 0, []) := o_iconst dX11_bars_22 (by decide)
theorem oX11_bars_23 : oP MT mX11_bars 23 (1, 1, 1, 0, []) := o_iload_n dX11_bars_23 rfl
theorem oX11_bars_24 : oP MT mX11_bars 24 (26, 3, 0, 2, [(4, 94)]) := o_callO ((vA.cons (v_callVN (host := "IceKeys") dX11_bars_24 (ci := 4) rfl rfl (mj := mX4_reach) mt_X4_reach cmq_X4_reach (by decide) wq_361 wq_362 (by decide) (by decide)) vA.nil))
theorem oX11_bars_27 : oP MT mX11_bars 27 (0, 1, 0, (-1), []) := o_iconst dX11_bars_27 (by decide)
theorem oX11_bars_28 : oP MT mX11_bars 28 (4, 1, 5, 0, []) := o_ixor dX11_bars_28
theorem oX11_bars_29 : oP MT mX11_bars 29 (4, 1, 3, 0, []) := o_iand dX11_bars_29
theorem oX11_bars_30 : oP MT mX11_bars 30 (2, 1, 3, 0, []) := o_istore_n dX11_bars_30 rfl (by decide)
theorem oX11_bars_31 : oP MT mX11_bars 31 (1, 1, 3, 0, []) := o_iload_n dX11_bars_31 rfl
theorem oX11_bars_32 : oP MT mX11_bars 32 (10, 3, 1, 40, []) := o_if_ne dX11_bars_32 (by decide) (by decide)
theorem oX11_bars_35 : oP MT mX11_bars 35 (0, 2, 0, (-3), []) := o_bipush dX11_bars_35 (by decide)
theorem oX11_bars_37 : oP MT mX11_bars 37 (9, 3, 44, 0, []) := o_goto dX11_bars_37 (by decide)
theorem oX11_bars_40 : oP MT mX11_bars 40 (1, 1, 3, 0, []) := o_iload_n dX11_bars_40 rfl
theorem oX11_bars_41 : oP MT mX11_bars 41 (25, 3, 87, 1, []) := o_callS dX11_bars_41 (mj := mX11_leastOf) mt_X11_leastOf cmq_X11_leastOf wq_334 wq_336 (by decide) (by decide)
theorem oX11_bars_44 : oP MT mX11_bars 44 (21, 1, 0, 0, []) := o_iret dX11_bars_44 rfl
def ops_X11_bars : List (Nat × aO) := [(0, (1, 1, 1, 0, [])), (1, (25, 3, 89, 1, [])), (4, (10, 3, 0, 15, [])), (7, (1, 1, 0, 1, [])), (8, (1, 1, 2, 0, [])), (9, (26, 3, 0, 1, [(11, 92)])), (12, (10, 3, 1, 17, [])), (15, (0, 1, 0, (-1), [])), (16, (21, 1, 0, 0, [])), (17, (1, 1, 2, 0, [])), (18, (1, 1, 0, 1, [])), (19, (13, 3, 3, 11, [])), (22, (0, 1, 0, 0, [])), (23, (1, 1, 1, 0, [])), (24, (26, 3, 0, 2, [(4, 94)])), (27, (0, 1, 0, (-1), [])), (28, (4, 1, 5, 0, [])), (29, (4, 1, 3, 0, [])), (30, (2, 1, 3, 0, [])), (31, (1, 1, 3, 0, [])), (32, (10, 3, 1, 40, [])), (35, (0, 2, 0, (-3), [])), (37, (9, 3, 44, 0, [])), (40, (1, 1, 3, 0, [])), (41, (25, 3, 87, 1, [])), (44, (21, 1, 0, 0, []))]
theorem os_X11_bars : oA MT mX11_bars ops_X11_bars := (oA.cons oX11_bars_0 (oA.cons oX11_bars_1 (oA.cons oX11_bars_4 (oA.cons oX11_bars_7 (oA.cons oX11_bars_8 (oA.cons oX11_bars_9 (oA.cons oX11_bars_12 (oA.cons oX11_bars_15 (oA.cons oX11_bars_16 (oA.cons oX11_bars_17 (oA.cons oX11_bars_18 (oA.cons oX11_bars_19 (oA.cons oX11_bars_22 (oA.cons oX11_bars_23 (oA.cons oX11_bars_24 (oA.cons oX11_bars_27 (oA.cons oX11_bars_28 (oA.cons oX11_bars_29 (oA.cons oX11_bars_30 (oA.cons oX11_bars_31 (oA.cons oX11_bars_32 (oA.cons oX11_bars_35 (oA.cons oX11_bars_37 (oA.cons oX11_bars_40 (oA.cons oX11_bars_41 (oA.cons oX11_bars_44 oA.nil))))))))))))))))))))))))))
theorem dX11_game_0 : decode cX11_game 0 = .ok (.iload_n 1, 1) := by decide +kernel
theorem dX11_game_1 : decode cX11_game 1 = .ok (.iconst 1, 1) := by decide +kernel
theorem dX11_game_2 : decode cX11_game 2 = .ok (.iconst 4, 1) := by decide +kernel
theorem dX11_game_3 : decode cX11_game 3 = .ok (.invokestatic 90, 3) := by decide +kernel
theorem dX11_game_6 : decode cX11_game 6 = .ok (.ifCond .ne 5, 3) := by decide +kernel
theorem dX11_game_9 : decode cX11_game 9 = .ok (.iconst (-1), 1) := by decide +kernel
theorem dX11_game_10 : decode cX11_game 10 = .ok (.ireturn, 1) := by decide +kernel
theorem dX11_game_11 : decode cX11_game 11 = .ok (.aload_n 0, 1) := by decide +kernel
theorem dX11_game_12 : decode cX11_game 12 = .ok (.getfield 68, 3) := by decide +kernel
theorem dX11_game_15 : decode cX11_game 15 = .ok (.iconst 0, 1) := by decide +kernel
theorem dX11_game_16 : decode cX11_game 16 = .ok (.iload_n 1, 1) := by decide +kernel
theorem dX11_game_17 : decode cX11_game 17 = .ok (.invokevirtual 267, 3) := by decide +kernel
theorem dX11_game_20 : decode cX11_game 20 = .ok (.ireturn, 1) := by decide +kernel
theorem oX11_game_0 : oP MT mX11_game 0 (1, 1, 1, 0, []) := o_iload_n dX11_game_0 rfl
theorem oX11_game_1 : oP MT mX11_game 1 (0, 1, 0, 1, []) := o_iconst dX11_game_1 (by decide)
theorem oX11_game_2 : oP MT mX11_game 2 (0, 1, 0, 4, []) := o_iconst dX11_game_2 (by decide)
theorem oX11_game_3 : oP MT mX11_game 3 (25, 3, 37, 3, []) := o_callS dX11_game_3 (mj := mX11_isIn) mt_X11_isIn cmq_X11_isIn wq_282 wq_144 (by decide) (by decide)
theorem oX11_game_6 : oP MT mX11_game 6 (10, 3, 1, 11, []) := o_if_ne dX11_game_6 (by decide) (by decide)
theorem oX11_game_9 : oP MT mX11_game 9 (0, 1, 0, (-1), []) := o_iconst dX11_game_9 (by decide)
theorem oX11_game_10 : oP MT mX11_game 10 (21, 1, 0, 0, []) := o_iret dX11_game_10 rfl
theorem oX11_game_11 : oP MT mX11_game 11 (1, 1, 0, 1, []) := o_aload_n dX11_game_11 rfl
theorem oX11_game_12 : oP MT mX11_game 12 (13, 3, 3, 11, []) := o_getR (M := mX11_game) (C := RX11) (T := TX11) (ci := 11) (j := 3) (z := 11) dX11_game_12 rfl lq_RX11_68 rfl rfl
theorem oX11_game_15 : oP MT mX11_game 15 (0, 1, 0, 0, []) := o_iconst dX11_game_15 (by decide)
theorem oX11_game_16 : oP MT mX11_game 16 (1, 1, 1, 0, []) := o_iload_n dX11_game_16 rfl
theorem oX11_game_17 : oP MT mX11_game 17 (26, 3, 0, 2, [(4, 95)]) := o_callO ((vA.cons (v_callVN (host := "IceKeys") dX11_game_17 (ci := 4) rfl rfl (mj := mX4_duel) mt_X4_duel cmq_X4_duel (by decide) wq_365 wq_366 (by decide) (by decide)) vA.nil))
theorem oX11_game_20 : oP MT mX11_game 20 (21, 1, 0, 0, []) := o_iret dX11_game_20 rfl
def ops_X11_game : List (Nat × aO) := [(0, (1, 1, 1, 0, [])), (1, (0, 1, 0, 1, [])), (2, (0, 1, 0, 4, [])), (3, (25, 3, 37, 3, [])), (6, (10, 3, 1, 11, [])), (9, (0, 1, 0, (-1), [])), (10, (21, 1, 0, 0, [])), (11, (1, 1, 0, 1, [])), (12, (13, 3, 3, 11, [])), (15, (0, 1, 0, 0, [])), (16, (1, 1, 1, 0, [])), (17, (26, 3, 0, 2, [(4, 95)])), (20, (21, 1, 0, 0, []))]
theorem os_X11_game : oA MT mX11_game ops_X11_game := (oA.cons oX11_game_0 (oA.cons oX11_game_1 (oA.cons oX11_game_2 (oA.cons oX11_game_3 (oA.cons oX11_game_6 (oA.cons oX11_game_9 (oA.cons oX11_game_10 (oA.cons oX11_game_11 (oA.cons oX11_game_12 (oA.cons oX11_game_15 (oA.cons oX11_game_16 (oA.cons oX11_game_17 (oA.cons oX11_game_20 oA.nil)))))))))))))
theorem dX11_play_0 : decode cX11_play 0 = .ok (.iload_n 1, 1) := by decide +kernel
theorem dX11_play_1 : decode cX11_play 1 = .ok (.iconst 1, 1) := by decide +kernel
theorem dX11_play_2 : decode cX11_play 2 = .ok (.iconst 4, 1) := by decide +kernel
theorem dX11_play_3 : decode cX11_play 3 = .ok (.invokestatic 90, 3) := by decide +kernel
theorem dX11_play_6 : decode cX11_play 6 = .ok (.ifCond .ne 5, 3) := by decide +kernel
theorem dX11_play_9 : decode cX11_play 9 = .ok (.iconst (-1), 1) := by decide +kernel
theorem dX11_play_10 : decode cX11_play 10 = .ok (.ireturn, 1) := by decide +kernel
theorem dX11_play_11 : decode cX11_play 11 = .ok (.aload_n 0, 1) := by decide +kernel
theorem dX11_play_12 : decode cX11_play 12 = .ok (.getfield 56, 3) := by decide +kernel
theorem dX11_play_15 : decode cX11_play 15 = .ok (.invokevirtual 168, 3) := by decide +kernel
theorem dX11_play_18 : decode cX11_play 18 = .ok (.ifCond .eq 6, 3) := by decide +kernel
theorem dX11_play_21 : decode cX11_play 21 = .ok (.bipush (-3), 2) := by decide +kernel
theorem dX11_play_23 : decode cX11_play 23 = .ok (.ireturn, 1) := by decide +kernel
theorem dX11_play_24 : decode cX11_play 24 = .ok (.aload_n 0, 1) := by decide +kernel
theorem dX11_play_25 : decode cX11_play 25 = .ok (.getfield 68, 3) := by decide +kernel
theorem dX11_play_28 : decode cX11_play 28 = .ok (.iconst 0, 1) := by decide +kernel
theorem dX11_play_29 : decode cX11_play 29 = .ok (.iload_n 1, 1) := by decide +kernel
theorem dX11_play_30 : decode cX11_play 30 = .ok (.invokevirtual 267, 3) := by decide +kernel
theorem dX11_play_33 : decode cX11_play 33 = .ok (.pop, 1) := by decide +kernel
theorem dX11_play_34 : decode cX11_play 34 = .ok (.aload_n 0, 1) := by decide +kernel
theorem dX11_play_35 : decode cX11_play 35 = .ok (.getfield 68, 3) := by decide +kernel
theorem dX11_play_38 : decode cX11_play 38 = .ok (.getfield 251, 3) := by decide +kernel
theorem dX11_play_41 : decode cX11_play 41 = .ok (.iconst 0, 1) := by decide +kernel
theorem dX11_play_42 : decode cX11_play 42 = .ok (.iaload, 1) := by decide +kernel
theorem dX11_play_43 : decode cX11_play 43 = .ok (.ireturn, 1) := by decide +kernel
theorem oX11_play_0 : oP MT mX11_play 0 (1, 1, 1, 0, []) := o_iload_n dX11_play_0 rfl
theorem oX11_play_1 : oP MT mX11_play 1 (0, 1, 0, 1, []) := o_iconst dX11_play_1 (by decide)
theorem oX11_play_2 : oP MT mX11_play 2 (0, 1, 0, 4, []) := o_iconst dX11_play_2 (by decide)
theorem oX11_play_3 : oP MT mX11_play 3 (25, 3, 37, 3, []) := o_callS dX11_play_3 (mj := mX11_isIn) mt_X11_isIn cmq_X11_isIn wq_282 wq_144 (by decide) (by decide)
theorem oX11_play_6 : oP MT mX11_play 6 (10, 3, 1, 11, []) := o_if_ne dX11_play_6 (by decide) (by decide)
theorem oX11_play_9 : oP MT mX11_play 9 (0, 1, 0, (-1), []) := o_iconst dX11_play_9 (by decide)
theorem oX11_play_10 : oP MT mX11_play 10 (21, 1, 0, 0, []) := o_iret dX11_play_10 rfl
theorem oX11_play_11 : oP MT mX11_play 11 (1, 1, 0, 1, []) := o_aload_n dX11_play_11 rfl
theorem oX11_play_12 : oP MT mX11_play 12 (13, 3, 0, 11, []) := o_getR (M := mX11_play) (C := RX11) (T := TX11) (ci := 11) (j := 0) (z := 11) dX11_play_12 rfl lq_RX11_56 rfl rfl
theorem oX11_play_15 : oP MT mX11_play 15 (26, 3, 0, 0, [(1, 31)]) := o_callO ((vA.cons (v_callV dX11_play_15 (ci := 1) rfl rfl (mj := mX1_isOver) mt_X1_isOver cmq_X1_isOver wq_375 wq_201 wq_202 (by decide) (by decide)) vA.nil))
theorem oX11_play_18 : oP MT mX11_play 18 (10, 3, 0, 24, []) := o_if_eq dX11_play_18 (by decide) (by decide)
theorem oX11_play_21 : oP MT mX11_play 21 (0, 2, 0, (-3), []) := o_bipush dX11_play_21 (by decide)
theorem oX11_play_23 : oP MT mX11_play 23 (21, 1, 0, 0, []) := o_iret dX11_play_23 rfl
theorem oX11_play_24 : oP MT mX11_play 24 (1, 1, 0, 1, []) := o_aload_n dX11_play_24 rfl
theorem oX11_play_25 : oP MT mX11_play 25 (13, 3, 3, 11, []) := o_getR (M := mX11_play) (C := RX11) (T := TX11) (ci := 11) (j := 3) (z := 11) dX11_play_25 rfl lq_RX11_68 rfl rfl
theorem oX11_play_28 : oP MT mX11_play 28 (0, 1, 0, 0, []) := o_iconst dX11_play_28 (by decide)
theorem oX11_play_29 : oP MT mX11_play 29 (1, 1, 1, 0, []) := o_iload_n dX11_play_29 rfl
theorem oX11_play_30 : oP MT mX11_play 30 (26, 3, 0, 2, [(4, 95)]) := o_callO ((vA.cons (v_callVN (host := "IceKeys") dX11_play_30 (ci := 4) rfl rfl (mj := mX4_duel) mt_X4_duel cmq_X4_duel (by decide) wq_365 wq_366 (by decide) (by decide)) vA.nil))
theorem oX11_play_33 : oP MT mX11_play 33 (8, 1, 0, 0, []) := o_pop dX11_play_33
theorem oX11_play_34 : oP MT mX11_play 34 (1, 1, 0, 1, []) := o_aload_n dX11_play_34 rfl
theorem oX11_play_35 : oP MT mX11_play 35 (13, 3, 3, 11, []) := o_getR (M := mX11_play) (C := RX11) (T := TX11) (ci := 11) (j := 3) (z := 11) dX11_play_35 rfl lq_RX11_68 rfl rfl
theorem oX11_play_38 : oP MT mX11_play 38 (13, 3, 3, 4, []) := o_getR (M := mX11_play) (C := RX4) (T := TX4) (ci := 4) (j := 3) (z := 4) dX11_play_38 rfl lq_RX11_251 rfl rfl
theorem oX11_play_41 : oP MT mX11_play 41 (0, 1, 0, 0, []) := o_iconst dX11_play_41 (by decide)
theorem oX11_play_42 : oP MT mX11_play 42 (16, 1, 1, 0, []) := o_iaload dX11_play_42
theorem oX11_play_43 : oP MT mX11_play 43 (21, 1, 0, 0, []) := o_iret dX11_play_43 rfl
def ops_X11_play : List (Nat × aO) := [(0, (1, 1, 1, 0, [])), (1, (0, 1, 0, 1, [])), (2, (0, 1, 0, 4, [])), (3, (25, 3, 37, 3, [])), (6, (10, 3, 1, 11, [])), (9, (0, 1, 0, (-1), [])), (10, (21, 1, 0, 0, [])), (11, (1, 1, 0, 1, [])), (12, (13, 3, 0, 11, [])), (15, (26, 3, 0, 0, [(1, 31)])), (18, (10, 3, 0, 24, [])), (21, (0, 2, 0, (-3), [])), (23, (21, 1, 0, 0, [])), (24, (1, 1, 0, 1, [])), (25, (13, 3, 3, 11, [])), (28, (0, 1, 0, 0, [])), (29, (1, 1, 1, 0, [])), (30, (26, 3, 0, 2, [(4, 95)])), (33, (8, 1, 0, 0, [])), (34, (1, 1, 0, 1, [])), (35, (13, 3, 3, 11, [])), (38, (13, 3, 3, 4, [])), (41, (0, 1, 0, 0, [])), (42, (16, 1, 1, 0, [])), (43, (21, 1, 0, 0, []))]
theorem os_X11_play : oA MT mX11_play ops_X11_play := (oA.cons oX11_play_0 (oA.cons oX11_play_1 (oA.cons oX11_play_2 (oA.cons oX11_play_3 (oA.cons oX11_play_6 (oA.cons oX11_play_9 (oA.cons oX11_play_10 (oA.cons oX11_play_11 (oA.cons oX11_play_12 (oA.cons oX11_play_15 (oA.cons oX11_play_18 (oA.cons oX11_play_21 (oA.cons oX11_play_23 (oA.cons oX11_play_24 (oA.cons oX11_play_25 (oA.cons oX11_play_28 (oA.cons oX11_play_29 (oA.cons oX11_play_30 (oA.cons oX11_play_33 (oA.cons oX11_play_34 (oA.cons oX11_play_35 (oA.cons oX11_play_38 (oA.cons oX11_play_41 (oA.cons oX11_play_42 (oA.cons oX11_play_43 oA.nil)))))))))))))))))))))))))
theorem dX11_report_0 : decode cX11_report 0 = .ok (.iload_n 2, 1) := by decide +kernel
theorem dX11_report_1 : decode cX11_report 1 = .ok (.ifCond .ne 8, 3) := by decide +kernel
theorem dX11_report_4 : decode cX11_report 4 = .ok (.bipush 99, 2) := by decide +kernel
theorem dX11_report_6 : decode cX11_report 6 = .ok (.goto 5, 3) := by decide +kernel
theorem dX11_report_9 : decode cX11_report 9 = .ok (.bipush 9, 2) := by decide +kernel
theorem dX11_report_11 : decode cX11_report 11 = .ok (.istore 5, 2) := by decide +kernel
theorem dX11_report_13 : decode cX11_report 13 = .ok (.iload_n 1, 1) := by decide +kernel
theorem dX11_report_14 : decode cX11_report 14 = .ok (.iconst 0, 1) := by decide +kernel
theorem dX11_report_15 : decode cX11_report 15 = .ok (.bipush 15, 2) := by decide +kernel
theorem dX11_report_17 : decode cX11_report 17 = .ok (.invokestatic 90, 3) := by decide +kernel
theorem dX11_report_20 : decode cX11_report 20 = .ok (.ifCond .eq 33, 3) := by decide +kernel
theorem dX11_report_23 : decode cX11_report 23 = .ok (.iload_n 2, 1) := by decide +kernel
theorem dX11_report_24 : decode cX11_report 24 = .ok (.iconst 0, 1) := by decide +kernel
theorem dX11_report_25 : decode cX11_report 25 = .ok (.iconst 1, 1) := by decide +kernel
theorem dX11_report_26 : decode cX11_report 26 = .ok (.invokestatic 90, 3) := by decide +kernel
theorem dX11_report_29 : decode cX11_report 29 = .ok (.ifCond .eq 24, 3) := by decide +kernel
theorem dX11_report_32 : decode cX11_report 32 = .ok (.iload_n 3, 1) := by decide +kernel
theorem dX11_report_33 : decode cX11_report 33 = .ok (.iconst 0, 1) := by decide +kernel
theorem dX11_report_34 : decode cX11_report 34 = .ok (.iload 5, 2) := by decide +kernel
theorem dX11_report_36 : decode cX11_report 36 = .ok (.invokestatic 90, 3) := by decide +kernel
theorem dX11_report_39 : decode cX11_report 39 = .ok (.ifCond .eq 14, 3) := by decide +kernel
theorem dX11_report_42 : decode cX11_report 42 = .ok (.iload 4, 2) := by decide +kernel
theorem dX11_report_44 : decode cX11_report 44 = .ok (.iload_n 3, 1) := by decide +kernel
theorem dX11_report_45 : decode cX11_report 45 = .ok (.iload 5, 2) := by decide +kernel
theorem dX11_report_47 : decode cX11_report 47 = .ok (.invokestatic 90, 3) := by decide +kernel
theorem dX11_report_50 : decode cX11_report 50 = .ok (.ifCond .ne 5, 3) := by decide +kernel
theorem dX11_report_53 : decode cX11_report 53 = .ok (.iconst (-1), 1) := by decide +kernel
theorem dX11_report_54 : decode cX11_report 54 = .ok (.ireturn, 1) := by decide +kernel
theorem dX11_report_55 : decode cX11_report 55 = .ok (.aload_n 0, 1) := by decide +kernel
theorem dX11_report_56 : decode cX11_report 56 = .ok (.getfield 56, 3) := by decide +kernel
theorem dX11_report_59 : decode cX11_report 59 = .ok (.getfield 270, 3) := by decide +kernel
theorem dX11_report_62 : decode cX11_report 62 = .ok (.bipush 6, 2) := by decide +kernel
theorem dX11_report_64 : decode cX11_report 64 = .ok (.if_icmp .lt 6, 3) := by decide +kernel
theorem dX11_report_67 : decode cX11_report 67 = .ok (.bipush (-2), 2) := by decide +kernel
theorem dX11_report_69 : decode cX11_report 69 = .ok (.ireturn, 1) := by decide +kernel
theorem dX11_report_70 : decode cX11_report 70 = .ok (.aload_n 0, 1) := by decide +kernel
theorem dX11_report_71 : decode cX11_report 71 = .ok (.getfield 56, 3) := by decide +kernel
theorem dX11_report_74 : decode cX11_report 74 = .ok (.getfield 270, 3) := by decide +kernel
theorem dX11_report_77 : decode cX11_report 77 = .ok (.istore 6, 2) := by decide +kernel
theorem dX11_report_79 : decode cX11_report 79 = .ok (.iload 6, 2) := by decide +kernel
theorem dX11_report_81 : decode cX11_report 81 = .ok (.iconst 4, 1) := by decide +kernel
theorem dX11_report_82 : decode cX11_report 82 = .ok (.imul, 1) := by decide +kernel
theorem dX11_report_83 : decode cX11_report 83 = .ok (.istore 7, 2) := by decide +kernel
theorem dX11_report_85 : decode cX11_report 85 = .ok (.aload_n 0, 1) := by decide +kernel
theorem dX11_report_86 : decode cX11_report 86 = .ok (.getfield 56, 3) := by decide +kernel
theorem dX11_report_89 : decode cX11_report 89 = .ok (.getfield 273, 3) := by decide +kernel
theorem dX11_report_92 : decode cX11_report 92 = .ok (.iload 7, 2) := by decide +kernel
theorem dX11_report_94 : decode cX11_report 94 = .ok (.iload_n 1, 1) := by decide +kernel
theorem dX11_report_95 : decode cX11_report 95 = .ok (.iastore, 1) := by decide +kernel
theorem dX11_report_96 : decode cX11_report 96 = .ok (.aload_n 0, 1) := by decide +kernel
theorem dX11_report_97 : decode cX11_report 97 = .ok (.getfield 56, 3) := by decide +kernel
theorem dX11_report_100 : decode cX11_report 100 = .ok (.getfield 273, 3) := by decide +kernel
theorem dX11_report_103 : decode cX11_report 103 = .ok (.iload 7, 2) := by decide +kernel
theorem dX11_report_105 : decode cX11_report 105 = .ok (.iconst 1, 1) := by decide +kernel
theorem dX11_report_106 : decode cX11_report 106 = .ok (.iadd, 1) := by decide +kernel
theorem dX11_report_107 : decode cX11_report 107 = .ok (.iload_n 2, 1) := by decide +kernel
theorem dX11_report_108 : decode cX11_report 108 = .ok (.iastore, 1) := by decide +kernel
theorem dX11_report_109 : decode cX11_report 109 = .ok (.aload_n 0, 1) := by decide +kernel
theorem dX11_report_110 : decode cX11_report 110 = .ok (.getfield 56, 3) := by decide +kernel
theorem dX11_report_113 : decode cX11_report 113 = .ok (.getfield 273, 3) := by decide +kernel
theorem dX11_report_116 : decode cX11_report 116 = .ok (.iload 7, 2) := by decide +kernel
theorem dX11_report_118 : decode cX11_report 118 = .ok (.iconst 2, 1) := by decide +kernel
theorem dX11_report_119 : decode cX11_report 119 = .ok (.iadd, 1) := by decide +kernel
theorem dX11_report_120 : decode cX11_report 120 = .ok (.iload_n 3, 1) := by decide +kernel
theorem dX11_report_121 : decode cX11_report 121 = .ok (.iastore, 1) := by decide +kernel
theorem dX11_report_122 : decode cX11_report 122 = .ok (.aload_n 0, 1) := by decide +kernel
theorem dX11_report_123 : decode cX11_report 123 = .ok (.getfield 56, 3) := by decide +kernel
theorem dX11_report_126 : decode cX11_report 126 = .ok (.getfield 273, 3) := by decide +kernel
theorem dX11_report_129 : decode cX11_report 129 = .ok (.iload 7, 2) := by decide +kernel
theorem dX11_report_131 : decode cX11_report 131 = .ok (.iconst 3, 1) := by decide +kernel
theorem dX11_report_132 : decode cX11_report 132 = .ok (.iadd, 1) := by decide +kernel
theorem dX11_report_133 : decode cX11_report 133 = .ok (.iload 4, 2) := by decide +kernel
theorem dX11_report_135 : decode cX11_report 135 = .ok (.iastore, 1) := by decide +kernel
theorem dX11_report_136 : decode cX11_report 136 = .ok (.aload_n 0, 1) := by decide +kernel
theorem dX11_report_137 : decode cX11_report 137 = .ok (.getfield 56, 3) := by decide +kernel
theorem dX11_report_140 : decode cX11_report 140 = .ok (.iload 6, 2) := by decide +kernel
theorem dX11_report_142 : decode cX11_report 142 = .ok (.iconst 1, 1) := by decide +kernel
theorem dX11_report_143 : decode cX11_report 143 = .ok (.iadd, 1) := by decide +kernel
theorem dX11_report_144 : decode cX11_report 144 = .ok (.putfield 270, 3) := by decide +kernel
theorem dX11_report_147 : decode cX11_report 147 = .ok (.iload 6, 2) := by decide +kernel
theorem dX11_report_149 : decode cX11_report 149 = .ok (.ireturn, 1) := by decide +kernel
theorem oX11_report_0 : oP MT mX11_report 0 (1, 1, 2, 0, []) := o_iload_n dX11_report_0 rfl
theorem oX11_report_1 : oP MT mX11_report 1 (10, 3, 1, 9, []) := o_if_ne dX11_report_1 (by decide) (by decide)
theorem oX11_report_4 : oP MT mX11_report 4 (0, 2, 0, 99, []) := o_bipush dX11_report_4 (by decide)
theorem oX11_report_6 : oP MT mX11_report 6 (9, 3, 11, 0, []) := o_goto dX11_report_6 (by decide)
theorem oX11_report_9 : oP MT mX11_report 9 (0, 2, 0, 9, []) := o_bipush dX11_report_9 (by decide)
theorem oX11_report_11 : oP MT mX11_report 11 (2, 2, 5, 0, []) := o_istore dX11_report_11 (by decide)
theorem oX11_report_13 : oP MT mX11_report 13 (1, 1, 1, 0, []) := o_iload_n dX11_report_13 rfl
theorem oX11_report_14 : oP MT mX11_report 14 (0, 1, 0, 0, []) := o_iconst dX11_report_14 (by decide)
theorem oX11_report_15 : oP MT mX11_report 15 (0, 2, 0, 15, []) := o_bipush dX11_report_15 (by decide)
theorem oX11_report_17 : oP MT mX11_report 17 (25, 3, 37, 3, []) := o_callS dX11_report_17 (mj := mX11_isIn) mt_X11_isIn cmq_X11_isIn wq_282 wq_144 (by decide) (by decide)
theorem oX11_report_20 : oP MT mX11_report 20 (10, 3, 0, 53, []) := o_if_eq dX11_report_20 (by decide) (by decide)
theorem oX11_report_23 : oP MT mX11_report 23 (1, 1, 2, 0, []) := o_iload_n dX11_report_23 rfl
theorem oX11_report_24 : oP MT mX11_report 24 (0, 1, 0, 0, []) := o_iconst dX11_report_24 (by decide)
theorem oX11_report_25 : oP MT mX11_report 25 (0, 1, 0, 1, []) := o_iconst dX11_report_25 (by decide)
theorem oX11_report_26 : oP MT mX11_report 26 (25, 3, 37, 3, []) := o_callS dX11_report_26 (mj := mX11_isIn) mt_X11_isIn cmq_X11_isIn wq_282 wq_144 (by decide) (by decide)
theorem oX11_report_29 : oP MT mX11_report 29 (10, 3, 0, 53, []) := o_if_eq dX11_report_29 (by decide) (by decide)
theorem oX11_report_32 : oP MT mX11_report 32 (1, 1, 3, 0, []) := o_iload_n dX11_report_32 rfl
theorem oX11_report_33 : oP MT mX11_report 33 (0, 1, 0, 0, []) := o_iconst dX11_report_33 (by decide)
theorem oX11_report_34 : oP MT mX11_report 34 (1, 2, 5, 0, []) := o_iload dX11_report_34
theorem oX11_report_36 : oP MT mX11_report 36 (25, 3, 37, 3, []) := o_callS dX11_report_36 (mj := mX11_isIn) mt_X11_isIn cmq_X11_isIn wq_282 wq_144 (by decide) (by decide)
theorem oX11_report_39 : oP MT mX11_report 39 (10, 3, 0, 53, []) := o_if_eq dX11_report_39 (by decide) (by decide)
theorem oX11_report_42 : oP MT mX11_report 42 (1, 2, 4, 0, []) := o_iload dX11_report_42
theorem oX11_report_44 : oP MT mX11_report 44 (1, 1, 3, 0, []) := o_iload_n dX11_report_44 rfl
theorem oX11_report_45 : oP MT mX11_report 45 (1, 2, 5, 0, []) := o_iload dX11_report_45
theorem oX11_report_47 : oP MT mX11_report 47 (25, 3, 37, 3, []) := o_callS dX11_report_47 (mj := mX11_isIn) mt_X11_isIn cmq_X11_isIn wq_282 wq_144 (by decide) (by decide)
theorem oX11_report_50 : oP MT mX11_report 50 (10, 3, 1, 55, []) := o_if_ne dX11_report_50 (by decide) (by decide)
theorem oX11_report_53 : oP MT mX11_report 53 (0, 1, 0, (-1), []) := o_iconst dX11_report_53 (by decide)
theorem oX11_report_54 : oP MT mX11_report 54 (21, 1, 0, 0, []) := o_iret dX11_report_54 rfl
theorem oX11_report_55 : oP MT mX11_report 55 (1, 1, 0, 1, []) := o_aload_n dX11_report_55 rfl
theorem oX11_report_56 : oP MT mX11_report 56 (13, 3, 0, 11, []) := o_getR (M := mX11_report) (C := RX11) (T := TX11) (ci := 11) (j := 0) (z := 11) dX11_report_56 rfl lq_RX11_56 rfl rfl
theorem oX11_report_59 : oP MT mX11_report 59 (12, 3, 16, 1, []) := o_getI (M := mX11_report) (C := RX1) (T := TX1) (ci := 1) (j := 16) (z := 1) dX11_report_59 rfl lq_RX11_270 rfl rfl
theorem oX11_report_62 : oP MT mX11_report 62 (0, 2, 0, 6, []) := o_bipush dX11_report_62 (by decide)
theorem oX11_report_64 : oP MT mX11_report 64 (11, 3, 2, 70, []) := o_icmp_lt dX11_report_64 (by decide) (by decide)
theorem oX11_report_67 : oP MT mX11_report 67 (0, 2, 0, (-2), []) := o_bipush dX11_report_67 (by decide)
theorem oX11_report_69 : oP MT mX11_report 69 (21, 1, 0, 0, []) := o_iret dX11_report_69 rfl
theorem oX11_report_70 : oP MT mX11_report 70 (1, 1, 0, 1, []) := o_aload_n dX11_report_70 rfl
theorem oX11_report_71 : oP MT mX11_report 71 (13, 3, 0, 11, []) := o_getR (M := mX11_report) (C := RX11) (T := TX11) (ci := 11) (j := 0) (z := 11) dX11_report_71 rfl lq_RX11_56 rfl rfl
theorem oX11_report_74 : oP MT mX11_report 74 (12, 3, 16, 1, []) := o_getI (M := mX11_report) (C := RX1) (T := TX1) (ci := 1) (j := 16) (z := 1) dX11_report_74 rfl lq_RX11_270 rfl rfl
theorem oX11_report_77 : oP MT mX11_report 77 (2, 2, 6, 0, []) := o_istore dX11_report_77 (by decide)
theorem oX11_report_79 : oP MT mX11_report 79 (1, 2, 6, 0, []) := o_iload dX11_report_79
theorem oX11_report_81 : oP MT mX11_report 81 (0, 1, 0, 4, []) := o_iconst dX11_report_81 (by decide)
theorem oX11_report_82 : oP MT mX11_report 82 (4, 1, 2, 0, []) := o_imul dX11_report_82
theorem oX11_report_83 : oP MT mX11_report 83 (2, 2, 7, 0, []) := o_istore dX11_report_83 (by decide)
theorem oX11_report_85 : oP MT mX11_report 85 (1, 1, 0, 1, []) := o_aload_n dX11_report_85 rfl
theorem oX11_report_86 : oP MT mX11_report 86 (13, 3, 0, 11, []) := o_getR (M := mX11_report) (C := RX11) (T := TX11) (ci := 11) (j := 0) (z := 11) dX11_report_86 rfl lq_RX11_56 rfl rfl
theorem oX11_report_89 : oP MT mX11_report 89 (13, 3, 15, 1, []) := o_getR (M := mX11_report) (C := RX1) (T := TX1) (ci := 1) (j := 15) (z := 1) dX11_report_89 rfl lq_RX11_273 rfl rfl
theorem oX11_report_92 : oP MT mX11_report 92 (1, 2, 7, 0, []) := o_iload dX11_report_92
theorem oX11_report_94 : oP MT mX11_report 94 (1, 1, 1, 0, []) := o_iload_n dX11_report_94 rfl
theorem oX11_report_95 : oP MT mX11_report 95 (18, 1, 0, 0, []) := o_iastore dX11_report_95
theorem oX11_report_96 : oP MT mX11_report 96 (1, 1, 0, 1, []) := o_aload_n dX11_report_96 rfl
theorem oX11_report_97 : oP MT mX11_report 97 (13, 3, 0, 11, []) := o_getR (M := mX11_report) (C := RX11) (T := TX11) (ci := 11) (j := 0) (z := 11) dX11_report_97 rfl lq_RX11_56 rfl rfl
theorem oX11_report_100 : oP MT mX11_report 100 (13, 3, 15, 1, []) := o_getR (M := mX11_report) (C := RX1) (T := TX1) (ci := 1) (j := 15) (z := 1) dX11_report_100 rfl lq_RX11_273 rfl rfl
theorem oX11_report_103 : oP MT mX11_report 103 (1, 2, 7, 0, []) := o_iload dX11_report_103
theorem oX11_report_105 : oP MT mX11_report 105 (0, 1, 0, 1, []) := o_iconst dX11_report_105 (by decide)
theorem oX11_report_106 : oP MT mX11_report 106 (4, 1, 0, 0, []) := o_iadd dX11_report_106
theorem oX11_report_107 : oP MT mX11_report 107 (1, 1, 2, 0, []) := o_iload_n dX11_report_107 rfl
theorem oX11_report_108 : oP MT mX11_report 108 (18, 1, 0, 0, []) := o_iastore dX11_report_108
theorem oX11_report_109 : oP MT mX11_report 109 (1, 1, 0, 1, []) := o_aload_n dX11_report_109 rfl
theorem oX11_report_110 : oP MT mX11_report 110 (13, 3, 0, 11, []) := o_getR (M := mX11_report) (C := RX11) (T := TX11) (ci := 11) (j := 0) (z := 11) dX11_report_110 rfl lq_RX11_56 rfl rfl
theorem oX11_report_113 : oP MT mX11_report 113 (13, 3, 15, 1, []) := o_getR (M := mX11_report) (C := RX1) (T := TX1) (ci := 1) (j := 15) (z := 1) dX11_report_113 rfl lq_RX11_273 rfl rfl
theorem oX11_report_116 : oP MT mX11_report 116 (1, 2, 7, 0, []) := o_iload dX11_report_116
theorem oX11_report_118 : oP MT mX11_report 118 (0, 1, 0, 2, []) := o_iconst dX11_report_118 (by decide)
theorem oX11_report_119 : oP MT mX11_report 119 (4, 1, 0, 0, []) := o_iadd dX11_report_119
theorem oX11_report_120 : oP MT mX11_report 120 (1, 1, 3, 0, []) := o_iload_n dX11_report_120 rfl
theorem oX11_report_121 : oP MT mX11_report 121 (18, 1, 0, 0, []) := o_iastore dX11_report_121
theorem oX11_report_122 : oP MT mX11_report 122 (1, 1, 0, 1, []) := o_aload_n dX11_report_122 rfl
theorem oX11_report_123 : oP MT mX11_report 123 (13, 3, 0, 11, []) := o_getR (M := mX11_report) (C := RX11) (T := TX11) (ci := 11) (j := 0) (z := 11) dX11_report_123 rfl lq_RX11_56 rfl rfl
theorem oX11_report_126 : oP MT mX11_report 126 (13, 3, 15, 1, []) := o_getR (M := mX11_report) (C := RX1) (T := TX1) (ci := 1) (j := 15) (z := 1) dX11_report_126 rfl lq_RX11_273 rfl rfl
theorem oX11_report_129 : oP MT mX11_report 129 (1, 2, 7, 0, []) := o_iload dX11_report_129
theorem oX11_report_131 : oP MT mX11_report 131 (0, 1, 0, 3, []) := o_iconst dX11_report_131 (by decide)
theorem oX11_report_132 : oP MT mX11_report 132 (4, 1, 0, 0, []) := o_iadd dX11_report_132
theorem oX11_report_133 : oP MT mX11_report 133 (1, 2, 4, 0, []) := o_iload dX11_report_133
theorem oX11_report_135 : oP MT mX11_report 135 (18, 1, 0, 0, []) := o_iastore dX11_report_135
theorem oX11_report_136 : oP MT mX11_report 136 (1, 1, 0, 1, []) := o_aload_n dX11_report_136 rfl
theorem oX11_report_137 : oP MT mX11_report 137 (13, 3, 0, 11, []) := o_getR (M := mX11_report) (C := RX11) (T := TX11) (ci := 11) (j := 0) (z := 11) dX11_report_137 rfl lq_RX11_56 rfl rfl
theorem oX11_report_140 : oP MT mX11_report 140 (1, 2, 6, 0, []) := o_iload dX11_report_140
theorem oX11_report_142 : oP MT mX11_report 142 (0, 1, 0, 1, []) := o_iconst dX11_report_142 (by decide)
theorem oX11_report_143 : oP MT mX11_report 143 (4, 1, 0, 0, []) := o_iadd dX11_report_143
theorem oX11_report_144 : oP MT mX11_report 144 (14, 3, 16, 1, []) := o_putI (M := mX11_report) (C := RX1) (T := TX1) (ci := 1) (j := 16) (z := 1) dX11_report_144 rfl lq_RX11_270 rfl rfl rfl rfl
theorem oX11_report_147 : oP MT mX11_report 147 (1, 2, 6, 0, []) := o_iload dX11_report_147
theorem oX11_report_149 : oP MT mX11_report 149 (21, 1, 0, 0, []) := o_iret dX11_report_149 rfl
def ops_X11_report : List (Nat × aO) := [(0, (1, 1, 2, 0, [])), (1, (10, 3, 1, 9, [])), (4, (0, 2, 0, 99, [])), (6, (9, 3, 11, 0, [])), (9, (0, 2, 0, 9, [])), (11, (2, 2, 5, 0, [])), (13, (1, 1, 1, 0, [])), (14, (0, 1, 0, 0, [])), (15, (0, 2, 0, 15, [])), (17, (25, 3, 37, 3, [])), (20, (10, 3, 0, 53, [])), (23, (1, 1, 2, 0, [])), (24, (0, 1, 0, 0, [])), (25, (0, 1, 0, 1, [])), (26, (25, 3, 37, 3, [])), (29, (10, 3, 0, 53, [])), (32, (1, 1, 3, 0, [])), (33, (0, 1, 0, 0, [])), (34, (1, 2, 5, 0, [])), (36, (25, 3, 37, 3, [])), (39, (10, 3, 0, 53, [])), (42, (1, 2, 4, 0, [])), (44, (1, 1, 3, 0, [])), (45, (1, 2, 5, 0, [])), (47, (25, 3, 37, 3, [])), (50, (10, 3, 1, 55, [])), (53, (0, 1, 0, (-1), [])), (54, (21, 1, 0, 0, [])), (55, (1, 1, 0, 1, [])), (56, (13, 3, 0, 11, [])), (59, (12, 3, 16, 1, [])), (62, (0, 2, 0, 6, [])), (64, (11, 3, 2, 70, [])), (67, (0, 2, 0, (-2), [])), (69, (21, 1, 0, 0, [])), (70, (1, 1, 0, 1, [])), (71, (13, 3, 0, 11, [])), (74, (12, 3, 16, 1, [])), (77, (2, 2, 6, 0, [])), (79, (1, 2, 6, 0, [])), (81, (0, 1, 0, 4, [])), (82, (4, 1, 2, 0, [])), (83, (2, 2, 7, 0, [])), (85, (1, 1, 0, 1, [])), (86, (13, 3, 0, 11, [])), (89, (13, 3, 15, 1, [])), (92, (1, 2, 7, 0, [])), (94, (1, 1, 1, 0, [])), (95, (18, 1, 0, 0, [])), (96, (1, 1, 0, 1, [])), (97, (13, 3, 0, 11, [])), (100, (13, 3, 15, 1, [])), (103, (1, 2, 7, 0, [])), (105, (0, 1, 0, 1, [])), (106, (4, 1, 0, 0, [])), (107, (1, 1, 2, 0, [])), (108, (18, 1, 0, 0, [])), (109, (1, 1, 0, 1, [])), (110, (13, 3, 0, 11, [])), (113, (13, 3, 15, 1, [])), (116, (1, 2, 7, 0, [])), (118, (0, 1, 0, 2, [])), (119, (4, 1, 0, 0, [])), (120, (1, 1, 3, 0, [])), (121, (18, 1, 0, 0, [])), (122, (1, 1, 0, 1, [])), (123, (13, 3, 0, 11, [])), (126, (13, 3, 15, 1, [])), (129, (1, 2, 7, 0, [])), (131, (0, 1, 0, 3, [])), (132, (4, 1, 0, 0, [])), (133, (1, 2, 4, 0, [])), (135, (18, 1, 0, 0, [])), (136, (1, 1, 0, 1, [])), (137, (13, 3, 0, 11, [])), (140, (1, 2, 6, 0, [])), (142, (0, 1, 0, 1, [])), (143, (4, 1, 0, 0, [])), (144, (14, 3, 16, 1, [])), (147, (1, 2, 6, 0, [])), (149, (21, 1, 0, 0, []))]
theorem os_X11_report : oA MT mX11_report ops_X11_report := (oA.cons oX11_report_0 (oA.cons oX11_report_1 (oA.cons oX11_report_4 (oA.cons oX11_report_6 (oA.cons oX11_report_9 (oA.cons oX11_report_11 (oA.cons oX11_report_13 (oA.cons oX11_report_14 (oA.cons oX11_report_15 (oA.cons oX11_report_17 (oA.cons oX11_report_20 (oA.cons oX11_report_23 (oA.cons oX11_report_24 (oA.cons oX11_report_25 (oA.cons oX11_report_26 (oA.cons oX11_report_29 (oA.cons oX11_report_32 (oA.cons oX11_report_33 (oA.cons oX11_report_34 (oA.cons oX11_report_36 (oA.cons oX11_report_39 (oA.cons oX11_report_42 (oA.cons oX11_report_44 (oA.cons oX11_report_45 (oA.cons oX11_report_47 (oA.cons oX11_report_50 (oA.cons oX11_report_53 (oA.cons oX11_report_54 (oA.cons oX11_report_55 (oA.cons oX11_report_56 (oA.cons oX11_report_59 (oA.cons oX11_report_62 (oA.cons oX11_report_64 (oA.cons oX11_report_67 (oA.cons oX11_report_69 (oA.cons oX11_report_70 (oA.cons oX11_report_71 (oA.cons oX11_report_74 (oA.cons oX11_report_77 (oA.cons oX11_report_79 (oA.cons oX11_report_81 (oA.cons oX11_report_82 (oA.cons oX11_report_83 (oA.cons oX11_report_85 (oA.cons oX11_report_86 (oA.cons oX11_report_89 (oA.cons oX11_report_92 (oA.cons oX11_report_94 (oA.cons oX11_report_95 (oA.cons oX11_report_96 (oA.cons oX11_report_97 (oA.cons oX11_report_100 (oA.cons oX11_report_103 (oA.cons oX11_report_105 (oA.cons oX11_report_106 (oA.cons oX11_report_107 (oA.cons oX11_report_108 (oA.cons oX11_report_109 (oA.cons oX11_report_110 (oA.cons oX11_report_113 (oA.cons oX11_report_116 (oA.cons oX11_report_118 (oA.cons oX11_report_119 (oA.cons oX11_report_120 (oA.cons oX11_report_121 (oA.cons oX11_report_122 (oA.cons oX11_report_123 (oA.cons oX11_report_126 (oA.cons oX11_report_129 (oA.cons oX11_report_131 (oA.cons oX11_report_132 (oA.cons oX11_report_133 (oA.cons oX11_report_135 (oA.cons oX11_report_136 (oA.cons oX11_report_137 (oA.cons oX11_report_140 (oA.cons oX11_report_142 (oA.cons oX11_report_143 (oA.cons oX11_report_144 (oA.cons oX11_report_147 (oA.cons oX11_report_149 oA.nil)))))))))))))))))))))))))))))))))))))))))))))))))))))))))))))))))))))))))))))))))
theorem dX11_forget_0 : decode cX11_forget 0 = .ok (.aload_n 0, 1) := by decide +kernel
theorem dX11_forget_1 : decode cX11_forget 1 = .ok (.getfield 56, 3) := by decide +kernel
theorem dX11_forget_4 : decode cX11_forget 4 = .ok (.getfield 270, 3) := by decide +kernel
theorem dX11_forget_7 : decode cX11_forget 7 = .ok (.istore_n 1, 1) := by decide +kernel
theorem dX11_forget_8 : decode cX11_forget 8 = .ok (.aload_n 0, 1) := by decide +kernel
theorem dX11_forget_9 : decode cX11_forget 9 = .ok (.getfield 56, 3) := by decide +kernel
theorem dX11_forget_12 : decode cX11_forget 12 = .ok (.iconst 0, 1) := by decide +kernel
theorem dX11_forget_13 : decode cX11_forget 13 = .ok (.putfield 270, 3) := by decide +kernel
theorem dX11_forget_16 : decode cX11_forget 16 = .ok (.iload_n 1, 1) := by decide +kernel
theorem dX11_forget_17 : decode cX11_forget 17 = .ok (.ireturn, 1) := by decide +kernel
theorem oX11_forget_0 : oP MT mX11_forget 0 (1, 1, 0, 1, []) := o_aload_n dX11_forget_0 rfl
theorem oX11_forget_1 : oP MT mX11_forget 1 (13, 3, 0, 11, []) := o_getR (M := mX11_forget) (C := RX11) (T := TX11) (ci := 11) (j := 0) (z := 11) dX11_forget_1 rfl lq_RX11_56 rfl rfl
theorem oX11_forget_4 : oP MT mX11_forget 4 (12, 3, 16, 1, []) := o_getI (M := mX11_forget) (C := RX1) (T := TX1) (ci := 1) (j := 16) (z := 1) dX11_forget_4 rfl lq_RX11_270 rfl rfl
theorem oX11_forget_7 : oP MT mX11_forget 7 (2, 1, 1, 0, []) := o_istore_n dX11_forget_7 rfl (by decide)
theorem oX11_forget_8 : oP MT mX11_forget 8 (1, 1, 0, 1, []) := o_aload_n dX11_forget_8 rfl
theorem oX11_forget_9 : oP MT mX11_forget 9 (13, 3, 0, 11, []) := o_getR (M := mX11_forget) (C := RX11) (T := TX11) (ci := 11) (j := 0) (z := 11) dX11_forget_9 rfl lq_RX11_56 rfl rfl
theorem oX11_forget_12 : oP MT mX11_forget 12 (0, 1, 0, 0, []) := o_iconst dX11_forget_12 (by decide)
theorem oX11_forget_13 : oP MT mX11_forget 13 (14, 3, 16, 1, []) := o_putI (M := mX11_forget) (C := RX1) (T := TX1) (ci := 1) (j := 16) (z := 1) dX11_forget_13 rfl lq_RX11_270 rfl rfl rfl rfl
theorem oX11_forget_16 : oP MT mX11_forget 16 (1, 1, 1, 0, []) := o_iload_n dX11_forget_16 rfl
theorem oX11_forget_17 : oP MT mX11_forget 17 (21, 1, 0, 0, []) := o_iret dX11_forget_17 rfl
def ops_X11_forget : List (Nat × aO) := [(0, (1, 1, 0, 1, [])), (1, (13, 3, 0, 11, [])), (4, (12, 3, 16, 1, [])), (7, (2, 1, 1, 0, [])), (8, (1, 1, 0, 1, [])), (9, (13, 3, 0, 11, [])), (12, (0, 1, 0, 0, [])), (13, (14, 3, 16, 1, [])), (16, (1, 1, 1, 0, [])), (17, (21, 1, 0, 0, []))]
theorem os_X11_forget : oA MT mX11_forget ops_X11_forget := (oA.cons oX11_forget_0 (oA.cons oX11_forget_1 (oA.cons oX11_forget_4 (oA.cons oX11_forget_7 (oA.cons oX11_forget_8 (oA.cons oX11_forget_9 (oA.cons oX11_forget_12 (oA.cons oX11_forget_13 (oA.cons oX11_forget_16 (oA.cons oX11_forget_17 oA.nil))))))))))
theorem dX11_lone_0 : decode cX11_lone 0 = .ok (.iload_n 1, 1) := by decide +kernel
theorem dX11_lone_1 : decode cX11_lone 1 = .ok (.iconst 0, 1) := by decide +kernel
theorem dX11_lone_2 : decode cX11_lone 2 = .ok (.iconst 3, 1) := by decide +kernel
theorem dX11_lone_3 : decode cX11_lone 3 = .ok (.invokestatic 90, 3) := by decide +kernel
theorem dX11_lone_6 : decode cX11_lone 6 = .ok (.ifCond .ne 5, 3) := by decide +kernel
theorem dX11_lone_9 : decode cX11_lone 9 = .ok (.iconst (-1), 1) := by decide +kernel
theorem dX11_lone_10 : decode cX11_lone 10 = .ok (.ireturn, 1) := by decide +kernel
theorem dX11_lone_11 : decode cX11_lone 11 = .ok (.iconst 0, 1) := by decide +kernel
theorem dX11_lone_12 : decode cX11_lone 12 = .ok (.istore_n 2, 1) := by decide +kernel
theorem dX11_lone_13 : decode cX11_lone 13 = .ok (.iconst 0, 1) := by decide +kernel
theorem dX11_lone_14 : decode cX11_lone 14 = .ok (.istore_n 3, 1) := by decide +kernel
theorem dX11_lone_15 : decode cX11_lone 15 = .ok (.iload_n 3, 1) := by decide +kernel
theorem dX11_lone_16 : decode cX11_lone 16 = .ok (.sipush 500, 3) := by decide +kernel
theorem dX11_lone_19 : decode cX11_lone 19 = .ok (.if_icmp .ge 67, 3) := by decide +kernel
theorem dX11_lone_22 : decode cX11_lone 22 = .ok (.aload_n 0, 1) := by decide +kernel
theorem dX11_lone_23 : decode cX11_lone 23 = .ok (.getfield 56, 3) := by decide +kernel
theorem dX11_lone_26 : decode cX11_lone 26 = .ok (.iload_n 3, 1) := by decide +kernel
theorem dX11_lone_27 : decode cX11_lone 27 = .ok (.invokestatic 276, 3) := by decide +kernel
theorem dX11_lone_30 : decode cX11_lone 30 = .ok (.iload_n 3, 1) := by decide +kernel
theorem dX11_lone_31 : decode cX11_lone 31 = .ok (.invokestatic 279, 3) := by decide +kernel
theorem dX11_lone_34 : decode cX11_lone 34 = .ok (.iload_n 3, 1) := by decide +kernel
theorem dX11_lone_35 : decode cX11_lone 35 = .ok (.invokestatic 282, 3) := by decide +kernel
theorem dX11_lone_38 : decode cX11_lone 38 = .ok (.invokevirtual 285, 3) := by decide +kernel
theorem dX11_lone_41 : decode cX11_lone 41 = .ok (.ifCond .ne 39, 3) := by decide +kernel
theorem dX11_lone_44 : decode cX11_lone 44 = .ok (.iload_n 1, 1) := by decide +kernel
theorem dX11_lone_45 : decode cX11_lone 45 = .ok (.ifCond .eq 32, 3) := by decide +kernel
theorem dX11_lone_48 : decode cX11_lone 48 = .ok (.iload_n 1, 1) := by decide +kernel
theorem dX11_lone_49 : decode cX11_lone 49 = .ok (.iconst 1, 1) := by decide +kernel
theorem dX11_lone_50 : decode cX11_lone 50 = .ok (.if_icmp .ne 10, 3) := by decide +kernel
theorem dX11_lone_53 : decode cX11_lone 53 = .ok (.iload_n 3, 1) := by decide +kernel
theorem dX11_lone_54 : decode cX11_lone 54 = .ok (.invokestatic 276, 3) := by decide +kernel
theorem dX11_lone_57 : decode cX11_lone 57 = .ok (.goto 19, 3) := by decide +kernel
theorem dX11_lone_60 : decode cX11_lone 60 = .ok (.iload_n 1, 1) := by decide +kernel
theorem dX11_lone_61 : decode cX11_lone 61 = .ok (.iconst 2, 1) := by decide +kernel
theorem dX11_lone_62 : decode cX11_lone 62 = .ok (.if_icmp .ne 10, 3) := by decide +kernel
theorem dX11_lone_65 : decode cX11_lone 65 = .ok (.iload_n 3, 1) := by decide +kernel
theorem dX11_lone_66 : decode cX11_lone 66 = .ok (.invokestatic 279, 3) := by decide +kernel
theorem dX11_lone_69 : decode cX11_lone 69 = .ok (.goto 7, 3) := by decide +kernel
theorem dX11_lone_72 : decode cX11_lone 72 = .ok (.iload_n 3, 1) := by decide +kernel
theorem dX11_lone_73 : decode cX11_lone 73 = .ok (.invokestatic 282, 3) := by decide +kernel
theorem dX11_lone_76 : decode cX11_lone 76 = .ok (.ireturn, 1) := by decide +kernel
theorem dX11_lone_77 : decode cX11_lone 77 = .ok (.iinc 2 1, 3) := by decide +kernel
theorem dX11_lone_80 : decode cX11_lone 80 = .ok (.iinc 3 1, 3) := by decide +kernel
theorem dX11_lone_83 : decode cX11_lone 83 = .ok (.goto (-68), 3) := by decide +kernel
theorem dX11_lone_86 : decode cX11_lone 86 = .ok (.iload_n 1, 1) := by decide +kernel
theorem dX11_lone_87 : decode cX11_lone 87 = .ok (.ifCond .ne 7, 3) := by decide +kernel
theorem dX11_lone_90 : decode cX11_lone 90 = .ok (.iload_n 2, 1) := by decide +kernel
theorem dX11_lone_91 : decode cX11_lone 91 = .ok (.goto 5, 3) := by decide +kernel
theorem dX11_lone_94 : decode cX11_lone 94 = .ok (.bipush (-3), 2) := by decide +kernel
theorem dX11_lone_96 : decode cX11_lone 96 = .ok (.ireturn, 1) := by decide +kernel
theorem oX11_lone_0 : oP MT mX11_lone 0 (1, 1, 1, 0, []) := o_iload_n dX11_lone_0 rfl
theorem oX11_lone_1 : oP MT mX11_lone 1 (0, 1, 0, 0, []) := o_iconst dX11_lone_1 (by decide)
theorem oX11_lone_2 : oP MT mX11_lone 2 (0, 1, 0, 3, []) := o_iconst dX11_lone_2 (by decide)
theorem oX11_lone_3 : oP MT mX11_lone 3 (25, 3, 37, 3, []) := o_callS dX11_lone_3 (mj := mX11_isIn) mt_X11_isIn cmq_X11_isIn wq_282 wq_144 (by decide) (by decide)
theorem oX11_lone_6 : oP MT mX11_lone 6 (10, 3, 1, 11, []) := o_if_ne dX11_lone_6 (by decide) (by decide)
theorem oX11_lone_9 : oP MT mX11_lone 9 (0, 1, 0, (-1), []) := o_iconst dX11_lone_9 (by decide)
theorem oX11_lone_10 : oP MT mX11_lone 10 (21, 1, 0, 0, []) := o_iret dX11_lone_10 rfl
theorem oX11_lone_11 : oP MT mX11_lone 11 (0, 1, 0, 0, []) := o_iconst dX11_lone_11 (by decide)
theorem oX11_lone_12 : oP MT mX11_lone 12 (2, 1, 2, 0, []) := o_istore_n dX11_lone_12 rfl (by decide)
theorem oX11_lone_13 : oP MT mX11_lone 13 (0, 1, 0, 0, []) := o_iconst dX11_lone_13 (by decide)
theorem oX11_lone_14 : oP MT mX11_lone 14 (2, 1, 3, 0, []) := o_istore_n dX11_lone_14 rfl (by decide)
theorem oX11_lone_15 : oP MT mX11_lone 15 (1, 1, 3, 0, []) := o_iload_n dX11_lone_15 rfl
theorem oX11_lone_16 : oP MT mX11_lone 16 (0, 3, 0, 500, []) := o_sipush dX11_lone_16 (by decide)
theorem oX11_lone_19 : oP MT mX11_lone 19 (11, 3, 3, 86, []) := o_icmp_ge dX11_lone_19 (by decide) (by decide)
theorem oX11_lone_22 : oP MT mX11_lone 22 (1, 1, 0, 1, []) := o_aload_n dX11_lone_22 rfl
theorem oX11_lone_23 : oP MT mX11_lone 23 (13, 3, 0, 11, []) := o_getR (M := mX11_lone) (C := RX11) (T := TX11) (ci := 11) (j := 0) (z := 11) dX11_lone_23 rfl lq_RX11_56 rfl rfl
theorem oX11_lone_26 : oP MT mX11_lone 26 (1, 1, 3, 0, []) := o_iload_n dX11_lone_26 rfl
theorem oX11_lone_27 : oP MT mX11_lone 27 (25, 3, 96, 1, []) := o_callS dX11_lone_27 (mj := mX11_loneKind) mt_X11_loneKind cmq_X11_loneKind wq_738 wq_740 (by decide) (by decide)
theorem oX11_lone_30 : oP MT mX11_lone 30 (1, 1, 3, 0, []) := o_iload_n dX11_lone_30 rfl
theorem oX11_lone_31 : oP MT mX11_lone 31 (25, 3, 97, 1, []) := o_callS dX11_lone_31 (mj := mX11_loneStraw) mt_X11_loneStraw cmq_X11_loneStraw wq_741 wq_743 (by decide) (by decide)
theorem oX11_lone_34 : oP MT mX11_lone 34 (1, 1, 3, 0, []) := o_iload_n dX11_lone_34 rfl
theorem oX11_lone_35 : oP MT mX11_lone 35 (25, 3, 98, 1, []) := o_callS dX11_lone_35 (mj := mX11_loneTeeth) mt_X11_loneTeeth cmq_X11_loneTeeth wq_744 wq_746 (by decide) (by decide)
theorem oX11_lone_38 : oP MT mX11_lone 38 (26, 3, 0, 3, [(1, 99)]) := o_callO ((vA.cons (v_callV dX11_lone_38 (ci := 1) rfl rfl (mj := mX1_misfits) mt_X1_misfits cmq_X1_misfits wq_747 wq_749 wq_750 (by decide) (by decide)) vA.nil))
theorem oX11_lone_41 : oP MT mX11_lone 41 (10, 3, 1, 80, []) := o_if_ne dX11_lone_41 (by decide) (by decide)
theorem oX11_lone_44 : oP MT mX11_lone 44 (1, 1, 1, 0, []) := o_iload_n dX11_lone_44 rfl
theorem oX11_lone_45 : oP MT mX11_lone 45 (10, 3, 0, 77, []) := o_if_eq dX11_lone_45 (by decide) (by decide)
theorem oX11_lone_48 : oP MT mX11_lone 48 (1, 1, 1, 0, []) := o_iload_n dX11_lone_48 rfl
theorem oX11_lone_49 : oP MT mX11_lone 49 (0, 1, 0, 1, []) := o_iconst dX11_lone_49 (by decide)
theorem oX11_lone_50 : oP MT mX11_lone 50 (11, 3, 1, 60, []) := o_icmp_ne dX11_lone_50 (by decide) (by decide)
theorem oX11_lone_53 : oP MT mX11_lone 53 (1, 1, 3, 0, []) := o_iload_n dX11_lone_53 rfl
theorem oX11_lone_54 : oP MT mX11_lone 54 (25, 3, 96, 1, []) := o_callS dX11_lone_54 (mj := mX11_loneKind) mt_X11_loneKind cmq_X11_loneKind wq_738 wq_740 (by decide) (by decide)
theorem oX11_lone_57 : oP MT mX11_lone 57 (9, 3, 76, 0, []) := o_goto dX11_lone_57 (by decide)
theorem oX11_lone_60 : oP MT mX11_lone 60 (1, 1, 1, 0, []) := o_iload_n dX11_lone_60 rfl
theorem oX11_lone_61 : oP MT mX11_lone 61 (0, 1, 0, 2, []) := o_iconst dX11_lone_61 (by decide)
theorem oX11_lone_62 : oP MT mX11_lone 62 (11, 3, 1, 72, []) := o_icmp_ne dX11_lone_62 (by decide) (by decide)
theorem oX11_lone_65 : oP MT mX11_lone 65 (1, 1, 3, 0, []) := o_iload_n dX11_lone_65 rfl
theorem oX11_lone_66 : oP MT mX11_lone 66 (25, 3, 97, 1, []) := o_callS dX11_lone_66 (mj := mX11_loneStraw) mt_X11_loneStraw cmq_X11_loneStraw wq_741 wq_743 (by decide) (by decide)
theorem oX11_lone_69 : oP MT mX11_lone 69 (9, 3, 76, 0, []) := o_goto dX11_lone_69 (by decide)
theorem oX11_lone_72 : oP MT mX11_lone 72 (1, 1, 3, 0, []) := o_iload_n dX11_lone_72 rfl
theorem oX11_lone_73 : oP MT mX11_lone 73 (25, 3, 98, 1, []) := o_callS dX11_lone_73 (mj := mX11_loneTeeth) mt_X11_loneTeeth cmq_X11_loneTeeth wq_744 wq_746 (by decide) (by decide)
theorem oX11_lone_76 : oP MT mX11_lone 76 (21, 1, 0, 0, []) := o_iret dX11_lone_76 rfl
theorem oX11_lone_77 : oP MT mX11_lone 77 (3, 3, 2, 1, []) := o_iinc dX11_lone_77 (by decide) (by decide)
theorem oX11_lone_80 : oP MT mX11_lone 80 (3, 3, 3, 1, []) := o_iinc dX11_lone_80 (by decide) (by decide)
theorem oX11_lone_83 : oP MT mX11_lone 83 (9, 3, 15, 0, []) := o_goto dX11_lone_83 (by decide)
theorem oX11_lone_86 : oP MT mX11_lone 86 (1, 1, 1, 0, []) := o_iload_n dX11_lone_86 rfl
theorem oX11_lone_87 : oP MT mX11_lone 87 (10, 3, 1, 94, []) := o_if_ne dX11_lone_87 (by decide) (by decide)
theorem oX11_lone_90 : oP MT mX11_lone 90 (1, 1, 2, 0, []) := o_iload_n dX11_lone_90 rfl
theorem oX11_lone_91 : oP MT mX11_lone 91 (9, 3, 96, 0, []) := o_goto dX11_lone_91 (by decide)
theorem oX11_lone_94 : oP MT mX11_lone 94 (0, 2, 0, (-3), []) := o_bipush dX11_lone_94 (by decide)
theorem oX11_lone_96 : oP MT mX11_lone 96 (21, 1, 0, 0, []) := o_iret dX11_lone_96 rfl
def ops_X11_lone : List (Nat × aO) := [(0, (1, 1, 1, 0, [])), (1, (0, 1, 0, 0, [])), (2, (0, 1, 0, 3, [])), (3, (25, 3, 37, 3, [])), (6, (10, 3, 1, 11, [])), (9, (0, 1, 0, (-1), [])), (10, (21, 1, 0, 0, [])), (11, (0, 1, 0, 0, [])), (12, (2, 1, 2, 0, [])), (13, (0, 1, 0, 0, [])), (14, (2, 1, 3, 0, [])), (15, (1, 1, 3, 0, [])), (16, (0, 3, 0, 500, [])), (19, (11, 3, 3, 86, [])), (22, (1, 1, 0, 1, [])), (23, (13, 3, 0, 11, [])), (26, (1, 1, 3, 0, [])), (27, (25, 3, 96, 1, [])), (30, (1, 1, 3, 0, [])), (31, (25, 3, 97, 1, [])), (34, (1, 1, 3, 0, [])), (35, (25, 3, 98, 1, [])), (38, (26, 3, 0, 3, [(1, 99)])), (41, (10, 3, 1, 80, [])), (44, (1, 1, 1, 0, [])), (45, (10, 3, 0, 77, [])), (48, (1, 1, 1, 0, [])), (49, (0, 1, 0, 1, [])), (50, (11, 3, 1, 60, [])), (53, (1, 1, 3, 0, [])), (54, (25, 3, 96, 1, [])), (57, (9, 3, 76, 0, [])), (60, (1, 1, 1, 0, [])), (61, (0, 1, 0, 2, [])), (62, (11, 3, 1, 72, [])), (65, (1, 1, 3, 0, [])), (66, (25, 3, 97, 1, [])), (69, (9, 3, 76, 0, [])), (72, (1, 1, 3, 0, [])), (73, (25, 3, 98, 1, [])), (76, (21, 1, 0, 0, [])), (77, (3, 3, 2, 1, [])), (80, (3, 3, 3, 1, [])), (83, (9, 3, 15, 0, [])), (86, (1, 1, 1, 0, [])), (87, (10, 3, 1, 94, [])), (90, (1, 1, 2, 0, [])), (91, (9, 3, 96, 0, [])), (94, (0, 2, 0, (-3), [])), (96, (21, 1, 0, 0, []))]
theorem os_X11_lone : oA MT mX11_lone ops_X11_lone := (oA.cons oX11_lone_0 (oA.cons oX11_lone_1 (oA.cons oX11_lone_2 (oA.cons oX11_lone_3 (oA.cons oX11_lone_6 (oA.cons oX11_lone_9 (oA.cons oX11_lone_10 (oA.cons oX11_lone_11 (oA.cons oX11_lone_12 (oA.cons oX11_lone_13 (oA.cons oX11_lone_14 (oA.cons oX11_lone_15 (oA.cons oX11_lone_16 (oA.cons oX11_lone_19 (oA.cons oX11_lone_22 (oA.cons oX11_lone_23 (oA.cons oX11_lone_26 (oA.cons oX11_lone_27 (oA.cons oX11_lone_30 (oA.cons oX11_lone_31 (oA.cons oX11_lone_34 (oA.cons oX11_lone_35 (oA.cons oX11_lone_38 (oA.cons oX11_lone_41 (oA.cons oX11_lone_44 (oA.cons oX11_lone_45 (oA.cons oX11_lone_48 (oA.cons oX11_lone_49 (oA.cons oX11_lone_50 (oA.cons oX11_lone_53 (oA.cons oX11_lone_54 (oA.cons oX11_lone_57 (oA.cons oX11_lone_60 (oA.cons oX11_lone_61 (oA.cons oX11_lone_62 (oA.cons oX11_lone_65 (oA.cons oX11_lone_66 (oA.cons oX11_lone_69 (oA.cons oX11_lone_72 (oA.cons oX11_lone_73 (oA.cons oX11_lone_76 (oA.cons oX11_lone_77 (oA.cons oX11_lone_80 (oA.cons oX11_lone_83 (oA.cons oX11_lone_86 (oA.cons oX11_lone_87 (oA.cons oX11_lone_90 (oA.cons oX11_lone_91 (oA.cons oX11_lone_94 (oA.cons oX11_lone_96 oA.nil))))))))))))))))))))))))))))))))))))))))))))))))))
theorem dX11_liar_0 : decode cX11_liar 0 = .ok (.bipush 6, 2) := by decide +kernel
theorem dX11_liar_2 : decode cX11_liar 2 = .ok (.istore_n 1, 1) := by decide +kernel
theorem dX11_liar_3 : decode cX11_liar 3 = .ok (.iconst 0, 1) := by decide +kernel
theorem dX11_liar_4 : decode cX11_liar 4 = .ok (.istore_n 2, 1) := by decide +kernel
theorem dX11_liar_5 : decode cX11_liar 5 = .ok (.iload_n 2, 1) := by decide +kernel
theorem dX11_liar_6 : decode cX11_liar 6 = .ok (.sipush 500, 3) := by decide +kernel
theorem dX11_liar_9 : decode cX11_liar 9 = .ok (.if_icmp .ge 53, 3) := by decide +kernel
theorem dX11_liar_12 : decode cX11_liar 12 = .ok (.aload_n 0, 1) := by decide +kernel
theorem dX11_liar_13 : decode cX11_liar 13 = .ok (.getfield 56, 3) := by decide +kernel
theorem dX11_liar_16 : decode cX11_liar 16 = .ok (.iload_n 2, 1) := by decide +kernel
theorem dX11_liar_17 : decode cX11_liar 17 = .ok (.invokestatic 276, 3) := by decide +kernel
theorem dX11_liar_20 : decode cX11_liar 20 = .ok (.iload_n 2, 1) := by decide +kernel
theorem dX11_liar_21 : decode cX11_liar 21 = .ok (.invokestatic 279, 3) := by decide +kernel
theorem dX11_liar_24 : decode cX11_liar 24 = .ok (.iload_n 2, 1) := by decide +kernel
theorem dX11_liar_25 : decode cX11_liar 25 = .ok (.invokestatic 282, 3) := by decide +kernel
theorem dX11_liar_28 : decode cX11_liar 28 = .ok (.invokevirtual 285, 3) := by decide +kernel
theorem dX11_liar_31 : decode cX11_liar 31 = .ok (.istore_n 3, 1) := by decide +kernel
theorem dX11_liar_32 : decode cX11_liar 32 = .ok (.iload_n 3, 1) := by decide +kernel
theorem dX11_liar_33 : decode cX11_liar 33 = .ok (.ifCond .ne 6, 3) := by decide +kernel
theorem dX11_liar_36 : decode cX11_liar 36 = .ok (.bipush (-3), 2) := by decide +kernel
theorem dX11_liar_38 : decode cX11_liar 38 = .ok (.ireturn, 1) := by decide +kernel
theorem dX11_liar_39 : decode cX11_liar 39 = .ok (.iload_n 3, 1) := by decide +kernel
theorem dX11_liar_40 : decode cX11_liar 40 = .ok (.invokestatic 288, 3) := by decide +kernel
theorem dX11_liar_43 : decode cX11_liar 43 = .ok (.iconst 1, 1) := by decide +kernel
theorem dX11_liar_44 : decode cX11_liar 44 = .ok (.if_icmp .ne 12, 3) := by decide +kernel
theorem dX11_liar_47 : decode cX11_liar 47 = .ok (.iload_n 1, 1) := by decide +kernel
theorem dX11_liar_48 : decode cX11_liar 48 = .ok (.iload_n 3, 1) := by decide +kernel
theorem dX11_liar_49 : decode cX11_liar 49 = .ok (.invokestatic 235, 3) := by decide +kernel
theorem dX11_liar_52 : decode cX11_liar 52 = .ok (.invokestatic 293, 3) := by decide +kernel
theorem dX11_liar_55 : decode cX11_liar 55 = .ok (.istore_n 1, 1) := by decide +kernel
theorem dX11_liar_56 : decode cX11_liar 56 = .ok (.iinc 2 1, 3) := by decide +kernel
theorem dX11_liar_59 : decode cX11_liar 59 = .ok (.goto (-54), 3) := by decide +kernel
theorem dX11_liar_62 : decode cX11_liar 62 = .ok (.iload_n 1, 1) := by decide +kernel
theorem dX11_liar_63 : decode cX11_liar 63 = .ok (.bipush 6, 2) := by decide +kernel
theorem dX11_liar_65 : decode cX11_liar 65 = .ok (.if_icmp .ge 7, 3) := by decide +kernel
theorem dX11_liar_68 : decode cX11_liar 68 = .ok (.iload_n 1, 1) := by decide +kernel
theorem dX11_liar_69 : decode cX11_liar 69 = .ok (.goto 5, 3) := by decide +kernel
theorem dX11_liar_72 : decode cX11_liar 72 = .ok (.bipush (-3), 2) := by decide +kernel
theorem dX11_liar_74 : decode cX11_liar 74 = .ok (.ireturn, 1) := by decide +kernel
theorem oX11_liar_0 : oP MT mX11_liar 0 (0, 2, 0, 6, []) := o_bipush dX11_liar_0 (by decide)
theorem oX11_liar_2 : oP MT mX11_liar 2 (2, 1, 1, 0, []) := o_istore_n dX11_liar_2 rfl (by decide)
theorem oX11_liar_3 : oP MT mX11_liar 3 (0, 1, 0, 0, []) := o_iconst dX11_liar_3 (by decide)
theorem oX11_liar_4 : oP MT mX11_liar 4 (2, 1, 2, 0, []) := o_istore_n dX11_liar_4 rfl (by decide)
theorem oX11_liar_5 : oP MT mX11_liar 5 (1, 1, 2, 0, []) := o_iload_n dX11_liar_5 rfl
theorem oX11_liar_6 : oP MT mX11_liar 6 (0, 3, 0, 500, []) := o_sipush dX11_liar_6 (by decide)
theorem oX11_liar_9 : oP MT mX11_liar 9 (11, 3, 3, 62, []) := o_icmp_ge dX11_liar_9 (by decide) (by decide)
theorem oX11_liar_12 : oP MT mX11_liar 12 (1, 1, 0, 1, []) := o_aload_n dX11_liar_12 rfl
theorem oX11_liar_13 : oP MT mX11_liar 13 (13, 3, 0, 11, []) := o_getR (M := mX11_liar) (C := RX11) (T := TX11) (ci := 11) (j := 0) (z := 11) dX11_liar_13 rfl lq_RX11_56 rfl rfl
theorem oX11_liar_16 : oP MT mX11_liar 16 (1, 1, 2, 0, []) := o_iload_n dX11_liar_16 rfl
theorem oX11_liar_17 : oP MT mX11_liar 17 (25, 3, 96, 1, []) := o_callS dX11_liar_17 (mj := mX11_loneKind) mt_X11_loneKind cmq_X11_loneKind wq_738 wq_740 (by decide) (by decide)
theorem oX11_liar_20 : oP MT mX11_liar 20 (1, 1, 2, 0, []) := o_iload_n dX11_liar_20 rfl
theorem oX11_liar_21 : oP MT mX11_liar 21 (25, 3, 97, 1, []) := o_callS dX11_liar_21 (mj := mX11_loneStraw) mt_X11_loneStraw cmq_X11_loneStraw wq_741 wq_743 (by decide) (by decide)
theorem oX11_liar_24 : oP MT mX11_liar 24 (1, 1, 2, 0, []) := o_iload_n dX11_liar_24 rfl
theorem oX11_liar_25 : oP MT mX11_liar 25 (25, 3, 98, 1, []) := o_callS dX11_liar_25 (mj := mX11_loneTeeth) mt_X11_loneTeeth cmq_X11_loneTeeth wq_744 wq_746 (by decide) (by decide)
theorem oX11_liar_28 : oP MT mX11_liar 28 (26, 3, 0, 3, [(1, 99)]) := o_callO ((vA.cons (v_callV dX11_liar_28 (ci := 1) rfl rfl (mj := mX1_misfits) mt_X1_misfits cmq_X1_misfits wq_747 wq_749 wq_750 (by decide) (by decide)) vA.nil))
theorem oX11_liar_31 : oP MT mX11_liar 31 (2, 1, 3, 0, []) := o_istore_n dX11_liar_31 rfl (by decide)
theorem oX11_liar_32 : oP MT mX11_liar 32 (1, 1, 3, 0, []) := o_iload_n dX11_liar_32 rfl
theorem oX11_liar_33 : oP MT mX11_liar 33 (10, 3, 1, 39, []) := o_if_ne dX11_liar_33 (by decide) (by decide)
theorem oX11_liar_36 : oP MT mX11_liar 36 (0, 2, 0, (-3), []) := o_bipush dX11_liar_36 (by decide)
theorem oX11_liar_38 : oP MT mX11_liar 38 (21, 1, 0, 0, []) := o_iret dX11_liar_38 rfl
theorem oX11_liar_39 : oP MT mX11_liar 39 (1, 1, 3, 0, []) := o_iload_n dX11_liar_39 rfl
theorem oX11_liar_40 : oP MT mX11_liar 40 (25, 3, 296, 1, []) := o_callS dX11_liar_40 (mj := mJ6_bitCount_0f7a4) mt_J6_bitCount_0f7a4 cmq_J6_bitCount_0f7a4 wq_326 wq_329 (by decide) (by decide)
theorem oX11_liar_43 : oP MT mX11_liar 43 (0, 1, 0, 1, []) := o_iconst dX11_liar_43 (by decide)
theorem oX11_liar_44 : oP MT mX11_liar 44 (11, 3, 1, 56, []) := o_icmp_ne dX11_liar_44 (by decide) (by decide)
theorem oX11_liar_47 : oP MT mX11_liar 47 (1, 1, 1, 0, []) := o_iload_n dX11_liar_47 rfl
theorem oX11_liar_48 : oP MT mX11_liar 48 (1, 1, 3, 0, []) := o_iload_n dX11_liar_48 rfl
theorem oX11_liar_49 : oP MT mX11_liar 49 (25, 3, 87, 1, []) := o_callS dX11_liar_49 (mj := mX11_leastOf) mt_X11_leastOf cmq_X11_leastOf wq_334 wq_336 (by decide) (by decide)
theorem oX11_liar_52 : oP MT mX11_liar 52 (27, 3, 1, 0, []) := o_min dX11_liar_52 wq_755 wq_40 wq_17 wq_41
theorem oX11_liar_55 : oP MT mX11_liar 55 (2, 1, 1, 0, []) := o_istore_n dX11_liar_55 rfl (by decide)
theorem oX11_liar_56 : oP MT mX11_liar 56 (3, 3, 2, 1, []) := o_iinc dX11_liar_56 (by decide) (by decide)
theorem oX11_liar_59 : oP MT mX11_liar 59 (9, 3, 5, 0, []) := o_goto dX11_liar_59 (by decide)
theorem oX11_liar_62 : oP MT mX11_liar 62 (1, 1, 1, 0, []) := o_iload_n dX11_liar_62 rfl
theorem oX11_liar_63 : oP MT mX11_liar 63 (0, 2, 0, 6, []) := o_bipush dX11_liar_63 (by decide)
theorem oX11_liar_65 : oP MT mX11_liar 65 (11, 3, 3, 72, []) := o_icmp_ge dX11_liar_65 (by decide) (by decide)
theorem oX11_liar_68 : oP MT mX11_liar 68 (1, 1, 1, 0, []) := o_iload_n dX11_liar_68 rfl
theorem oX11_liar_69 : oP MT mX11_liar 69 (9, 3, 74, 0, []) := o_goto dX11_liar_69 (by decide)
theorem oX11_liar_72 : oP MT mX11_liar 72 (0, 2, 0, (-3), []) := o_bipush dX11_liar_72 (by decide)
theorem oX11_liar_74 : oP MT mX11_liar 74 (21, 1, 0, 0, []) := o_iret dX11_liar_74 rfl
def ops_X11_liar : List (Nat × aO) := [(0, (0, 2, 0, 6, [])), (2, (2, 1, 1, 0, [])), (3, (0, 1, 0, 0, [])), (4, (2, 1, 2, 0, [])), (5, (1, 1, 2, 0, [])), (6, (0, 3, 0, 500, [])), (9, (11, 3, 3, 62, [])), (12, (1, 1, 0, 1, [])), (13, (13, 3, 0, 11, [])), (16, (1, 1, 2, 0, [])), (17, (25, 3, 96, 1, [])), (20, (1, 1, 2, 0, [])), (21, (25, 3, 97, 1, [])), (24, (1, 1, 2, 0, [])), (25, (25, 3, 98, 1, [])), (28, (26, 3, 0, 3, [(1, 99)])), (31, (2, 1, 3, 0, [])), (32, (1, 1, 3, 0, [])), (33, (10, 3, 1, 39, [])), (36, (0, 2, 0, (-3), [])), (38, (21, 1, 0, 0, [])), (39, (1, 1, 3, 0, [])), (40, (25, 3, 296, 1, [])), (43, (0, 1, 0, 1, [])), (44, (11, 3, 1, 56, [])), (47, (1, 1, 1, 0, [])), (48, (1, 1, 3, 0, [])), (49, (25, 3, 87, 1, [])), (52, (27, 3, 1, 0, [])), (55, (2, 1, 1, 0, [])), (56, (3, 3, 2, 1, [])), (59, (9, 3, 5, 0, [])), (62, (1, 1, 1, 0, [])), (63, (0, 2, 0, 6, [])), (65, (11, 3, 3, 72, [])), (68, (1, 1, 1, 0, [])), (69, (9, 3, 74, 0, [])), (72, (0, 2, 0, (-3), [])), (74, (21, 1, 0, 0, []))]
theorem os_X11_liar : oA MT mX11_liar ops_X11_liar := (oA.cons oX11_liar_0 (oA.cons oX11_liar_2 (oA.cons oX11_liar_3 (oA.cons oX11_liar_4 (oA.cons oX11_liar_5 (oA.cons oX11_liar_6 (oA.cons oX11_liar_9 (oA.cons oX11_liar_12 (oA.cons oX11_liar_13 (oA.cons oX11_liar_16 (oA.cons oX11_liar_17 (oA.cons oX11_liar_20 (oA.cons oX11_liar_21 (oA.cons oX11_liar_24 (oA.cons oX11_liar_25 (oA.cons oX11_liar_28 (oA.cons oX11_liar_31 (oA.cons oX11_liar_32 (oA.cons oX11_liar_33 (oA.cons oX11_liar_36 (oA.cons oX11_liar_38 (oA.cons oX11_liar_39 (oA.cons oX11_liar_40 (oA.cons oX11_liar_43 (oA.cons oX11_liar_44 (oA.cons oX11_liar_47 (oA.cons oX11_liar_48 (oA.cons oX11_liar_49 (oA.cons oX11_liar_52 (oA.cons oX11_liar_55 (oA.cons oX11_liar_56 (oA.cons oX11_liar_59 (oA.cons oX11_liar_62 (oA.cons oX11_liar_63 (oA.cons oX11_liar_65 (oA.cons oX11_liar_68 (oA.cons oX11_liar_69 (oA.cons oX11_liar_72 (oA.cons oX11_liar_74 oA.nil)))))))))))))))))))))))))))))))))))))))
theorem dX11_seed_0 : decode cX11_seed 0 = .ok (.aload_n 0, 1) := by decide +kernel
theorem dX11_seed_1 : decode cX11_seed 1 = .ok (.getfield 56, 3) := by decide +kernel
theorem dX11_seed_4 : decode cX11_seed 4 = .ok (.getfield 298, 3) := by decide +kernel
theorem dX11_seed_7 : decode cX11_seed 7 = .ok (.istore_n 2, 1) := by decide +kernel
theorem dX11_seed_8 : decode cX11_seed 8 = .ok (.aload_n 0, 1) := by decide +kernel
theorem dX11_seed_9 : decode cX11_seed 9 = .ok (.getfield 56, 3) := by decide +kernel
theorem dX11_seed_12 : decode cX11_seed 12 = .ok (.iload_n 1, 1) := by decide +kernel
theorem dX11_seed_13 : decode cX11_seed 13 = .ok (.putfield 298, 3) := by decide +kernel
theorem dX11_seed_16 : decode cX11_seed 16 = .ok (.iload_n 2, 1) := by decide +kernel
theorem dX11_seed_17 : decode cX11_seed 17 = .ok (.ireturn, 1) := by decide +kernel
theorem oX11_seed_0 : oP MT mX11_seed 0 (1, 1, 0, 1, []) := o_aload_n dX11_seed_0 rfl
theorem oX11_seed_1 : oP MT mX11_seed 1 (13, 3, 0, 11, []) := o_getR (M := mX11_seed) (C := RX11) (T := TX11) (ci := 11) (j := 0) (z := 11) dX11_seed_1 rfl lq_RX11_56 rfl rfl
theorem oX11_seed_4 : oP MT mX11_seed 4 (12, 3, 4, 1, []) := o_getI (M := mX11_seed) (C := RX1) (T := TX1) (ci := 1) (j := 4) (z := 1) dX11_seed_4 rfl lq_RX11_298 rfl rfl
theorem oX11_seed_7 : oP MT mX11_seed 7 (2, 1, 2, 0, []) := o_istore_n dX11_seed_7 rfl (by decide)
theorem oX11_seed_8 : oP MT mX11_seed 8 (1, 1, 0, 1, []) := o_aload_n dX11_seed_8 rfl
theorem oX11_seed_9 : oP MT mX11_seed 9 (13, 3, 0, 11, []) := o_getR (M := mX11_seed) (C := RX11) (T := TX11) (ci := 11) (j := 0) (z := 11) dX11_seed_9 rfl lq_RX11_56 rfl rfl
theorem oX11_seed_12 : oP MT mX11_seed 12 (1, 1, 1, 0, []) := o_iload_n dX11_seed_12 rfl
theorem oX11_seed_13 : oP MT mX11_seed 13 (14, 3, 4, 1, []) := o_putI (M := mX11_seed) (C := RX1) (T := TX1) (ci := 1) (j := 4) (z := 1) dX11_seed_13 rfl lq_RX11_298 rfl rfl rfl rfl
theorem oX11_seed_16 : oP MT mX11_seed 16 (1, 1, 2, 0, []) := o_iload_n dX11_seed_16 rfl
theorem oX11_seed_17 : oP MT mX11_seed 17 (21, 1, 0, 0, []) := o_iret dX11_seed_17 rfl
def ops_X11_seed : List (Nat × aO) := [(0, (1, 1, 0, 1, [])), (1, (13, 3, 0, 11, [])), (4, (12, 3, 4, 1, [])), (7, (2, 1, 2, 0, [])), (8, (1, 1, 0, 1, [])), (9, (13, 3, 0, 11, [])), (12, (1, 1, 1, 0, [])), (13, (14, 3, 4, 1, [])), (16, (1, 1, 2, 0, [])), (17, (21, 1, 0, 0, []))]
theorem os_X11_seed : oA MT mX11_seed ops_X11_seed := (oA.cons oX11_seed_0 (oA.cons oX11_seed_1 (oA.cons oX11_seed_4 (oA.cons oX11_seed_7 (oA.cons oX11_seed_8 (oA.cons oX11_seed_9 (oA.cons oX11_seed_12 (oA.cons oX11_seed_13 (oA.cons oX11_seed_16 (oA.cons oX11_seed_17 oA.nil))))))))))
theorem dX11_lot_0 : decode cX11_lot 0 = .ok (.aload_n 0, 1) := by decide +kernel
theorem dX11_lot_1 : decode cX11_lot 1 = .ok (.getfield 56, 3) := by decide +kernel
theorem dX11_lot_4 : decode cX11_lot 4 = .ok (.invokevirtual 168, 3) := by decide +kernel
theorem dX11_lot_7 : decode cX11_lot 7 = .ok (.ifCond .eq 6, 3) := by decide +kernel
theorem dX11_lot_10 : decode cX11_lot 10 = .ok (.bipush (-4), 2) := by decide +kernel
theorem dX11_lot_12 : decode cX11_lot 12 = .ok (.ireturn, 1) := by decide +kernel
theorem dX11_lot_13 : decode cX11_lot 13 = .ok (.aload_n 0, 1) := by decide +kernel
theorem dX11_lot_14 : decode cX11_lot 14 = .ok (.aload_n 0, 1) := by decide +kernel
theorem dX11_lot_15 : decode cX11_lot 15 = .ok (.getfield 56, 3) := by decide +kernel
theorem dX11_lot_18 : decode cX11_lot 18 = .ok (.aload_n 0, 1) := by decide +kernel
theorem dX11_lot_19 : decode cX11_lot 19 = .ok (.getfield 56, 3) := by decide +kernel
theorem dX11_lot_22 : decode cX11_lot 22 = .ok (.invokevirtual 301, 3) := by decide +kernel
theorem dX11_lot_25 : decode cX11_lot 25 = .ok (.invokevirtual 206, 3) := by decide +kernel
theorem dX11_lot_28 : decode cX11_lot 28 = .ok (.invokevirtual 209, 3) := by decide +kernel
theorem dX11_lot_31 : decode cX11_lot 31 = .ok (.ireturn, 1) := by decide +kernel
theorem oX11_lot_0 : oP MT mX11_lot 0 (1, 1, 0, 1, []) := o_aload_n dX11_lot_0 rfl
theorem oX11_lot_1 : oP MT mX11_lot 1 (13, 3, 0, 11, []) := o_getR (M := mX11_lot) (C := RX11) (T := TX11) (ci := 11) (j := 0) (z := 11) dX11_lot_1 rfl lq_RX11_56 rfl rfl
theorem oX11_lot_4 : oP MT mX11_lot 4 (26, 3, 0, 0, [(1, 31)]) := o_callO ((vA.cons (v_callV dX11_lot_4 (ci := 1) rfl rfl (mj := mX1_isOver) mt_X1_isOver cmq_X1_isOver wq_375 wq_201 wq_202 (by decide) (by decide)) vA.nil))
theorem oX11_lot_7 : oP MT mX11_lot 7 (10, 3, 0, 13, []) := o_if_eq dX11_lot_7 (by decide) (by decide)
theorem oX11_lot_10 : oP MT mX11_lot 10 (0, 2, 0, (-4), []) := o_bipush dX11_lot_10 (by decide)
theorem oX11_lot_12 : oP MT mX11_lot 12 (21, 1, 0, 0, []) := o_iret dX11_lot_12 rfl
theorem oX11_lot_13 : oP MT mX11_lot 13 (1, 1, 0, 1, []) := o_aload_n dX11_lot_13 rfl
theorem oX11_lot_14 : oP MT mX11_lot 14 (1, 1, 0, 1, []) := o_aload_n dX11_lot_14 rfl
theorem oX11_lot_15 : oP MT mX11_lot 15 (13, 3, 0, 11, []) := o_getR (M := mX11_lot) (C := RX11) (T := TX11) (ci := 11) (j := 0) (z := 11) dX11_lot_15 rfl lq_RX11_56 rfl rfl
theorem oX11_lot_18 : oP MT mX11_lot 18 (1, 1, 0, 1, []) := o_aload_n dX11_lot_18 rfl
theorem oX11_lot_19 : oP MT mX11_lot 19 (13, 3, 0, 11, []) := o_getR (M := mX11_lot) (C := RX11) (T := TX11) (ci := 11) (j := 0) (z := 11) dX11_lot_19 rfl lq_RX11_56 rfl rfl
theorem oX11_lot_22 : oP MT mX11_lot 22 (26, 3, 0, 0, [(1, 33)]) := o_callO ((vA.cons (v_callV dX11_lot_22 (ci := 1) rfl rfl (mj := mX1_drawAct) mt_X1_drawAct cmq_X1_drawAct wq_756 wq_373 wq_374 (by decide) (by decide)) vA.nil))
theorem oX11_lot_25 : oP MT mX11_lot 25 (26, 3, 0, 1, [(1, 81)]) := o_callO ((vA.cons (v_callV dX11_lot_25 (ci := 1) rfl rfl (mj := mX1_goBy) mt_X1_goBy cmq_X1_goBy wq_380 wq_382 wq_383 (by decide) (by decide)) vA.nil))
theorem oX11_lot_28 : oP MT mX11_lot 28 (26, 3, 0, 1, [(11, 82)]) := o_callO ((vA.cons (v_callV dX11_lot_28 (ci := 11) rfl rfl (mj := mX11_scored) mt_X11_scored cmq_X11_scored wq_695 wq_697 wq_698 (by decide) (by decide)) vA.nil))
theorem oX11_lot_31 : oP MT mX11_lot 31 (21, 1, 0, 0, []) := o_iret dX11_lot_31 rfl
def ops_X11_lot : List (Nat × aO) := [(0, (1, 1, 0, 1, [])), (1, (13, 3, 0, 11, [])), (4, (26, 3, 0, 0, [(1, 31)])), (7, (10, 3, 0, 13, [])), (10, (0, 2, 0, (-4), [])), (12, (21, 1, 0, 0, [])), (13, (1, 1, 0, 1, [])), (14, (1, 1, 0, 1, [])), (15, (13, 3, 0, 11, [])), (18, (1, 1, 0, 1, [])), (19, (13, 3, 0, 11, [])), (22, (26, 3, 0, 0, [(1, 33)])), (25, (26, 3, 0, 1, [(1, 81)])), (28, (26, 3, 0, 1, [(11, 82)])), (31, (21, 1, 0, 0, []))]
theorem os_X11_lot : oA MT mX11_lot ops_X11_lot := (oA.cons oX11_lot_0 (oA.cons oX11_lot_1 (oA.cons oX11_lot_4 (oA.cons oX11_lot_7 (oA.cons oX11_lot_10 (oA.cons oX11_lot_12 (oA.cons oX11_lot_13 (oA.cons oX11_lot_14 (oA.cons oX11_lot_15 (oA.cons oX11_lot_18 (oA.cons oX11_lot_19 (oA.cons oX11_lot_22 (oA.cons oX11_lot_25 (oA.cons oX11_lot_28 (oA.cons oX11_lot_31 oA.nil)))))))))))))))
theorem dX11_times_0 : decode cX11_times 0 = .ok (.iload_n 1, 1) := by decide +kernel
theorem dX11_times_1 : decode cX11_times 1 = .ok (.iconst 1, 1) := by decide +kernel
theorem dX11_times_2 : decode cX11_times 2 = .ok (.bipush 40, 2) := by decide +kernel
theorem dX11_times_4 : decode cX11_times 4 = .ok (.invokestatic 90, 3) := by decide +kernel
theorem dX11_times_7 : decode cX11_times 7 = .ok (.ifCond .eq 14, 3) := by decide +kernel
theorem dX11_times_10 : decode cX11_times 10 = .ok (.iload_n 2, 1) := by decide +kernel
theorem dX11_times_11 : decode cX11_times 11 = .ok (.iconst 0, 1) := by decide +kernel
theorem dX11_times_12 : decode cX11_times 12 = .ok (.sipush 999, 3) := by decide +kernel
theorem dX11_times_15 : decode cX11_times 15 = .ok (.invokestatic 90, 3) := by decide +kernel
theorem dX11_times_18 : decode cX11_times 18 = .ok (.ifCond .ne 5, 3) := by decide +kernel
theorem dX11_times_21 : decode cX11_times 21 = .ok (.iconst (-1), 1) := by decide +kernel
theorem dX11_times_22 : decode cX11_times 22 = .ok (.ireturn, 1) := by decide +kernel
theorem dX11_times_23 : decode cX11_times 23 = .ok (.aload_n 0, 1) := by decide +kernel
theorem dX11_times_24 : decode cX11_times 24 = .ok (.getfield 56, 3) := by decide +kernel
theorem dX11_times_27 : decode cX11_times 27 = .ok (.getfield 298, 3) := by decide +kernel
theorem dX11_times_30 : decode cX11_times 30 = .ok (.istore_n 3, 1) := by decide +kernel
theorem dX11_times_31 : decode cX11_times 31 = .ok (.iconst 0, 1) := by decide +kernel
theorem dX11_times_32 : decode cX11_times 32 = .ok (.istore 4, 2) := by decide +kernel
theorem dX11_times_34 : decode cX11_times 34 = .ok (.aload_n 0, 1) := by decide +kernel
theorem dX11_times_35 : decode cX11_times 35 = .ok (.getfield 56, 3) := by decide +kernel
theorem dX11_times_38 : decode cX11_times 38 = .ok (.iconst 0, 1) := by decide +kernel
theorem dX11_times_39 : decode cX11_times 39 = .ok (.invokevirtual 212, 3) := by decide +kernel
theorem dX11_times_42 : decode cX11_times 42 = .ok (.iconst 0, 1) := by decide +kernel
theorem dX11_times_43 : decode cX11_times 43 = .ok (.istore 5, 2) := by decide +kernel
theorem dX11_times_45 : decode cX11_times 45 = .ok (.iload 5, 2) := by decide +kernel
theorem dX11_times_47 : decode cX11_times 47 = .ok (.iload_n 1, 1) := by decide +kernel
theorem dX11_times_48 : decode cX11_times 48 = .ok (.if_icmp .ge 31, 3) := by decide +kernel
theorem dX11_times_51 : decode cX11_times 51 = .ok (.aload_n 0, 1) := by decide +kernel
theorem dX11_times_52 : decode cX11_times 52 = .ok (.getfield 56, 3) := by decide +kernel
theorem dX11_times_55 : decode cX11_times 55 = .ok (.invokevirtual 304, 3) := by decide +kernel
theorem dX11_times_58 : decode cX11_times 58 = .ok (.iload_n 2, 1) := by decide +kernel
theorem dX11_times_59 : decode cX11_times 59 = .ok (.if_icmp .lt 6, 3) := by decide +kernel
theorem dX11_times_62 : decode cX11_times 62 = .ok (.iinc 4 1, 3) := by decide +kernel
theorem dX11_times_65 : decode cX11_times 65 = .ok (.aload_n 0, 1) := by decide +kernel
theorem dX11_times_66 : decode cX11_times 66 = .ok (.getfield 56, 3) := by decide +kernel
theorem dX11_times_69 : decode cX11_times 69 = .ok (.iconst 0, 1) := by decide +kernel
theorem dX11_times_70 : decode cX11_times 70 = .ok (.invokevirtual 218, 3) := by decide +kernel
theorem dX11_times_73 : decode cX11_times 73 = .ok (.iinc 5 1, 3) := by decide +kernel
theorem dX11_times_76 : decode cX11_times 76 = .ok (.goto (-31), 3) := by decide +kernel
theorem dX11_times_79 : decode cX11_times 79 = .ok (.aload_n 0, 1) := by decide +kernel
theorem dX11_times_80 : decode cX11_times 80 = .ok (.getfield 56, 3) := by decide +kernel
theorem dX11_times_83 : decode cX11_times 83 = .ok (.iload_n 3, 1) := by decide +kernel
theorem dX11_times_84 : decode cX11_times 84 = .ok (.putfield 298, 3) := by decide +kernel
theorem dX11_times_87 : decode cX11_times 87 = .ok (.iload 4, 2) := by decide +kernel
theorem dX11_times_89 : decode cX11_times 89 = .ok (.ireturn, 1) := by decide +kernel
theorem oX11_times_0 : oP MT mX11_times 0 (1, 1, 1, 0, []) := o_iload_n dX11_times_0 rfl
theorem oX11_times_1 : oP MT mX11_times 1 (0, 1, 0, 1, []) := o_iconst dX11_times_1 (by decide)
theorem oX11_times_2 : oP MT mX11_times 2 (0, 2, 0, 40, []) := o_bipush dX11_times_2 (by decide)
theorem oX11_times_4 : oP MT mX11_times 4 (25, 3, 37, 3, []) := o_callS dX11_times_4 (mj := mX11_isIn) mt_X11_isIn cmq_X11_isIn wq_282 wq_144 (by decide) (by decide)
theorem oX11_times_7 : oP MT mX11_times 7 (10, 3, 0, 21, []) := o_if_eq dX11_times_7 (by decide) (by decide)
theorem oX11_times_10 : oP MT mX11_times 10 (1, 1, 2, 0, []) := o_iload_n dX11_times_10 rfl
theorem oX11_times_11 : oP MT mX11_times 11 (0, 1, 0, 0, []) := o_iconst dX11_times_11 (by decide)
theorem oX11_times_12 : oP MT mX11_times 12 (0, 3, 0, 999, []) := o_sipush dX11_times_12 (by decide)
theorem oX11_times_15 : oP MT mX11_times 15 (25, 3, 37, 3, []) := o_callS dX11_times_15 (mj := mX11_isIn) mt_X11_isIn cmq_X11_isIn wq_282 wq_144 (by decide) (by decide)
theorem oX11_times_18 : oP MT mX11_times 18 (10, 3, 1, 23, []) := o_if_ne dX11_times_18 (by decide) (by decide)
theorem oX11_times_21 : oP MT mX11_times 21 (0, 1, 0, (-1), []) := o_iconst dX11_times_21 (by decide)
theorem oX11_times_22 : oP MT mX11_times 22 (21, 1, 0, 0, []) := o_iret dX11_times_22 rfl
theorem oX11_times_23 : oP MT mX11_times 23 (1, 1, 0, 1, []) := o_aload_n dX11_times_23 rfl
theorem oX11_times_24 : oP MT mX11_times 24 (13, 3, 0, 11, []) := o_getR (M := mX11_times) (C := RX11) (T := TX11) (ci := 11) (j := 0) (z := 11) dX11_times_24 rfl lq_RX11_56 rfl rfl
theorem oX11_times_27 : oP MT mX11_times 27 (12, 3, 4, 1, []) := o_getI (M := mX11_times) (C := RX1) (T := TX1) (ci := 1) (j := 4) (z := 1) dX11_times_27 rfl lq_RX11_298 rfl rfl
theorem oX11_times_30 : oP MT mX11_times 30 (2, 1, 3, 0, []) := o_istore_n dX11_times_30 rfl (by decide)
theorem oX11_times_31 : oP MT mX11_times 31 (0, 1, 0, 0, []) := o_iconst dX11_times_31 (by decide)
theorem oX11_times_32 : oP MT mX11_times 32 (2, 2, 4, 0, []) := o_istore dX11_times_32 (by decide)
theorem oX11_times_34 : oP MT mX11_times 34 (1, 1, 0, 1, []) := o_aload_n dX11_times_34 rfl
theorem oX11_times_35 : oP MT mX11_times 35 (13, 3, 0, 11, []) := o_getR (M := mX11_times) (C := RX11) (T := TX11) (ci := 11) (j := 0) (z := 11) dX11_times_35 rfl lq_RX11_56 rfl rfl
theorem oX11_times_38 : oP MT mX11_times 38 (0, 1, 0, 0, []) := o_iconst dX11_times_38 (by decide)
theorem oX11_times_39 : oP MT mX11_times 39 (26, 3, 0, 1, [(1, 50)]) := o_callO ((vA.cons (v_callV dX11_times_39 (ci := 1) rfl rfl (mj := mX1_save) mt_X1_save cmq_X1_save wq_310 wq_312 wq_313 (by decide) (by decide)) vA.nil))
theorem oX11_times_42 : oP MT mX11_times 42 (0, 1, 0, 0, []) := o_iconst dX11_times_42 (by decide)
theorem oX11_times_43 : oP MT mX11_times 43 (2, 2, 5, 0, []) := o_istore dX11_times_43 (by decide)
theorem oX11_times_45 : oP MT mX11_times 45 (1, 2, 5, 0, []) := o_iload dX11_times_45
theorem oX11_times_47 : oP MT mX11_times 47 (1, 1, 1, 0, []) := o_iload_n dX11_times_47 rfl
theorem oX11_times_48 : oP MT mX11_times 48 (11, 3, 3, 79, []) := o_icmp_ge dX11_times_48 (by decide) (by decide)
theorem oX11_times_51 : oP MT mX11_times 51 (1, 1, 0, 1, []) := o_aload_n dX11_times_51 rfl
theorem oX11_times_52 : oP MT mX11_times 52 (13, 3, 0, 11, []) := o_getR (M := mX11_times) (C := RX11) (T := TX11) (ci := 11) (j := 0) (z := 11) dX11_times_52 rfl lq_RX11_56 rfl rfl
theorem oX11_times_55 : oP MT mX11_times 55 (26, 3, 0, 0, [(1, 100)]) := o_callO ((vA.cons (v_callV dX11_times_55 (ci := 1) rfl rfl (mj := mX1_goLots) mt_X1_goLots cmq_X1_goLots wq_761 wq_763 wq_764 (by decide) (by decide)) vA.nil))
theorem oX11_times_58 : oP MT mX11_times 58 (1, 1, 2, 0, []) := o_iload_n dX11_times_58 rfl
theorem oX11_times_59 : oP MT mX11_times 59 (11, 3, 2, 65, []) := o_icmp_lt dX11_times_59 (by decide) (by decide)
theorem oX11_times_62 : oP MT mX11_times 62 (3, 3, 4, 1, []) := o_iinc dX11_times_62 (by decide) (by decide)
theorem oX11_times_65 : oP MT mX11_times 65 (1, 1, 0, 1, []) := o_aload_n dX11_times_65 rfl
theorem oX11_times_66 : oP MT mX11_times 66 (13, 3, 0, 11, []) := o_getR (M := mX11_times) (C := RX11) (T := TX11) (ci := 11) (j := 0) (z := 11) dX11_times_66 rfl lq_RX11_56 rfl rfl
theorem oX11_times_69 : oP MT mX11_times 69 (0, 1, 0, 0, []) := o_iconst dX11_times_69 (by decide)
theorem oX11_times_70 : oP MT mX11_times 70 (26, 3, 0, 1, [(1, 51)]) := o_callO ((vA.cons (v_callV dX11_times_70 (ci := 1) rfl rfl (mj := mX1_restore) mt_X1_restore cmq_X1_restore wq_318 wq_320 wq_321 (by decide) (by decide)) vA.nil))
theorem oX11_times_73 : oP MT mX11_times 73 (3, 3, 5, 1, []) := o_iinc dX11_times_73 (by decide) (by decide)
theorem oX11_times_76 : oP MT mX11_times 76 (9, 3, 45, 0, []) := o_goto dX11_times_76 (by decide)
theorem oX11_times_79 : oP MT mX11_times 79 (1, 1, 0, 1, []) := o_aload_n dX11_times_79 rfl
theorem oX11_times_80 : oP MT mX11_times 80 (13, 3, 0, 11, []) := o_getR (M := mX11_times) (C := RX11) (T := TX11) (ci := 11) (j := 0) (z := 11) dX11_times_80 rfl lq_RX11_56 rfl rfl
theorem oX11_times_83 : oP MT mX11_times 83 (1, 1, 3, 0, []) := o_iload_n dX11_times_83 rfl
theorem oX11_times_84 : oP MT mX11_times 84 (14, 3, 4, 1, []) := o_putI (M := mX11_times) (C := RX1) (T := TX1) (ci := 1) (j := 4) (z := 1) dX11_times_84 rfl lq_RX11_298 rfl rfl rfl rfl
theorem oX11_times_87 : oP MT mX11_times 87 (1, 2, 4, 0, []) := o_iload dX11_times_87
theorem oX11_times_89 : oP MT mX11_times 89 (21, 1, 0, 0, []) := o_iret dX11_times_89 rfl
def ops_X11_times : List (Nat × aO) := [(0, (1, 1, 1, 0, [])), (1, (0, 1, 0, 1, [])), (2, (0, 2, 0, 40, [])), (4, (25, 3, 37, 3, [])), (7, (10, 3, 0, 21, [])), (10, (1, 1, 2, 0, [])), (11, (0, 1, 0, 0, [])), (12, (0, 3, 0, 999, [])), (15, (25, 3, 37, 3, [])), (18, (10, 3, 1, 23, [])), (21, (0, 1, 0, (-1), [])), (22, (21, 1, 0, 0, [])), (23, (1, 1, 0, 1, [])), (24, (13, 3, 0, 11, [])), (27, (12, 3, 4, 1, [])), (30, (2, 1, 3, 0, [])), (31, (0, 1, 0, 0, [])), (32, (2, 2, 4, 0, [])), (34, (1, 1, 0, 1, [])), (35, (13, 3, 0, 11, [])), (38, (0, 1, 0, 0, [])), (39, (26, 3, 0, 1, [(1, 50)])), (42, (0, 1, 0, 0, [])), (43, (2, 2, 5, 0, [])), (45, (1, 2, 5, 0, [])), (47, (1, 1, 1, 0, [])), (48, (11, 3, 3, 79, [])), (51, (1, 1, 0, 1, [])), (52, (13, 3, 0, 11, [])), (55, (26, 3, 0, 0, [(1, 100)])), (58, (1, 1, 2, 0, [])), (59, (11, 3, 2, 65, [])), (62, (3, 3, 4, 1, [])), (65, (1, 1, 0, 1, [])), (66, (13, 3, 0, 11, [])), (69, (0, 1, 0, 0, [])), (70, (26, 3, 0, 1, [(1, 51)])), (73, (3, 3, 5, 1, [])), (76, (9, 3, 45, 0, [])), (79, (1, 1, 0, 1, [])), (80, (13, 3, 0, 11, [])), (83, (1, 1, 3, 0, [])), (84, (14, 3, 4, 1, [])), (87, (1, 2, 4, 0, [])), (89, (21, 1, 0, 0, []))]
theorem os_X11_times : oA MT mX11_times ops_X11_times := (oA.cons oX11_times_0 (oA.cons oX11_times_1 (oA.cons oX11_times_2 (oA.cons oX11_times_4 (oA.cons oX11_times_7 (oA.cons oX11_times_10 (oA.cons oX11_times_11 (oA.cons oX11_times_12 (oA.cons oX11_times_15 (oA.cons oX11_times_18 (oA.cons oX11_times_21 (oA.cons oX11_times_22 (oA.cons oX11_times_23 (oA.cons oX11_times_24 (oA.cons oX11_times_27 (oA.cons oX11_times_30 (oA.cons oX11_times_31 (oA.cons oX11_times_32 (oA.cons oX11_times_34 (oA.cons oX11_times_35 (oA.cons oX11_times_38 (oA.cons oX11_times_39 (oA.cons oX11_times_42 (oA.cons oX11_times_43 (oA.cons oX11_times_45 (oA.cons oX11_times_47 (oA.cons oX11_times_48 (oA.cons oX11_times_51 (oA.cons oX11_times_52 (oA.cons oX11_times_55 (oA.cons oX11_times_58 (oA.cons oX11_times_59 (oA.cons oX11_times_62 (oA.cons oX11_times_65 (oA.cons oX11_times_66 (oA.cons oX11_times_69 (oA.cons oX11_times_70 (oA.cons oX11_times_73 (oA.cons oX11_times_76 (oA.cons oX11_times_79 (oA.cons oX11_times_80 (oA.cons oX11_times_83 (oA.cons oX11_times_84 (oA.cons oX11_times_87 (oA.cons oX11_times_89 oA.nil)))))))))))))))))))))))))))))))))))))))))))))
theorem dX11_prove_0 : decode cX11_prove 0 = .ok (.iload_n 1, 1) := by decide +kernel
theorem dX11_prove_1 : decode cX11_prove 1 = .ok (.invokestatic 238, 3) := by decide +kernel
theorem dX11_prove_4 : decode cX11_prove 4 = .ok (.ifCond .ne 5, 3) := by decide +kernel
theorem dX11_prove_7 : decode cX11_prove 7 = .ok (.iconst (-1), 1) := by decide +kernel
theorem dX11_prove_8 : decode cX11_prove 8 = .ok (.ireturn, 1) := by decide +kernel
theorem dX11_prove_9 : decode cX11_prove 9 = .ok (.aload_n 0, 1) := by decide +kernel
theorem dX11_prove_10 : decode cX11_prove 10 = .ok (.getfield 68, 3) := by decide +kernel
theorem dX11_prove_13 : decode cX11_prove 13 = .ok (.iconst 0, 1) := by decide +kernel
theorem dX11_prove_14 : decode cX11_prove 14 = .ok (.iload_n 1, 1) := by decide +kernel
theorem dX11_prove_15 : decode cX11_prove 15 = .ok (.invokevirtual 241, 3) := by decide +kernel
theorem dX11_prove_18 : decode cX11_prove 18 = .ok (.aload_n 0, 1) := by decide +kernel
theorem dX11_prove_19 : decode cX11_prove 19 = .ok (.getfield 68, 3) := by decide +kernel
theorem dX11_prove_22 : decode cX11_prove 22 = .ok (.getfield 251, 3) := by decide +kernel
theorem dX11_prove_25 : decode cX11_prove 25 = .ok (.iconst 0, 1) := by decide +kernel
theorem dX11_prove_26 : decode cX11_prove 26 = .ok (.iaload, 1) := by decide +kernel
theorem dX11_prove_27 : decode cX11_prove 27 = .ok (.istore_n 2, 1) := by decide +kernel
theorem dX11_prove_28 : decode cX11_prove 28 = .ok (.aload_n 0, 1) := by decide +kernel
theorem dX11_prove_29 : decode cX11_prove 29 = .ok (.aload_n 0, 1) := by decide +kernel
theorem dX11_prove_30 : decode cX11_prove 30 = .ok (.getfield 56, 3) := by decide +kernel
theorem dX11_prove_33 : decode cX11_prove 33 = .ok (.iload_n 1, 1) := by decide +kernel
theorem dX11_prove_34 : decode cX11_prove 34 = .ok (.invokevirtual 248, 3) := by decide +kernel
theorem dX11_prove_37 : decode cX11_prove 37 = .ok (.putfield 307, 3) := by decide +kernel
theorem dX11_prove_40 : decode cX11_prove 40 = .ok (.aload_n 0, 1) := by decide +kernel
theorem dX11_prove_41 : decode cX11_prove 41 = .ok (.getfield 56, 3) := by decide +kernel
theorem dX11_prove_44 : decode cX11_prove 44 = .ok (.iconst 0, 1) := by decide +kernel
theorem dX11_prove_45 : decode cX11_prove 45 = .ok (.invokevirtual 212, 3) := by decide +kernel
theorem dX11_prove_48 : decode cX11_prove 48 = .ok (.iconst 0, 1) := by decide +kernel
theorem dX11_prove_49 : decode cX11_prove 49 = .ok (.istore_n 3, 1) := by decide +kernel
theorem dX11_prove_50 : decode cX11_prove 50 = .ok (.iload_n 3, 1) := by decide +kernel
theorem dX11_prove_51 : decode cX11_prove 51 = .ok (.aload_n 0, 1) := by decide +kernel
theorem dX11_prove_52 : decode cX11_prove 52 = .ok (.getfield 307, 3) := by decide +kernel
theorem dX11_prove_55 : decode cX11_prove 55 = .ok (.if_icmp .ge 65, 3) := by decide +kernel
theorem dX11_prove_58 : decode cX11_prove 58 = .ok (.iload_n 2, 1) := by decide +kernel
theorem dX11_prove_59 : decode cX11_prove 59 = .ok (.iconst 3, 1) := by decide +kernel
theorem dX11_prove_60 : decode cX11_prove 60 = .ok (.iload_n 3, 1) := by decide +kernel
theorem dX11_prove_61 : decode cX11_prove 61 = .ok (.imul, 1) := by decide +kernel
theorem dX11_prove_62 : decode cX11_prove 62 = .ok (.ishr, 1) := by decide +kernel
theorem dX11_prove_63 : decode cX11_prove 63 = .ok (.bipush 7, 2) := by decide +kernel
theorem dX11_prove_65 : decode cX11_prove 65 = .ok (.iand, 1) := by decide +kernel
theorem dX11_prove_66 : decode cX11_prove 66 = .ok (.istore 4, 2) := by decide +kernel
theorem dX11_prove_68 : decode cX11_prove 68 = .ok (.aload_n 0, 1) := by decide +kernel
theorem dX11_prove_69 : decode cX11_prove 69 = .ok (.getfield 9, 3) := by decide +kernel
theorem dX11_prove_72 : decode cX11_prove 72 = .ok (.iload_n 3, 1) := by decide +kernel
theorem dX11_prove_73 : decode cX11_prove 73 = .ok (.iconst 3, 1) := by decide +kernel
theorem dX11_prove_74 : decode cX11_prove 74 = .ok (.imul, 1) := by decide +kernel
theorem dX11_prove_75 : decode cX11_prove 75 = .ok (.iload 4, 2) := by decide +kernel
theorem dX11_prove_77 : decode cX11_prove 77 = .ok (.iastore, 1) := by decide +kernel
theorem dX11_prove_78 : decode cX11_prove 78 = .ok (.aload_n 0, 1) := by decide +kernel
theorem dX11_prove_79 : decode cX11_prove 79 = .ok (.getfield 9, 3) := by decide +kernel
theorem dX11_prove_82 : decode cX11_prove 82 = .ok (.iload_n 3, 1) := by decide +kernel
theorem dX11_prove_83 : decode cX11_prove 83 = .ok (.iconst 3, 1) := by decide +kernel
theorem dX11_prove_84 : decode cX11_prove 84 = .ok (.imul, 1) := by decide +kernel
theorem dX11_prove_85 : decode cX11_prove 85 = .ok (.iconst 1, 1) := by decide +kernel
theorem dX11_prove_86 : decode cX11_prove 86 = .ok (.iadd, 1) := by decide +kernel
theorem dX11_prove_87 : decode cX11_prove 87 = .ok (.aload_n 0, 1) := by decide +kernel
theorem dX11_prove_88 : decode cX11_prove 88 = .ok (.getfield 56, 3) := by decide +kernel
theorem dX11_prove_91 : decode cX11_prove 91 = .ok (.iload 4, 2) := by decide +kernel
theorem dX11_prove_93 : decode cX11_prove 93 = .ok (.invokevirtual 206, 3) := by decide +kernel
theorem dX11_prove_96 : decode cX11_prove 96 = .ok (.iastore, 1) := by decide +kernel
theorem dX11_prove_97 : decode cX11_prove 97 = .ok (.aload_n 0, 1) := by decide +kernel
theorem dX11_prove_98 : decode cX11_prove 98 = .ok (.getfield 9, 3) := by decide +kernel
theorem dX11_prove_101 : decode cX11_prove 101 = .ok (.iload_n 3, 1) := by decide +kernel
theorem dX11_prove_102 : decode cX11_prove 102 = .ok (.iconst 3, 1) := by decide +kernel
theorem dX11_prove_103 : decode cX11_prove 103 = .ok (.imul, 1) := by decide +kernel
theorem dX11_prove_104 : decode cX11_prove 104 = .ok (.iconst 2, 1) := by decide +kernel
theorem dX11_prove_105 : decode cX11_prove 105 = .ok (.iadd, 1) := by decide +kernel
theorem dX11_prove_106 : decode cX11_prove 106 = .ok (.aload_n 0, 1) := by decide +kernel
theorem dX11_prove_107 : decode cX11_prove 107 = .ok (.getfield 56, 3) := by decide +kernel
theorem dX11_prove_110 : decode cX11_prove 110 = .ok (.getfield 165, 3) := by decide +kernel
theorem dX11_prove_113 : decode cX11_prove 113 = .ok (.iastore, 1) := by decide +kernel
theorem dX11_prove_114 : decode cX11_prove 114 = .ok (.iinc 3 1, 3) := by decide +kernel
theorem dX11_prove_117 : decode cX11_prove 117 = .ok (.goto (-67), 3) := by decide +kernel
theorem dX11_prove_120 : decode cX11_prove 120 = .ok (.aload_n 0, 1) := by decide +kernel
theorem dX11_prove_121 : decode cX11_prove 121 = .ok (.getfield 56, 3) := by decide +kernel
theorem dX11_prove_124 : decode cX11_prove 124 = .ok (.iconst 0, 1) := by decide +kernel
theorem dX11_prove_125 : decode cX11_prove 125 = .ok (.invokevirtual 218, 3) := by decide +kernel
theorem dX11_prove_128 : decode cX11_prove 128 = .ok (.aload_n 0, 1) := by decide +kernel
theorem dX11_prove_129 : decode cX11_prove 129 = .ok (.getfield 307, 3) := by decide +kernel
theorem dX11_prove_132 : decode cX11_prove 132 = .ok (.ireturn, 1) := by decide +kernel
theorem oX11_prove_0 : oP MT mX11_prove 0 (1, 1, 1, 0, []) := o_iload_n dX11_prove_0 rfl
theorem oX11_prove_1 : oP MT mX11_prove 1 (25, 3, 89, 1, []) := o_callS dX11_prove_1 (mj := mX11_isPlan) mt_X11_isPlan cmq_X11_isPlan wq_716 wq_718 (by decide) (by decide)
theorem oX11_prove_4 : oP MT mX11_prove 4 (10, 3, 1, 9, []) := o_if_ne dX11_prove_4 (by decide) (by decide)
theorem oX11_prove_7 : oP MT mX11_prove 7 (0, 1, 0, (-1), []) := o_iconst dX11_prove_7 (by decide)
theorem oX11_prove_8 : oP MT mX11_prove 8 (21, 1, 0, 0, []) := o_iret dX11_prove_8 rfl
theorem oX11_prove_9 : oP MT mX11_prove 9 (1, 1, 0, 1, []) := o_aload_n dX11_prove_9 rfl
theorem oX11_prove_10 : oP MT mX11_prove 10 (13, 3, 3, 11, []) := o_getR (M := mX11_prove) (C := RX11) (T := TX11) (ci := 11) (j := 3) (z := 11) dX11_prove_10 rfl lq_RX11_68 rfl rfl
theorem oX11_prove_13 : oP MT mX11_prove 13 (0, 1, 0, 0, []) := o_iconst dX11_prove_13 (by decide)
theorem oX11_prove_14 : oP MT mX11_prove 14 (1, 1, 1, 0, []) := o_iload_n dX11_prove_14 rfl
theorem oX11_prove_15 : oP MT mX11_prove 15 (26, 3, 0, 2, [(4, 90)]) := o_callO ((vA.cons (v_callVN (host := "IceKeys") dX11_prove_15 (ci := 4) rfl rfl (mj := mX4_seek) mt_X4_seek cmq_X4_seek (by decide) wq_347 wq_348 (by decide) (by decide)) vA.nil))
theorem oX11_prove_18 : oP MT mX11_prove 18 (1, 1, 0, 1, []) := o_aload_n dX11_prove_18 rfl
theorem oX11_prove_19 : oP MT mX11_prove 19 (13, 3, 3, 11, []) := o_getR (M := mX11_prove) (C := RX11) (T := TX11) (ci := 11) (j := 3) (z := 11) dX11_prove_19 rfl lq_RX11_68 rfl rfl
theorem oX11_prove_22 : oP MT mX11_prove 22 (13, 3, 3, 4, []) := o_getR (M := mX11_prove) (C := RX4) (T := TX4) (ci := 4) (j := 3) (z := 4) dX11_prove_22 rfl lq_RX11_251 rfl rfl
theorem oX11_prove_25 : oP MT mX11_prove 25 (0, 1, 0, 0, []) := o_iconst dX11_prove_25 (by decide)
theorem oX11_prove_26 : oP MT mX11_prove 26 (16, 1, 1, 0, []) := o_iaload dX11_prove_26
theorem oX11_prove_27 : oP MT mX11_prove 27 (2, 1, 2, 0, []) := o_istore_n dX11_prove_27 rfl (by decide)
theorem oX11_prove_28 : oP MT mX11_prove 28 (1, 1, 0, 1, []) := o_aload_n dX11_prove_28 rfl
theorem oX11_prove_29 : oP MT mX11_prove 29 (1, 1, 0, 1, []) := o_aload_n dX11_prove_29 rfl
theorem oX11_prove_30 : oP MT mX11_prove 30 (13, 3, 0, 11, []) := o_getR (M := mX11_prove) (C := RX11) (T := TX11) (ci := 11) (j := 0) (z := 11) dX11_prove_30 rfl lq_RX11_56 rfl rfl
theorem oX11_prove_33 : oP MT mX11_prove 33 (1, 1, 1, 0, []) := o_iload_n dX11_prove_33 rfl
theorem oX11_prove_34 : oP MT mX11_prove 34 (26, 3, 0, 1, [(1, 91)]) := o_callO ((vA.cons (v_callV dX11_prove_34 (ci := 1) rfl rfl (mj := mX1_haltsOf) mt_X1_haltsOf cmq_X1_haltsOf wq_726 wq_728 wq_729 (by decide) (by decide)) vA.nil))
theorem oX11_prove_37 : oP MT mX11_prove 37 (14, 3, 7, 11, []) := o_putI (M := mX11_prove) (C := RX11) (T := TX11) (ci := 11) (j := 7) (z := 11) dX11_prove_37 rfl lq_RX11_307 rfl rfl rfl rfl
theorem oX11_prove_40 : oP MT mX11_prove 40 (1, 1, 0, 1, []) := o_aload_n dX11_prove_40 rfl
theorem oX11_prove_41 : oP MT mX11_prove 41 (13, 3, 0, 11, []) := o_getR (M := mX11_prove) (C := RX11) (T := TX11) (ci := 11) (j := 0) (z := 11) dX11_prove_41 rfl lq_RX11_56 rfl rfl
theorem oX11_prove_44 : oP MT mX11_prove 44 (0, 1, 0, 0, []) := o_iconst dX11_prove_44 (by decide)
theorem oX11_prove_45 : oP MT mX11_prove 45 (26, 3, 0, 1, [(1, 50)]) := o_callO ((vA.cons (v_callV dX11_prove_45 (ci := 1) rfl rfl (mj := mX1_save) mt_X1_save cmq_X1_save wq_310 wq_312 wq_313 (by decide) (by decide)) vA.nil))
theorem oX11_prove_48 : oP MT mX11_prove 48 (0, 1, 0, 0, []) := o_iconst dX11_prove_48 (by decide)
theorem oX11_prove_49 : oP MT mX11_prove 49 (2, 1, 3, 0, []) := o_istore_n dX11_prove_49 rfl (by decide)
theorem oX11_prove_50 : oP MT mX11_prove 50 (1, 1, 3, 0, []) := o_iload_n dX11_prove_50 rfl
theorem oX11_prove_51 : oP MT mX11_prove 51 (1, 1, 0, 1, []) := o_aload_n dX11_prove_51 rfl
theorem oX11_prove_52 : oP MT mX11_prove 52 (12, 3, 7, 11, []) := o_getI (M := mX11_prove) (C := RX11) (T := TX11) (ci := 11) (j := 7) (z := 11) dX11_prove_52 rfl lq_RX11_307 rfl rfl
theorem oX11_prove_55 : oP MT mX11_prove 55 (11, 3, 3, 120, []) := o_icmp_ge dX11_prove_55 (by decide) (by decide)
theorem oX11_prove_58 : oP MT mX11_prove 58 (1, 1, 2, 0, []) := o_iload_n dX11_prove_58 rfl
theorem oX11_prove_59 : oP MT mX11_prove 59 (0, 1, 0, 3, []) := o_iconst dX11_prove_59 (by decide)
theorem oX11_prove_60 : oP MT mX11_prove 60 (1, 1, 3, 0, []) := o_iload_n dX11_prove_60 rfl
theorem oX11_prove_61 : oP MT mX11_prove 61 (4, 1, 2, 0, []) := o_imul dX11_prove_61
theorem oX11_prove_62 : oP MT mX11_prove 62 (4, 1, 7, 0, []) := o_ishr dX11_prove_62
theorem oX11_prove_63 : oP MT mX11_prove 63 (0, 2, 0, 7, []) := o_bipush dX11_prove_63 (by decide)
theorem oX11_prove_65 : oP MT mX11_prove 65 (4, 1, 3, 0, []) := o_iand dX11_prove_65
theorem oX11_prove_66 : oP MT mX11_prove 66 (2, 2, 4, 0, []) := o_istore dX11_prove_66 (by decide)
theorem oX11_prove_68 : oP MT mX11_prove 68 (1, 1, 0, 1, []) := o_aload_n dX11_prove_68 rfl
theorem oX11_prove_69 : oP MT mX11_prove 69 (13, 3, 6, 11, []) := o_getR (M := mX11_prove) (C := RX11) (T := TX11) (ci := 11) (j := 6) (z := 11) dX11_prove_69 rfl lq_RX11_9 rfl rfl
theorem oX11_prove_72 : oP MT mX11_prove 72 (1, 1, 3, 0, []) := o_iload_n dX11_prove_72 rfl
theorem oX11_prove_73 : oP MT mX11_prove 73 (0, 1, 0, 3, []) := o_iconst dX11_prove_73 (by decide)
theorem oX11_prove_74 : oP MT mX11_prove 74 (4, 1, 2, 0, []) := o_imul dX11_prove_74
theorem oX11_prove_75 : oP MT mX11_prove 75 (1, 2, 4, 0, []) := o_iload dX11_prove_75
theorem oX11_prove_77 : oP MT mX11_prove 77 (18, 1, 0, 0, []) := o_iastore dX11_prove_77
theorem oX11_prove_78 : oP MT mX11_prove 78 (1, 1, 0, 1, []) := o_aload_n dX11_prove_78 rfl
theorem oX11_prove_79 : oP MT mX11_prove 79 (13, 3, 6, 11, []) := o_getR (M := mX11_prove) (C := RX11) (T := TX11) (ci := 11) (j := 6) (z := 11) dX11_prove_79 rfl lq_RX11_9 rfl rfl
theorem oX11_prove_82 : oP MT mX11_prove 82 (1, 1, 3, 0, []) := o_iload_n dX11_prove_82 rfl
theorem oX11_prove_83 : oP MT mX11_prove 83 (0, 1, 0, 3, []) := o_iconst dX11_prove_83 (by decide)
theorem oX11_prove_84 : oP MT mX11_prove 84 (4, 1, 2, 0, []) := o_imul dX11_prove_84
theorem oX11_prove_85 : oP MT mX11_prove 85 (0, 1, 0, 1, []) := o_iconst dX11_prove_85 (by decide)
theorem oX11_prove_86 : oP MT mX11_prove 86 (4, 1, 0, 0, []) := o_iadd dX11_prove_86
theorem oX11_prove_87 : oP MT mX11_prove 87 (1, 1, 0, 1, []) := o_aload_n dX11_prove_87 rfl
theorem oX11_prove_88 : oP MT mX11_prove 88 (13, 3, 0, 11, []) := o_getR (M := mX11_prove) (C := RX11) (T := TX11) (ci := 11) (j := 0) (z := 11) dX11_prove_88 rfl lq_RX11_56 rfl rfl
theorem oX11_prove_91 : oP MT mX11_prove 91 (1, 2, 4, 0, []) := o_iload dX11_prove_91
theorem oX11_prove_93 : oP MT mX11_prove 93 (26, 3, 0, 1, [(1, 81)]) := o_callO ((vA.cons (v_callV dX11_prove_93 (ci := 1) rfl rfl (mj := mX1_goBy) mt_X1_goBy cmq_X1_goBy wq_380 wq_382 wq_383 (by decide) (by decide)) vA.nil))
theorem oX11_prove_96 : oP MT mX11_prove 96 (18, 1, 0, 0, []) := o_iastore dX11_prove_96
theorem oX11_prove_97 : oP MT mX11_prove 97 (1, 1, 0, 1, []) := o_aload_n dX11_prove_97 rfl
theorem oX11_prove_98 : oP MT mX11_prove 98 (13, 3, 6, 11, []) := o_getR (M := mX11_prove) (C := RX11) (T := TX11) (ci := 11) (j := 6) (z := 11) dX11_prove_98 rfl lq_RX11_9 rfl rfl
theorem oX11_prove_101 : oP MT mX11_prove 101 (1, 1, 3, 0, []) := o_iload_n dX11_prove_101 rfl
theorem oX11_prove_102 : oP MT mX11_prove 102 (0, 1, 0, 3, []) := o_iconst dX11_prove_102 (by decide)
theorem oX11_prove_103 : oP MT mX11_prove 103 (4, 1, 2, 0, []) := o_imul dX11_prove_103
theorem oX11_prove_104 : oP MT mX11_prove 104 (0, 1, 0, 2, []) := o_iconst dX11_prove_104 (by decide)
theorem oX11_prove_105 : oP MT mX11_prove 105 (4, 1, 0, 0, []) := o_iadd dX11_prove_105
theorem oX11_prove_106 : oP MT mX11_prove 106 (1, 1, 0, 1, []) := o_aload_n dX11_prove_106 rfl
theorem oX11_prove_107 : oP MT mX11_prove 107 (13, 3, 0, 11, []) := o_getR (M := mX11_prove) (C := RX11) (T := TX11) (ci := 11) (j := 0) (z := 11) dX11_prove_107 rfl lq_RX11_56 rfl rfl
theorem oX11_prove_110 : oP MT mX11_prove 110 (12, 3, 9, 1, []) := o_getI (M := mX11_prove) (C := RX1) (T := TX1) (ci := 1) (j := 9) (z := 1) dX11_prove_110 rfl lq_RX11_165 rfl rfl
theorem oX11_prove_113 : oP MT mX11_prove 113 (18, 1, 0, 0, []) := o_iastore dX11_prove_113
theorem oX11_prove_114 : oP MT mX11_prove 114 (3, 3, 3, 1, []) := o_iinc dX11_prove_114 (by decide) (by decide)
theorem oX11_prove_117 : oP MT mX11_prove 117 (9, 3, 50, 0, []) := o_goto dX11_prove_117 (by decide)
theorem oX11_prove_120 : oP MT mX11_prove 120 (1, 1, 0, 1, []) := o_aload_n dX11_prove_120 rfl
theorem oX11_prove_121 : oP MT mX11_prove 121 (13, 3, 0, 11, []) := o_getR (M := mX11_prove) (C := RX11) (T := TX11) (ci := 11) (j := 0) (z := 11) dX11_prove_121 rfl lq_RX11_56 rfl rfl
theorem oX11_prove_124 : oP MT mX11_prove 124 (0, 1, 0, 0, []) := o_iconst dX11_prove_124 (by decide)
theorem oX11_prove_125 : oP MT mX11_prove 125 (26, 3, 0, 1, [(1, 51)]) := o_callO ((vA.cons (v_callV dX11_prove_125 (ci := 1) rfl rfl (mj := mX1_restore) mt_X1_restore cmq_X1_restore wq_318 wq_320 wq_321 (by decide) (by decide)) vA.nil))
theorem oX11_prove_128 : oP MT mX11_prove 128 (1, 1, 0, 1, []) := o_aload_n dX11_prove_128 rfl
theorem oX11_prove_129 : oP MT mX11_prove 129 (12, 3, 7, 11, []) := o_getI (M := mX11_prove) (C := RX11) (T := TX11) (ci := 11) (j := 7) (z := 11) dX11_prove_129 rfl lq_RX11_307 rfl rfl
theorem oX11_prove_132 : oP MT mX11_prove 132 (21, 1, 0, 0, []) := o_iret dX11_prove_132 rfl
def ops_X11_prove : List (Nat × aO) := [(0, (1, 1, 1, 0, [])), (1, (25, 3, 89, 1, [])), (4, (10, 3, 1, 9, [])), (7, (0, 1, 0, (-1), [])), (8, (21, 1, 0, 0, [])), (9, (1, 1, 0, 1, [])), (10, (13, 3, 3, 11, [])), (13, (0, 1, 0, 0, [])), (14, (1, 1, 1, 0, [])), (15, (26, 3, 0, 2, [(4, 90)])), (18, (1, 1, 0, 1, [])), (19, (13, 3, 3, 11, [])), (22, (13, 3, 3, 4, [])), (25, (0, 1, 0, 0, [])), (26, (16, 1, 1, 0, [])), (27, (2, 1, 2, 0, [])), (28, (1, 1, 0, 1, [])), (29, (1, 1, 0, 1, [])), (30, (13, 3, 0, 11, [])), (33, (1, 1, 1, 0, [])), (34, (26, 3, 0, 1, [(1, 91)])), (37, (14, 3, 7, 11, [])), (40, (1, 1, 0, 1, [])), (41, (13, 3, 0, 11, [])), (44, (0, 1, 0, 0, [])), (45, (26, 3, 0, 1, [(1, 50)])), (48, (0, 1, 0, 0, [])), (49, (2, 1, 3, 0, [])), (50, (1, 1, 3, 0, [])), (51, (1, 1, 0, 1, [])), (52, (12, 3, 7, 11, [])), (55, (11, 3, 3, 120, [])), (58, (1, 1, 2, 0, [])), (59, (0, 1, 0, 3, [])), (60, (1, 1, 3, 0, [])), (61, (4, 1, 2, 0, [])), (62, (4, 1, 7, 0, [])), (63, (0, 2, 0, 7, [])), (65, (4, 1, 3, 0, [])), (66, (2, 2, 4, 0, [])), (68, (1, 1, 0, 1, [])), (69, (13, 3, 6, 11, [])), (72, (1, 1, 3, 0, [])), (73, (0, 1, 0, 3, [])), (74, (4, 1, 2, 0, [])), (75, (1, 2, 4, 0, [])), (77, (18, 1, 0, 0, [])), (78, (1, 1, 0, 1, [])), (79, (13, 3, 6, 11, [])), (82, (1, 1, 3, 0, [])), (83, (0, 1, 0, 3, [])), (84, (4, 1, 2, 0, [])), (85, (0, 1, 0, 1, [])), (86, (4, 1, 0, 0, [])), (87, (1, 1, 0, 1, [])), (88, (13, 3, 0, 11, [])), (91, (1, 2, 4, 0, [])), (93, (26, 3, 0, 1, [(1, 81)])), (96, (18, 1, 0, 0, [])), (97, (1, 1, 0, 1, [])), (98, (13, 3, 6, 11, [])), (101, (1, 1, 3, 0, [])), (102, (0, 1, 0, 3, [])), (103, (4, 1, 2, 0, [])), (104, (0, 1, 0, 2, [])), (105, (4, 1, 0, 0, [])), (106, (1, 1, 0, 1, [])), (107, (13, 3, 0, 11, [])), (110, (12, 3, 9, 1, [])), (113, (18, 1, 0, 0, [])), (114, (3, 3, 3, 1, [])), (117, (9, 3, 50, 0, [])), (120, (1, 1, 0, 1, [])), (121, (13, 3, 0, 11, [])), (124, (0, 1, 0, 0, [])), (125, (26, 3, 0, 1, [(1, 51)])), (128, (1, 1, 0, 1, [])), (129, (12, 3, 7, 11, [])), (132, (21, 1, 0, 0, []))]
theorem os_X11_prove : oA MT mX11_prove ops_X11_prove := (oA.cons oX11_prove_0 (oA.cons oX11_prove_1 (oA.cons oX11_prove_4 (oA.cons oX11_prove_7 (oA.cons oX11_prove_8 (oA.cons oX11_prove_9 (oA.cons oX11_prove_10 (oA.cons oX11_prove_13 (oA.cons oX11_prove_14 (oA.cons oX11_prove_15 (oA.cons oX11_prove_18 (oA.cons oX11_prove_19 (oA.cons oX11_prove_22 (oA.cons oX11_prove_25 (oA.cons oX11_prove_26 (oA.cons oX11_prove_27 (oA.cons oX11_prove_28 (oA.cons oX11_prove_29 (oA.cons oX11_prove_30 (oA.cons oX11_prove_33 (oA.cons oX11_prove_34 (oA.cons oX11_prove_37 (oA.cons oX11_prove_40 (oA.cons oX11_prove_41 (oA.cons oX11_prove_44 (oA.cons oX11_prove_45 (oA.cons oX11_prove_48 (oA.cons oX11_prove_49 (oA.cons oX11_prove_50 (oA.cons oX11_prove_51 (oA.cons oX11_prove_52 (oA.cons oX11_prove_55 (oA.cons oX11_prove_58 (oA.cons oX11_prove_59 (oA.cons oX11_prove_60 (oA.cons oX11_prove_61 (oA.cons oX11_prove_62 (oA.cons oX11_prove_63 (oA.cons oX11_prove_65 (oA.cons oX11_prove_66 (oA.cons oX11_prove_68 (oA.cons oX11_prove_69 (oA.cons oX11_prove_72 (oA.cons oX11_prove_73 (oA.cons oX11_prove_74 (oA.cons oX11_prove_75 (oA.cons oX11_prove_77 (oA.cons oX11_prove_78 (oA.cons oX11_prove_79 (oA.cons oX11_prove_82 (oA.cons oX11_prove_83 (oA.cons oX11_prove_84 (oA.cons oX11_prove_85 (oA.cons oX11_prove_86 (oA.cons oX11_prove_87 (oA.cons oX11_prove_88 (oA.cons oX11_prove_91 (oA.cons oX11_prove_93 (oA.cons oX11_prove_96 (oA.cons oX11_prove_97 (oA.cons oX11_prove_98 (oA.cons oX11_prove_101 (oA.cons oX11_prove_102 (oA.cons oX11_prove_103 (oA.cons oX11_prove_104 (oA.cons oX11_prove_105 (oA.cons oX11_prove_106 (oA.cons oX11_prove_107 (oA.cons oX11_prove_110 (oA.cons oX11_prove_113 (oA.cons oX11_prove_114 (oA.cons oX11_prove_117 (oA.cons oX11_prove_120 (oA.cons oX11_prove_121 (oA.cons oX11_prove_124 (oA.cons oX11_prove_125 (oA.cons oX11_prove_128 (oA.cons oX11_prove_129 (oA.cons oX11_prove_132 oA.nil)))))))))))))))))))))))))))))))))))))))))))))))))))))))))))))))))))))))))))))))
theorem dX11_row_0 : decode cX11_row 0 = .ok (.aload_n 0, 1) := by decide +kernel
theorem dX11_row_1 : decode cX11_row 1 = .ok (.iload_n 1, 1) := by decide +kernel
theorem dX11_row_2 : decode cX11_row 2 = .ok (.iload_n 2, 1) := by decide +kernel
theorem dX11_row_3 : decode cX11_row 3 = .ok (.invokevirtual 310, 3) := by decide +kernel
theorem dX11_row_6 : decode cX11_row 6 = .ok (.ifCond .eq 16, 3) := by decide +kernel
theorem dX11_row_9 : decode cX11_row 9 = .ok (.aload_n 0, 1) := by decide +kernel
theorem dX11_row_10 : decode cX11_row 10 = .ok (.getfield 9, 3) := by decide +kernel
theorem dX11_row_13 : decode cX11_row 13 = .ok (.iload_n 1, 1) := by decide +kernel
theorem dX11_row_14 : decode cX11_row 14 = .ok (.iconst 3, 1) := by decide +kernel
theorem dX11_row_15 : decode cX11_row 15 = .ok (.imul, 1) := by decide +kernel
theorem dX11_row_16 : decode cX11_row 16 = .ok (.iload_n 2, 1) := by decide +kernel
theorem dX11_row_17 : decode cX11_row 17 = .ok (.iadd, 1) := by decide +kernel
theorem dX11_row_18 : decode cX11_row 18 = .ok (.iaload, 1) := by decide +kernel
theorem dX11_row_19 : decode cX11_row 19 = .ok (.goto 5, 3) := by decide +kernel
theorem dX11_row_22 : decode cX11_row 22 = .ok (.bipush (-9), 2) := by decide +kernel
theorem dX11_row_24 : decode cX11_row 24 = .ok (.ireturn, 1) := by decide +kernel
theorem oX11_row_0 : oP MT mX11_row 0 (1, 1, 0, 1, []) := o_aload_n dX11_row_0 rfl
theorem oX11_row_1 : oP MT mX11_row 1 (1, 1, 1, 0, []) := o_iload_n dX11_row_1 rfl
theorem oX11_row_2 : oP MT mX11_row 2 (1, 1, 2, 0, []) := o_iload_n dX11_row_2 rfl
theorem oX11_row_3 : oP MT mX11_row 3 (26, 3, 0, 2, [(11, 262)]) := o_callO ((vA.cons (v_callV dX11_row_3 (ci := 11) rfl rfl (mj := mX11_isRowField) mt_X11_isRowField cmq_X11_isRowField wq_765 wq_767 wq_768 (by decide) (by decide)) vA.nil))
theorem oX11_row_6 : oP MT mX11_row 6 (10, 3, 0, 22, []) := o_if_eq dX11_row_6 (by decide) (by decide)
theorem oX11_row_9 : oP MT mX11_row 9 (1, 1, 0, 1, []) := o_aload_n dX11_row_9 rfl
theorem oX11_row_10 : oP MT mX11_row 10 (13, 3, 6, 11, []) := o_getR (M := mX11_row) (C := RX11) (T := TX11) (ci := 11) (j := 6) (z := 11) dX11_row_10 rfl lq_RX11_9 rfl rfl
theorem oX11_row_13 : oP MT mX11_row 13 (1, 1, 1, 0, []) := o_iload_n dX11_row_13 rfl
theorem oX11_row_14 : oP MT mX11_row 14 (0, 1, 0, 3, []) := o_iconst dX11_row_14 (by decide)
theorem oX11_row_15 : oP MT mX11_row 15 (4, 1, 2, 0, []) := o_imul dX11_row_15
theorem oX11_row_16 : oP MT mX11_row 16 (1, 1, 2, 0, []) := o_iload_n dX11_row_16 rfl
theorem oX11_row_17 : oP MT mX11_row 17 (4, 1, 0, 0, []) := o_iadd dX11_row_17
theorem oX11_row_18 : oP MT mX11_row 18 (16, 1, 1, 0, []) := o_iaload dX11_row_18
theorem oX11_row_19 : oP MT mX11_row 19 (9, 3, 24, 0, []) := o_goto dX11_row_19 (by decide)
theorem oX11_row_22 : oP MT mX11_row 22 (0, 2, 0, (-9), []) := o_bipush dX11_row_22 (by decide)
theorem oX11_row_24 : oP MT mX11_row 24 (21, 1, 0, 0, []) := o_iret dX11_row_24 rfl
def ops_X11_row : List (Nat × aO) := [(0, (1, 1, 0, 1, [])), (1, (1, 1, 1, 0, [])), (2, (1, 1, 2, 0, [])), (3, (26, 3, 0, 2, [(11, 262)])), (6, (10, 3, 0, 22, [])), (9, (1, 1, 0, 1, [])), (10, (13, 3, 6, 11, [])), (13, (1, 1, 1, 0, [])), (14, (0, 1, 0, 3, [])), (15, (4, 1, 2, 0, [])), (16, (1, 1, 2, 0, [])), (17, (4, 1, 0, 0, [])), (18, (16, 1, 1, 0, [])), (19, (9, 3, 24, 0, [])), (22, (0, 2, 0, (-9), [])), (24, (21, 1, 0, 0, []))]
theorem os_X11_row : oA MT mX11_row ops_X11_row := (oA.cons oX11_row_0 (oA.cons oX11_row_1 (oA.cons oX11_row_2 (oA.cons oX11_row_3 (oA.cons oX11_row_6 (oA.cons oX11_row_9 (oA.cons oX11_row_10 (oA.cons oX11_row_13 (oA.cons oX11_row_14 (oA.cons oX11_row_15 (oA.cons oX11_row_16 (oA.cons oX11_row_17 (oA.cons oX11_row_18 (oA.cons oX11_row_19 (oA.cons oX11_row_22 (oA.cons oX11_row_24 oA.nil))))))))))))))))
theorem dX11_isRowField_0 : decode cX11_isRowField 0 = .ok (.iload_n 1, 1) := by decide +kernel
theorem dX11_isRowField_1 : decode cX11_isRowField 1 = .ok (.iconst 0, 1) := by decide +kernel
theorem dX11_isRowField_2 : decode cX11_isRowField 2 = .ok (.aload_n 0, 1) := by decide +kernel
theorem dX11_isRowField_3 : decode cX11_isRowField 3 = .ok (.getfield 307, 3) := by decide +kernel
theorem dX11_isRowField_6 : decode cX11_isRowField 6 = .ok (.iconst 1, 1) := by decide +kernel
theorem dX11_isRowField_7 : decode cX11_isRowField 7 = .ok (.isub, 1) := by decide +kernel
theorem dX11_isRowField_8 : decode cX11_isRowField 8 = .ok (.invokestatic 90, 3) := by decide +kernel
theorem dX11_isRowField_11 : decode cX11_isRowField 11 = .ok (.ifCond .eq 16, 3) := by decide +kernel
theorem dX11_isRowField_14 : decode cX11_isRowField 14 = .ok (.iload_n 2, 1) := by decide +kernel
theorem dX11_isRowField_15 : decode cX11_isRowField 15 = .ok (.iconst 0, 1) := by decide +kernel
theorem dX11_isRowField_16 : decode cX11_isRowField 16 = .ok (.iconst 2, 1) := by decide +kernel
theorem dX11_isRowField_17 : decode cX11_isRowField 17 = .ok (.invokestatic 90, 3) := by decide +kernel
theorem dX11_isRowField_20 : decode cX11_isRowField 20 = .ok (.ifCond .eq 7, 3) := by decide +kernel
theorem dX11_isRowField_23 : decode cX11_isRowField 23 = .ok (.iconst 1, 1) := by decide +kernel
theorem dX11_isRowField_24 : decode cX11_isRowField 24 = .ok (.goto 4, 3) := by decide +kernel
theorem dX11_isRowField_27 : decode cX11_isRowField 27 = .ok (.iconst 0, 1) := by decide +kernel
theorem dX11_isRowField_28 : decode cX11_isRowField 28 = .ok (.ireturn, 1) := by decide +kernel
theorem oX11_isRowField_0 : oP MT mX11_isRowField 0 (1, 1, 1, 0, []) := o_iload_n dX11_isRowField_0 rfl
theorem oX11_isRowField_1 : oP MT mX11_isRowField 1 (0, 1, 0, 0, []) := o_iconst dX11_isRowField_1 (by decide)
theorem oX11_isRowField_2 : oP MT mX11_isRowField 2 (1, 1, 0, 1, []) := o_aload_n dX11_isRowField_2 rfl
theorem oX11_isRowField_3 : oP MT mX11_isRowField 3 (12, 3, 7, 11, []) := o_getI (M := mX11_isRowField) (C := RX11) (T := TX11) (ci := 11) (j := 7) (z := 11) dX11_isRowField_3 rfl lq_RX11_307 rfl rfl
theorem oX11_isRowField_6 : oP MT mX11_isRowField 6 (0, 1, 0, 1, []) := o_iconst dX11_isRowField_6 (by decide)
theorem oX11_isRowField_7 : oP MT mX11_isRowField 7 (4, 1, 1, 0, []) := o_isub dX11_isRowField_7
theorem oX11_isRowField_8 : oP MT mX11_isRowField 8 (25, 3, 37, 3, []) := o_callS dX11_isRowField_8 (mj := mX11_isIn) mt_X11_isIn cmq_X11_isIn wq_282 wq_144 (by decide) (by decide)
theorem oX11_isRowField_11 : oP MT mX11_isRowField 11 (10, 3, 0, 27, []) := o_if_eq dX11_isRowField_11 (by decide) (by decide)
theorem oX11_isRowField_14 : oP MT mX11_isRowField 14 (1, 1, 2, 0, []) := o_iload_n dX11_isRowField_14 rfl
theorem oX11_isRowField_15 : oP MT mX11_isRowField 15 (0, 1, 0, 0, []) := o_iconst dX11_isRowField_15 (by decide)
theorem oX11_isRowField_16 : oP MT mX11_isRowField 16 (0, 1, 0, 2, []) := o_iconst dX11_isRowField_16 (by decide)
theorem oX11_isRowField_17 : oP MT mX11_isRowField 17 (25, 3, 37, 3, []) := o_callS dX11_isRowField_17 (mj := mX11_isIn) mt_X11_isIn cmq_X11_isIn wq_282 wq_144 (by decide) (by decide)
theorem oX11_isRowField_20 : oP MT mX11_isRowField 20 (10, 3, 0, 27, []) := o_if_eq dX11_isRowField_20 (by decide) (by decide)
theorem oX11_isRowField_23 : oP MT mX11_isRowField 23 (0, 1, 0, 1, []) := o_iconst dX11_isRowField_23 (by decide)
theorem oX11_isRowField_24 : oP MT mX11_isRowField 24 (9, 3, 28, 0, []) := o_goto dX11_isRowField_24 (by decide)
theorem oX11_isRowField_27 : oP MT mX11_isRowField 27 (0, 1, 0, 0, []) := o_iconst dX11_isRowField_27 (by decide)
theorem oX11_isRowField_28 : oP MT mX11_isRowField 28 (22, 1, 0, 0, []) := o_zret dX11_isRowField_28 rfl
def ops_X11_isRowField : List (Nat × aO) := [(0, (1, 1, 1, 0, [])), (1, (0, 1, 0, 0, [])), (2, (1, 1, 0, 1, [])), (3, (12, 3, 7, 11, [])), (6, (0, 1, 0, 1, [])), (7, (4, 1, 1, 0, [])), (8, (25, 3, 37, 3, [])), (11, (10, 3, 0, 27, [])), (14, (1, 1, 2, 0, [])), (15, (0, 1, 0, 0, [])), (16, (0, 1, 0, 2, [])), (17, (25, 3, 37, 3, [])), (20, (10, 3, 0, 27, [])), (23, (0, 1, 0, 1, [])), (24, (9, 3, 28, 0, [])), (27, (0, 1, 0, 0, [])), (28, (22, 1, 0, 0, []))]
theorem os_X11_isRowField : oA MT mX11_isRowField ops_X11_isRowField := (oA.cons oX11_isRowField_0 (oA.cons oX11_isRowField_1 (oA.cons oX11_isRowField_2 (oA.cons oX11_isRowField_3 (oA.cons oX11_isRowField_6 (oA.cons oX11_isRowField_7 (oA.cons oX11_isRowField_8 (oA.cons oX11_isRowField_11 (oA.cons oX11_isRowField_14 (oA.cons oX11_isRowField_15 (oA.cons oX11_isRowField_16 (oA.cons oX11_isRowField_17 (oA.cons oX11_isRowField_20 (oA.cons oX11_isRowField_23 (oA.cons oX11_isRowField_24 (oA.cons oX11_isRowField_27 (oA.cons oX11_isRowField_28 oA.nil)))))))))))))))))
theorem dX11_alterRow_0 : decode cX11_alterRow 0 = .ok (.aload_n 0, 1) := by decide +kernel
theorem dX11_alterRow_1 : decode cX11_alterRow 1 = .ok (.iload_n 1, 1) := by decide +kernel
theorem dX11_alterRow_2 : decode cX11_alterRow 2 = .ok (.iload_n 2, 1) := by decide +kernel
theorem dX11_alterRow_3 : decode cX11_alterRow 3 = .ok (.invokevirtual 310, 3) := by decide +kernel
theorem dX11_alterRow_6 : decode cX11_alterRow 6 = .ok (.ifCond .ne 6, 3) := by decide +kernel
theorem dX11_alterRow_9 : decode cX11_alterRow 9 = .ok (.bipush (-9), 2) := by decide +kernel
theorem dX11_alterRow_11 : decode cX11_alterRow 11 = .ok (.ireturn, 1) := by decide +kernel
theorem dX11_alterRow_12 : decode cX11_alterRow 12 = .ok (.aload_n 0, 1) := by decide +kernel
theorem dX11_alterRow_13 : decode cX11_alterRow 13 = .ok (.getfield 9, 3) := by decide +kernel
theorem dX11_alterRow_16 : decode cX11_alterRow 16 = .ok (.iload_n 1, 1) := by decide +kernel
theorem dX11_alterRow_17 : decode cX11_alterRow 17 = .ok (.iconst 3, 1) := by decide +kernel
theorem dX11_alterRow_18 : decode cX11_alterRow 18 = .ok (.imul, 1) := by decide +kernel
theorem dX11_alterRow_19 : decode cX11_alterRow 19 = .ok (.iload_n 2, 1) := by decide +kernel
theorem dX11_alterRow_20 : decode cX11_alterRow 20 = .ok (.iadd, 1) := by decide +kernel
theorem dX11_alterRow_21 : decode cX11_alterRow 21 = .ok (.iaload, 1) := by decide +kernel
theorem dX11_alterRow_22 : decode cX11_alterRow 22 = .ok (.istore 4, 2) := by decide +kernel
theorem dX11_alterRow_24 : decode cX11_alterRow 24 = .ok (.aload_n 0, 1) := by decide +kernel
theorem dX11_alterRow_25 : decode cX11_alterRow 25 = .ok (.getfield 9, 3) := by decide +kernel
theorem dX11_alterRow_28 : decode cX11_alterRow 28 = .ok (.iload_n 1, 1) := by decide +kernel
theorem dX11_alterRow_29 : decode cX11_alterRow 29 = .ok (.iconst 3, 1) := by decide +kernel
theorem dX11_alterRow_30 : decode cX11_alterRow 30 = .ok (.imul, 1) := by decide +kernel
theorem dX11_alterRow_31 : decode cX11_alterRow 31 = .ok (.iload_n 2, 1) := by decide +kernel
theorem dX11_alterRow_32 : decode cX11_alterRow 32 = .ok (.iadd, 1) := by decide +kernel
theorem dX11_alterRow_33 : decode cX11_alterRow 33 = .ok (.iload_n 3, 1) := by decide +kernel
theorem dX11_alterRow_34 : decode cX11_alterRow 34 = .ok (.iastore, 1) := by decide +kernel
theorem dX11_alterRow_35 : decode cX11_alterRow 35 = .ok (.iload 4, 2) := by decide +kernel
theorem dX11_alterRow_37 : decode cX11_alterRow 37 = .ok (.ireturn, 1) := by decide +kernel
theorem oX11_alterRow_0 : oP MT mX11_alterRow 0 (1, 1, 0, 1, []) := o_aload_n dX11_alterRow_0 rfl
theorem oX11_alterRow_1 : oP MT mX11_alterRow 1 (1, 1, 1, 0, []) := o_iload_n dX11_alterRow_1 rfl
theorem oX11_alterRow_2 : oP MT mX11_alterRow 2 (1, 1, 2, 0, []) := o_iload_n dX11_alterRow_2 rfl
theorem oX11_alterRow_3 : oP MT mX11_alterRow 3 (26, 3, 0, 2, [(11, 262)]) := o_callO ((vA.cons (v_callV dX11_alterRow_3 (ci := 11) rfl rfl (mj := mX11_isRowField) mt_X11_isRowField cmq_X11_isRowField wq_765 wq_767 wq_768 (by decide) (by decide)) vA.nil))
theorem oX11_alterRow_6 : oP MT mX11_alterRow 6 (10, 3, 1, 12, []) := o_if_ne dX11_alterRow_6 (by decide) (by decide)
theorem oX11_alterRow_9 : oP MT mX11_alterRow 9 (0, 2, 0, (-9), []) := o_bipush dX11_alterRow_9 (by decide)
theorem oX11_alterRow_11 : oP MT mX11_alterRow 11 (21, 1, 0, 0, []) := o_iret dX11_alterRow_11 rfl
theorem oX11_alterRow_12 : oP MT mX11_alterRow 12 (1, 1, 0, 1, []) := o_aload_n dX11_alterRow_12 rfl
theorem oX11_alterRow_13 : oP MT mX11_alterRow 13 (13, 3, 6, 11, []) := o_getR (M := mX11_alterRow) (C := RX11) (T := TX11) (ci := 11) (j := 6) (z := 11) dX11_alterRow_13 rfl lq_RX11_9 rfl rfl
theorem oX11_alterRow_16 : oP MT mX11_alterRow 16 (1, 1, 1, 0, []) := o_iload_n dX11_alterRow_16 rfl
theorem oX11_alterRow_17 : oP MT mX11_alterRow 17 (0, 1, 0, 3, []) := o_iconst dX11_alterRow_17 (by decide)
theorem oX11_alterRow_18 : oP MT mX11_alterRow 18 (4, 1, 2, 0, []) := o_imul dX11_alterRow_18
theorem oX11_alterRow_19 : oP MT mX11_alterRow 19 (1, 1, 2, 0, []) := o_iload_n dX11_alterRow_19 rfl
theorem oX11_alterRow_20 : oP MT mX11_alterRow 20 (4, 1, 0, 0, []) := o_iadd dX11_alterRow_20
theorem oX11_alterRow_21 : oP MT mX11_alterRow 21 (16, 1, 1, 0, []) := o_iaload dX11_alterRow_21
theorem oX11_alterRow_22 : oP MT mX11_alterRow 22 (2, 2, 4, 0, []) := o_istore dX11_alterRow_22 (by decide)
theorem oX11_alterRow_24 : oP MT mX11_alterRow 24 (1, 1, 0, 1, []) := o_aload_n dX11_alterRow_24 rfl
theorem oX11_alterRow_25 : oP MT mX11_alterRow 25 (13, 3, 6, 11, []) := o_getR (M := mX11_alterRow) (C := RX11) (T := TX11) (ci := 11) (j := 6) (z := 11) dX11_alterRow_25 rfl lq_RX11_9 rfl rfl
theorem oX11_alterRow_28 : oP MT mX11_alterRow 28 (1, 1, 1, 0, []) := o_iload_n dX11_alterRow_28 rfl
theorem oX11_alterRow_29 : oP MT mX11_alterRow 29 (0, 1, 0, 3, []) := o_iconst dX11_alterRow_29 (by decide)
theorem oX11_alterRow_30 : oP MT mX11_alterRow 30 (4, 1, 2, 0, []) := o_imul dX11_alterRow_30
theorem oX11_alterRow_31 : oP MT mX11_alterRow 31 (1, 1, 2, 0, []) := o_iload_n dX11_alterRow_31 rfl
theorem oX11_alterRow_32 : oP MT mX11_alterRow 32 (4, 1, 0, 0, []) := o_iadd dX11_alterRow_32
theorem oX11_alterRow_33 : oP MT mX11_alterRow 33 (1, 1, 3, 0, []) := o_iload_n dX11_alterRow_33 rfl
theorem oX11_alterRow_34 : oP MT mX11_alterRow 34 (18, 1, 0, 0, []) := o_iastore dX11_alterRow_34
theorem oX11_alterRow_35 : oP MT mX11_alterRow 35 (1, 2, 4, 0, []) := o_iload dX11_alterRow_35
theorem oX11_alterRow_37 : oP MT mX11_alterRow 37 (21, 1, 0, 0, []) := o_iret dX11_alterRow_37 rfl
def ops_X11_alterRow : List (Nat × aO) := [(0, (1, 1, 0, 1, [])), (1, (1, 1, 1, 0, [])), (2, (1, 1, 2, 0, [])), (3, (26, 3, 0, 2, [(11, 262)])), (6, (10, 3, 1, 12, [])), (9, (0, 2, 0, (-9), [])), (11, (21, 1, 0, 0, [])), (12, (1, 1, 0, 1, [])), (13, (13, 3, 6, 11, [])), (16, (1, 1, 1, 0, [])), (17, (0, 1, 0, 3, [])), (18, (4, 1, 2, 0, [])), (19, (1, 1, 2, 0, [])), (20, (4, 1, 0, 0, [])), (21, (16, 1, 1, 0, [])), (22, (2, 2, 4, 0, [])), (24, (1, 1, 0, 1, [])), (25, (13, 3, 6, 11, [])), (28, (1, 1, 1, 0, [])), (29, (0, 1, 0, 3, [])), (30, (4, 1, 2, 0, [])), (31, (1, 1, 2, 0, [])), (32, (4, 1, 0, 0, [])), (33, (1, 1, 3, 0, [])), (34, (18, 1, 0, 0, [])), (35, (1, 2, 4, 0, [])), (37, (21, 1, 0, 0, []))]
theorem os_X11_alterRow : oA MT mX11_alterRow ops_X11_alterRow := (oA.cons oX11_alterRow_0 (oA.cons oX11_alterRow_1 (oA.cons oX11_alterRow_2 (oA.cons oX11_alterRow_3 (oA.cons oX11_alterRow_6 (oA.cons oX11_alterRow_9 (oA.cons oX11_alterRow_11 (oA.cons oX11_alterRow_12 (oA.cons oX11_alterRow_13 (oA.cons oX11_alterRow_16 (oA.cons oX11_alterRow_17 (oA.cons oX11_alterRow_18 (oA.cons oX11_alterRow_19 (oA.cons oX11_alterRow_20 (oA.cons oX11_alterRow_21 (oA.cons oX11_alterRow_22 (oA.cons oX11_alterRow_24 (oA.cons oX11_alterRow_25 (oA.cons oX11_alterRow_28 (oA.cons oX11_alterRow_29 (oA.cons oX11_alterRow_30 (oA.cons oX11_alterRow_31 (oA.cons oX11_alterRow_32 (oA.cons oX11_alterRow_33 (oA.cons oX11_alterRow_34 (oA.cons oX11_alterRow_35 (oA.cons oX11_alterRow_37 oA.nil)))))))))))))))))))))))))))
theorem dX11_judge_0 : decode cX11_judge 0 = .ok (.iconst 0, 1) := by decide +kernel
theorem dX11_judge_1 : decode cX11_judge 1 = .ok (.istore_n 1, 1) := by decide +kernel
theorem dX11_judge_2 : decode cX11_judge 2 = .ok (.aload_n 0, 1) := by decide +kernel
theorem dX11_judge_3 : decode cX11_judge 3 = .ok (.getfield 56, 3) := by decide +kernel
theorem dX11_judge_6 : decode cX11_judge 6 = .ok (.iconst 0, 1) := by decide +kernel
theorem dX11_judge_7 : decode cX11_judge 7 = .ok (.invokevirtual 212, 3) := by decide +kernel
theorem dX11_judge_10 : decode cX11_judge 10 = .ok (.iconst 0, 1) := by decide +kernel
theorem dX11_judge_11 : decode cX11_judge 11 = .ok (.istore_n 2, 1) := by decide +kernel
theorem dX11_judge_12 : decode cX11_judge 12 = .ok (.iload_n 2, 1) := by decide +kernel
theorem dX11_judge_13 : decode cX11_judge 13 = .ok (.aload_n 0, 1) := by decide +kernel
theorem dX11_judge_14 : decode cX11_judge 14 = .ok (.getfield 307, 3) := by decide +kernel
theorem dX11_judge_17 : decode cX11_judge 17 = .ok (.if_icmp .ge 27, 3) := by decide +kernel
theorem dX11_judge_20 : decode cX11_judge 20 = .ok (.iload_n 1, 1) := by decide +kernel
theorem dX11_judge_21 : decode cX11_judge 21 = .ok (.ifCond .ne 23, 3) := by decide +kernel
theorem dX11_judge_24 : decode cX11_judge 24 = .ok (.aload_n 0, 1) := by decide +kernel
theorem dX11_judge_25 : decode cX11_judge 25 = .ok (.iload_n 2, 1) := by decide +kernel
theorem dX11_judge_26 : decode cX11_judge 26 = .ok (.iconst 3, 1) := by decide +kernel
theorem dX11_judge_27 : decode cX11_judge 27 = .ok (.imul, 1) := by decide +kernel
theorem dX11_judge_28 : decode cX11_judge 28 = .ok (.invokevirtual 313, 3) := by decide +kernel
theorem dX11_judge_31 : decode cX11_judge 31 = .ok (.ifCond .ne 7, 3) := by decide +kernel
theorem dX11_judge_34 : decode cX11_judge 34 = .ok (.iload_n 2, 1) := by decide +kernel
theorem dX11_judge_35 : decode cX11_judge 35 = .ok (.iconst 1, 1) := by decide +kernel
theorem dX11_judge_36 : decode cX11_judge 36 = .ok (.iadd, 1) := by decide +kernel
theorem dX11_judge_37 : decode cX11_judge 37 = .ok (.istore_n 1, 1) := by decide +kernel
theorem dX11_judge_38 : decode cX11_judge 38 = .ok (.iinc 2 1, 3) := by decide +kernel
theorem dX11_judge_41 : decode cX11_judge 41 = .ok (.goto (-29), 3) := by decide +kernel
theorem dX11_judge_44 : decode cX11_judge 44 = .ok (.aload_n 0, 1) := by decide +kernel
theorem dX11_judge_45 : decode cX11_judge 45 = .ok (.getfield 56, 3) := by decide +kernel
theorem dX11_judge_48 : decode cX11_judge 48 = .ok (.iconst 0, 1) := by decide +kernel
theorem dX11_judge_49 : decode cX11_judge 49 = .ok (.invokevirtual 218, 3) := by decide +kernel
theorem dX11_judge_52 : decode cX11_judge 52 = .ok (.iload_n 1, 1) := by decide +kernel
theorem dX11_judge_53 : decode cX11_judge 53 = .ok (.ireturn, 1) := by decide +kernel
theorem oX11_judge_0 : oP MT mX11_judge 0 (0, 1, 0, 0, []) := o_iconst dX11_judge_0 (by decide)
theorem oX11_judge_1 : oP MT mX11_judge 1 (2, 1, 1, 0, []) := o_istore_n dX11_judge_1 rfl (by decide)
theorem oX11_judge_2 : oP MT mX11_judge 2 (1, 1, 0, 1, []) := o_aload_n dX11_judge_2 rfl
theorem oX11_judge_3 : oP MT mX11_judge 3 (13, 3, 0, 11, []) := o_getR (M := mX11_judge) (C := RX11) (T := TX11) (ci := 11) (j := 0) (z := 11) dX11_judge_3 rfl lq_RX11_56 rfl rfl
theorem oX11_judge_6 : oP MT mX11_judge 6 (0, 1, 0, 0, []) := o_iconst dX11_judge_6 (by decide)
theorem oX11_judge_7 : oP MT mX11_judge 7 (26, 3, 0, 1, [(1, 50)]) := o_callO ((vA.cons (v_callV dX11_judge_7 (ci := 1) rfl rfl (mj := mX1_save) mt_X1_save cmq_X1_save wq_310 wq_312 wq_313 (by decide) (by decide)) vA.nil))
theorem oX11_judge_10 : oP MT mX11_judge 10 (0, 1, 0, 0, []) := o_iconst dX11_judge_10 (by decide)
theorem oX11_judge_11 : oP MT mX11_judge 11 (2, 1, 2, 0, []) := o_istore_n dX11_judge_11 rfl (by decide)
theorem oX11_judge_12 : oP MT mX11_judge 12 (1, 1, 2, 0, []) := o_iload_n dX11_judge_12 rfl
theorem oX11_judge_13 : oP MT mX11_judge 13 (1, 1, 0, 1, []) := o_aload_n dX11_judge_13 rfl
theorem oX11_judge_14 : oP MT mX11_judge 14 (12, 3, 7, 11, []) := o_getI (M := mX11_judge) (C := RX11) (T := TX11) (ci := 11) (j := 7) (z := 11) dX11_judge_14 rfl lq_RX11_307 rfl rfl
theorem oX11_judge_17 : oP MT mX11_judge 17 (11, 3, 3, 44, []) := o_icmp_ge dX11_judge_17 (by decide) (by decide)
theorem oX11_judge_20 : oP MT mX11_judge 20 (1, 1, 1, 0, []) := o_iload_n dX11_judge_20 rfl
theorem oX11_judge_21 : oP MT mX11_judge 21 (10, 3, 1, 44, []) := o_if_ne dX11_judge_21 (by decide) (by decide)
theorem oX11_judge_24 : oP MT mX11_judge 24 (1, 1, 0, 1, []) := o_aload_n dX11_judge_24 rfl
theorem oX11_judge_25 : oP MT mX11_judge 25 (1, 1, 2, 0, []) := o_iload_n dX11_judge_25 rfl
theorem oX11_judge_26 : oP MT mX11_judge 26 (0, 1, 0, 3, []) := o_iconst dX11_judge_26 (by decide)
theorem oX11_judge_27 : oP MT mX11_judge 27 (4, 1, 2, 0, []) := o_imul dX11_judge_27
theorem oX11_judge_28 : oP MT mX11_judge 28 (26, 3, 0, 1, [(11, 102)]) := o_callO ((vA.cons (v_callV dX11_judge_28 (ci := 11) rfl rfl (mj := mX11_isRowRight) mt_X11_isRowRight cmq_X11_isRowRight wq_773 wq_775 wq_776 (by decide) (by decide)) vA.nil))
theorem oX11_judge_31 : oP MT mX11_judge 31 (10, 3, 1, 38, []) := o_if_ne dX11_judge_31 (by decide) (by decide)
theorem oX11_judge_34 : oP MT mX11_judge 34 (1, 1, 2, 0, []) := o_iload_n dX11_judge_34 rfl
theorem oX11_judge_35 : oP MT mX11_judge 35 (0, 1, 0, 1, []) := o_iconst dX11_judge_35 (by decide)
theorem oX11_judge_36 : oP MT mX11_judge 36 (4, 1, 0, 0, []) := o_iadd dX11_judge_36
theorem oX11_judge_37 : oP MT mX11_judge 37 (2, 1, 1, 0, []) := o_istore_n dX11_judge_37 rfl (by decide)
theorem oX11_judge_38 : oP MT mX11_judge 38 (3, 3, 2, 1, []) := o_iinc dX11_judge_38 (by decide) (by decide)
theorem oX11_judge_41 : oP MT mX11_judge 41 (9, 3, 12, 0, []) := o_goto dX11_judge_41 (by decide)
theorem oX11_judge_44 : oP MT mX11_judge 44 (1, 1, 0, 1, []) := o_aload_n dX11_judge_44 rfl
theorem oX11_judge_45 : oP MT mX11_judge 45 (13, 3, 0, 11, []) := o_getR (M := mX11_judge) (C := RX11) (T := TX11) (ci := 11) (j := 0) (z := 11) dX11_judge_45 rfl lq_RX11_56 rfl rfl
theorem oX11_judge_48 : oP MT mX11_judge 48 (0, 1, 0, 0, []) := o_iconst dX11_judge_48 (by decide)
theorem oX11_judge_49 : oP MT mX11_judge 49 (26, 3, 0, 1, [(1, 51)]) := o_callO ((vA.cons (v_callV dX11_judge_49 (ci := 1) rfl rfl (mj := mX1_restore) mt_X1_restore cmq_X1_restore wq_318 wq_320 wq_321 (by decide) (by decide)) vA.nil))
theorem oX11_judge_52 : oP MT mX11_judge 52 (1, 1, 1, 0, []) := o_iload_n dX11_judge_52 rfl
theorem oX11_judge_53 : oP MT mX11_judge 53 (21, 1, 0, 0, []) := o_iret dX11_judge_53 rfl
def ops_X11_judge : List (Nat × aO) := [(0, (0, 1, 0, 0, [])), (1, (2, 1, 1, 0, [])), (2, (1, 1, 0, 1, [])), (3, (13, 3, 0, 11, [])), (6, (0, 1, 0, 0, [])), (7, (26, 3, 0, 1, [(1, 50)])), (10, (0, 1, 0, 0, [])), (11, (2, 1, 2, 0, [])), (12, (1, 1, 2, 0, [])), (13, (1, 1, 0, 1, [])), (14, (12, 3, 7, 11, [])), (17, (11, 3, 3, 44, [])), (20, (1, 1, 1, 0, [])), (21, (10, 3, 1, 44, [])), (24, (1, 1, 0, 1, [])), (25, (1, 1, 2, 0, [])), (26, (0, 1, 0, 3, [])), (27, (4, 1, 2, 0, [])), (28, (26, 3, 0, 1, [(11, 102)])), (31, (10, 3, 1, 38, [])), (34, (1, 1, 2, 0, [])), (35, (0, 1, 0, 1, [])), (36, (4, 1, 0, 0, [])), (37, (2, 1, 1, 0, [])), (38, (3, 3, 2, 1, [])), (41, (9, 3, 12, 0, [])), (44, (1, 1, 0, 1, [])), (45, (13, 3, 0, 11, [])), (48, (0, 1, 0, 0, [])), (49, (26, 3, 0, 1, [(1, 51)])), (52, (1, 1, 1, 0, [])), (53, (21, 1, 0, 0, []))]
theorem os_X11_judge : oA MT mX11_judge ops_X11_judge := (oA.cons oX11_judge_0 (oA.cons oX11_judge_1 (oA.cons oX11_judge_2 (oA.cons oX11_judge_3 (oA.cons oX11_judge_6 (oA.cons oX11_judge_7 (oA.cons oX11_judge_10 (oA.cons oX11_judge_11 (oA.cons oX11_judge_12 (oA.cons oX11_judge_13 (oA.cons oX11_judge_14 (oA.cons oX11_judge_17 (oA.cons oX11_judge_20 (oA.cons oX11_judge_21 (oA.cons oX11_judge_24 (oA.cons oX11_judge_25 (oA.cons oX11_judge_26 (oA.cons oX11_judge_27 (oA.cons oX11_judge_28 (oA.cons oX11_judge_31 (oA.cons oX11_judge_34 (oA.cons oX11_judge_35 (oA.cons oX11_judge_36 (oA.cons oX11_judge_37 (oA.cons oX11_judge_38 (oA.cons oX11_judge_41 (oA.cons oX11_judge_44 (oA.cons oX11_judge_45 (oA.cons oX11_judge_48 (oA.cons oX11_judge_49 (oA.cons oX11_judge_52 (oA.cons oX11_judge_53 oA.nil))))))))))))))))))))))))))))))))
theorem dX11_sheet_0 : decode cX11_sheet 0 = .ok (.iload_n 1, 1) := by decide +kernel
theorem dX11_sheet_1 : decode cX11_sheet 1 = .ok (.invokestatic 319, 3) := by decide +kernel
theorem dX11_sheet_4 : decode cX11_sheet 4 = .ok (.ifCond .eq 12, 3) := by decide +kernel
theorem dX11_sheet_7 : decode cX11_sheet 7 = .ok (.iload_n 2, 1) := by decide +kernel
theorem dX11_sheet_8 : decode cX11_sheet 8 = .ok (.iconst (-1), 1) := by decide +kernel
theorem dX11_sheet_9 : decode cX11_sheet 9 = .ok (.iconst 4, 1) := by decide +kernel
theorem dX11_sheet_10 : decode cX11_sheet 10 = .ok (.invokestatic 90, 3) := by decide +kernel
theorem dX11_sheet_13 : decode cX11_sheet 13 = .ok (.ifCond .ne 5, 3) := by decide +kernel
theorem dX11_sheet_16 : decode cX11_sheet 16 = .ok (.iconst (-1), 1) := by decide +kernel
theorem dX11_sheet_17 : decode cX11_sheet 17 = .ok (.ireturn, 1) := by decide +kernel
theorem dX11_sheet_18 : decode cX11_sheet 18 = .ok (.iload_n 2, 1) := by decide +kernel
theorem dX11_sheet_19 : decode cX11_sheet 19 = .ok (.iconst (-1), 1) := by decide +kernel
theorem dX11_sheet_20 : decode cX11_sheet 20 = .ok (.if_icmp .eq 50, 3) := by decide +kernel
theorem dX11_sheet_23 : decode cX11_sheet 23 = .ok (.iload_n 3, 1) := by decide +kernel
theorem dX11_sheet_24 : decode cX11_sheet 24 = .ok (.bipush 40, 2) := by decide +kernel
theorem dX11_sheet_26 : decode cX11_sheet 26 = .ok (.if_icmp .le 5, 3) := by decide +kernel
theorem dX11_sheet_29 : decode cX11_sheet 29 = .ok (.iconst (-1), 1) := by decide +kernel
theorem dX11_sheet_30 : decode cX11_sheet 30 = .ok (.ireturn, 1) := by decide +kernel
theorem dX11_sheet_31 : decode cX11_sheet 31 = .ok (.iload_n 3, 1) := by decide +kernel
theorem dX11_sheet_32 : decode cX11_sheet 32 = .ok (.ifCond .ge 6, 3) := by decide +kernel
theorem dX11_sheet_35 : decode cX11_sheet 35 = .ok (.bipush (-14), 2) := by decide +kernel
theorem dX11_sheet_37 : decode cX11_sheet 37 = .ok (.ireturn, 1) := by decide +kernel
theorem dX11_sheet_38 : decode cX11_sheet 38 = .ok (.aload_n 0, 1) := by decide +kernel
theorem dX11_sheet_39 : decode cX11_sheet 39 = .ok (.getfield 16, 3) := by decide +kernel
theorem dX11_sheet_42 : decode cX11_sheet 42 = .ok (.iload_n 1, 1) := by decide +kernel
theorem dX11_sheet_43 : decode cX11_sheet 43 = .ok (.iload_n 3, 1) := by decide +kernel
theorem dX11_sheet_44 : decode cX11_sheet 44 = .ok (.iastore, 1) := by decide +kernel
theorem dX11_sheet_45 : decode cX11_sheet 45 = .ok (.iconst 0, 1) := by decide +kernel
theorem dX11_sheet_46 : decode cX11_sheet 46 = .ok (.istore 4, 2) := by decide +kernel
theorem dX11_sheet_48 : decode cX11_sheet 48 = .ok (.iload 4, 2) := by decide +kernel
theorem dX11_sheet_50 : decode cX11_sheet 50 = .ok (.iload_n 3, 1) := by decide +kernel
theorem dX11_sheet_51 : decode cX11_sheet 51 = .ok (.if_icmp .ge 19, 3) := by decide +kernel
theorem dX11_sheet_54 : decode cX11_sheet 54 = .ok (.aload_n 0, 1) := by decide +kernel
theorem dX11_sheet_55 : decode cX11_sheet 55 = .ok (.getfield 21, 3) := by decide +kernel
theorem dX11_sheet_58 : decode cX11_sheet 58 = .ok (.iload_n 1, 1) := by decide +kernel
theorem dX11_sheet_59 : decode cX11_sheet 59 = .ok (.aaload, 1) := by decide +kernel
theorem dX11_sheet_60 : decode cX11_sheet 60 = .ok (.iload 4, 2) := by decide +kernel
theorem dX11_sheet_62 : decode cX11_sheet 62 = .ok (.iconst 0, 1) := by decide +kernel
theorem dX11_sheet_63 : decode cX11_sheet 63 = .ok (.iastore, 1) := by decide +kernel
theorem dX11_sheet_64 : decode cX11_sheet 64 = .ok (.iinc 4 1, 3) := by decide +kernel
theorem dX11_sheet_67 : decode cX11_sheet 67 = .ok (.goto (-19), 3) := by decide +kernel
theorem dX11_sheet_70 : decode cX11_sheet 70 = .ok (.aload_n 0, 1) := by decide +kernel
theorem dX11_sheet_71 : decode cX11_sheet 71 = .ok (.getfield 13, 3) := by decide +kernel
theorem dX11_sheet_74 : decode cX11_sheet 74 = .ok (.iload_n 1, 1) := by decide +kernel
theorem dX11_sheet_75 : decode cX11_sheet 75 = .ok (.iload_n 2, 1) := by decide +kernel
theorem dX11_sheet_76 : decode cX11_sheet 76 = .ok (.iastore, 1) := by decide +kernel
theorem dX11_sheet_77 : decode cX11_sheet 77 = .ok (.iconst 1, 1) := by decide +kernel
theorem dX11_sheet_78 : decode cX11_sheet 78 = .ok (.ireturn, 1) := by decide +kernel
theorem oX11_sheet_0 : oP MT mX11_sheet 0 (1, 1, 1, 0, []) := o_iload_n dX11_sheet_0 rfl
theorem oX11_sheet_1 : oP MT mX11_sheet 1 (25, 3, 103, 1, []) := o_callS dX11_sheet_1 (mj := mX11_isPlace) mt_X11_isPlace cmq_X11_isPlace wq_781 wq_783 (by decide) (by decide)
theorem oX11_sheet_4 : oP MT mX11_sheet 4 (10, 3, 0, 16, []) := o_if_eq dX11_sheet_4 (by decide) (by decide)
theorem oX11_sheet_7 : oP MT mX11_sheet 7 (1, 1, 2, 0, []) := o_iload_n dX11_sheet_7 rfl
theorem oX11_sheet_8 : oP MT mX11_sheet 8 (0, 1, 0, (-1), []) := o_iconst dX11_sheet_8 (by decide)
theorem oX11_sheet_9 : oP MT mX11_sheet 9 (0, 1, 0, 4, []) := o_iconst dX11_sheet_9 (by decide)
theorem oX11_sheet_10 : oP MT mX11_sheet 10 (25, 3, 37, 3, []) := o_callS dX11_sheet_10 (mj := mX11_isIn) mt_X11_isIn cmq_X11_isIn wq_282 wq_144 (by decide) (by decide)
theorem oX11_sheet_13 : oP MT mX11_sheet 13 (10, 3, 1, 18, []) := o_if_ne dX11_sheet_13 (by decide) (by decide)
theorem oX11_sheet_16 : oP MT mX11_sheet 16 (0, 1, 0, (-1), []) := o_iconst dX11_sheet_16 (by decide)
theorem oX11_sheet_17 : oP MT mX11_sheet 17 (21, 1, 0, 0, []) := o_iret dX11_sheet_17 rfl
theorem oX11_sheet_18 : oP MT mX11_sheet 18 (1, 1, 2, 0, []) := o_iload_n dX11_sheet_18 rfl
theorem oX11_sheet_19 : oP MT mX11_sheet 19 (0, 1, 0, (-1), []) := o_iconst dX11_sheet_19 (by decide)
theorem oX11_sheet_20 : oP MT mX11_sheet 20 (11, 3, 0, 70, []) := o_icmp_eq dX11_sheet_20 (by decide) (by decide)
theorem oX11_sheet_23 : oP MT mX11_sheet 23 (1, 1, 3, 0, []) := o_iload_n dX11_sheet_23 rfl
theorem oX11_sheet_24 : oP MT mX11_sheet 24 (0, 2, 0, 40, []) := o_bipush dX11_sheet_24 (by decide)
theorem oX11_sheet_26 : oP MT mX11_sheet 26 (11, 3, 5, 31, []) := o_icmp_le dX11_sheet_26 (by decide) (by decide)
theorem oX11_sheet_29 : oP MT mX11_sheet 29 (0, 1, 0, (-1), []) := o_iconst dX11_sheet_29 (by decide)
theorem oX11_sheet_30 : oP MT mX11_sheet 30 (21, 1, 0, 0, []) := o_iret dX11_sheet_30 rfl
theorem oX11_sheet_31 : oP MT mX11_sheet 31 (1, 1, 3, 0, []) := o_iload_n dX11_sheet_31 rfl
theorem oX11_sheet_32 : oP MT mX11_sheet 32 (10, 3, 3, 38, []) := o_if_ge dX11_sheet_32 (by decide) (by decide)
theorem oX11_sheet_35 : oP MT mX11_sheet 35 (0, 2, 0, (-14), []) := o_bipush dX11_sheet_35 (by decide)
theorem oX11_sheet_37 : oP MT mX11_sheet 37 (21, 1, 0, 0, []) := o_iret dX11_sheet_37 rfl
theorem oX11_sheet_38 : oP MT mX11_sheet 38 (1, 1, 0, 1, []) := o_aload_n dX11_sheet_38 rfl
theorem oX11_sheet_39 : oP MT mX11_sheet 39 (13, 3, 9, 11, []) := o_getR (M := mX11_sheet) (C := RX11) (T := TX11) (ci := 11) (j := 9) (z := 11) dX11_sheet_39 rfl lq_RX11_16 rfl rfl
theorem oX11_sheet_42 : oP MT mX11_sheet 42 (1, 1, 1, 0, []) := o_iload_n dX11_sheet_42 rfl
theorem oX11_sheet_43 : oP MT mX11_sheet 43 (1, 1, 3, 0, []) := o_iload_n dX11_sheet_43 rfl
theorem oX11_sheet_44 : oP MT mX11_sheet 44 (18, 1, 0, 0, []) := o_iastore dX11_sheet_44
theorem oX11_sheet_45 : oP MT mX11_sheet 45 (0, 1, 0, 0, []) := o_iconst dX11_sheet_45 (by decide)
theorem oX11_sheet_46 : oP MT mX11_sheet 46 (2, 2, 4, 0, []) := o_istore dX11_sheet_46 (by decide)
theorem oX11_sheet_48 : oP MT mX11_sheet 48 (1, 2, 4, 0, []) := o_iload dX11_sheet_48
theorem oX11_sheet_50 : oP MT mX11_sheet 50 (1, 1, 3, 0, []) := o_iload_n dX11_sheet_50 rfl
theorem oX11_sheet_51 : oP MT mX11_sheet 51 (11, 3, 3, 70, []) := o_icmp_ge dX11_sheet_51 (by decide) (by decide)
theorem oX11_sheet_54 : oP MT mX11_sheet 54 (1, 1, 0, 1, []) := o_aload_n dX11_sheet_54 rfl
theorem oX11_sheet_55 : oP MT mX11_sheet 55 (13, 3, 10, 11, []) := o_getR (M := mX11_sheet) (C := RX11) (T := TX11) (ci := 11) (j := 10) (z := 11) dX11_sheet_55 rfl lq_RX11_21 rfl rfl
theorem oX11_sheet_58 : oP MT mX11_sheet 58 (1, 1, 1, 0, []) := o_iload_n dX11_sheet_58 rfl
theorem oX11_sheet_59 : oP MT mX11_sheet 59 (17, 1, 0, 0, []) := o_aaload dX11_sheet_59
theorem oX11_sheet_60 : oP MT mX11_sheet 60 (1, 2, 4, 0, []) := o_iload dX11_sheet_60
theorem oX11_sheet_62 : oP MT mX11_sheet 62 (0, 1, 0, 0, []) := o_iconst dX11_sheet_62 (by decide)
theorem oX11_sheet_63 : oP MT mX11_sheet 63 (18, 1, 0, 0, []) := o_iastore dX11_sheet_63
theorem oX11_sheet_64 : oP MT mX11_sheet 64 (3, 3, 4, 1, []) := o_iinc dX11_sheet_64 (by decide) (by decide)
theorem oX11_sheet_67 : oP MT mX11_sheet 67 (9, 3, 48, 0, []) := o_goto dX11_sheet_67 (by decide)
theorem oX11_sheet_70 : oP MT mX11_sheet 70 (1, 1, 0, 1, []) := o_aload_n dX11_sheet_70 rfl
theorem oX11_sheet_71 : oP MT mX11_sheet 71 (13, 3, 8, 11, []) := o_getR (M := mX11_sheet) (C := RX11) (T := TX11) (ci := 11) (j := 8) (z := 11) dX11_sheet_71 rfl lq_RX11_13 rfl rfl
theorem oX11_sheet_74 : oP MT mX11_sheet 74 (1, 1, 1, 0, []) := o_iload_n dX11_sheet_74 rfl
theorem oX11_sheet_75 : oP MT mX11_sheet 75 (1, 1, 2, 0, []) := o_iload_n dX11_sheet_75 rfl
theorem oX11_sheet_76 : oP MT mX11_sheet 76 (18, 1, 0, 0, []) := o_iastore dX11_sheet_76
theorem oX11_sheet_77 : oP MT mX11_sheet 77 (0, 1, 0, 1, []) := o_iconst dX11_sheet_77 (by decide)
theorem oX11_sheet_78 : oP MT mX11_sheet 78 (21, 1, 0, 0, []) := o_iret dX11_sheet_78 rfl
def ops_X11_sheet : List (Nat × aO) := [(0, (1, 1, 1, 0, [])), (1, (25, 3, 103, 1, [])), (4, (10, 3, 0, 16, [])), (7, (1, 1, 2, 0, [])), (8, (0, 1, 0, (-1), [])), (9, (0, 1, 0, 4, [])), (10, (25, 3, 37, 3, [])), (13, (10, 3, 1, 18, [])), (16, (0, 1, 0, (-1), [])), (17, (21, 1, 0, 0, [])), (18, (1, 1, 2, 0, [])), (19, (0, 1, 0, (-1), [])), (20, (11, 3, 0, 70, [])), (23, (1, 1, 3, 0, [])), (24, (0, 2, 0, 40, [])), (26, (11, 3, 5, 31, [])), (29, (0, 1, 0, (-1), [])), (30, (21, 1, 0, 0, [])), (31, (1, 1, 3, 0, [])), (32, (10, 3, 3, 38, [])), (35, (0, 2, 0, (-14), [])), (37, (21, 1, 0, 0, [])), (38, (1, 1, 0, 1, [])), (39, (13, 3, 9, 11, [])), (42, (1, 1, 1, 0, [])), (43, (1, 1, 3, 0, [])), (44, (18, 1, 0, 0, [])), (45, (0, 1, 0, 0, [])), (46, (2, 2, 4, 0, [])), (48, (1, 2, 4, 0, [])), (50, (1, 1, 3, 0, [])), (51, (11, 3, 3, 70, [])), (54, (1, 1, 0, 1, [])), (55, (13, 3, 10, 11, [])), (58, (1, 1, 1, 0, [])), (59, (17, 1, 0, 0, [])), (60, (1, 2, 4, 0, [])), (62, (0, 1, 0, 0, [])), (63, (18, 1, 0, 0, [])), (64, (3, 3, 4, 1, [])), (67, (9, 3, 48, 0, [])), (70, (1, 1, 0, 1, [])), (71, (13, 3, 8, 11, [])), (74, (1, 1, 1, 0, [])), (75, (1, 1, 2, 0, [])), (76, (18, 1, 0, 0, [])), (77, (0, 1, 0, 1, [])), (78, (21, 1, 0, 0, []))]
theorem os_X11_sheet : oA MT mX11_sheet ops_X11_sheet := (oA.cons oX11_sheet_0 (oA.cons oX11_sheet_1 (oA.cons oX11_sheet_4 (oA.cons oX11_sheet_7 (oA.cons oX11_sheet_8 (oA.cons oX11_sheet_9 (oA.cons oX11_sheet_10 (oA.cons oX11_sheet_13 (oA.cons oX11_sheet_16 (oA.cons oX11_sheet_17 (oA.cons oX11_sheet_18 (oA.cons oX11_sheet_19 (oA.cons oX11_sheet_20 (oA.cons oX11_sheet_23 (oA.cons oX11_sheet_24 (oA.cons oX11_sheet_26 (oA.cons oX11_sheet_29 (oA.cons oX11_sheet_30 (oA.cons oX11_sheet_31 (oA.cons oX11_sheet_32 (oA.cons oX11_sheet_35 (oA.cons oX11_sheet_37 (oA.cons oX11_sheet_38 (oA.cons oX11_sheet_39 (oA.cons oX11_sheet_42 (oA.cons oX11_sheet_43 (oA.cons oX11_sheet_44 (oA.cons oX11_sheet_45 (oA.cons oX11_sheet_46 (oA.cons oX11_sheet_48 (oA.cons oX11_sheet_50 (oA.cons oX11_sheet_51 (oA.cons oX11_sheet_54 (oA.cons oX11_sheet_55 (oA.cons oX11_sheet_58 (oA.cons oX11_sheet_59 (oA.cons oX11_sheet_60 (oA.cons oX11_sheet_62 (oA.cons oX11_sheet_63 (oA.cons oX11_sheet_64 (oA.cons oX11_sheet_67 (oA.cons oX11_sheet_70 (oA.cons oX11_sheet_71 (oA.cons oX11_sheet_74 (oA.cons oX11_sheet_75 (oA.cons oX11_sheet_76 (oA.cons oX11_sheet_77 (oA.cons oX11_sheet_78 oA.nil))))))))))))))))))))))))))))))))))))))))))))))))
theorem dX11_write_0 : decode cX11_write 0 = .ok (.iload_n 1, 1) := by decide +kernel
theorem dX11_write_1 : decode cX11_write 1 = .ok (.invokestatic 319, 3) := by decide +kernel
theorem dX11_write_4 : decode cX11_write 4 = .ok (.ifCond .ne 5, 3) := by decide +kernel
theorem dX11_write_7 : decode cX11_write 7 = .ok (.iconst (-1), 1) := by decide +kernel
theorem dX11_write_8 : decode cX11_write 8 = .ok (.ireturn, 1) := by decide +kernel
theorem dX11_write_9 : decode cX11_write 9 = .ok (.aload_n 0, 1) := by decide +kernel
theorem dX11_write_10 : decode cX11_write 10 = .ok (.getfield 13, 3) := by decide +kernel
theorem dX11_write_13 : decode cX11_write 13 = .ok (.iload_n 1, 1) := by decide +kernel
theorem dX11_write_14 : decode cX11_write 14 = .ok (.iaload, 1) := by decide +kernel
theorem dX11_write_15 : decode cX11_write 15 = .ok (.iconst (-1), 1) := by decide +kernel
theorem dX11_write_16 : decode cX11_write 16 = .ok (.if_icmp .ne 6, 3) := by decide +kernel
theorem dX11_write_19 : decode cX11_write 19 = .ok (.bipush (-11), 2) := by decide +kernel
theorem dX11_write_21 : decode cX11_write 21 = .ok (.ireturn, 1) := by decide +kernel
theorem dX11_write_22 : decode cX11_write 22 = .ok (.aload_n 0, 1) := by decide +kernel
theorem dX11_write_23 : decode cX11_write 23 = .ok (.iload_n 1, 1) := by decide +kernel
theorem dX11_write_24 : decode cX11_write 24 = .ok (.iload_n 2, 1) := by decide +kernel
theorem dX11_write_25 : decode cX11_write 25 = .ok (.invokevirtual 322, 3) := by decide +kernel
theorem dX11_write_28 : decode cX11_write 28 = .ok (.ifCond .ne 6, 3) := by decide +kernel
theorem dX11_write_31 : decode cX11_write 31 = .ok (.bipush (-12), 2) := by decide +kernel
theorem dX11_write_33 : decode cX11_write 33 = .ok (.ireturn, 1) := by decide +kernel
theorem dX11_write_34 : decode cX11_write 34 = .ok (.aload_n 0, 1) := by decide +kernel
theorem dX11_write_35 : decode cX11_write 35 = .ok (.getfield 21, 3) := by decide +kernel
theorem dX11_write_38 : decode cX11_write 38 = .ok (.iload_n 1, 1) := by decide +kernel
theorem dX11_write_39 : decode cX11_write 39 = .ok (.aaload, 1) := by decide +kernel
theorem dX11_write_40 : decode cX11_write 40 = .ok (.iload_n 2, 1) := by decide +kernel
theorem dX11_write_41 : decode cX11_write 41 = .ok (.iload_n 3, 1) := by decide +kernel
theorem dX11_write_42 : decode cX11_write 42 = .ok (.aload_n 0, 1) := by decide +kernel
theorem dX11_write_43 : decode cX11_write 43 = .ok (.getfield 13, 3) := by decide +kernel
theorem dX11_write_46 : decode cX11_write 46 = .ok (.iload_n 1, 1) := by decide +kernel
theorem dX11_write_47 : decode cX11_write 47 = .ok (.iaload, 1) := by decide +kernel
theorem dX11_write_48 : decode cX11_write 48 = .ok (.invokestatic 325, 3) := by decide +kernel
theorem dX11_write_51 : decode cX11_write 51 = .ok (.iastore, 1) := by decide +kernel
theorem dX11_write_52 : decode cX11_write 52 = .ok (.iconst 1, 1) := by decide +kernel
theorem dX11_write_53 : decode cX11_write 53 = .ok (.ireturn, 1) := by decide +kernel
theorem oX11_write_0 : oP MT mX11_write 0 (1, 1, 1, 0, []) := o_iload_n dX11_write_0 rfl
theorem oX11_write_1 : oP MT mX11_write 1 (25, 3, 103, 1, []) := o_callS dX11_write_1 (mj := mX11_isPlace) mt_X11_isPlace cmq_X11_isPlace wq_781 wq_783 (by decide) (by decide)
theorem oX11_write_4 : oP MT mX11_write 4 (10, 3, 1, 9, []) := o_if_ne dX11_write_4 (by decide) (by decide)
theorem oX11_write_7 : oP MT mX11_write 7 (0, 1, 0, (-1), []) := o_iconst dX11_write_7 (by decide)
theorem oX11_write_8 : oP MT mX11_write 8 (21, 1, 0, 0, []) := o_iret dX11_write_8 rfl
theorem oX11_write_9 : oP MT mX11_write 9 (1, 1, 0, 1, []) := o_aload_n dX11_write_9 rfl
theorem oX11_write_10 : oP MT mX11_write 10 (13, 3, 8, 11, []) := o_getR (M := mX11_write) (C := RX11) (T := TX11) (ci := 11) (j := 8) (z := 11) dX11_write_10 rfl lq_RX11_13 rfl rfl
theorem oX11_write_13 : oP MT mX11_write 13 (1, 1, 1, 0, []) := o_iload_n dX11_write_13 rfl
theorem oX11_write_14 : oP MT mX11_write 14 (16, 1, 1, 0, []) := o_iaload dX11_write_14
theorem oX11_write_15 : oP MT mX11_write 15 (0, 1, 0, (-1), []) := o_iconst dX11_write_15 (by decide)
theorem oX11_write_16 : oP MT mX11_write 16 (11, 3, 1, 22, []) := o_icmp_ne dX11_write_16 (by decide) (by decide)
theorem oX11_write_19 : oP MT mX11_write 19 (0, 2, 0, (-11), []) := o_bipush dX11_write_19 (by decide)
theorem oX11_write_21 : oP MT mX11_write 21 (21, 1, 0, 0, []) := o_iret dX11_write_21 rfl
theorem oX11_write_22 : oP MT mX11_write 22 (1, 1, 0, 1, []) := o_aload_n dX11_write_22 rfl
theorem oX11_write_23 : oP MT mX11_write 23 (1, 1, 1, 0, []) := o_iload_n dX11_write_23 rfl
theorem oX11_write_24 : oP MT mX11_write 24 (1, 1, 2, 0, []) := o_iload_n dX11_write_24 rfl
theorem oX11_write_25 : oP MT mX11_write 25 (26, 3, 0, 2, [(11, 105)]) := o_callO ((vA.cons (v_callV dX11_write_25 (ci := 11) rfl rfl (mj := mX11_isItem) mt_X11_isItem cmq_X11_isItem wq_384 wq_386 wq_387 (by decide) (by decide)) vA.nil))
theorem oX11_write_28 : oP MT mX11_write 28 (10, 3, 1, 34, []) := o_if_ne dX11_write_28 (by decide) (by decide)
theorem oX11_write_31 : oP MT mX11_write 31 (0, 2, 0, (-12), []) := o_bipush dX11_write_31 (by decide)
theorem oX11_write_33 : oP MT mX11_write 33 (21, 1, 0, 0, []) := o_iret dX11_write_33 rfl
theorem oX11_write_34 : oP MT mX11_write 34 (1, 1, 0, 1, []) := o_aload_n dX11_write_34 rfl
theorem oX11_write_35 : oP MT mX11_write 35 (13, 3, 10, 11, []) := o_getR (M := mX11_write) (C := RX11) (T := TX11) (ci := 11) (j := 10) (z := 11) dX11_write_35 rfl lq_RX11_21 rfl rfl
theorem oX11_write_38 : oP MT mX11_write 38 (1, 1, 1, 0, []) := o_iload_n dX11_write_38 rfl
theorem oX11_write_39 : oP MT mX11_write 39 (17, 1, 0, 0, []) := o_aaload dX11_write_39
theorem oX11_write_40 : oP MT mX11_write 40 (1, 1, 2, 0, []) := o_iload_n dX11_write_40 rfl
theorem oX11_write_41 : oP MT mX11_write 41 (1, 1, 3, 0, []) := o_iload_n dX11_write_41 rfl
theorem oX11_write_42 : oP MT mX11_write 42 (1, 1, 0, 1, []) := o_aload_n dX11_write_42 rfl
theorem oX11_write_43 : oP MT mX11_write 43 (13, 3, 8, 11, []) := o_getR (M := mX11_write) (C := RX11) (T := TX11) (ci := 11) (j := 8) (z := 11) dX11_write_43 rfl lq_RX11_13 rfl rfl
theorem oX11_write_46 : oP MT mX11_write 46 (1, 1, 1, 0, []) := o_iload_n dX11_write_46 rfl
theorem oX11_write_47 : oP MT mX11_write 47 (16, 1, 1, 0, []) := o_iaload dX11_write_47
theorem oX11_write_48 : oP MT mX11_write 48 (25, 3, 272, 2, []) := o_callS dX11_write_48 (mj := mX11_narrowed) mt_X11_narrowed cmq_X11_narrowed wq_787 wq_789 (by decide) (by decide)
theorem oX11_write_51 : oP MT mX11_write 51 (18, 1, 0, 0, []) := o_iastore dX11_write_51
theorem oX11_write_52 : oP MT mX11_write 52 (0, 1, 0, 1, []) := o_iconst dX11_write_52 (by decide)
theorem oX11_write_53 : oP MT mX11_write 53 (21, 1, 0, 0, []) := o_iret dX11_write_53 rfl
def ops_X11_write : List (Nat × aO) := [(0, (1, 1, 1, 0, [])), (1, (25, 3, 103, 1, [])), (4, (10, 3, 1, 9, [])), (7, (0, 1, 0, (-1), [])), (8, (21, 1, 0, 0, [])), (9, (1, 1, 0, 1, [])), (10, (13, 3, 8, 11, [])), (13, (1, 1, 1, 0, [])), (14, (16, 1, 1, 0, [])), (15, (0, 1, 0, (-1), [])), (16, (11, 3, 1, 22, [])), (19, (0, 2, 0, (-11), [])), (21, (21, 1, 0, 0, [])), (22, (1, 1, 0, 1, [])), (23, (1, 1, 1, 0, [])), (24, (1, 1, 2, 0, [])), (25, (26, 3, 0, 2, [(11, 105)])), (28, (10, 3, 1, 34, [])), (31, (0, 2, 0, (-12), [])), (33, (21, 1, 0, 0, [])), (34, (1, 1, 0, 1, [])), (35, (13, 3, 10, 11, [])), (38, (1, 1, 1, 0, [])), (39, (17, 1, 0, 0, [])), (40, (1, 1, 2, 0, [])), (41, (1, 1, 3, 0, [])), (42, (1, 1, 0, 1, [])), (43, (13, 3, 8, 11, [])), (46, (1, 1, 1, 0, [])), (47, (16, 1, 1, 0, [])), (48, (25, 3, 272, 2, [])), (51, (18, 1, 0, 0, [])), (52, (0, 1, 0, 1, [])), (53, (21, 1, 0, 0, []))]
theorem os_X11_write : oA MT mX11_write ops_X11_write := (oA.cons oX11_write_0 (oA.cons oX11_write_1 (oA.cons oX11_write_4 (oA.cons oX11_write_7 (oA.cons oX11_write_8 (oA.cons oX11_write_9 (oA.cons oX11_write_10 (oA.cons oX11_write_13 (oA.cons oX11_write_14 (oA.cons oX11_write_15 (oA.cons oX11_write_16 (oA.cons oX11_write_19 (oA.cons oX11_write_21 (oA.cons oX11_write_22 (oA.cons oX11_write_23 (oA.cons oX11_write_24 (oA.cons oX11_write_25 (oA.cons oX11_write_28 (oA.cons oX11_write_31 (oA.cons oX11_write_33 (oA.cons oX11_write_34 (oA.cons oX11_write_35 (oA.cons oX11_write_38 (oA.cons oX11_write_39 (oA.cons oX11_write_40 (oA.cons oX11_write_41 (oA.cons oX11_write_42 (oA.cons oX11_write_43 (oA.cons oX11_write_46 (oA.cons oX11_write_47 (oA.cons oX11_write_48 (oA.cons oX11_write_51 (oA.cons oX11_write_52 (oA.cons oX11_write_53 oA.nil))))))))))))))))))))))))))))))))))
theorem dX11_narrowed_0 : decode cX11_narrowed 0 = .ok (.iload_n 1, 1) := by decide +kernel
theorem dX11_narrowed_1 : decode cX11_narrowed 1 = .ok (.tableswitch 51 0 4 #[35, 38, 51, 51, 41], 35) := by decide +kernel
theorem dX11_narrowed_36 : decode cX11_narrowed 36 = .ok (.iload_n 0, 1) := by decide +kernel
theorem dX11_narrowed_37 : decode cX11_narrowed 37 = .ok (.i2b, 1) := by decide +kernel
theorem dX11_narrowed_38 : decode cX11_narrowed 38 = .ok (.ireturn, 1) := by decide +kernel
theorem dX11_narrowed_39 : decode cX11_narrowed 39 = .ok (.iload_n 0, 1) := by decide +kernel
theorem dX11_narrowed_40 : decode cX11_narrowed 40 = .ok (.i2s, 1) := by decide +kernel
theorem dX11_narrowed_41 : decode cX11_narrowed 41 = .ok (.ireturn, 1) := by decide +kernel
theorem dX11_narrowed_42 : decode cX11_narrowed 42 = .ok (.iload_n 0, 1) := by decide +kernel
theorem dX11_narrowed_43 : decode cX11_narrowed 43 = .ok (.ifCond .eq 7, 3) := by decide +kernel
theorem dX11_narrowed_46 : decode cX11_narrowed 46 = .ok (.iconst 1, 1) := by decide +kernel
theorem dX11_narrowed_47 : decode cX11_narrowed 47 = .ok (.goto 4, 3) := by decide +kernel
theorem dX11_narrowed_50 : decode cX11_narrowed 50 = .ok (.iconst 0, 1) := by decide +kernel
theorem dX11_narrowed_51 : decode cX11_narrowed 51 = .ok (.ireturn, 1) := by decide +kernel
theorem dX11_narrowed_52 : decode cX11_narrowed 52 = .ok (.iload_n 0, 1) := by decide +kernel
theorem dX11_narrowed_53 : decode cX11_narrowed 53 = .ok (.ireturn, 1) := by decide +kernel
theorem oX11_narrowed_0 : oP MT mX11_narrowed 0 (1, 1, 1, 0, []) := o_iload_n dX11_narrowed_0 rfl
theorem oX11_narrowed_1 : oP MT mX11_narrowed 1 (24, 35, 52, 0, [(0, 36), (1, 39), (2, 52), (3, 52), (4, 42)]) := o_table dX11_narrowed_1 rfl (by decide) (by decide) (by decide)
theorem oX11_narrowed_36 : oP MT mX11_narrowed 36 (1, 1, 0, 0, []) := o_iload_n dX11_narrowed_36 rfl
theorem oX11_narrowed_37 : oP MT mX11_narrowed 37 (5, 1, 1, 0, []) := o_i2b dX11_narrowed_37
theorem oX11_narrowed_38 : oP MT mX11_narrowed 38 (21, 1, 0, 0, []) := o_iret dX11_narrowed_38 rfl
theorem oX11_narrowed_39 : oP MT mX11_narrowed 39 (1, 1, 0, 0, []) := o_iload_n dX11_narrowed_39 rfl
theorem oX11_narrowed_40 : oP MT mX11_narrowed 40 (5, 1, 2, 0, []) := o_i2s dX11_narrowed_40
theorem oX11_narrowed_41 : oP MT mX11_narrowed 41 (21, 1, 0, 0, []) := o_iret dX11_narrowed_41 rfl
theorem oX11_narrowed_42 : oP MT mX11_narrowed 42 (1, 1, 0, 0, []) := o_iload_n dX11_narrowed_42 rfl
theorem oX11_narrowed_43 : oP MT mX11_narrowed 43 (10, 3, 0, 50, []) := o_if_eq dX11_narrowed_43 (by decide) (by decide)
theorem oX11_narrowed_46 : oP MT mX11_narrowed 46 (0, 1, 0, 1, []) := o_iconst dX11_narrowed_46 (by decide)
theorem oX11_narrowed_47 : oP MT mX11_narrowed 47 (9, 3, 51, 0, []) := o_goto dX11_narrowed_47 (by decide)
theorem oX11_narrowed_50 : oP MT mX11_narrowed 50 (0, 1, 0, 0, []) := o_iconst dX11_narrowed_50 (by decide)
theorem oX11_narrowed_51 : oP MT mX11_narrowed 51 (21, 1, 0, 0, []) := o_iret dX11_narrowed_51 rfl
theorem oX11_narrowed_52 : oP MT mX11_narrowed 52 (1, 1, 0, 0, []) := o_iload_n dX11_narrowed_52 rfl
theorem oX11_narrowed_53 : oP MT mX11_narrowed 53 (21, 1, 0, 0, []) := o_iret dX11_narrowed_53 rfl
def ops_X11_narrowed : List (Nat × aO) := [(0, (1, 1, 1, 0, [])), (1, (24, 35, 52, 0, [(0, 36), (1, 39), (2, 52), (3, 52), (4, 42)])), (36, (1, 1, 0, 0, [])), (37, (5, 1, 1, 0, [])), (38, (21, 1, 0, 0, [])), (39, (1, 1, 0, 0, [])), (40, (5, 1, 2, 0, [])), (41, (21, 1, 0, 0, [])), (42, (1, 1, 0, 0, [])), (43, (10, 3, 0, 50, [])), (46, (0, 1, 0, 1, [])), (47, (9, 3, 51, 0, [])), (50, (0, 1, 0, 0, [])), (51, (21, 1, 0, 0, [])), (52, (1, 1, 0, 0, [])), (53, (21, 1, 0, 0, []))]
theorem os_X11_narrowed : oA MT mX11_narrowed ops_X11_narrowed := (oA.cons oX11_narrowed_0 (oA.cons oX11_narrowed_1 (oA.cons oX11_narrowed_36 (oA.cons oX11_narrowed_37 (oA.cons oX11_narrowed_38 (oA.cons oX11_narrowed_39 (oA.cons oX11_narrowed_40 (oA.cons oX11_narrowed_41 (oA.cons oX11_narrowed_42 (oA.cons oX11_narrowed_43 (oA.cons oX11_narrowed_46 (oA.cons oX11_narrowed_47 (oA.cons oX11_narrowed_50 (oA.cons oX11_narrowed_51 (oA.cons oX11_narrowed_52 (oA.cons oX11_narrowed_53 oA.nil))))))))))))))))
theorem dX11_item_0 : decode cX11_item 0 = .ok (.iload_n 1, 1) := by decide +kernel
theorem dX11_item_1 : decode cX11_item 1 = .ok (.invokestatic 319, 3) := by decide +kernel
theorem dX11_item_4 : decode cX11_item 4 = .ok (.ifCond .eq 12, 3) := by decide +kernel
theorem dX11_item_7 : decode cX11_item 7 = .ok (.iload_n 2, 1) := by decide +kernel
theorem dX11_item_8 : decode cX11_item 8 = .ok (.iconst 0, 1) := by decide +kernel
theorem dX11_item_9 : decode cX11_item 9 = .ok (.iconst 4, 1) := by decide +kernel
theorem dX11_item_10 : decode cX11_item 10 = .ok (.invokestatic 90, 3) := by decide +kernel
theorem dX11_item_13 : decode cX11_item 13 = .ok (.ifCond .ne 5, 3) := by decide +kernel
theorem dX11_item_16 : decode cX11_item 16 = .ok (.iconst (-1), 1) := by decide +kernel
theorem dX11_item_17 : decode cX11_item 17 = .ok (.ireturn, 1) := by decide +kernel
theorem dX11_item_18 : decode cX11_item 18 = .ok (.aload_n 0, 1) := by decide +kernel
theorem dX11_item_19 : decode cX11_item 19 = .ok (.iload_n 1, 1) := by decide +kernel
theorem dX11_item_20 : decode cX11_item 20 = .ok (.iload_n 2, 1) := by decide +kernel
theorem dX11_item_21 : decode cX11_item 21 = .ok (.invokevirtual 328, 3) := by decide +kernel
theorem dX11_item_24 : decode cX11_item 24 = .ok (.istore 4, 2) := by decide +kernel
theorem dX11_item_26 : decode cX11_item 26 = .ok (.iload 4, 2) := by decide +kernel
theorem dX11_item_28 : decode cX11_item 28 = .ok (.ifCond .eq 6, 3) := by decide +kernel
theorem dX11_item_31 : decode cX11_item 31 = .ok (.iload 4, 2) := by decide +kernel
theorem dX11_item_33 : decode cX11_item 33 = .ok (.ireturn, 1) := by decide +kernel
theorem dX11_item_34 : decode cX11_item 34 = .ok (.aload_n 0, 1) := by decide +kernel
theorem dX11_item_35 : decode cX11_item 35 = .ok (.iload_n 1, 1) := by decide +kernel
theorem dX11_item_36 : decode cX11_item 36 = .ok (.iload_n 3, 1) := by decide +kernel
theorem dX11_item_37 : decode cX11_item 37 = .ok (.invokevirtual 322, 3) := by decide +kernel
theorem dX11_item_40 : decode cX11_item 40 = .ok (.ifCond .eq 14, 3) := by decide +kernel
theorem dX11_item_43 : decode cX11_item 43 = .ok (.aload_n 0, 1) := by decide +kernel
theorem dX11_item_44 : decode cX11_item 44 = .ok (.getfield 21, 3) := by decide +kernel
theorem dX11_item_47 : decode cX11_item 47 = .ok (.iload_n 1, 1) := by decide +kernel
theorem dX11_item_48 : decode cX11_item 48 = .ok (.aaload, 1) := by decide +kernel
theorem dX11_item_49 : decode cX11_item 49 = .ok (.iload_n 3, 1) := by decide +kernel
theorem dX11_item_50 : decode cX11_item 50 = .ok (.iaload, 1) := by decide +kernel
theorem dX11_item_51 : decode cX11_item 51 = .ok (.goto 5, 3) := by decide +kernel
theorem dX11_item_54 : decode cX11_item 54 = .ok (.bipush (-12), 2) := by decide +kernel
theorem dX11_item_56 : decode cX11_item 56 = .ok (.ireturn, 1) := by decide +kernel
theorem oX11_item_0 : oP MT mX11_item 0 (1, 1, 1, 0, []) := o_iload_n dX11_item_0 rfl
theorem oX11_item_1 : oP MT mX11_item 1 (25, 3, 103, 1, []) := o_callS dX11_item_1 (mj := mX11_isPlace) mt_X11_isPlace cmq_X11_isPlace wq_781 wq_783 (by decide) (by decide)
theorem oX11_item_4 : oP MT mX11_item 4 (10, 3, 0, 16, []) := o_if_eq dX11_item_4 (by decide) (by decide)
theorem oX11_item_7 : oP MT mX11_item 7 (1, 1, 2, 0, []) := o_iload_n dX11_item_7 rfl
theorem oX11_item_8 : oP MT mX11_item 8 (0, 1, 0, 0, []) := o_iconst dX11_item_8 (by decide)
theorem oX11_item_9 : oP MT mX11_item 9 (0, 1, 0, 4, []) := o_iconst dX11_item_9 (by decide)
theorem oX11_item_10 : oP MT mX11_item 10 (25, 3, 37, 3, []) := o_callS dX11_item_10 (mj := mX11_isIn) mt_X11_isIn cmq_X11_isIn wq_282 wq_144 (by decide) (by decide)
theorem oX11_item_13 : oP MT mX11_item 13 (10, 3, 1, 18, []) := o_if_ne dX11_item_13 (by decide) (by decide)
theorem oX11_item_16 : oP MT mX11_item 16 (0, 1, 0, (-1), []) := o_iconst dX11_item_16 (by decide)
theorem oX11_item_17 : oP MT mX11_item 17 (21, 1, 0, 0, []) := o_iret dX11_item_17 rfl
theorem oX11_item_18 : oP MT mX11_item 18 (1, 1, 0, 1, []) := o_aload_n dX11_item_18 rfl
theorem oX11_item_19 : oP MT mX11_item 19 (1, 1, 1, 0, []) := o_iload_n dX11_item_19 rfl
theorem oX11_item_20 : oP MT mX11_item 20 (1, 1, 2, 0, []) := o_iload_n dX11_item_20 rfl
theorem oX11_item_21 : oP MT mX11_item 21 (26, 3, 0, 2, [(11, 104)]) := o_callO ((vA.cons (v_callV dX11_item_21 (ci := 11) rfl rfl (mj := mX11_refusalOf) mt_X11_refusalOf cmq_X11_refusalOf wq_793 wq_795 wq_796 (by decide) (by decide)) vA.nil))
theorem oX11_item_24 : oP MT mX11_item 24 (2, 2, 4, 0, []) := o_istore dX11_item_24 (by decide)
theorem oX11_item_26 : oP MT mX11_item 26 (1, 2, 4, 0, []) := o_iload dX11_item_26
theorem oX11_item_28 : oP MT mX11_item 28 (10, 3, 0, 34, []) := o_if_eq dX11_item_28 (by decide) (by decide)
theorem oX11_item_31 : oP MT mX11_item 31 (1, 2, 4, 0, []) := o_iload dX11_item_31
theorem oX11_item_33 : oP MT mX11_item 33 (21, 1, 0, 0, []) := o_iret dX11_item_33 rfl
theorem oX11_item_34 : oP MT mX11_item 34 (1, 1, 0, 1, []) := o_aload_n dX11_item_34 rfl
theorem oX11_item_35 : oP MT mX11_item 35 (1, 1, 1, 0, []) := o_iload_n dX11_item_35 rfl
theorem oX11_item_36 : oP MT mX11_item 36 (1, 1, 3, 0, []) := o_iload_n dX11_item_36 rfl
theorem oX11_item_37 : oP MT mX11_item 37 (26, 3, 0, 2, [(11, 105)]) := o_callO ((vA.cons (v_callV dX11_item_37 (ci := 11) rfl rfl (mj := mX11_isItem) mt_X11_isItem cmq_X11_isItem wq_384 wq_386 wq_387 (by decide) (by decide)) vA.nil))
theorem oX11_item_40 : oP MT mX11_item 40 (10, 3, 0, 54, []) := o_if_eq dX11_item_40 (by decide) (by decide)
theorem oX11_item_43 : oP MT mX11_item 43 (1, 1, 0, 1, []) := o_aload_n dX11_item_43 rfl
theorem oX11_item_44 : oP MT mX11_item 44 (13, 3, 10, 11, []) := o_getR (M := mX11_item) (C := RX11) (T := TX11) (ci := 11) (j := 10) (z := 11) dX11_item_44 rfl lq_RX11_21 rfl rfl
theorem oX11_item_47 : oP MT mX11_item 47 (1, 1, 1, 0, []) := o_iload_n dX11_item_47 rfl
theorem oX11_item_48 : oP MT mX11_item 48 (17, 1, 0, 0, []) := o_aaload dX11_item_48
theorem oX11_item_49 : oP MT mX11_item 49 (1, 1, 3, 0, []) := o_iload_n dX11_item_49 rfl
theorem oX11_item_50 : oP MT mX11_item 50 (16, 1, 1, 0, []) := o_iaload dX11_item_50
theorem oX11_item_51 : oP MT mX11_item 51 (9, 3, 56, 0, []) := o_goto dX11_item_51 (by decide)
theorem oX11_item_54 : oP MT mX11_item 54 (0, 2, 0, (-12), []) := o_bipush dX11_item_54 (by decide)
theorem oX11_item_56 : oP MT mX11_item 56 (21, 1, 0, 0, []) := o_iret dX11_item_56 rfl
def ops_X11_item : List (Nat × aO) := [(0, (1, 1, 1, 0, [])), (1, (25, 3, 103, 1, [])), (4, (10, 3, 0, 16, [])), (7, (1, 1, 2, 0, [])), (8, (0, 1, 0, 0, [])), (9, (0, 1, 0, 4, [])), (10, (25, 3, 37, 3, [])), (13, (10, 3, 1, 18, [])), (16, (0, 1, 0, (-1), [])), (17, (21, 1, 0, 0, [])), (18, (1, 1, 0, 1, [])), (19, (1, 1, 1, 0, [])), (20, (1, 1, 2, 0, [])), (21, (26, 3, 0, 2, [(11, 104)])), (24, (2, 2, 4, 0, [])), (26, (1, 2, 4, 0, [])), (28, (10, 3, 0, 34, [])), (31, (1, 2, 4, 0, [])), (33, (21, 1, 0, 0, [])), (34, (1, 1, 0, 1, [])), (35, (1, 1, 1, 0, [])), (36, (1, 1, 3, 0, [])), (37, (26, 3, 0, 2, [(11, 105)])), (40, (10, 3, 0, 54, [])), (43, (1, 1, 0, 1, [])), (44, (13, 3, 10, 11, [])), (47, (1, 1, 1, 0, [])), (48, (17, 1, 0, 0, [])), (49, (1, 1, 3, 0, [])), (50, (16, 1, 1, 0, [])), (51, (9, 3, 56, 0, [])), (54, (0, 2, 0, (-12), [])), (56, (21, 1, 0, 0, []))]
theorem os_X11_item : oA MT mX11_item ops_X11_item := (oA.cons oX11_item_0 (oA.cons oX11_item_1 (oA.cons oX11_item_4 (oA.cons oX11_item_7 (oA.cons oX11_item_8 (oA.cons oX11_item_9 (oA.cons oX11_item_10 (oA.cons oX11_item_13 (oA.cons oX11_item_16 (oA.cons oX11_item_17 (oA.cons oX11_item_18 (oA.cons oX11_item_19 (oA.cons oX11_item_20 (oA.cons oX11_item_21 (oA.cons oX11_item_24 (oA.cons oX11_item_26 (oA.cons oX11_item_28 (oA.cons oX11_item_31 (oA.cons oX11_item_33 (oA.cons oX11_item_34 (oA.cons oX11_item_35 (oA.cons oX11_item_36 (oA.cons oX11_item_37 (oA.cons oX11_item_40 (oA.cons oX11_item_43 (oA.cons oX11_item_44 (oA.cons oX11_item_47 (oA.cons oX11_item_48 (oA.cons oX11_item_49 (oA.cons oX11_item_50 (oA.cons oX11_item_51 (oA.cons oX11_item_54 (oA.cons oX11_item_56 oA.nil)))))))))))))))))))))))))))))))))
theorem dX11_goAll_0 : decode cX11_goAll 0 = .ok (.iload_n 1, 1) := by decide +kernel
theorem dX11_goAll_1 : decode cX11_goAll 1 = .ok (.invokestatic 319, 3) := by decide +kernel
theorem dX11_goAll_4 : decode cX11_goAll 4 = .ok (.ifCond .eq 13, 3) := by decide +kernel
theorem dX11_goAll_7 : decode cX11_goAll 7 = .ok (.iload_n 3, 1) := by decide +kernel
theorem dX11_goAll_8 : decode cX11_goAll 8 = .ok (.iconst 0, 1) := by decide +kernel
theorem dX11_goAll_9 : decode cX11_goAll 9 = .ok (.bipush 20, 2) := by decide +kernel
theorem dX11_goAll_11 : decode cX11_goAll 11 = .ok (.invokestatic 90, 3) := by decide +kernel
theorem dX11_goAll_14 : decode cX11_goAll 14 = .ok (.ifCond .ne 5, 3) := by decide +kernel
theorem dX11_goAll_17 : decode cX11_goAll 17 = .ok (.iconst (-1), 1) := by decide +kernel
theorem dX11_goAll_18 : decode cX11_goAll 18 = .ok (.ireturn, 1) := by decide +kernel
theorem dX11_goAll_19 : decode cX11_goAll 19 = .ok (.aload_n 0, 1) := by decide +kernel
theorem dX11_goAll_20 : decode cX11_goAll 20 = .ok (.iload_n 1, 1) := by decide +kernel
theorem dX11_goAll_21 : decode cX11_goAll 21 = .ok (.iconst 0, 1) := by decide +kernel
theorem dX11_goAll_22 : decode cX11_goAll 22 = .ok (.invokevirtual 328, 3) := by decide +kernel
theorem dX11_goAll_25 : decode cX11_goAll 25 = .ok (.istore 4, 2) := by decide +kernel
theorem dX11_goAll_27 : decode cX11_goAll 27 = .ok (.iload 4, 2) := by decide +kernel
theorem dX11_goAll_29 : decode cX11_goAll 29 = .ok (.ifCond .eq 6, 3) := by decide +kernel
theorem dX11_goAll_32 : decode cX11_goAll 32 = .ok (.iload 4, 2) := by decide +kernel
theorem dX11_goAll_34 : decode cX11_goAll 34 = .ok (.ireturn, 1) := by decide +kernel
theorem dX11_goAll_35 : decode cX11_goAll 35 = .ok (.iconst 0, 1) := by decide +kernel
theorem dX11_goAll_36 : decode cX11_goAll 36 = .ok (.istore 5, 2) := by decide +kernel
theorem dX11_goAll_38 : decode cX11_goAll 38 = .ok (.iconst 0, 1) := by decide +kernel
theorem dX11_goAll_39 : decode cX11_goAll 39 = .ok (.istore 6, 2) := by decide +kernel
theorem dX11_goAll_41 : decode cX11_goAll 41 = .ok (.iload 6, 2) := by decide +kernel
theorem dX11_goAll_43 : decode cX11_goAll 43 = .ok (.iload_n 3, 1) := by decide +kernel
theorem dX11_goAll_44 : decode cX11_goAll 44 = .ok (.if_icmp .ge 77, 3) := by decide +kernel
theorem dX11_goAll_47 : decode cX11_goAll 47 = .ok (.aload_n 0, 1) := by decide +kernel
theorem dX11_goAll_48 : decode cX11_goAll 48 = .ok (.iload_n 1, 1) := by decide +kernel
theorem dX11_goAll_49 : decode cX11_goAll 49 = .ok (.iload_n 2, 1) := by decide +kernel
theorem dX11_goAll_50 : decode cX11_goAll 50 = .ok (.iload 6, 2) := by decide +kernel
theorem dX11_goAll_52 : decode cX11_goAll 52 = .ok (.iadd, 1) := by decide +kernel
theorem dX11_goAll_53 : decode cX11_goAll 53 = .ok (.invokevirtual 322, 3) := by decide +kernel
theorem dX11_goAll_56 : decode cX11_goAll 56 = .ok (.ifCond .ne 6, 3) := by decide +kernel
theorem dX11_goAll_59 : decode cX11_goAll 59 = .ok (.bipush (-12), 2) := by decide +kernel
theorem dX11_goAll_61 : decode cX11_goAll 61 = .ok (.ireturn, 1) := by decide +kernel
theorem dX11_goAll_62 : decode cX11_goAll 62 = .ok (.aload_n 0, 1) := by decide +kernel
theorem dX11_goAll_63 : decode cX11_goAll 63 = .ok (.getfield 21, 3) := by decide +kernel
theorem dX11_goAll_66 : decode cX11_goAll 66 = .ok (.iload_n 1, 1) := by decide +kernel
theorem dX11_goAll_67 : decode cX11_goAll 67 = .ok (.aaload, 1) := by decide +kernel
theorem dX11_goAll_68 : decode cX11_goAll 68 = .ok (.iload_n 2, 1) := by decide +kernel
theorem dX11_goAll_69 : decode cX11_goAll 69 = .ok (.iload 6, 2) := by decide +kernel
theorem dX11_goAll_71 : decode cX11_goAll 71 = .ok (.iadd, 1) := by decide +kernel
theorem dX11_goAll_72 : decode cX11_goAll 72 = .ok (.iaload, 1) := by decide +kernel
theorem dX11_goAll_73 : decode cX11_goAll 73 = .ok (.istore 7, 2) := by decide +kernel
theorem dX11_goAll_75 : decode cX11_goAll 75 = .ok (.aload_n 0, 1) := by decide +kernel
theorem dX11_goAll_76 : decode cX11_goAll 76 = .ok (.getfield 56, 3) := by decide +kernel
theorem dX11_goAll_79 : decode cX11_goAll 79 = .ok (.iload 7, 2) := by decide +kernel
theorem dX11_goAll_81 : decode cX11_goAll 81 = .ok (.invokevirtual 316, 3) := by decide +kernel
theorem dX11_goAll_84 : decode cX11_goAll 84 = .ok (.ifCond .eq 31, 3) := by decide +kernel
theorem dX11_goAll_87 : decode cX11_goAll 87 = .ok (.aload_n 0, 1) := by decide +kernel
theorem dX11_goAll_88 : decode cX11_goAll 88 = .ok (.getfield 56, 3) := by decide +kernel
theorem dX11_goAll_91 : decode cX11_goAll 91 = .ok (.invokevirtual 168, 3) := by decide +kernel
theorem dX11_goAll_94 : decode cX11_goAll 94 = .ok (.ifCond .ne 21, 3) := by decide +kernel
theorem dX11_goAll_97 : decode cX11_goAll 97 = .ok (.iload 5, 2) := by decide +kernel
theorem dX11_goAll_99 : decode cX11_goAll 99 = .ok (.aload_n 0, 1) := by decide +kernel
theorem dX11_goAll_100 : decode cX11_goAll 100 = .ok (.aload_n 0, 1) := by decide +kernel
theorem dX11_goAll_101 : decode cX11_goAll 101 = .ok (.getfield 56, 3) := by decide +kernel
theorem dX11_goAll_104 : decode cX11_goAll 104 = .ok (.iload 7, 2) := by decide +kernel
theorem dX11_goAll_106 : decode cX11_goAll 106 = .ok (.invokevirtual 206, 3) := by decide +kernel
theorem dX11_goAll_109 : decode cX11_goAll 109 = .ok (.invokevirtual 209, 3) := by decide +kernel
theorem dX11_goAll_112 : decode cX11_goAll 112 = .ok (.iadd, 1) := by decide +kernel
theorem dX11_goAll_113 : decode cX11_goAll 113 = .ok (.istore 5, 2) := by decide +kernel
theorem dX11_goAll_115 : decode cX11_goAll 115 = .ok (.iinc 6 1, 3) := by decide +kernel
theorem dX11_goAll_118 : decode cX11_goAll 118 = .ok (.goto (-77), 3) := by decide +kernel
theorem dX11_goAll_121 : decode cX11_goAll 121 = .ok (.iload 5, 2) := by decide +kernel
theorem dX11_goAll_123 : decode cX11_goAll 123 = .ok (.ireturn, 1) := by decide +kernel
theorem oX11_goAll_0 : oP MT mX11_goAll 0 (1, 1, 1, 0, []) := o_iload_n dX11_goAll_0 rfl
theorem oX11_goAll_1 : oP MT mX11_goAll 1 (25, 3, 103, 1, []) := o_callS dX11_goAll_1 (mj := mX11_isPlace) mt_X11_isPlace cmq_X11_isPlace wq_781 wq_783 (by decide) (by decide)
theorem oX11_goAll_4 : oP MT mX11_goAll 4 (10, 3, 0, 17, []) := o_if_eq dX11_goAll_4 (by decide) (by decide)
theorem oX11_goAll_7 : oP MT mX11_goAll 7 (1, 1, 3, 0, []) := o_iload_n dX11_goAll_7 rfl
theorem oX11_goAll_8 : oP MT mX11_goAll 8 (0, 1, 0, 0, []) := o_iconst dX11_goAll_8 (by decide)
theorem oX11_goAll_9 : oP MT mX11_goAll 9 (0, 2, 0, 20, []) := o_bipush dX11_goAll_9 (by decide)
theorem oX11_goAll_11 : oP MT mX11_goAll 11 (25, 3, 37, 3, []) := o_callS dX11_goAll_11 (mj := mX11_isIn) mt_X11_isIn cmq_X11_isIn wq_282 wq_144 (by decide) (by decide)
theorem oX11_goAll_14 : oP MT mX11_goAll 14 (10, 3, 1, 19, []) := o_if_ne dX11_goAll_14 (by decide) (by decide)
theorem oX11_goAll_17 : oP MT mX11_goAll 17 (0, 1, 0, (-1), []) := o_iconst dX11_goAll_17 (by decide)
theorem oX11_goAll_18 : oP MT mX11_goAll 18 (21, 1, 0, 0, []) := o_iret dX11_goAll_18 rfl
theorem oX11_goAll_19 : oP MT mX11_goAll 19 (1, 1, 0, 1, []) := o_aload_n dX11_goAll_19 rfl
theorem oX11_goAll_20 : oP MT mX11_goAll 20 (1, 1, 1, 0, []) := o_iload_n dX11_goAll_20 rfl
theorem oX11_goAll_21 : oP MT mX11_goAll 21 (0, 1, 0, 0, []) := o_iconst dX11_goAll_21 (by decide)
theorem oX11_goAll_22 : oP MT mX11_goAll 22 (26, 3, 0, 2, [(11, 104)]) := o_callO ((vA.cons (v_callV dX11_goAll_22 (ci := 11) rfl rfl (mj := mX11_refusalOf) mt_X11_refusalOf cmq_X11_refusalOf wq_793 wq_795 wq_796 (by decide) (by decide)) vA.nil))
theorem oX11_goAll_25 : oP MT mX11_goAll 25 (2, 2, 4, 0, []) := o_istore dX11_goAll_25 (by decide)
theorem oX11_goAll_27 : oP MT mX11_goAll 27 (1, 2, 4, 0, []) := o_iload dX11_goAll_27
theorem oX11_goAll_29 : oP MT mX11_goAll 29 (10, 3, 0, 35, []) := o_if_eq dX11_goAll_29 (by decide) (by decide)
theorem oX11_goAll_32 : oP MT mX11_goAll 32 (1, 2, 4, 0, []) := o_iload dX11_goAll_32
theorem oX11_goAll_34 : oP MT mX11_goAll 34 (21, 1, 0, 0, []) := o_iret dX11_goAll_34 rfl
theorem oX11_goAll_35 : oP MT mX11_goAll 35 (0, 1, 0, 0, []) := o_iconst dX11_goAll_35 (by decide)
theorem oX11_goAll_36 : oP MT mX11_goAll 36 (2, 2, 5, 0, []) := o_istore dX11_goAll_36 (by decide)
theorem oX11_goAll_38 : oP MT mX11_goAll 38 (0, 1, 0, 0, []) := o_iconst dX11_goAll_38 (by decide)
theorem oX11_goAll_39 : oP MT mX11_goAll 39 (2, 2, 6, 0, []) := o_istore dX11_goAll_39 (by decide)
theorem oX11_goAll_41 : oP MT mX11_goAll 41 (1, 2, 6, 0, []) := o_iload dX11_goAll_41
theorem oX11_goAll_43 : oP MT mX11_goAll 43 (1, 1, 3, 0, []) := o_iload_n dX11_goAll_43 rfl
theorem oX11_goAll_44 : oP MT mX11_goAll 44 (11, 3, 3, 121, []) := o_icmp_ge dX11_goAll_44 (by decide) (by decide)
theorem oX11_goAll_47 : oP MT mX11_goAll 47 (1, 1, 0, 1, []) := o_aload_n dX11_goAll_47 rfl
theorem oX11_goAll_48 : oP MT mX11_goAll 48 (1, 1, 1, 0, []) := o_iload_n dX11_goAll_48 rfl
theorem oX11_goAll_49 : oP MT mX11_goAll 49 (1, 1, 2, 0, []) := o_iload_n dX11_goAll_49 rfl
theorem oX11_goAll_50 : oP MT mX11_goAll 50 (1, 2, 6, 0, []) := o_iload dX11_goAll_50
theorem oX11_goAll_52 : oP MT mX11_goAll 52 (4, 1, 0, 0, []) := o_iadd dX11_goAll_52
theorem oX11_goAll_53 : oP MT mX11_goAll 53 (26, 3, 0, 2, [(11, 105)]) := o_callO ((vA.cons (v_callV dX11_goAll_53 (ci := 11) rfl rfl (mj := mX11_isItem) mt_X11_isItem cmq_X11_isItem wq_384 wq_386 wq_387 (by decide) (by decide)) vA.nil))
theorem oX11_goAll_56 : oP MT mX11_goAll 56 (10, 3, 1, 62, []) := o_if_ne dX11_goAll_56 (by decide) (by decide)
theorem oX11_goAll_59 : oP MT mX11_goAll 59 (0, 2, 0, (-12), []) := o_bipush dX11_goAll_59 (by decide)
theorem oX11_goAll_61 : oP MT mX11_goAll 61 (21, 1, 0, 0, []) := o_iret dX11_goAll_61 rfl
theorem oX11_goAll_62 : oP MT mX11_goAll 62 (1, 1, 0, 1, []) := o_aload_n dX11_goAll_62 rfl
theorem oX11_goAll_63 : oP MT mX11_goAll 63 (13, 3, 10, 11, []) := o_getR (M := mX11_goAll) (C := RX11) (T := TX11) (ci := 11) (j := 10) (z := 11) dX11_goAll_63 rfl lq_RX11_21 rfl rfl
theorem oX11_goAll_66 : oP MT mX11_goAll 66 (1, 1, 1, 0, []) := o_iload_n dX11_goAll_66 rfl
theorem oX11_goAll_67 : oP MT mX11_goAll 67 (17, 1, 0, 0, []) := o_aaload dX11_goAll_67
theorem oX11_goAll_68 : oP MT mX11_goAll 68 (1, 1, 2, 0, []) := o_iload_n dX11_goAll_68 rfl
theorem oX11_goAll_69 : oP MT mX11_goAll 69 (1, 2, 6, 0, []) := o_iload dX11_goAll_69
theorem oX11_goAll_71 : oP MT mX11_goAll 71 (4, 1, 0, 0, []) := o_iadd dX11_goAll_71
theorem oX11_goAll_72 : oP MT mX11_goAll 72 (16, 1, 1, 0, []) := o_iaload dX11_goAll_72
theorem oX11_goAll_73 : oP MT mX11_goAll 73 (2, 2, 7, 0, []) := o_istore dX11_goAll_73 (by decide)
theorem oX11_goAll_75 : oP MT mX11_goAll 75 (1, 1, 0, 1, []) := o_aload_n dX11_goAll_75 rfl
theorem oX11_goAll_76 : oP MT mX11_goAll 76 (13, 3, 0, 11, []) := o_getR (M := mX11_goAll) (C := RX11) (T := TX11) (ci := 11) (j := 0) (z := 11) dX11_goAll_76 rfl lq_RX11_56 rfl rfl
theorem oX11_goAll_79 : oP MT mX11_goAll 79 (1, 2, 7, 0, []) := o_iload dX11_goAll_79
theorem oX11_goAll_81 : oP MT mX11_goAll 81 (26, 3, 0, 1, [(1, 101)]) := o_callO ((vA.cons (v_callV dX11_goAll_81 (ci := 1) rfl rfl (mj := mX1_isAct) mt_X1_isAct cmq_X1_isAct wq_376 wq_378 wq_379 (by decide) (by decide)) vA.nil))
theorem oX11_goAll_84 : oP MT mX11_goAll 84 (10, 3, 0, 115, []) := o_if_eq dX11_goAll_84 (by decide) (by decide)
theorem oX11_goAll_87 : oP MT mX11_goAll 87 (1, 1, 0, 1, []) := o_aload_n dX11_goAll_87 rfl
theorem oX11_goAll_88 : oP MT mX11_goAll 88 (13, 3, 0, 11, []) := o_getR (M := mX11_goAll) (C := RX11) (T := TX11) (ci := 11) (j := 0) (z := 11) dX11_goAll_88 rfl lq_RX11_56 rfl rfl
theorem oX11_goAll_91 : oP MT mX11_goAll 91 (26, 3, 0, 0, [(1, 31)]) := o_callO ((vA.cons (v_callV dX11_goAll_91 (ci := 1) rfl rfl (mj := mX1_isOver) mt_X1_isOver cmq_X1_isOver wq_375 wq_201 wq_202 (by decide) (by decide)) vA.nil))
theorem oX11_goAll_94 : oP MT mX11_goAll 94 (10, 3, 1, 115, []) := o_if_ne dX11_goAll_94 (by decide) (by decide)
theorem oX11_goAll_97 : oP MT mX11_goAll 97 (1, 2, 5, 0, []) := o_iload dX11_goAll_97
theorem oX11_goAll_99 : oP MT mX11_goAll 99 (1, 1, 0, 1, []) := o_aload_n dX11_goAll_99 rfl
theorem oX11_goAll_100 : oP MT mX11_goAll 100 (1, 1, 0, 1, []) := o_aload_n dX11_goAll_100 rfl
theorem oX11_goAll_101 : oP MT mX11_goAll 101 (13, 3, 0, 11, []) := o_getR (M := mX11_goAll) (C := RX11) (T := TX11) (ci := 11) (j := 0) (z := 11) dX11_goAll_101 rfl lq_RX11_56 rfl rfl
theorem oX11_goAll_104 : oP MT mX11_goAll 104 (1, 2, 7, 0, []) := o_iload dX11_goAll_104
theorem oX11_goAll_106 : oP MT mX11_goAll 106 (26, 3, 0, 1, [(1, 81)]) := o_callO ((vA.cons (v_callV dX11_goAll_106 (ci := 1) rfl rfl (mj := mX1_goBy) mt_X1_goBy cmq_X1_goBy wq_380 wq_382 wq_383 (by decide) (by decide)) vA.nil))
theorem oX11_goAll_109 : oP MT mX11_goAll 109 (26, 3, 0, 1, [(11, 82)]) := o_callO ((vA.cons (v_callV dX11_goAll_109 (ci := 11) rfl rfl (mj := mX11_scored) mt_X11_scored cmq_X11_scored wq_695 wq_697 wq_698 (by decide) (by decide)) vA.nil))
theorem oX11_goAll_112 : oP MT mX11_goAll 112 (4, 1, 0, 0, []) := o_iadd dX11_goAll_112
theorem oX11_goAll_113 : oP MT mX11_goAll 113 (2, 2, 5, 0, []) := o_istore dX11_goAll_113 (by decide)
theorem oX11_goAll_115 : oP MT mX11_goAll 115 (3, 3, 6, 1, []) := o_iinc dX11_goAll_115 (by decide) (by decide)
theorem oX11_goAll_118 : oP MT mX11_goAll 118 (9, 3, 41, 0, []) := o_goto dX11_goAll_118 (by decide)
theorem oX11_goAll_121 : oP MT mX11_goAll 121 (1, 2, 5, 0, []) := o_iload dX11_goAll_121
theorem oX11_goAll_123 : oP MT mX11_goAll 123 (21, 1, 0, 0, []) := o_iret dX11_goAll_123 rfl
def ops_X11_goAll : List (Nat × aO) := [(0, (1, 1, 1, 0, [])), (1, (25, 3, 103, 1, [])), (4, (10, 3, 0, 17, [])), (7, (1, 1, 3, 0, [])), (8, (0, 1, 0, 0, [])), (9, (0, 2, 0, 20, [])), (11, (25, 3, 37, 3, [])), (14, (10, 3, 1, 19, [])), (17, (0, 1, 0, (-1), [])), (18, (21, 1, 0, 0, [])), (19, (1, 1, 0, 1, [])), (20, (1, 1, 1, 0, [])), (21, (0, 1, 0, 0, [])), (22, (26, 3, 0, 2, [(11, 104)])), (25, (2, 2, 4, 0, [])), (27, (1, 2, 4, 0, [])), (29, (10, 3, 0, 35, [])), (32, (1, 2, 4, 0, [])), (34, (21, 1, 0, 0, [])), (35, (0, 1, 0, 0, [])), (36, (2, 2, 5, 0, [])), (38, (0, 1, 0, 0, [])), (39, (2, 2, 6, 0, [])), (41, (1, 2, 6, 0, [])), (43, (1, 1, 3, 0, [])), (44, (11, 3, 3, 121, [])), (47, (1, 1, 0, 1, [])), (48, (1, 1, 1, 0, [])), (49, (1, 1, 2, 0, [])), (50, (1, 2, 6, 0, [])), (52, (4, 1, 0, 0, [])), (53, (26, 3, 0, 2, [(11, 105)])), (56, (10, 3, 1, 62, [])), (59, (0, 2, 0, (-12), [])), (61, (21, 1, 0, 0, [])), (62, (1, 1, 0, 1, [])), (63, (13, 3, 10, 11, [])), (66, (1, 1, 1, 0, [])), (67, (17, 1, 0, 0, [])), (68, (1, 1, 2, 0, [])), (69, (1, 2, 6, 0, [])), (71, (4, 1, 0, 0, [])), (72, (16, 1, 1, 0, [])), (73, (2, 2, 7, 0, [])), (75, (1, 1, 0, 1, [])), (76, (13, 3, 0, 11, [])), (79, (1, 2, 7, 0, [])), (81, (26, 3, 0, 1, [(1, 101)])), (84, (10, 3, 0, 115, [])), (87, (1, 1, 0, 1, [])), (88, (13, 3, 0, 11, [])), (91, (26, 3, 0, 0, [(1, 31)])), (94, (10, 3, 1, 115, [])), (97, (1, 2, 5, 0, [])), (99, (1, 1, 0, 1, [])), (100, (1, 1, 0, 1, [])), (101, (13, 3, 0, 11, [])), (104, (1, 2, 7, 0, [])), (106, (26, 3, 0, 1, [(1, 81)])), (109, (26, 3, 0, 1, [(11, 82)])), (112, (4, 1, 0, 0, [])), (113, (2, 2, 5, 0, [])), (115, (3, 3, 6, 1, [])), (118, (9, 3, 41, 0, [])), (121, (1, 2, 5, 0, [])), (123, (21, 1, 0, 0, []))]
theorem os_X11_goAll : oA MT mX11_goAll ops_X11_goAll := (oA.cons oX11_goAll_0 (oA.cons oX11_goAll_1 (oA.cons oX11_goAll_4 (oA.cons oX11_goAll_7 (oA.cons oX11_goAll_8 (oA.cons oX11_goAll_9 (oA.cons oX11_goAll_11 (oA.cons oX11_goAll_14 (oA.cons oX11_goAll_17 (oA.cons oX11_goAll_18 (oA.cons oX11_goAll_19 (oA.cons oX11_goAll_20 (oA.cons oX11_goAll_21 (oA.cons oX11_goAll_22 (oA.cons oX11_goAll_25 (oA.cons oX11_goAll_27 (oA.cons oX11_goAll_29 (oA.cons oX11_goAll_32 (oA.cons oX11_goAll_34 (oA.cons oX11_goAll_35 (oA.cons oX11_goAll_36 (oA.cons oX11_goAll_38 (oA.cons oX11_goAll_39 (oA.cons oX11_goAll_41 (oA.cons oX11_goAll_43 (oA.cons oX11_goAll_44 (oA.cons oX11_goAll_47 (oA.cons oX11_goAll_48 (oA.cons oX11_goAll_49 (oA.cons oX11_goAll_50 (oA.cons oX11_goAll_52 (oA.cons oX11_goAll_53 (oA.cons oX11_goAll_56 (oA.cons oX11_goAll_59 (oA.cons oX11_goAll_61 (oA.cons oX11_goAll_62 (oA.cons oX11_goAll_63 (oA.cons oX11_goAll_66 (oA.cons oX11_goAll_67 (oA.cons oX11_goAll_68 (oA.cons oX11_goAll_69 (oA.cons oX11_goAll_71 (oA.cons oX11_goAll_72 (oA.cons oX11_goAll_73 (oA.cons oX11_goAll_75 (oA.cons oX11_goAll_76 (oA.cons oX11_goAll_79 (oA.cons oX11_goAll_81 (oA.cons oX11_goAll_84 (oA.cons oX11_goAll_87 (oA.cons oX11_goAll_88 (oA.cons oX11_goAll_91 (oA.cons oX11_goAll_94 (oA.cons oX11_goAll_97 (oA.cons oX11_goAll_99 (oA.cons oX11_goAll_100 (oA.cons oX11_goAll_101 (oA.cons oX11_goAll_104 (oA.cons oX11_goAll_106 (oA.cons oX11_goAll_109 (oA.cons oX11_goAll_112 (oA.cons oX11_goAll_113 (oA.cons oX11_goAll_115 (oA.cons oX11_goAll_118 (oA.cons oX11_goAll_121 (oA.cons oX11_goAll_123 oA.nil))))))))))))))))))))))))))))))))))))))))))))))))))))))))))))))))))
theorem dX11_wouldBe_0 : decode cX11_wouldBe 0 = .ok (.iload_n 1, 1) := by decide +kernel
theorem dX11_wouldBe_1 : decode cX11_wouldBe 1 = .ok (.invokestatic 319, 3) := by decide +kernel
theorem dX11_wouldBe_4 : decode cX11_wouldBe 4 = .ok (.ifCond .eq 13, 3) := by decide +kernel
theorem dX11_wouldBe_7 : decode cX11_wouldBe 7 = .ok (.iload_n 3, 1) := by decide +kernel
theorem dX11_wouldBe_8 : decode cX11_wouldBe 8 = .ok (.iconst 0, 1) := by decide +kernel
theorem dX11_wouldBe_9 : decode cX11_wouldBe 9 = .ok (.bipush 20, 2) := by decide +kernel
theorem dX11_wouldBe_11 : decode cX11_wouldBe 11 = .ok (.invokestatic 90, 3) := by decide +kernel
theorem dX11_wouldBe_14 : decode cX11_wouldBe 14 = .ok (.ifCond .ne 5, 3) := by decide +kernel
theorem dX11_wouldBe_17 : decode cX11_wouldBe 17 = .ok (.iconst (-1), 1) := by decide +kernel
theorem dX11_wouldBe_18 : decode cX11_wouldBe 18 = .ok (.ireturn, 1) := by decide +kernel
theorem dX11_wouldBe_19 : decode cX11_wouldBe 19 = .ok (.aload_n 0, 1) := by decide +kernel
theorem dX11_wouldBe_20 : decode cX11_wouldBe 20 = .ok (.iload_n 1, 1) := by decide +kernel
theorem dX11_wouldBe_21 : decode cX11_wouldBe 21 = .ok (.iconst 0, 1) := by decide +kernel
theorem dX11_wouldBe_22 : decode cX11_wouldBe 22 = .ok (.invokevirtual 328, 3) := by decide +kernel
theorem dX11_wouldBe_25 : decode cX11_wouldBe 25 = .ok (.istore 4, 2) := by decide +kernel
theorem dX11_wouldBe_27 : decode cX11_wouldBe 27 = .ok (.iload 4, 2) := by decide +kernel
theorem dX11_wouldBe_29 : decode cX11_wouldBe 29 = .ok (.ifCond .eq 6, 3) := by decide +kernel
theorem dX11_wouldBe_32 : decode cX11_wouldBe 32 = .ok (.iload 4, 2) := by decide +kernel
theorem dX11_wouldBe_34 : decode cX11_wouldBe 34 = .ok (.ireturn, 1) := by decide +kernel
theorem dX11_wouldBe_35 : decode cX11_wouldBe 35 = .ok (.aload_n 0, 1) := by decide +kernel
theorem dX11_wouldBe_36 : decode cX11_wouldBe 36 = .ok (.getfield 56, 3) := by decide +kernel
theorem dX11_wouldBe_39 : decode cX11_wouldBe 39 = .ok (.iconst 0, 1) := by decide +kernel
theorem dX11_wouldBe_40 : decode cX11_wouldBe 40 = .ok (.invokevirtual 212, 3) := by decide +kernel
theorem dX11_wouldBe_43 : decode cX11_wouldBe 43 = .ok (.aload_n 0, 1) := by decide +kernel
theorem dX11_wouldBe_44 : decode cX11_wouldBe 44 = .ok (.iload_n 1, 1) := by decide +kernel
theorem dX11_wouldBe_45 : decode cX11_wouldBe 45 = .ok (.iload_n 2, 1) := by decide +kernel
theorem dX11_wouldBe_46 : decode cX11_wouldBe 46 = .ok (.iload_n 3, 1) := by decide +kernel
theorem dX11_wouldBe_47 : decode cX11_wouldBe 47 = .ok (.invokevirtual 331, 3) := by decide +kernel
theorem dX11_wouldBe_50 : decode cX11_wouldBe 50 = .ok (.istore 5, 2) := by decide +kernel
theorem dX11_wouldBe_52 : decode cX11_wouldBe 52 = .ok (.aload_n 0, 1) := by decide +kernel
theorem dX11_wouldBe_53 : decode cX11_wouldBe 53 = .ok (.getfield 56, 3) := by decide +kernel
theorem dX11_wouldBe_56 : decode cX11_wouldBe 56 = .ok (.iconst 0, 1) := by decide +kernel
theorem dX11_wouldBe_57 : decode cX11_wouldBe 57 = .ok (.invokevirtual 218, 3) := by decide +kernel
theorem dX11_wouldBe_60 : decode cX11_wouldBe 60 = .ok (.iload 5, 2) := by decide +kernel
theorem dX11_wouldBe_62 : decode cX11_wouldBe 62 = .ok (.ireturn, 1) := by decide +kernel
theorem oX11_wouldBe_0 : oP MT mX11_wouldBe 0 (1, 1, 1, 0, []) := o_iload_n dX11_wouldBe_0 rfl
theorem oX11_wouldBe_1 : oP MT mX11_wouldBe 1 (25, 3, 103, 1, []) := o_callS dX11_wouldBe_1 (mj := mX11_isPlace) mt_X11_isPlace cmq_X11_isPlace wq_781 wq_783 (by decide) (by decide)
theorem oX11_wouldBe_4 : oP MT mX11_wouldBe 4 (10, 3, 0, 17, []) := o_if_eq dX11_wouldBe_4 (by decide) (by decide)
theorem oX11_wouldBe_7 : oP MT mX11_wouldBe 7 (1, 1, 3, 0, []) := o_iload_n dX11_wouldBe_7 rfl
theorem oX11_wouldBe_8 : oP MT mX11_wouldBe 8 (0, 1, 0, 0, []) := o_iconst dX11_wouldBe_8 (by decide)
theorem oX11_wouldBe_9 : oP MT mX11_wouldBe 9 (0, 2, 0, 20, []) := o_bipush dX11_wouldBe_9 (by decide)
theorem oX11_wouldBe_11 : oP MT mX11_wouldBe 11 (25, 3, 37, 3, []) := o_callS dX11_wouldBe_11 (mj := mX11_isIn) mt_X11_isIn cmq_X11_isIn wq_282 wq_144 (by decide) (by decide)
theorem oX11_wouldBe_14 : oP MT mX11_wouldBe 14 (10, 3, 1, 19, []) := o_if_ne dX11_wouldBe_14 (by decide) (by decide)
theorem oX11_wouldBe_17 : oP MT mX11_wouldBe 17 (0, 1, 0, (-1), []) := o_iconst dX11_wouldBe_17 (by decide)
theorem oX11_wouldBe_18 : oP MT mX11_wouldBe 18 (21, 1, 0, 0, []) := o_iret dX11_wouldBe_18 rfl
theorem oX11_wouldBe_19 : oP MT mX11_wouldBe 19 (1, 1, 0, 1, []) := o_aload_n dX11_wouldBe_19 rfl
theorem oX11_wouldBe_20 : oP MT mX11_wouldBe 20 (1, 1, 1, 0, []) := o_iload_n dX11_wouldBe_20 rfl
theorem oX11_wouldBe_21 : oP MT mX11_wouldBe 21 (0, 1, 0, 0, []) := o_iconst dX11_wouldBe_21 (by decide)
theorem oX11_wouldBe_22 : oP MT mX11_wouldBe 22 (26, 3, 0, 2, [(11, 104)]) := o_callO ((vA.cons (v_callV dX11_wouldBe_22 (ci := 11) rfl rfl (mj := mX11_refusalOf) mt_X11_refusalOf cmq_X11_refusalOf wq_793 wq_795 wq_796 (by decide) (by decide)) vA.nil))
theorem oX11_wouldBe_25 : oP MT mX11_wouldBe 25 (2, 2, 4, 0, []) := o_istore dX11_wouldBe_25 (by decide)
theorem oX11_wouldBe_27 : oP MT mX11_wouldBe 27 (1, 2, 4, 0, []) := o_iload dX11_wouldBe_27
theorem oX11_wouldBe_29 : oP MT mX11_wouldBe 29 (10, 3, 0, 35, []) := o_if_eq dX11_wouldBe_29 (by decide) (by decide)
theorem oX11_wouldBe_32 : oP MT mX11_wouldBe 32 (1, 2, 4, 0, []) := o_iload dX11_wouldBe_32
theorem oX11_wouldBe_34 : oP MT mX11_wouldBe 34 (21, 1, 0, 0, []) := o_iret dX11_wouldBe_34 rfl
theorem oX11_wouldBe_35 : oP MT mX11_wouldBe 35 (1, 1, 0, 1, []) := o_aload_n dX11_wouldBe_35 rfl
theorem oX11_wouldBe_36 : oP MT mX11_wouldBe 36 (13, 3, 0, 11, []) := o_getR (M := mX11_wouldBe) (C := RX11) (T := TX11) (ci := 11) (j := 0) (z := 11) dX11_wouldBe_36 rfl lq_RX11_56 rfl rfl
theorem oX11_wouldBe_39 : oP MT mX11_wouldBe 39 (0, 1, 0, 0, []) := o_iconst dX11_wouldBe_39 (by decide)
theorem oX11_wouldBe_40 : oP MT mX11_wouldBe 40 (26, 3, 0, 1, [(1, 50)]) := o_callO ((vA.cons (v_callV dX11_wouldBe_40 (ci := 1) rfl rfl (mj := mX1_save) mt_X1_save cmq_X1_save wq_310 wq_312 wq_313 (by decide) (by decide)) vA.nil))
theorem oX11_wouldBe_43 : oP MT mX11_wouldBe 43 (1, 1, 0, 1, []) := o_aload_n dX11_wouldBe_43 rfl
theorem oX11_wouldBe_44 : oP MT mX11_wouldBe 44 (1, 1, 1, 0, []) := o_iload_n dX11_wouldBe_44 rfl
theorem oX11_wouldBe_45 : oP MT mX11_wouldBe 45 (1, 1, 2, 0, []) := o_iload_n dX11_wouldBe_45 rfl
theorem oX11_wouldBe_46 : oP MT mX11_wouldBe 46 (1, 1, 3, 0, []) := o_iload_n dX11_wouldBe_46 rfl
theorem oX11_wouldBe_47 : oP MT mX11_wouldBe 47 (26, 3, 0, 3, [(11, 106)]) := o_callO ((vA.cons (v_callV dX11_wouldBe_47 (ci := 11) rfl rfl (mj := mX11_goItems) mt_X11_goItems cmq_X11_goItems wq_805 wq_807 wq_808 (by decide) (by decide)) vA.nil))
theorem oX11_wouldBe_50 : oP MT mX11_wouldBe 50 (2, 2, 5, 0, []) := o_istore dX11_wouldBe_50 (by decide)
theorem oX11_wouldBe_52 : oP MT mX11_wouldBe 52 (1, 1, 0, 1, []) := o_aload_n dX11_wouldBe_52 rfl
theorem oX11_wouldBe_53 : oP MT mX11_wouldBe 53 (13, 3, 0, 11, []) := o_getR (M := mX11_wouldBe) (C := RX11) (T := TX11) (ci := 11) (j := 0) (z := 11) dX11_wouldBe_53 rfl lq_RX11_56 rfl rfl
theorem oX11_wouldBe_56 : oP MT mX11_wouldBe 56 (0, 1, 0, 0, []) := o_iconst dX11_wouldBe_56 (by decide)
theorem oX11_wouldBe_57 : oP MT mX11_wouldBe 57 (26, 3, 0, 1, [(1, 51)]) := o_callO ((vA.cons (v_callV dX11_wouldBe_57 (ci := 1) rfl rfl (mj := mX1_restore) mt_X1_restore cmq_X1_restore wq_318 wq_320 wq_321 (by decide) (by decide)) vA.nil))
theorem oX11_wouldBe_60 : oP MT mX11_wouldBe 60 (1, 2, 5, 0, []) := o_iload dX11_wouldBe_60
theorem oX11_wouldBe_62 : oP MT mX11_wouldBe 62 (21, 1, 0, 0, []) := o_iret dX11_wouldBe_62 rfl
def ops_X11_wouldBe : List (Nat × aO) := [(0, (1, 1, 1, 0, [])), (1, (25, 3, 103, 1, [])), (4, (10, 3, 0, 17, [])), (7, (1, 1, 3, 0, [])), (8, (0, 1, 0, 0, [])), (9, (0, 2, 0, 20, [])), (11, (25, 3, 37, 3, [])), (14, (10, 3, 1, 19, [])), (17, (0, 1, 0, (-1), [])), (18, (21, 1, 0, 0, [])), (19, (1, 1, 0, 1, [])), (20, (1, 1, 1, 0, [])), (21, (0, 1, 0, 0, [])), (22, (26, 3, 0, 2, [(11, 104)])), (25, (2, 2, 4, 0, [])), (27, (1, 2, 4, 0, [])), (29, (10, 3, 0, 35, [])), (32, (1, 2, 4, 0, [])), (34, (21, 1, 0, 0, [])), (35, (1, 1, 0, 1, [])), (36, (13, 3, 0, 11, [])), (39, (0, 1, 0, 0, [])), (40, (26, 3, 0, 1, [(1, 50)])), (43, (1, 1, 0, 1, [])), (44, (1, 1, 1, 0, [])), (45, (1, 1, 2, 0, [])), (46, (1, 1, 3, 0, [])), (47, (26, 3, 0, 3, [(11, 106)])), (50, (2, 2, 5, 0, [])), (52, (1, 1, 0, 1, [])), (53, (13, 3, 0, 11, [])), (56, (0, 1, 0, 0, [])), (57, (26, 3, 0, 1, [(1, 51)])), (60, (1, 2, 5, 0, [])), (62, (21, 1, 0, 0, []))]
theorem os_X11_wouldBe : oA MT mX11_wouldBe ops_X11_wouldBe := (oA.cons oX11_wouldBe_0 (oA.cons oX11_wouldBe_1 (oA.cons oX11_wouldBe_4 (oA.cons oX11_wouldBe_7 (oA.cons oX11_wouldBe_8 (oA.cons oX11_wouldBe_9 (oA.cons oX11_wouldBe_11 (oA.cons oX11_wouldBe_14 (oA.cons oX11_wouldBe_17 (oA.cons oX11_wouldBe_18 (oA.cons oX11_wouldBe_19 (oA.cons oX11_wouldBe_20 (oA.cons oX11_wouldBe_21 (oA.cons oX11_wouldBe_22 (oA.cons oX11_wouldBe_25 (oA.cons oX11_wouldBe_27 (oA.cons oX11_wouldBe_29 (oA.cons oX11_wouldBe_32 (oA.cons oX11_wouldBe_34 (oA.cons oX11_wouldBe_35 (oA.cons oX11_wouldBe_36 (oA.cons oX11_wouldBe_39 (oA.cons oX11_wouldBe_40 (oA.cons oX11_wouldBe_43 (oA.cons oX11_wouldBe_44 (oA.cons oX11_wouldBe_45 (oA.cons oX11_wouldBe_46 (oA.cons oX11_wouldBe_47 (oA.cons oX11_wouldBe_50 (oA.cons oX11_wouldBe_52 (oA.cons oX11_wouldBe_53 (oA.cons oX11_wouldBe_56 (oA.cons oX11_wouldBe_57 (oA.cons oX11_wouldBe_60 (oA.cons oX11_wouldBe_62 oA.nil)))))))))))))))))))))))))))))))))))
theorem dX11_shelf_0 : decode cX11_shelf 0 = .ok (.iload_n 1, 1) := by decide +kernel
theorem dX11_shelf_1 : decode cX11_shelf 1 = .ok (.invokestatic 319, 3) := by decide +kernel
theorem dX11_shelf_4 : decode cX11_shelf 4 = .ok (.ifCond .eq 12, 3) := by decide +kernel
theorem dX11_shelf_7 : decode cX11_shelf 7 = .ok (.iload_n 2, 1) := by decide +kernel
theorem dX11_shelf_8 : decode cX11_shelf 8 = .ok (.iconst 0, 1) := by decide +kernel
theorem dX11_shelf_9 : decode cX11_shelf 9 = .ok (.iconst 2, 1) := by decide +kernel
theorem dX11_shelf_10 : decode cX11_shelf 10 = .ok (.invokestatic 90, 3) := by decide +kernel
theorem dX11_shelf_13 : decode cX11_shelf 13 = .ok (.ifCond .ne 5, 3) := by decide +kernel
theorem dX11_shelf_16 : decode cX11_shelf 16 = .ok (.iconst (-1), 1) := by decide +kernel
theorem dX11_shelf_17 : decode cX11_shelf 17 = .ok (.ireturn, 1) := by decide +kernel
theorem dX11_shelf_18 : decode cX11_shelf 18 = .ok (.iload_n 2, 1) := by decide +kernel
theorem dX11_shelf_19 : decode cX11_shelf 19 = .ok (.ifCond .ne 14, 3) := by decide +kernel
theorem dX11_shelf_22 : decode cX11_shelf 22 = .ok (.aload_n 0, 1) := by decide +kernel
theorem dX11_shelf_23 : decode cX11_shelf 23 = .ok (.getfield 56, 3) := by decide +kernel
theorem dX11_shelf_26 : decode cX11_shelf 26 = .ok (.iload_n 3, 1) := by decide +kernel
theorem dX11_shelf_27 : decode cX11_shelf 27 = .ok (.invokevirtual 113, 3) := by decide +kernel
theorem dX11_shelf_30 : decode cX11_shelf 30 = .ok (.ifCond .eq 15, 3) := by decide +kernel
theorem dX11_shelf_33 : decode cX11_shelf 33 = .ok (.iload_n 2, 1) := by decide +kernel
theorem dX11_shelf_34 : decode cX11_shelf 34 = .ok (.iconst 1, 1) := by decide +kernel
theorem dX11_shelf_35 : decode cX11_shelf 35 = .ok (.if_icmp .ne 12, 3) := by decide +kernel
theorem dX11_shelf_38 : decode cX11_shelf 38 = .ok (.iload_n 3, 1) := by decide +kernel
theorem dX11_shelf_39 : decode cX11_shelf 39 = .ok (.invokestatic 319, 3) := by decide +kernel
theorem dX11_shelf_42 : decode cX11_shelf 42 = .ok (.ifCond .ne 5, 3) := by decide +kernel
theorem dX11_shelf_45 : decode cX11_shelf 45 = .ok (.iconst (-1), 1) := by decide +kernel
theorem dX11_shelf_46 : decode cX11_shelf 46 = .ok (.ireturn, 1) := by decide +kernel
theorem dX11_shelf_47 : decode cX11_shelf 47 = .ok (.aload_n 0, 1) := by decide +kernel
theorem dX11_shelf_48 : decode cX11_shelf 48 = .ok (.getfield 24, 3) := by decide +kernel
theorem dX11_shelf_51 : decode cX11_shelf 51 = .ok (.iload_n 1, 1) := by decide +kernel
theorem dX11_shelf_52 : decode cX11_shelf 52 = .ok (.iload_n 2, 1) := by decide +kernel
theorem dX11_shelf_53 : decode cX11_shelf 53 = .ok (.iastore, 1) := by decide +kernel
theorem dX11_shelf_54 : decode cX11_shelf 54 = .ok (.aload_n 0, 1) := by decide +kernel
theorem dX11_shelf_55 : decode cX11_shelf 55 = .ok (.getfield 27, 3) := by decide +kernel
theorem dX11_shelf_58 : decode cX11_shelf 58 = .ok (.iload_n 1, 1) := by decide +kernel
theorem dX11_shelf_59 : decode cX11_shelf 59 = .ok (.iload_n 3, 1) := by decide +kernel
theorem dX11_shelf_60 : decode cX11_shelf 60 = .ok (.iastore, 1) := by decide +kernel
theorem dX11_shelf_61 : decode cX11_shelf 61 = .ok (.iload_n 2, 1) := by decide +kernel
theorem dX11_shelf_62 : decode cX11_shelf 62 = .ok (.iconst 1, 1) := by decide +kernel
theorem dX11_shelf_63 : decode cX11_shelf 63 = .ok (.if_icmp .ne 48, 3) := by decide +kernel
theorem dX11_shelf_66 : decode cX11_shelf 66 = .ok (.aload_n 0, 1) := by decide +kernel
theorem dX11_shelf_67 : decode cX11_shelf 67 = .ok (.getfield 24, 3) := by decide +kernel
theorem dX11_shelf_70 : decode cX11_shelf 70 = .ok (.iload_n 1, 1) := by decide +kernel
theorem dX11_shelf_71 : decode cX11_shelf 71 = .ok (.aload_n 0, 1) := by decide +kernel
theorem dX11_shelf_72 : decode cX11_shelf 72 = .ok (.getfield 13, 3) := by decide +kernel
theorem dX11_shelf_75 : decode cX11_shelf 75 = .ok (.iload_n 3, 1) := by decide +kernel
theorem dX11_shelf_76 : decode cX11_shelf 76 = .ok (.iaload, 1) := by decide +kernel
theorem dX11_shelf_77 : decode cX11_shelf 77 = .ok (.iconst (-1), 1) := by decide +kernel
theorem dX11_shelf_78 : decode cX11_shelf 78 = .ok (.if_icmp .ne 7, 3) := by decide +kernel
theorem dX11_shelf_81 : decode cX11_shelf 81 = .ok (.iconst 2, 1) := by decide +kernel
theorem dX11_shelf_82 : decode cX11_shelf 82 = .ok (.goto 4, 3) := by decide +kernel
theorem dX11_shelf_85 : decode cX11_shelf 85 = .ok (.iconst 1, 1) := by decide +kernel
theorem dX11_shelf_86 : decode cX11_shelf 86 = .ok (.iastore, 1) := by decide +kernel
theorem dX11_shelf_87 : decode cX11_shelf 87 = .ok (.aload_n 0, 1) := by decide +kernel
theorem dX11_shelf_88 : decode cX11_shelf 88 = .ok (.getfield 27, 3) := by decide +kernel
theorem dX11_shelf_91 : decode cX11_shelf 91 = .ok (.iload_n 1, 1) := by decide +kernel
theorem dX11_shelf_92 : decode cX11_shelf 92 = .ok (.aload_n 0, 1) := by decide +kernel
theorem dX11_shelf_93 : decode cX11_shelf 93 = .ok (.getfield 13, 3) := by decide +kernel
theorem dX11_shelf_96 : decode cX11_shelf 96 = .ok (.iload_n 3, 1) := by decide +kernel
theorem dX11_shelf_97 : decode cX11_shelf 97 = .ok (.iaload, 1) := by decide +kernel
theorem dX11_shelf_98 : decode cX11_shelf 98 = .ok (.iastore, 1) := by decide +kernel
theorem dX11_shelf_99 : decode cX11_shelf 99 = .ok (.aload_n 0, 1) := by decide +kernel
theorem dX11_shelf_100 : decode cX11_shelf 100 = .ok (.getfield 30, 3) := by decide +kernel
theorem dX11_shelf_103 : decode cX11_shelf 103 = .ok (.iload_n 1, 1) := by decide +kernel
theorem dX11_shelf_104 : decode cX11_shelf 104 = .ok (.aload_n 0, 1) := by decide +kernel
theorem dX11_shelf_105 : decode cX11_shelf 105 = .ok (.getfield 16, 3) := by decide +kernel
theorem dX11_shelf_108 : decode cX11_shelf 108 = .ok (.iload_n 3, 1) := by decide +kernel
theorem dX11_shelf_109 : decode cX11_shelf 109 = .ok (.iaload, 1) := by decide +kernel
theorem dX11_shelf_110 : decode cX11_shelf 110 = .ok (.iastore, 1) := by decide +kernel
theorem dX11_shelf_111 : decode cX11_shelf 111 = .ok (.iconst 1, 1) := by decide +kernel
theorem dX11_shelf_112 : decode cX11_shelf 112 = .ok (.ireturn, 1) := by decide +kernel
theorem oX11_shelf_0 : oP MT mX11_shelf 0 (1, 1, 1, 0, []) := o_iload_n dX11_shelf_0 rfl
theorem oX11_shelf_1 : oP MT mX11_shelf 1 (25, 3, 103, 1, []) := o_callS dX11_shelf_1 (mj := mX11_isPlace) mt_X11_isPlace cmq_X11_isPlace wq_781 wq_783 (by decide) (by decide)
theorem oX11_shelf_4 : oP MT mX11_shelf 4 (10, 3, 0, 16, []) := o_if_eq dX11_shelf_4 (by decide) (by decide)
theorem oX11_shelf_7 : oP MT mX11_shelf 7 (1, 1, 2, 0, []) := o_iload_n dX11_shelf_7 rfl
theorem oX11_shelf_8 : oP MT mX11_shelf 8 (0, 1, 0, 0, []) := o_iconst dX11_shelf_8 (by decide)
theorem oX11_shelf_9 : oP MT mX11_shelf 9 (0, 1, 0, 2, []) := o_iconst dX11_shelf_9 (by decide)
theorem oX11_shelf_10 : oP MT mX11_shelf 10 (25, 3, 37, 3, []) := o_callS dX11_shelf_10 (mj := mX11_isIn) mt_X11_isIn cmq_X11_isIn wq_282 wq_144 (by decide) (by decide)
theorem oX11_shelf_13 : oP MT mX11_shelf 13 (10, 3, 1, 18, []) := o_if_ne dX11_shelf_13 (by decide) (by decide)
theorem oX11_shelf_16 : oP MT mX11_shelf 16 (0, 1, 0, (-1), []) := o_iconst dX11_shelf_16 (by decide)
theorem oX11_shelf_17 : oP MT mX11_shelf 17 (21, 1, 0, 0, []) := o_iret dX11_shelf_17 rfl
theorem oX11_shelf_18 : oP MT mX11_shelf 18 (1, 1, 2, 0, []) := o_iload_n dX11_shelf_18 rfl
theorem oX11_shelf_19 : oP MT mX11_shelf 19 (10, 3, 1, 33, []) := o_if_ne dX11_shelf_19 (by decide) (by decide)
theorem oX11_shelf_22 : oP MT mX11_shelf 22 (1, 1, 0, 1, []) := o_aload_n dX11_shelf_22 rfl
theorem oX11_shelf_23 : oP MT mX11_shelf 23 (13, 3, 0, 11, []) := o_getR (M := mX11_shelf) (C := RX11) (T := TX11) (ci := 11) (j := 0) (z := 11) dX11_shelf_23 rfl lq_RX11_56 rfl rfl
theorem oX11_shelf_26 : oP MT mX11_shelf 26 (1, 1, 3, 0, []) := o_iload_n dX11_shelf_26 rfl
theorem oX11_shelf_27 : oP MT mX11_shelf 27 (26, 3, 0, 1, [(1, 26)]) := o_callO ((vA.cons (v_callV dX11_shelf_27 (ci := 1) rfl rfl (mj := mX1_isKey) mt_X1_isKey cmq_X1_isKey wq_388 wq_120 wq_121 (by decide) (by decide)) vA.nil))
theorem oX11_shelf_30 : oP MT mX11_shelf 30 (10, 3, 0, 45, []) := o_if_eq dX11_shelf_30 (by decide) (by decide)
theorem oX11_shelf_33 : oP MT mX11_shelf 33 (1, 1, 2, 0, []) := o_iload_n dX11_shelf_33 rfl
theorem oX11_shelf_34 : oP MT mX11_shelf 34 (0, 1, 0, 1, []) := o_iconst dX11_shelf_34 (by decide)
theorem oX11_shelf_35 : oP MT mX11_shelf 35 (11, 3, 1, 47, []) := o_icmp_ne dX11_shelf_35 (by decide) (by decide)
theorem oX11_shelf_38 : oP MT mX11_shelf 38 (1, 1, 3, 0, []) := o_iload_n dX11_shelf_38 rfl
theorem oX11_shelf_39 : oP MT mX11_shelf 39 (25, 3, 103, 1, []) := o_callS dX11_shelf_39 (mj := mX11_isPlace) mt_X11_isPlace cmq_X11_isPlace wq_781 wq_783 (by decide) (by decide)
theorem oX11_shelf_42 : oP MT mX11_shelf 42 (10, 3, 1, 47, []) := o_if_ne dX11_shelf_42 (by decide) (by decide)
theorem oX11_shelf_45 : oP MT mX11_shelf 45 (0, 1, 0, (-1), []) := o_iconst dX11_shelf_45 (by decide)
theorem oX11_shelf_46 : oP MT mX11_shelf 46 (21, 1, 0, 0, []) := o_iret dX11_shelf_46 rfl
theorem oX11_shelf_47 : oP MT mX11_shelf 47 (1, 1, 0, 1, []) := o_aload_n dX11_shelf_47 rfl
theorem oX11_shelf_48 : oP MT mX11_shelf 48 (13, 3, 11, 11, []) := o_getR (M := mX11_shelf) (C := RX11) (T := TX11) (ci := 11) (j := 11) (z := 11) dX11_shelf_48 rfl lq_RX11_24 rfl rfl
theorem oX11_shelf_51 : oP MT mX11_shelf 51 (1, 1, 1, 0, []) := o_iload_n dX11_shelf_51 rfl
theorem oX11_shelf_52 : oP MT mX11_shelf 52 (1, 1, 2, 0, []) := o_iload_n dX11_shelf_52 rfl
theorem oX11_shelf_53 : oP MT mX11_shelf 53 (18, 1, 0, 0, []) := o_iastore dX11_shelf_53
theorem oX11_shelf_54 : oP MT mX11_shelf 54 (1, 1, 0, 1, []) := o_aload_n dX11_shelf_54 rfl
theorem oX11_shelf_55 : oP MT mX11_shelf 55 (13, 3, 12, 11, []) := o_getR (M := mX11_shelf) (C := RX11) (T := TX11) (ci := 11) (j := 12) (z := 11) dX11_shelf_55 rfl lq_RX11_27 rfl rfl
theorem oX11_shelf_58 : oP MT mX11_shelf 58 (1, 1, 1, 0, []) := o_iload_n dX11_shelf_58 rfl
theorem oX11_shelf_59 : oP MT mX11_shelf 59 (1, 1, 3, 0, []) := o_iload_n dX11_shelf_59 rfl
theorem oX11_shelf_60 : oP MT mX11_shelf 60 (18, 1, 0, 0, []) := o_iastore dX11_shelf_60
theorem oX11_shelf_61 : oP MT mX11_shelf 61 (1, 1, 2, 0, []) := o_iload_n dX11_shelf_61 rfl
theorem oX11_shelf_62 : oP MT mX11_shelf 62 (0, 1, 0, 1, []) := o_iconst dX11_shelf_62 (by decide)
theorem oX11_shelf_63 : oP MT mX11_shelf 63 (11, 3, 1, 111, []) := o_icmp_ne dX11_shelf_63 (by decide) (by decide)
theorem oX11_shelf_66 : oP MT mX11_shelf 66 (1, 1, 0, 1, []) := o_aload_n dX11_shelf_66 rfl
theorem oX11_shelf_67 : oP MT mX11_shelf 67 (13, 3, 11, 11, []) := o_getR (M := mX11_shelf) (C := RX11) (T := TX11) (ci := 11) (j := 11) (z := 11) dX11_shelf_67 rfl lq_RX11_24 rfl rfl
theorem oX11_shelf_70 : oP MT mX11_shelf 70 (1, 1, 1, 0, []) := o_iload_n dX11_shelf_70 rfl
theorem oX11_shelf_71 : oP MT mX11_shelf 71 (1, 1, 0, 1, []) := o_aload_n dX11_shelf_71 rfl
theorem oX11_shelf_72 : oP MT mX11_shelf 72 (13, 3, 8, 11, []) := o_getR (M := mX11_shelf) (C := RX11) (T := TX11) (ci := 11) (j := 8) (z := 11) dX11_shelf_72 rfl lq_RX11_13 rfl rfl
theorem oX11_shelf_75 : oP MT mX11_shelf 75 (1, 1, 3, 0, []) := o_iload_n dX11_shelf_75 rfl
theorem oX11_shelf_76 : oP MT mX11_shelf 76 (16, 1, 1, 0, []) := o_iaload dX11_shelf_76
theorem oX11_shelf_77 : oP MT mX11_shelf 77 (0, 1, 0, (-1), []) := o_iconst dX11_shelf_77 (by decide)
theorem oX11_shelf_78 : oP MT mX11_shelf 78 (11, 3, 1, 85, []) := o_icmp_ne dX11_shelf_78 (by decide) (by decide)
theorem oX11_shelf_81 : oP MT mX11_shelf 81 (0, 1, 0, 2, []) := o_iconst dX11_shelf_81 (by decide)
theorem oX11_shelf_82 : oP MT mX11_shelf 82 (9, 3, 86, 0, []) := o_goto dX11_shelf_82 (by decide)
theorem oX11_shelf_85 : oP MT mX11_shelf 85 (0, 1, 0, 1, []) := o_iconst dX11_shelf_85 (by decide)
theorem oX11_shelf_86 : oP MT mX11_shelf 86 (18, 1, 0, 0, []) := o_iastore dX11_shelf_86
theorem oX11_shelf_87 : oP MT mX11_shelf 87 (1, 1, 0, 1, []) := o_aload_n dX11_shelf_87 rfl
theorem oX11_shelf_88 : oP MT mX11_shelf 88 (13, 3, 12, 11, []) := o_getR (M := mX11_shelf) (C := RX11) (T := TX11) (ci := 11) (j := 12) (z := 11) dX11_shelf_88 rfl lq_RX11_27 rfl rfl
theorem oX11_shelf_91 : oP MT mX11_shelf 91 (1, 1, 1, 0, []) := o_iload_n dX11_shelf_91 rfl
theorem oX11_shelf_92 : oP MT mX11_shelf 92 (1, 1, 0, 1, []) := o_aload_n dX11_shelf_92 rfl
theorem oX11_shelf_93 : oP MT mX11_shelf 93 (13, 3, 8, 11, []) := o_getR (M := mX11_shelf) (C := RX11) (T := TX11) (ci := 11) (j := 8) (z := 11) dX11_shelf_93 rfl lq_RX11_13 rfl rfl
theorem oX11_shelf_96 : oP MT mX11_shelf 96 (1, 1, 3, 0, []) := o_iload_n dX11_shelf_96 rfl
theorem oX11_shelf_97 : oP MT mX11_shelf 97 (16, 1, 1, 0, []) := o_iaload dX11_shelf_97
theorem oX11_shelf_98 : oP MT mX11_shelf 98 (18, 1, 0, 0, []) := o_iastore dX11_shelf_98
theorem oX11_shelf_99 : oP MT mX11_shelf 99 (1, 1, 0, 1, []) := o_aload_n dX11_shelf_99 rfl
theorem oX11_shelf_100 : oP MT mX11_shelf 100 (13, 3, 13, 11, []) := o_getR (M := mX11_shelf) (C := RX11) (T := TX11) (ci := 11) (j := 13) (z := 11) dX11_shelf_100 rfl lq_RX11_30 rfl rfl
theorem oX11_shelf_103 : oP MT mX11_shelf 103 (1, 1, 1, 0, []) := o_iload_n dX11_shelf_103 rfl
theorem oX11_shelf_104 : oP MT mX11_shelf 104 (1, 1, 0, 1, []) := o_aload_n dX11_shelf_104 rfl
theorem oX11_shelf_105 : oP MT mX11_shelf 105 (13, 3, 9, 11, []) := o_getR (M := mX11_shelf) (C := RX11) (T := TX11) (ci := 11) (j := 9) (z := 11) dX11_shelf_105 rfl lq_RX11_16 rfl rfl
theorem oX11_shelf_108 : oP MT mX11_shelf 108 (1, 1, 3, 0, []) := o_iload_n dX11_shelf_108 rfl
theorem oX11_shelf_109 : oP MT mX11_shelf 109 (16, 1, 1, 0, []) := o_iaload dX11_shelf_109
theorem oX11_shelf_110 : oP MT mX11_shelf 110 (18, 1, 0, 0, []) := o_iastore dX11_shelf_110
theorem oX11_shelf_111 : oP MT mX11_shelf 111 (0, 1, 0, 1, []) := o_iconst dX11_shelf_111 (by decide)
theorem oX11_shelf_112 : oP MT mX11_shelf 112 (21, 1, 0, 0, []) := o_iret dX11_shelf_112 rfl
def ops_X11_shelf : List (Nat × aO) := [(0, (1, 1, 1, 0, [])), (1, (25, 3, 103, 1, [])), (4, (10, 3, 0, 16, [])), (7, (1, 1, 2, 0, [])), (8, (0, 1, 0, 0, [])), (9, (0, 1, 0, 2, [])), (10, (25, 3, 37, 3, [])), (13, (10, 3, 1, 18, [])), (16, (0, 1, 0, (-1), [])), (17, (21, 1, 0, 0, [])), (18, (1, 1, 2, 0, [])), (19, (10, 3, 1, 33, [])), (22, (1, 1, 0, 1, [])), (23, (13, 3, 0, 11, [])), (26, (1, 1, 3, 0, [])), (27, (26, 3, 0, 1, [(1, 26)])), (30, (10, 3, 0, 45, [])), (33, (1, 1, 2, 0, [])), (34, (0, 1, 0, 1, [])), (35, (11, 3, 1, 47, [])), (38, (1, 1, 3, 0, [])), (39, (25, 3, 103, 1, [])), (42, (10, 3, 1, 47, [])), (45, (0, 1, 0, (-1), [])), (46, (21, 1, 0, 0, [])), (47, (1, 1, 0, 1, [])), (48, (13, 3, 11, 11, [])), (51, (1, 1, 1, 0, [])), (52, (1, 1, 2, 0, [])), (53, (18, 1, 0, 0, [])), (54, (1, 1, 0, 1, [])), (55, (13, 3, 12, 11, [])), (58, (1, 1, 1, 0, [])), (59, (1, 1, 3, 0, [])), (60, (18, 1, 0, 0, [])), (61, (1, 1, 2, 0, [])), (62, (0, 1, 0, 1, [])), (63, (11, 3, 1, 111, [])), (66, (1, 1, 0, 1, [])), (67, (13, 3, 11, 11, [])), (70, (1, 1, 1, 0, [])), (71, (1, 1, 0, 1, [])), (72, (13, 3, 8, 11, [])), (75, (1, 1, 3, 0, [])), (76, (16, 1, 1, 0, [])), (77, (0, 1, 0, (-1), [])), (78, (11, 3, 1, 85, [])), (81, (0, 1, 0, 2, [])), (82, (9, 3, 86, 0, [])), (85, (0, 1, 0, 1, [])), (86, (18, 1, 0, 0, [])), (87, (1, 1, 0, 1, [])), (88, (13, 3, 12, 11, [])), (91, (1, 1, 1, 0, [])), (92, (1, 1, 0, 1, [])), (93, (13, 3, 8, 11, [])), (96, (1, 1, 3, 0, [])), (97, (16, 1, 1, 0, [])), (98, (18, 1, 0, 0, [])), (99, (1, 1, 0, 1, [])), (100, (13, 3, 13, 11, [])), (103, (1, 1, 1, 0, [])), (104, (1, 1, 0, 1, [])), (105, (13, 3, 9, 11, [])), (108, (1, 1, 3, 0, [])), (109, (16, 1, 1, 0, [])), (110, (18, 1, 0, 0, [])), (111, (0, 1, 0, 1, [])), (112, (21, 1, 0, 0, []))]
theorem os_X11_shelf : oA MT mX11_shelf ops_X11_shelf := (oA.cons oX11_shelf_0 (oA.cons oX11_shelf_1 (oA.cons oX11_shelf_4 (oA.cons oX11_shelf_7 (oA.cons oX11_shelf_8 (oA.cons oX11_shelf_9 (oA.cons oX11_shelf_10 (oA.cons oX11_shelf_13 (oA.cons oX11_shelf_16 (oA.cons oX11_shelf_17 (oA.cons oX11_shelf_18 (oA.cons oX11_shelf_19 (oA.cons oX11_shelf_22 (oA.cons oX11_shelf_23 (oA.cons oX11_shelf_26 (oA.cons oX11_shelf_27 (oA.cons oX11_shelf_30 (oA.cons oX11_shelf_33 (oA.cons oX11_shelf_34 (oA.cons oX11_shelf_35 (oA.cons oX11_shelf_38 (oA.cons oX11_shelf_39 (oA.cons oX11_shelf_42 (oA.cons oX11_shelf_45 (oA.cons oX11_shelf_46 (oA.cons oX11_shelf_47 (oA.cons oX11_shelf_48 (oA.cons oX11_shelf_51 (oA.cons oX11_shelf_52 (oA.cons oX11_shelf_53 (oA.cons oX11_shelf_54 (oA.cons oX11_shelf_55 (oA.cons oX11_shelf_58 (oA.cons oX11_shelf_59 (oA.cons oX11_shelf_60 (oA.cons oX11_shelf_61 (oA.cons oX11_shelf_62 (oA.cons oX11_shelf_63 (oA.cons oX11_shelf_66 (oA.cons oX11_shelf_67 (oA.cons oX11_shelf_70 (oA.cons oX11_shelf_71 (oA.cons oX11_shelf_72 (oA.cons oX11_shelf_75 (oA.cons oX11_shelf_76 (oA.cons oX11_shelf_77 (oA.cons oX11_shelf_78 (oA.cons oX11_shelf_81 (oA.cons oX11_shelf_82 (oA.cons oX11_shelf_85 (oA.cons oX11_shelf_86 (oA.cons oX11_shelf_87 (oA.cons oX11_shelf_88 (oA.cons oX11_shelf_91 (oA.cons oX11_shelf_92 (oA.cons oX11_shelf_93 (oA.cons oX11_shelf_96 (oA.cons oX11_shelf_97 (oA.cons oX11_shelf_98 (oA.cons oX11_shelf_99 (oA.cons oX11_shelf_100 (oA.cons oX11_shelf_103 (oA.cons oX11_shelf_104 (oA.cons oX11_shelf_105 (oA.cons oX11_shelf_108 (oA.cons oX11_shelf_109 (oA.cons oX11_shelf_110 (oA.cons oX11_shelf_111 (oA.cons oX11_shelf_112 oA.nil)))))))))))))))))))))))))))))))))))))))))))))))))))))))))))))))))))))
