theorem dX11_taken_0 : decode cX11_taken 0 = .ok (.iload_n 2, 1) := by decide +kernel
theorem dX11_taken_1 : decode cX11_taken 1 = .ok (.iconst 0, 1) := by decide +kernel
theorem dX11_taken_2 : decode cX11_taken 2 = .ok (.iconst 5, 1) := by decide +kernel
theorem dX11_taken_3 : decode cX11_taken 3 = .ok (.invokestatic 90, 3) := by decide +kernel
theorem dX11_taken_6 : decode cX11_taken 6 = .ok (.istore_n 3, 1) := by decide +kernel
theorem dX11_taken_7 : decode cX11_taken 7 = .ok (.iload_n 1, 1) := by decide +kernel
theorem dX11_taken_8 : decode cX11_taken 8 = .ok (.invokestatic 319, 3) := by decide +kernel
theorem dX11_taken_11 : decode cX11_taken 11 = .ok (.ifCond .eq 18, 3) := by decide +kernel
theorem dX11_taken_14 : decode cX11_taken 14 = .ok (.iload_n 3, 1) := by decide +kernel
theorem dX11_taken_15 : decode cX11_taken 15 = .ok (.ifCond .ne 16, 3) := by decide +kernel
theorem dX11_taken_18 : decode cX11_taken 18 = .ok (.iload_n 2, 1) := by decide +kernel
theorem dX11_taken_19 : decode cX11_taken 19 = .ok (.bipush 10, 2) := by decide +kernel
theorem dX11_taken_21 : decode cX11_taken 21 = .ok (.bipush 14, 2) := by decide +kernel
theorem dX11_taken_23 : decode cX11_taken 23 = .ok (.invokestatic 90, 3) := by decide +kernel
theorem dX11_taken_26 : decode cX11_taken 26 = .ok (.ifCond .ne 5, 3) := by decide +kernel
theorem dX11_taken_29 : decode cX11_taken 29 = .ok (.iconst (-1), 1) := by decide +kernel
theorem dX11_taken_30 : decode cX11_taken 30 = .ok (.ireturn, 1) := by decide +kernel
theorem dX11_taken_31 : decode cX11_taken 31 = .ok (.aload_n 0, 1) := by decide +kernel
theorem dX11_taken_32 : decode cX11_taken 32 = .ok (.getfield 27, 3) := by decide +kernel
theorem dX11_taken_35 : decode cX11_taken 35 = .ok (.iload_n 1, 1) := by decide +kernel
theorem dX11_taken_36 : decode cX11_taken 36 = .ok (.iaload, 1) := by decide +kernel
theorem dX11_taken_37 : decode cX11_taken 37 = .ok (.istore 4, 2) := by decide +kernel
theorem dX11_taken_39 : decode cX11_taken 39 = .ok (.aload_n 0, 1) := by decide +kernel
theorem dX11_taken_40 : decode cX11_taken 40 = .ok (.iload_n 1, 1) := by decide +kernel
theorem dX11_taken_41 : decode cX11_taken 41 = .ok (.invokevirtual 334, 3) := by decide +kernel
theorem dX11_taken_44 : decode cX11_taken 44 = .ok (.ifCond .eq 32, 3) := by decide +kernel
theorem dX11_taken_47 : decode cX11_taken 47 = .ok (.iload_n 3, 1) := by decide +kernel
theorem dX11_taken_48 : decode cX11_taken 48 = .ok (.ifCond .eq 25, 3) := by decide +kernel
theorem dX11_taken_51 : decode cX11_taken 51 = .ok (.aload_n 0, 1) := by decide +kernel
theorem dX11_taken_52 : decode cX11_taken 52 = .ok (.getfield 56, 3) := by decide +kernel
theorem dX11_taken_55 : decode cX11_taken 55 = .ok (.getfield 101, 3) := by decide +kernel
theorem dX11_taken_58 : decode cX11_taken 58 = .ok (.iload 4, 2) := by decide +kernel
theorem dX11_taken_60 : decode cX11_taken 60 = .ok (.iaload, 1) := by decide +kernel
theorem dX11_taken_61 : decode cX11_taken 61 = .ok (.iload_n 2, 1) := by decide +kernel
theorem dX11_taken_62 : decode cX11_taken 62 = .ok (.invokestatic 337, 3) := by decide +kernel
theorem dX11_taken_65 : decode cX11_taken 65 = .ok (.ifCond .eq 8, 3) := by decide +kernel
theorem dX11_taken_68 : decode cX11_taken 68 = .ok (.iload 4, 2) := by decide +kernel
theorem dX11_taken_70 : decode cX11_taken 70 = .ok (.goto 5, 3) := by decide +kernel
theorem dX11_taken_73 : decode cX11_taken 73 = .ok (.bipush (-13), 2) := by decide +kernel
theorem dX11_taken_75 : decode cX11_taken 75 = .ok (.ireturn, 1) := by decide +kernel
theorem dX11_taken_76 : decode cX11_taken 76 = .ok (.aload_n 0, 1) := by decide +kernel
theorem dX11_taken_77 : decode cX11_taken 77 = .ok (.getfield 24, 3) := by decide +kernel
theorem dX11_taken_80 : decode cX11_taken 80 = .ok (.iload_n 1, 1) := by decide +kernel
theorem dX11_taken_81 : decode cX11_taken 81 = .ok (.iaload, 1) := by decide +kernel
theorem dX11_taken_82 : decode cX11_taken 82 = .ok (.iconst 1, 1) := by decide +kernel
theorem dX11_taken_83 : decode cX11_taken 83 = .ok (.if_icmp .ne 24, 3) := by decide +kernel
theorem dX11_taken_86 : decode cX11_taken 86 = .ok (.iload_n 2, 1) := by decide +kernel
theorem dX11_taken_87 : decode cX11_taken 87 = .ok (.bipush 10, 2) := by decide +kernel
theorem dX11_taken_89 : decode cX11_taken 89 = .ok (.iload 4, 2) := by decide +kernel
theorem dX11_taken_91 : decode cX11_taken 91 = .ok (.iadd, 1) := by decide +kernel
theorem dX11_taken_92 : decode cX11_taken 92 = .ok (.if_icmp .ne 12, 3) := by decide +kernel
theorem dX11_taken_95 : decode cX11_taken 95 = .ok (.aload_n 0, 1) := by decide +kernel
theorem dX11_taken_96 : decode cX11_taken 96 = .ok (.getfield 30, 3) := by decide +kernel
theorem dX11_taken_99 : decode cX11_taken 99 = .ok (.iload_n 1, 1) := by decide +kernel
theorem dX11_taken_100 : decode cX11_taken 100 = .ok (.iaload, 1) := by decide +kernel
theorem dX11_taken_101 : decode cX11_taken 101 = .ok (.goto 5, 3) := by decide +kernel
theorem dX11_taken_104 : decode cX11_taken 104 = .ok (.bipush (-13), 2) := by decide +kernel
theorem dX11_taken_106 : decode cX11_taken 106 = .ok (.ireturn, 1) := by decide +kernel
theorem dX11_taken_107 : decode cX11_taken 107 = .ok (.bipush (-11), 2) := by decide +kernel
theorem dX11_taken_109 : decode cX11_taken 109 = .ok (.ireturn, 1) := by decide +kernel
theorem oX11_taken_0 : oP MT mX11_taken 0 (1, 1, 2, 0, []) := o_iload_n dX11_taken_0 rfl
theorem oX11_taken_1 : oP MT mX11_taken 1 (0, 1, 0, 0, []) := o_iconst dX11_taken_1 (by decide)
theorem oX11_taken_2 : oP MT mX11_taken 2 (0, 1, 0, 5, []) := o_iconst dX11_taken_2 (by decide)
theorem oX11_taken_3 : oP MT mX11_taken 3 (25, 3, 37, 3, []) := o_callS dX11_taken_3 (mj := mX11_isIn) mt_X11_isIn cmq_X11_isIn wq_282 wq_144 (by decide) (by decide)
theorem oX11_taken_6 : oP MT mX11_taken 6 (2, 1, 3, 0, []) := o_istore_n dX11_taken_6 rfl (by decide)
theorem oX11_taken_7 : oP MT mX11_taken 7 (1, 1, 1, 0, []) := o_iload_n dX11_taken_7 rfl
theorem oX11_taken_8 : oP MT mX11_taken 8 (25, 3, 103, 1, []) := o_callS dX11_taken_8 (mj := mX11_isPlace) mt_X11_isPlace cmq_X11_isPlace wq_781 wq_783 (by decide) (by decide)
theorem oX11_taken_11 : oP MT mX11_taken 11 (10, 3, 0, 29, []) := o_if_eq dX11_taken_11 (by decide) (by decide)
theorem oX11_taken_14 : oP MT mX11_taken 14 (1, 1, 3, 0, []) := o_iload_n dX11_taken_14 rfl
theorem oX11_taken_15 : oP MT mX11_taken 15 (10, 3, 1, 31, []) := o_if_ne dX11_taken_15 (by decide) (by decide)
theorem oX11_taken_18 : oP MT mX11_taken 18 (1, 1, 2, 0, []) := o_iload_n dX11_taken_18 rfl
theorem oX11_taken_19 : oP MT mX11_taken 19 (0, 2, 0, 10, []) := o_bipush dX11_taken_19 (by decide)
theorem oX11_taken_21 : oP MT mX11_taken 21 (0, 2, 0, 14, []) := o_bipush dX11_taken_21 (by decide)
theorem oX11_taken_23 : oP MT mX11_taken 23 (25, 3, 37, 3, []) := o_callS dX11_taken_23 (mj := mX11_isIn) mt_X11_isIn cmq_X11_isIn wq_282 wq_144 (by decide) (by decide)
theorem oX11_taken_26 : oP MT mX11_taken 26 (10, 3, 1, 31, []) := o_if_ne dX11_taken_26 (by decide) (by decide)
theorem oX11_taken_29 : oP MT mX11_taken 29 (0, 1, 0, (-1), []) := o_iconst dX11_taken_29 (by decide)
theorem oX11_taken_30 : oP MT mX11_taken 30 (21, 1, 0, 0, []) := o_iret dX11_taken_30 rfl
theorem oX11_taken_31 : oP MT mX11_taken 31 (1, 1, 0, 1, []) := o_aload_n dX11_taken_31 rfl
theorem oX11_taken_32 : oP MT mX11_taken 32 (13, 3, 12, 11, []) := o_getR (M := mX11_taken) (C := RX11) (T := TX11) (ci := 11) (j := 12) (z := 11) dX11_taken_32 rfl lq_RX11_27 rfl rfl
theorem oX11_taken_35 : oP MT mX11_taken 35 (1, 1, 1, 0, []) := o_iload_n dX11_taken_35 rfl
theorem oX11_taken_36 : oP MT mX11_taken 36 (16, 1, 1, 0, []) := o_iaload dX11_taken_36
theorem oX11_taken_37 : oP MT mX11_taken 37 (2, 2, 4, 0, []) := o_istore dX11_taken_37 (by decide)
theorem oX11_taken_39 : oP MT mX11_taken 39 (1, 1, 0, 1, []) := o_aload_n dX11_taken_39 rfl
theorem oX11_taken_40 : oP MT mX11_taken 40 (1, 1, 1, 0, []) := o_iload_n dX11_taken_40 rfl
theorem oX11_taken_41 : oP MT mX11_taken 41 (26, 3, 0, 1, [(11, 107)]) := o_callO ((vA.cons (v_callV dX11_taken_41 (ci := 11) rfl rfl (mj := mX11_holdsKey) mt_X11_holdsKey cmq_X11_holdsKey wq_809 wq_811 wq_812 (by decide) (by decide)) vA.nil))
theorem oX11_taken_44 : oP MT mX11_taken 44 (10, 3, 0, 76, []) := o_if_eq dX11_taken_44 (by decide) (by decide)
theorem oX11_taken_47 : oP MT mX11_taken 47 (1, 1, 3, 0, []) := o_iload_n dX11_taken_47 rfl
theorem oX11_taken_48 : oP MT mX11_taken 48 (10, 3, 0, 73, []) := o_if_eq dX11_taken_48 (by decide) (by decide)
theorem oX11_taken_51 : oP MT mX11_taken 51 (1, 1, 0, 1, []) := o_aload_n dX11_taken_51 rfl
theorem oX11_taken_52 : oP MT mX11_taken 52 (13, 3, 0, 11, []) := o_getR (M := mX11_taken) (C := RX11) (T := TX11) (ci := 11) (j := 0) (z := 11) dX11_taken_52 rfl lq_RX11_56 rfl rfl
theorem oX11_taken_55 : oP MT mX11_taken 55 (13, 3, 10, 1, []) := o_getR (M := mX11_taken) (C := RX1) (T := TX1) (ci := 1) (j := 10) (z := 1) dX11_taken_55 rfl lq_RX11_101 rfl rfl
theorem oX11_taken_58 : oP MT mX11_taken 58 (1, 2, 4, 0, []) := o_iload dX11_taken_58
theorem oX11_taken_60 : oP MT mX11_taken 60 (16, 1, 1, 0, []) := o_iaload dX11_taken_60
theorem oX11_taken_61 : oP MT mX11_taken 61 (1, 1, 2, 0, []) := o_iload_n dX11_taken_61 rfl
theorem oX11_taken_62 : oP MT mX11_taken 62 (25, 3, 20, 2, []) := o_callS dX11_taken_62 (mj := mX11_isOf) mt_X11_isOf cmq_X11_isOf wq_813 wq_71 (by decide) (by decide)
theorem oX11_taken_65 : oP MT mX11_taken 65 (10, 3, 0, 73, []) := o_if_eq dX11_taken_65 (by decide) (by decide)
theorem oX11_taken_68 : oP MT mX11_taken 68 (1, 2, 4, 0, []) := o_iload dX11_taken_68
theorem oX11_taken_70 : oP MT mX11_taken 70 (9, 3, 75, 0, []) := o_goto dX11_taken_70 (by decide)
theorem oX11_taken_73 : oP MT mX11_taken 73 (0, 2, 0, (-13), []) := o_bipush dX11_taken_73 (by decide)
theorem oX11_taken_75 : oP MT mX11_taken 75 (21, 1, 0, 0, []) := o_iret dX11_taken_75 rfl
theorem oX11_taken_76 : oP MT mX11_taken 76 (1, 1, 0, 1, []) := o_aload_n dX11_taken_76 rfl
theorem oX11_taken_77 : oP MT mX11_taken 77 (13, 3, 11, 11, []) := o_getR (M := mX11_taken) (C := RX11) (T := TX11) (ci := 11) (j := 11) (z := 11) dX11_taken_77 rfl lq_RX11_24 rfl rfl
theorem oX11_taken_80 : oP MT mX11_taken 80 (1, 1, 1, 0, []) := o_iload_n dX11_taken_80 rfl
theorem oX11_taken_81 : oP MT mX11_taken 81 (16, 1, 1, 0, []) := o_iaload dX11_taken_81
theorem oX11_taken_82 : oP MT mX11_taken 82 (0, 1, 0, 1, []) := o_iconst dX11_taken_82 (by decide)
theorem oX11_taken_83 : oP MT mX11_taken 83 (11, 3, 1, 107, []) := o_icmp_ne dX11_taken_83 (by decide) (by decide)
theorem oX11_taken_86 : oP MT mX11_taken 86 (1, 1, 2, 0, []) := o_iload_n dX11_taken_86 rfl
theorem oX11_taken_87 : oP MT mX11_taken 87 (0, 2, 0, 10, []) := o_bipush dX11_taken_87 (by decide)
theorem oX11_taken_89 : oP MT mX11_taken 89 (1, 2, 4, 0, []) := o_iload dX11_taken_89
theorem oX11_taken_91 : oP MT mX11_taken 91 (4, 1, 0, 0, []) := o_iadd dX11_taken_91
theorem oX11_taken_92 : oP MT mX11_taken 92 (11, 3, 1, 104, []) := o_icmp_ne dX11_taken_92 (by decide) (by decide)
theorem oX11_taken_95 : oP MT mX11_taken 95 (1, 1, 0, 1, []) := o_aload_n dX11_taken_95 rfl
theorem oX11_taken_96 : oP MT mX11_taken 96 (13, 3, 13, 11, []) := o_getR (M := mX11_taken) (C := RX11) (T := TX11) (ci := 11) (j := 13) (z := 11) dX11_taken_96 rfl lq_RX11_30 rfl rfl
theorem oX11_taken_99 : oP MT mX11_taken 99 (1, 1, 1, 0, []) := o_iload_n dX11_taken_99 rfl
theorem oX11_taken_100 : oP MT mX11_taken 100 (16, 1, 1, 0, []) := o_iaload dX11_taken_100
theorem oX11_taken_101 : oP MT mX11_taken 101 (9, 3, 106, 0, []) := o_goto dX11_taken_101 (by decide)
theorem oX11_taken_104 : oP MT mX11_taken 104 (0, 2, 0, (-13), []) := o_bipush dX11_taken_104 (by decide)
theorem oX11_taken_106 : oP MT mX11_taken 106 (21, 1, 0, 0, []) := o_iret dX11_taken_106 rfl
theorem oX11_taken_107 : oP MT mX11_taken 107 (0, 2, 0, (-11), []) := o_bipush dX11_taken_107 (by decide)
theorem oX11_taken_109 : oP MT mX11_taken 109 (21, 1, 0, 0, []) := o_iret dX11_taken_109 rfl
def ops_X11_taken : List (Nat × aO) := [(0, (1, 1, 2, 0, [])), (1, (0, 1, 0, 0, [])), (2, (0, 1, 0, 5, [])), (3, (25, 3, 37, 3, [])), (6, (2, 1, 3, 0, [])), (7, (1, 1, 1, 0, [])), (8, (25, 3, 103, 1, [])), (11, (10, 3, 0, 29, [])), (14, (1, 1, 3, 0, [])), (15, (10, 3, 1, 31, [])), (18, (1, 1, 2, 0, [])), (19, (0, 2, 0, 10, [])), (21, (0, 2, 0, 14, [])), (23, (25, 3, 37, 3, [])), (26, (10, 3, 1, 31, [])), (29, (0, 1, 0, (-1), [])), (30, (21, 1, 0, 0, [])), (31, (1, 1, 0, 1, [])), (32, (13, 3, 12, 11, [])), (35, (1, 1, 1, 0, [])), (36, (16, 1, 1, 0, [])), (37, (2, 2, 4, 0, [])), (39, (1, 1, 0, 1, [])), (40, (1, 1, 1, 0, [])), (41, (26, 3, 0, 1, [(11, 107)])), (44, (10, 3, 0, 76, [])), (47, (1, 1, 3, 0, [])), (48, (10, 3, 0, 73, [])), (51, (1, 1, 0, 1, [])), (52, (13, 3, 0, 11, [])), (55, (13, 3, 10, 1, [])), (58, (1, 2, 4, 0, [])), (60, (16, 1, 1, 0, [])), (61, (1, 1, 2, 0, [])), (62, (25, 3, 20, 2, [])), (65, (10, 3, 0, 73, [])), (68, (1, 2, 4, 0, [])), (70, (9, 3, 75, 0, [])), (73, (0, 2, 0, (-13), [])), (75, (21, 1, 0, 0, [])), (76, (1, 1, 0, 1, [])), (77, (13, 3, 11, 11, [])), (80, (1, 1, 1, 0, [])), (81, (16, 1, 1, 0, [])), (82, (0, 1, 0, 1, [])), (83, (11, 3, 1, 107, [])), (86, (1, 1, 2, 0, [])), (87, (0, 2, 0, 10, [])), (89, (1, 2, 4, 0, [])), (91, (4, 1, 0, 0, [])), (92, (11, 3, 1, 104, [])), (95, (1, 1, 0, 1, [])), (96, (13, 3, 13, 11, [])), (99, (1, 1, 1, 0, [])), (100, (16, 1, 1, 0, [])), (101, (9, 3, 106, 0, [])), (104, (0, 2, 0, (-13), [])), (106, (21, 1, 0, 0, [])), (107, (0, 2, 0, (-11), [])), (109, (21, 1, 0, 0, []))]
theorem os_X11_taken : oA MT mX11_taken ops_X11_taken := (oA.cons oX11_taken_0 (oA.cons oX11_taken_1 (oA.cons oX11_taken_2 (oA.cons oX11_taken_3 (oA.cons oX11_taken_6 (oA.cons oX11_taken_7 (oA.cons oX11_taken_8 (oA.cons oX11_taken_11 (oA.cons oX11_taken_14 (oA.cons oX11_taken_15 (oA.cons oX11_taken_18 (oA.cons oX11_taken_19 (oA.cons oX11_taken_21 (oA.cons oX11_taken_23 (oA.cons oX11_taken_26 (oA.cons oX11_taken_29 (oA.cons oX11_taken_30 (oA.cons oX11_taken_31 (oA.cons oX11_taken_32 (oA.cons oX11_taken_35 (oA.cons oX11_taken_36 (oA.cons oX11_taken_37 (oA.cons oX11_taken_39 (oA.cons oX11_taken_40 (oA.cons oX11_taken_41 (oA.cons oX11_taken_44 (oA.cons oX11_taken_47 (oA.cons oX11_taken_48 (oA.cons oX11_taken_51 (oA.cons oX11_taken_52 (oA.cons oX11_taken_55 (oA.cons oX11_taken_58 (oA.cons oX11_taken_60 (oA.cons oX11_taken_61 (oA.cons oX11_taken_62 (oA.cons oX11_taken_65 (oA.cons oX11_taken_68 (oA.cons oX11_taken_70 (oA.cons oX11_taken_73 (oA.cons oX11_taken_75 (oA.cons oX11_taken_76 (oA.cons oX11_taken_77 (oA.cons oX11_taken_80 (oA.cons oX11_taken_81 (oA.cons oX11_taken_82 (oA.cons oX11_taken_83 (oA.cons oX11_taken_86 (oA.cons oX11_taken_87 (oA.cons oX11_taken_89 (oA.cons oX11_taken_91 (oA.cons oX11_taken_92 (oA.cons oX11_taken_95 (oA.cons oX11_taken_96 (oA.cons oX11_taken_99 (oA.cons oX11_taken_100 (oA.cons oX11_taken_101 (oA.cons oX11_taken_104 (oA.cons oX11_taken_106 (oA.cons oX11_taken_107 (oA.cons oX11_taken_109 oA.nil))))))))))))))))))))))))))))))))))))))))))))))))))))))))))))
theorem dX11_act_0 : decode cX11_act 0 = .ok (.iload_n 1, 1) := by decide +kernel
theorem dX11_act_1 : decode cX11_act 1 = .ok (.invokestatic 319, 3) := by decide +kernel
theorem dX11_act_4 : decode cX11_act 4 = .ok (.ifCond .eq 20, 3) := by decide +kernel
theorem dX11_act_7 : decode cX11_act 7 = .ok (.iload_n 2, 1) := by decide +kernel
theorem dX11_act_8 : decode cX11_act 8 = .ok (.iconst 0, 1) := by decide +kernel
theorem dX11_act_9 : decode cX11_act 9 = .ok (.iconst 3, 1) := by decide +kernel
theorem dX11_act_10 : decode cX11_act 10 = .ok (.invokestatic 90, 3) := by decide +kernel
theorem dX11_act_13 : decode cX11_act 13 = .ok (.ifCond .eq 11, 3) := by decide +kernel
theorem dX11_act_16 : decode cX11_act 16 = .ok (.aload_n 0, 1) := by decide +kernel
theorem dX11_act_17 : decode cX11_act 17 = .ok (.iload_n 1, 1) := by decide +kernel
theorem dX11_act_18 : decode cX11_act 18 = .ok (.invokevirtual 334, 3) := by decide +kernel
theorem dX11_act_21 : decode cX11_act 21 = .ok (.ifCond .ne 13, 3) := by decide +kernel
theorem dX11_act_24 : decode cX11_act 24 = .ok (.aload_n 0, 1) := by decide +kernel
theorem dX11_act_25 : decode cX11_act 25 = .ok (.getfield 82, 3) := by decide +kernel
theorem dX11_act_28 : decode cX11_act 28 = .ok (.iconst 0, 1) := by decide +kernel
theorem dX11_act_29 : decode cX11_act 29 = .ok (.putfield 340, 3) := by decide +kernel
theorem dX11_act_32 : decode cX11_act 32 = .ok (.iconst 0, 1) := by decide +kernel
theorem dX11_act_33 : decode cX11_act 33 = .ok (.ireturn, 1) := by decide +kernel
theorem dX11_act_34 : decode cX11_act 34 = .ok (.aload_n 0, 1) := by decide +kernel
theorem dX11_act_35 : decode cX11_act 35 = .ok (.getfield 27, 3) := by decide +kernel
theorem dX11_act_38 : decode cX11_act 38 = .ok (.iload_n 1, 1) := by decide +kernel
theorem dX11_act_39 : decode cX11_act 39 = .ok (.iaload, 1) := by decide +kernel
theorem dX11_act_40 : decode cX11_act 40 = .ok (.istore 4, 2) := by decide +kernel
theorem dX11_act_42 : decode cX11_act 42 = .ok (.aload_n 0, 1) := by decide +kernel
theorem dX11_act_43 : decode cX11_act 43 = .ok (.getfield 56, 3) := by decide +kernel
theorem dX11_act_46 : decode cX11_act 46 = .ok (.getfield 341, 3) := by decide +kernel
theorem dX11_act_49 : decode cX11_act 49 = .ok (.aload_n 0, 1) := by decide +kernel
theorem dX11_act_50 : decode cX11_act 50 = .ok (.getfield 56, 3) := by decide +kernel
theorem dX11_act_53 : decode cX11_act 53 = .ok (.getfield 101, 3) := by decide +kernel
theorem dX11_act_56 : decode cX11_act 56 = .ok (.iload 4, 2) := by decide +kernel
theorem dX11_act_58 : decode cX11_act 58 = .ok (.iaload, 1) := by decide +kernel
theorem dX11_act_59 : decode cX11_act 59 = .ok (.aaload, 1) := by decide +kernel
theorem dX11_act_60 : decode cX11_act 60 = .ok (.astore 5, 2) := by decide +kernel
theorem dX11_act_62 : decode cX11_act 62 = .ok (.aload_n 0, 1) := by decide +kernel
theorem dX11_act_63 : decode cX11_act 63 = .ok (.getfield 82, 3) := by decide +kernel
theorem dX11_act_66 : decode cX11_act 66 = .ok (.iload 4, 2) := by decide +kernel
theorem dX11_act_68 : decode cX11_act 68 = .ok (.aload_n 0, 1) := by decide +kernel
theorem dX11_act_69 : decode cX11_act 69 = .ok (.getfield 56, 3) := by decide +kernel
theorem dX11_act_72 : decode cX11_act 72 = .ok (.getfield 110, 3) := by decide +kernel
theorem dX11_act_75 : decode cX11_act 75 = .ok (.iload 4, 2) := by decide +kernel
theorem dX11_act_77 : decode cX11_act 77 = .ok (.iaload, 1) := by decide +kernel
theorem dX11_act_78 : decode cX11_act 78 = .ok (.invokevirtual 345, 3) := by decide +kernel
theorem dX11_act_81 : decode cX11_act 81 = .ok (.iload_n 2, 1) := by decide +kernel
theorem dX11_act_82 : decode cX11_act 82 = .ok (.tableswitch 71 0 2 #[26, 41, 56], 26) := by decide +kernel
theorem dX11_act_108 : decode cX11_act 108 = .ok (.aload 5, 2) := by decide +kernel
theorem dX11_act_110 : decode cX11_act 110 = .ok (.iload_n 3, 1) := by decide +kernel
theorem dX11_act_111 : decode cX11_act 111 = .ok (.aload_n 0, 1) := by decide +kernel
theorem dX11_act_112 : decode cX11_act 112 = .ok (.getfield 82, 3) := by decide +kernel
theorem dX11_act_115 : decode cX11_act 115 = .ok (.invokevirtual 348, 3) := by decide +kernel
theorem dX11_act_118 : decode cX11_act 118 = .ok (.istore 6, 2) := by decide +kernel
theorem dX11_act_120 : decode cX11_act 120 = .ok (.goto 45, 3) := by decide +kernel
theorem dX11_act_123 : decode cX11_act 123 = .ok (.aload 5, 2) := by decide +kernel
theorem dX11_act_125 : decode cX11_act 125 = .ok (.iload_n 3, 1) := by decide +kernel
theorem dX11_act_126 : decode cX11_act 126 = .ok (.aload_n 0, 1) := by decide +kernel
theorem dX11_act_127 : decode cX11_act 127 = .ok (.getfield 82, 3) := by decide +kernel
theorem dX11_act_130 : decode cX11_act 130 = .ok (.invokevirtual 352, 3) := by decide +kernel
theorem dX11_act_133 : decode cX11_act 133 = .ok (.istore 6, 2) := by decide +kernel
theorem dX11_act_135 : decode cX11_act 135 = .ok (.goto 30, 3) := by decide +kernel
theorem dX11_act_138 : decode cX11_act 138 = .ok (.aload 5, 2) := by decide +kernel
theorem dX11_act_140 : decode cX11_act 140 = .ok (.iload_n 3, 1) := by decide +kernel
theorem dX11_act_141 : decode cX11_act 141 = .ok (.aload_n 0, 1) := by decide +kernel
theorem dX11_act_142 : decode cX11_act 142 = .ok (.getfield 82, 3) := by decide +kernel
theorem dX11_act_145 : decode cX11_act 145 = .ok (.invokevirtual 355, 3) := by decide +kernel
theorem dX11_act_148 : decode cX11_act 148 = .ok (.istore 6, 2) := by decide +kernel
theorem dX11_act_150 : decode cX11_act 150 = .ok (.goto 15, 3) := by decide +kernel
theorem dX11_act_153 : decode cX11_act 153 = .ok (.aload 5, 2) := by decide +kernel
theorem dX11_act_155 : decode cX11_act 155 = .ok (.iload_n 3, 1) := by decide +kernel
theorem dX11_act_156 : decode cX11_act 156 = .ok (.aload_n 0, 1) := by decide +kernel
theorem dX11_act_157 : decode cX11_act 157 = .ok (.getfield 82, 3) := by decide +kernel
theorem dX11_act_160 : decode cX11_act 160 = .ok (.invokevirtual 358, 3) := by decide +kernel
theorem dX11_act_163 : decode cX11_act 163 = .ok (.istore 6, 2) := by decide +kernel
theorem dX11_act_165 : decode cX11_act 165 = .ok (.aload_n 0, 1) := by decide +kernel
theorem dX11_act_166 : decode cX11_act 166 = .ok (.getfield 82, 3) := by decide +kernel
theorem dX11_act_169 : decode cX11_act 169 = .ok (.getfield 361, 3) := by decide +kernel
theorem dX11_act_172 : decode cX11_act 172 = .ok (.ifCond .eq 8, 3) := by decide +kernel
theorem dX11_act_175 : decode cX11_act 175 = .ok (.bipush (-15), 2) := by decide +kernel
theorem dX11_act_177 : decode cX11_act 177 = .ok (.goto 5, 3) := by decide +kernel
theorem dX11_act_180 : decode cX11_act 180 = .ok (.iload 6, 2) := by decide +kernel
theorem dX11_act_182 : decode cX11_act 182 = .ok (.ireturn, 1) := by decide +kernel
theorem oX11_act_0 : oP MT mX11_act 0 (1, 1, 1, 0, []) := o_iload_n dX11_act_0 rfl
theorem oX11_act_1 : oP MT mX11_act 1 (25, 3, 103, 1, []) := o_callS dX11_act_1 (mj := mX11_isPlace) mt_X11_isPlace cmq_X11_isPlace wq_781 wq_783 (by decide) (by decide)
theorem oX11_act_4 : oP MT mX11_act 4 (10, 3, 0, 24, []) := o_if_eq dX11_act_4 (by decide) (by decide)
theorem oX11_act_7 : oP MT mX11_act 7 (1, 1, 2, 0, []) := o_iload_n dX11_act_7 rfl
theorem oX11_act_8 : oP MT mX11_act 8 (0, 1, 0, 0, []) := o_iconst dX11_act_8 (by decide)
theorem oX11_act_9 : oP MT mX11_act 9 (0, 1, 0, 3, []) := o_iconst dX11_act_9 (by decide)
theorem oX11_act_10 : oP MT mX11_act 10 (25, 3, 37, 3, []) := o_callS dX11_act_10 (mj := mX11_isIn) mt_X11_isIn cmq_X11_isIn wq_282 wq_144 (by decide) (by decide)
theorem oX11_act_13 : oP MT mX11_act 13 (10, 3, 0, 24, []) := o_if_eq dX11_act_13 (by decide) (by decide)
theorem oX11_act_16 : oP MT mX11_act 16 (1, 1, 0, 1, []) := o_aload_n dX11_act_16 rfl
theorem oX11_act_17 : oP MT mX11_act 17 (1, 1, 1, 0, []) := o_iload_n dX11_act_17 rfl
theorem oX11_act_18 : oP MT mX11_act 18 (26, 3, 0, 1, [(11, 107)]) := o_callO ((vA.cons (v_callV dX11_act_18 (ci := 11) rfl rfl (mj := mX11_holdsKey) mt_X11_holdsKey cmq_X11_holdsKey wq_809 wq_811 wq_812 (by decide) (by decide)) vA.nil))
theorem oX11_act_21 : oP MT mX11_act 21 (10, 3, 1, 34, []) := o_if_ne dX11_act_21 (by decide) (by decide)
theorem oX11_act_24 : oP MT mX11_act 24 (1, 1, 0, 1, []) := o_aload_n dX11_act_24 rfl
theorem oX11_act_25 : oP MT mX11_act 25 (13, 3, 5, 11, []) := o_getR (M := mX11_act) (C := RX11) (T := TX11) (ci := 11) (j := 5) (z := 11) dX11_act_25 rfl lq_RX11_82 rfl rfl
theorem oX11_act_28 : oP MT mX11_act 28 (0, 1, 0, 0, []) := o_iconst dX11_act_28 (by decide)
theorem oX11_act_29 : oP MT mX11_act 29 (14, 3, 3, 0, []) := o_putI (M := mX11_act) (C := RX0) (T := TX0) (ci := 0) (j := 3) (z := 0) dX11_act_29 rfl lq_RX11_340 rfl rfl rfl rfl
theorem oX11_act_32 : oP MT mX11_act 32 (0, 1, 0, 0, []) := o_iconst dX11_act_32 (by decide)
theorem oX11_act_33 : oP MT mX11_act 33 (21, 1, 0, 0, []) := o_iret dX11_act_33 rfl
theorem oX11_act_34 : oP MT mX11_act 34 (1, 1, 0, 1, []) := o_aload_n dX11_act_34 rfl
theorem oX11_act_35 : oP MT mX11_act 35 (13, 3, 12, 11, []) := o_getR (M := mX11_act) (C := RX11) (T := TX11) (ci := 11) (j := 12) (z := 11) dX11_act_35 rfl lq_RX11_27 rfl rfl
theorem oX11_act_38 : oP MT mX11_act 38 (1, 1, 1, 0, []) := o_iload_n dX11_act_38 rfl
theorem oX11_act_39 : oP MT mX11_act 39 (16, 1, 1, 0, []) := o_iaload dX11_act_39
theorem oX11_act_40 : oP MT mX11_act 40 (2, 2, 4, 0, []) := o_istore dX11_act_40 (by decide)
theorem oX11_act_42 : oP MT mX11_act 42 (1, 1, 0, 1, []) := o_aload_n dX11_act_42 rfl
theorem oX11_act_43 : oP MT mX11_act 43 (13, 3, 0, 11, []) := o_getR (M := mX11_act) (C := RX11) (T := TX11) (ci := 11) (j := 0) (z := 11) dX11_act_43 rfl lq_RX11_56 rfl rfl
theorem oX11_act_46 : oP MT mX11_act 46 (13, 3, 0, 1, []) := o_getR (M := mX11_act) (C := RX1) (T := TX1) (ci := 1) (j := 0) (z := 1) dX11_act_46 rfl lq_RX11_341 rfl rfl
theorem oX11_act_49 : oP MT mX11_act 49 (1, 1, 0, 1, []) := o_aload_n dX11_act_49 rfl
theorem oX11_act_50 : oP MT mX11_act 50 (13, 3, 0, 11, []) := o_getR (M := mX11_act) (C := RX11) (T := TX11) (ci := 11) (j := 0) (z := 11) dX11_act_50 rfl lq_RX11_56 rfl rfl
theorem oX11_act_53 : oP MT mX11_act 53 (13, 3, 10, 1, []) := o_getR (M := mX11_act) (C := RX1) (T := TX1) (ci := 1) (j := 10) (z := 1) dX11_act_53 rfl lq_RX11_101 rfl rfl
theorem oX11_act_56 : oP MT mX11_act 56 (1, 2, 4, 0, []) := o_iload dX11_act_56
theorem oX11_act_58 : oP MT mX11_act 58 (16, 1, 1, 0, []) := o_iaload dX11_act_58
theorem oX11_act_59 : oP MT mX11_act 59 (17, 1, 0, 0, []) := o_aaload dX11_act_59
theorem oX11_act_60 : oP MT mX11_act 60 (2, 2, 5, 1, []) := o_astore dX11_act_60 (by decide)
theorem oX11_act_62 : oP MT mX11_act 62 (1, 1, 0, 1, []) := o_aload_n dX11_act_62 rfl
theorem oX11_act_63 : oP MT mX11_act 63 (13, 3, 5, 11, []) := o_getR (M := mX11_act) (C := RX11) (T := TX11) (ci := 11) (j := 5) (z := 11) dX11_act_63 rfl lq_RX11_82 rfl rfl
theorem oX11_act_66 : oP MT mX11_act 66 (1, 2, 4, 0, []) := o_iload dX11_act_66
theorem oX11_act_68 : oP MT mX11_act 68 (1, 1, 0, 1, []) := o_aload_n dX11_act_68 rfl
theorem oX11_act_69 : oP MT mX11_act 69 (13, 3, 0, 11, []) := o_getR (M := mX11_act) (C := RX11) (T := TX11) (ci := 11) (j := 0) (z := 11) dX11_act_69 rfl lq_RX11_56 rfl rfl
theorem oX11_act_72 : oP MT mX11_act 72 (13, 3, 13, 1, []) := o_getR (M := mX11_act) (C := RX1) (T := TX1) (ci := 1) (j := 13) (z := 1) dX11_act_72 rfl lq_RX11_110 rfl rfl
theorem oX11_act_75 : oP MT mX11_act 75 (1, 2, 4, 0, []) := o_iload dX11_act_75
theorem oX11_act_77 : oP MT mX11_act 77 (16, 1, 1, 0, []) := o_iaload dX11_act_77
theorem oX11_act_78 : oP MT mX11_act 78 (26, 3, 0, 2, [(0, 108)]) := o_callO ((vA.cons (v_callV dX11_act_78 (ci := 0) rfl rfl (mj := mX0_begin) mt_X0_begin cmq_X0_begin wq_818 wq_820 wq_821 (by decide) (by decide)) vA.nil))
theorem oX11_act_81 : oP MT mX11_act 81 (1, 1, 2, 0, []) := o_iload_n dX11_act_81 rfl
theorem oX11_act_82 : oP MT mX11_act 82 (24, 26, 153, 0, [(0, 108), (1, 123), (2, 138)]) := o_table dX11_act_82 rfl (by decide) (by decide) (by decide)
theorem oX11_act_108 : oP MT mX11_act 108 (1, 2, 5, 1, []) := o_aload dX11_act_108
theorem oX11_act_110 : oP MT mX11_act 110 (1, 1, 3, 0, []) := o_iload_n dX11_act_110 rfl
theorem oX11_act_111 : oP MT mX11_act 111 (1, 1, 0, 1, []) := o_aload_n dX11_act_111 rfl
theorem oX11_act_112 : oP MT mX11_act 112 (13, 3, 5, 11, []) := o_getR (M := mX11_act) (C := RX11) (T := TX11) (ci := 11) (j := 5) (z := 11) dX11_act_112 rfl lq_RX11_82 rfl rfl
theorem oX11_act_115 : oP MT mX11_act 115 (26, 3, 0, 2, [(2, 39), (3, 40), (7, 40), (8, 40), (9, 40), (10, 41)]) := o_callO ((vA.cons (v_callU dX11_act_115 (ci := 2) rfl rfl (mj := mX2_drips) mt_X2_drips cmq_X2_drips wq_822 wq_152 wq_154 wq_150 wq_163 wq_164 (by decide) (by decide) (by decide)) (vA.cons (v_callV dX11_act_115 (ci := 3) rfl rfl (mj := mX3_drips) mt_X3_drips cmq_X3_drips wq_822 wq_154 wq_165 (by decide) (by decide)) (vA.cons (v_callU dX11_act_115 (ci := 7) rfl rfl (mj := mX3_drips) mt_X3_drips cmq_X3_drips wq_822 wq_152 wq_154 wq_150 wq_166 wq_154 (by decide) (by decide) (by decide)) (vA.cons (v_callU dX11_act_115 (ci := 8) rfl rfl (mj := mX3_drips) mt_X3_drips cmq_X3_drips wq_822 wq_152 wq_154 wq_150 wq_167 wq_154 (by decide) (by decide) (by decide)) (vA.cons (v_callU dX11_act_115 (ci := 9) rfl rfl (mj := mX3_drips) mt_X3_drips cmq_X3_drips wq_822 wq_152 wq_154 wq_150 wq_168 wq_154 (by decide) (by decide) (by decide)) (vA.cons (v_callU dX11_act_115 (ci := 10) rfl rfl (mj := mX10_drips) mt_X10_drips cmq_X10_drips wq_822 wq_152 wq_154 wq_150 wq_170 wq_171 (by decide) (by decide) (by decide)) vA.nil)))))))
theorem oX11_act_118 : oP MT mX11_act 118 (2, 2, 6, 0, []) := o_istore dX11_act_118 (by decide)
theorem oX11_act_120 : oP MT mX11_act 120 (9, 3, 165, 0, []) := o_goto dX11_act_120 (by decide)
theorem oX11_act_123 : oP MT mX11_act 123 (1, 2, 5, 1, []) := o_aload dX11_act_123
theorem oX11_act_125 : oP MT mX11_act 125 (1, 1, 3, 0, []) := o_iload_n dX11_act_125 rfl
theorem oX11_act_126 : oP MT mX11_act 126 (1, 1, 0, 1, []) := o_aload_n dX11_act_126 rfl
theorem oX11_act_127 : oP MT mX11_act 127 (13, 3, 5, 11, []) := o_getR (M := mX11_act) (C := RX11) (T := TX11) (ci := 11) (j := 5) (z := 11) dX11_act_127 rfl lq_RX11_82 rfl rfl
theorem oX11_act_130 : oP MT mX11_act 130 (26, 3, 0, 2, [(2, 42), (3, 42), (7, 42), (8, 46), (9, 47), (10, 46)]) := o_callO ((vA.cons (v_callU dX11_act_130 (ci := 2) rfl rfl (mj := mX3_turns) mt_X3_turns cmq_X3_turns wq_823 wq_185 wq_186 wq_183 wq_390 wq_186 (by decide) (by decide) (by decide)) (vA.cons (v_callV dX11_act_130 (ci := 3) rfl rfl (mj := mX3_turns) mt_X3_turns cmq_X3_turns wq_823 wq_186 wq_391 (by decide) (by decide)) (vA.cons (v_callU dX11_act_130 (ci := 7) rfl rfl (mj := mX3_turns) mt_X3_turns cmq_X3_turns wq_823 wq_185 wq_186 wq_183 wq_392 wq_186 (by decide) (by decide) (by decide)) (vA.cons (v_callU dX11_act_130 (ci := 8) rfl rfl (mj := mX8_turns) mt_X8_turns cmq_X8_turns wq_823 wq_185 wq_186 wq_183 wq_394 wq_395 (by decide) (by decide) (by decide)) (vA.cons (v_callU dX11_act_130 (ci := 9) rfl rfl (mj := mX9_turns) mt_X9_turns cmq_X9_turns wq_823 wq_185 wq_186 wq_183 wq_397 wq_398 (by decide) (by decide) (by decide)) (vA.cons (v_callU dX11_act_130 (ci := 10) rfl rfl (mj := mX8_turns) mt_X8_turns cmq_X8_turns wq_823 wq_185 wq_186 wq_183 wq_399 wq_395 (by decide) (by decide) (by decide)) vA.nil)))))))
theorem oX11_act_133 : oP MT mX11_act 133 (2, 2, 6, 0, []) := o_istore dX11_act_133 (by decide)
theorem oX11_act_135 : oP MT mX11_act 135 (9, 3, 165, 0, []) := o_goto dX11_act_135 (by decide)
theorem oX11_act_138 : oP MT mX11_act 138 (1, 2, 5, 1, []) := o_aload dX11_act_138
theorem oX11_act_140 : oP MT mX11_act 140 (1, 1, 3, 0, []) := o_iload_n dX11_act_140 rfl
theorem oX11_act_141 : oP MT mX11_act 141 (1, 1, 0, 1, []) := o_aload_n dX11_act_141 rfl
theorem oX11_act_142 : oP MT mX11_act 142 (13, 3, 5, 11, []) := o_getR (M := mX11_act) (C := RX11) (T := TX11) (ci := 11) (j := 5) (z := 11) dX11_act_142 rfl lq_RX11_82 rfl rfl
theorem oX11_act_145 : oP MT mX11_act 145 (26, 3, 0, 2, [(2, 44), (3, 44), (7, 43), (8, 44), (9, 48), (10, 44)]) := o_callO ((vA.cons (v_callU dX11_act_145 (ci := 2) rfl rfl (mj := mX3_halves) mt_X3_halves cmq_X3_halves wq_824 wq_175 wq_177 wq_173 wq_401 wq_177 (by decide) (by decide) (by decide)) (vA.cons (v_callV dX11_act_145 (ci := 3) rfl rfl (mj := mX3_halves) mt_X3_halves cmq_X3_halves wq_824 wq_177 wq_402 (by decide) (by decide)) (vA.cons (v_callU dX11_act_145 (ci := 7) rfl rfl (mj := mX7_halves) mt_X7_halves cmq_X7_halves wq_824 wq_175 wq_177 wq_173 wq_403 wq_195 (by decide) (by decide) (by decide)) (vA.cons (v_callU dX11_act_145 (ci := 8) rfl rfl (mj := mX3_halves) mt_X3_halves cmq_X3_halves wq_824 wq_175 wq_177 wq_173 wq_404 wq_177 (by decide) (by decide) (by decide)) (vA.cons (v_callU dX11_act_145 (ci := 9) rfl rfl (mj := mX9_halves) mt_X9_halves cmq_X9_halves wq_824 wq_175 wq_177 wq_173 wq_406 wq_407 (by decide) (by decide) (by decide)) (vA.cons (v_callU dX11_act_145 (ci := 10) rfl rfl (mj := mX3_halves) mt_X3_halves cmq_X3_halves wq_824 wq_175 wq_177 wq_173 wq_408 wq_177 (by decide) (by decide) (by decide)) vA.nil)))))))
theorem oX11_act_148 : oP MT mX11_act 148 (2, 2, 6, 0, []) := o_istore dX11_act_148 (by decide)
theorem oX11_act_150 : oP MT mX11_act 150 (9, 3, 165, 0, []) := o_goto dX11_act_150 (by decide)
theorem oX11_act_153 : oP MT mX11_act 153 (1, 2, 5, 1, []) := o_aload dX11_act_153
theorem oX11_act_155 : oP MT mX11_act 155 (1, 1, 3, 0, []) := o_iload_n dX11_act_155 rfl
theorem oX11_act_156 : oP MT mX11_act 156 (1, 1, 0, 1, []) := o_aload_n dX11_act_156 rfl
theorem oX11_act_157 : oP MT mX11_act 157 (13, 3, 5, 11, []) := o_getR (M := mX11_act) (C := RX11) (T := TX11) (ci := 11) (j := 5) (z := 11) dX11_act_157 rfl lq_RX11_82 rfl rfl
theorem oX11_act_160 : oP MT mX11_act 160 (26, 3, 0, 2, [(2, 109), (3, 109), (7, 109), (8, 109), (9, 109), (10, 110)]) := o_callO ((vA.cons (v_callU dX11_act_160 (ci := 2) rfl rfl (mj := mX3_fits) mt_X3_fits cmq_X3_fits wq_825 wq_826 wq_412 wq_409 wq_827 wq_412 (by decide) (by decide) (by decide)) (vA.cons (v_callV dX11_act_160 (ci := 3) rfl rfl (mj := mX3_fits) mt_X3_fits cmq_X3_fits wq_825 wq_412 wq_828 (by decide) (by decide)) (vA.cons (v_callU dX11_act_160 (ci := 7) rfl rfl (mj := mX3_fits) mt_X3_fits cmq_X3_fits wq_825 wq_826 wq_412 wq_409 wq_829 wq_412 (by decide) (by decide) (by decide)) (vA.cons (v_callU dX11_act_160 (ci := 8) rfl rfl (mj := mX3_fits) mt_X3_fits cmq_X3_fits wq_825 wq_826 wq_412 wq_409 wq_830 wq_412 (by decide) (by decide) (by decide)) (vA.cons (v_callU dX11_act_160 (ci := 9) rfl rfl (mj := mX3_fits) mt_X3_fits cmq_X3_fits wq_825 wq_826 wq_412 wq_409 wq_831 wq_412 (by decide) (by decide) (by decide)) (vA.cons (v_callU dX11_act_160 (ci := 10) rfl rfl (mj := mX10_fits) mt_X10_fits cmq_X10_fits wq_825 wq_826 wq_412 wq_409 wq_833 wq_834 (by decide) (by decide) (by decide)) vA.nil)))))))
theorem oX11_act_163 : oP MT mX11_act 163 (2, 2, 6, 0, []) := o_istore dX11_act_163 (by decide)
theorem oX11_act_165 : oP MT mX11_act 165 (1, 1, 0, 1, []) := o_aload_n dX11_act_165 rfl
theorem oX11_act_166 : oP MT mX11_act 166 (13, 3, 5, 11, []) := o_getR (M := mX11_act) (C := RX11) (T := TX11) (ci := 11) (j := 5) (z := 11) dX11_act_166 rfl lq_RX11_82 rfl rfl
theorem oX11_act_169 : oP MT mX11_act 169 (12, 3, 2, 0, []) := o_getI (M := mX11_act) (C := RX0) (T := TX0) (ci := 0) (j := 2) (z := 0) dX11_act_169 rfl lq_RX11_361 rfl rfl
theorem oX11_act_172 : oP MT mX11_act 172 (10, 3, 0, 180, []) := o_if_eq dX11_act_172 (by decide) (by decide)
theorem oX11_act_175 : oP MT mX11_act 175 (0, 2, 0, (-15), []) := o_bipush dX11_act_175 (by decide)
theorem oX11_act_177 : oP MT mX11_act 177 (9, 3, 182, 0, []) := o_goto dX11_act_177 (by decide)
theorem oX11_act_180 : oP MT mX11_act 180 (1, 2, 6, 0, []) := o_iload dX11_act_180
theorem oX11_act_182 : oP MT mX11_act 182 (21, 1, 0, 0, []) := o_iret dX11_act_182 rfl
def ops_X11_act : List (Nat × aO) := [(0, (1, 1, 1, 0, [])), (1, (25, 3, 103, 1, [])), (4, (10, 3, 0, 24, [])), (7, (1, 1, 2, 0, [])), (8, (0, 1, 0, 0, [])), (9, (0, 1, 0, 3, [])), (10, (25, 3, 37, 3, [])), (13, (10, 3, 0, 24, [])), (16, (1, 1, 0, 1, [])), (17, (1, 1, 1, 0, [])), (18, (26, 3, 0, 1, [(11, 107)])), (21, (10, 3, 1, 34, [])), (24, (1, 1, 0, 1, [])), (25, (13, 3, 5, 11, [])), (28, (0, 1, 0, 0, [])), (29, (14, 3, 3, 0, [])), (32, (0, 1, 0, 0, [])), (33, (21, 1, 0, 0, [])), (34, (1, 1, 0, 1, [])), (35, (13, 3, 12, 11, [])), (38, (1, 1, 1, 0, [])), (39, (16, 1, 1, 0, [])), (40, (2, 2, 4, 0, [])), (42, (1, 1, 0, 1, [])), (43, (13, 3, 0, 11, [])), (46, (13, 3, 0, 1, [])), (49, (1, 1, 0, 1, [])), (50, (13, 3, 0, 11, [])), (53, (13, 3, 10, 1, [])), (56, (1, 2, 4, 0, [])), (58, (16, 1, 1, 0, [])), (59, (17, 1, 0, 0, [])), (60, (2, 2, 5, 1, [])), (62, (1, 1, 0, 1, [])), (63, (13, 3, 5, 11, [])), (66, (1, 2, 4, 0, [])), (68, (1, 1, 0, 1, [])), (69, (13, 3, 0, 11, [])), (72, (13, 3, 13, 1, [])), (75, (1, 2, 4, 0, [])), (77, (16, 1, 1, 0, [])), (78, (26, 3, 0, 2, [(0, 108)])), (81, (1, 1, 2, 0, [])), (82, (24, 26, 153, 0, [(0, 108), (1, 123), (2, 138)])), (108, (1, 2, 5, 1, [])), (110, (1, 1, 3, 0, [])), (111, (1, 1, 0, 1, [])), (112, (13, 3, 5, 11, [])), (115, (26, 3, 0, 2, [(2, 39), (3, 40), (7, 40), (8, 40), (9, 40), (10, 41)])), (118, (2, 2, 6, 0, [])), (120, (9, 3, 165, 0, [])), (123, (1, 2, 5, 1, [])), (125, (1, 1, 3, 0, [])), (126, (1, 1, 0, 1, [])), (127, (13, 3, 5, 11, [])), (130, (26, 3, 0, 2, [(2, 42), (3, 42), (7, 42), (8, 46), (9, 47), (10, 46)])), (133, (2, 2, 6, 0, [])), (135, (9, 3, 165, 0, [])), (138, (1, 2, 5, 1, [])), (140, (1, 1, 3, 0, [])), (141, (1, 1, 0, 1, [])), (142, (13, 3, 5, 11, [])), (145, (26, 3, 0, 2, [(2, 44), (3, 44), (7, 43), (8, 44), (9, 48), (10, 44)])), (148, (2, 2, 6, 0, [])), (150, (9, 3, 165, 0, [])), (153, (1, 2, 5, 1, [])), (155, (1, 1, 3, 0, [])), (156, (1, 1, 0, 1, [])), (157, (13, 3, 5, 11, [])), (160, (26, 3, 0, 2, [(2, 109), (3, 109), (7, 109), (8, 109), (9, 109), (10, 110)])), (163, (2, 2, 6, 0, [])), (165, (1, 1, 0, 1, [])), (166, (13, 3, 5, 11, [])), (169, (12, 3, 2, 0, [])), (172, (10, 3, 0, 180, [])), (175, (0, 2, 0, (-15), [])), (177, (9, 3, 182, 0, [])), (180, (1, 2, 6, 0, [])), (182, (21, 1, 0, 0, []))]
theorem os_X11_act : oA MT mX11_act ops_X11_act := (oA.cons oX11_act_0 (oA.cons oX11_act_1 (oA.cons oX11_act_4 (oA.cons oX11_act_7 (oA.cons oX11_act_8 (oA.cons oX11_act_9 (oA.cons oX11_act_10 (oA.cons oX11_act_13 (oA.cons oX11_act_16 (oA.cons oX11_act_17 (oA.cons oX11_act_18 (oA.cons oX11_act_21 (oA.cons oX11_act_24 (oA.cons oX11_act_25 (oA.cons oX11_act_28 (oA.cons oX11_act_29 (oA.cons oX11_act_32 (oA.cons oX11_act_33 (oA.cons oX11_act_34 (oA.cons oX11_act_35 (oA.cons oX11_act_38 (oA.cons oX11_act_39 (oA.cons oX11_act_40 (oA.cons oX11_act_42 (oA.cons oX11_act_43 (oA.cons oX11_act_46 (oA.cons oX11_act_49 (oA.cons oX11_act_50 (oA.cons oX11_act_53 (oA.cons oX11_act_56 (oA.cons oX11_act_58 (oA.cons oX11_act_59 (oA.cons oX11_act_60 (oA.cons oX11_act_62 (oA.cons oX11_act_63 (oA.cons oX11_act_66 (oA.cons oX11_act_68 (oA.cons oX11_act_69 (oA.cons oX11_act_72 (oA.cons oX11_act_75 (oA.cons oX11_act_77 (oA.cons oX11_act_78 (oA.cons oX11_act_81 (oA.cons oX11_act_82 (oA.cons oX11_act_108 (oA.cons oX11_act_110 (oA.cons oX11_act_111 (oA.cons oX11_act_112 (oA.cons oX11_act_115 (oA.cons oX11_act_118 (oA.cons oX11_act_120 (oA.cons oX11_act_123 (oA.cons oX11_act_125 (oA.cons oX11_act_126 (oA.cons oX11_act_127 (oA.cons oX11_act_130 (oA.cons oX11_act_133 (oA.cons oX11_act_135 (oA.cons oX11_act_138 (oA.cons oX11_act_140 (oA.cons oX11_act_141 (oA.cons oX11_act_142 (oA.cons oX11_act_145 (oA.cons oX11_act_148 (oA.cons oX11_act_150 (oA.cons oX11_act_153 (oA.cons oX11_act_155 (oA.cons oX11_act_156 (oA.cons oX11_act_157 (oA.cons oX11_act_160 (oA.cons oX11_act_163 (oA.cons oX11_act_165 (oA.cons oX11_act_166 (oA.cons oX11_act_169 (oA.cons oX11_act_172 (oA.cons oX11_act_175 (oA.cons oX11_act_177 (oA.cons oX11_act_180 (oA.cons oX11_act_182 oA.nil)))))))))))))))))))))))))))))))))))))))))))))))))))))))))))))))))))))))))))))))
theorem dX11_trace_0 : decode cX11_trace 0 = .ok (.iload_n 1, 1) := by decide +kernel
theorem dX11_trace_1 : decode cX11_trace 1 = .ok (.iconst 0, 1) := by decide +kernel
theorem dX11_trace_2 : decode cX11_trace 2 = .ok (.aload_n 0, 1) := by decide +kernel
theorem dX11_trace_3 : decode cX11_trace 3 = .ok (.getfield 82, 3) := by decide +kernel
theorem dX11_trace_6 : decode cX11_trace 6 = .ok (.getfield 340, 3) := by decide +kernel
theorem dX11_trace_9 : decode cX11_trace 9 = .ok (.iconst 1, 1) := by decide +kernel
theorem dX11_trace_10 : decode cX11_trace 10 = .ok (.isub, 1) := by decide +kernel
theorem dX11_trace_11 : decode cX11_trace 11 = .ok (.invokestatic 90, 3) := by decide +kernel
theorem dX11_trace_14 : decode cX11_trace 14 = .ok (.ifCond .eq 15, 3) := by decide +kernel
theorem dX11_trace_17 : decode cX11_trace 17 = .ok (.aload_n 0, 1) := by decide +kernel
theorem dX11_trace_18 : decode cX11_trace 18 = .ok (.getfield 82, 3) := by decide +kernel
theorem dX11_trace_21 : decode cX11_trace 21 = .ok (.getfield 365, 3) := by decide +kernel
theorem dX11_trace_24 : decode cX11_trace 24 = .ok (.iload_n 1, 1) := by decide +kernel
theorem dX11_trace_25 : decode cX11_trace 25 = .ok (.iaload, 1) := by decide +kernel
theorem dX11_trace_26 : decode cX11_trace 26 = .ok (.goto 5, 3) := by decide +kernel
theorem dX11_trace_29 : decode cX11_trace 29 = .ok (.bipush (-3), 2) := by decide +kernel
theorem dX11_trace_31 : decode cX11_trace 31 = .ok (.ireturn, 1) := by decide +kernel
theorem oX11_trace_0 : oP MT mX11_trace 0 (1, 1, 1, 0, []) := o_iload_n dX11_trace_0 rfl
theorem oX11_trace_1 : oP MT mX11_trace 1 (0, 1, 0, 0, []) := o_iconst dX11_trace_1 (by decide)
theorem oX11_trace_2 : oP MT mX11_trace 2 (1, 1, 0, 1, []) := o_aload_n dX11_trace_2 rfl
theorem oX11_trace_3 : oP MT mX11_trace 3 (13, 3, 5, 11, []) := o_getR (M := mX11_trace) (C := RX11) (T := TX11) (ci := 11) (j := 5) (z := 11) dX11_trace_3 rfl lq_RX11_82 rfl rfl
theorem oX11_trace_6 : oP MT mX11_trace 6 (12, 3, 3, 0, []) := o_getI (M := mX11_trace) (C := RX0) (T := TX0) (ci := 0) (j := 3) (z := 0) dX11_trace_6 rfl lq_RX11_340 rfl rfl
theorem oX11_trace_9 : oP MT mX11_trace 9 (0, 1, 0, 1, []) := o_iconst dX11_trace_9 (by decide)
theorem oX11_trace_10 : oP MT mX11_trace 10 (4, 1, 1, 0, []) := o_isub dX11_trace_10
theorem oX11_trace_11 : oP MT mX11_trace 11 (25, 3, 37, 3, []) := o_callS dX11_trace_11 (mj := mX11_isIn) mt_X11_isIn cmq_X11_isIn wq_282 wq_144 (by decide) (by decide)
theorem oX11_trace_14 : oP MT mX11_trace 14 (10, 3, 0, 29, []) := o_if_eq dX11_trace_14 (by decide) (by decide)
theorem oX11_trace_17 : oP MT mX11_trace 17 (1, 1, 0, 1, []) := o_aload_n dX11_trace_17 rfl
theorem oX11_trace_18 : oP MT mX11_trace 18 (13, 3, 5, 11, []) := o_getR (M := mX11_trace) (C := RX11) (T := TX11) (ci := 11) (j := 5) (z := 11) dX11_trace_18 rfl lq_RX11_82 rfl rfl
theorem oX11_trace_21 : oP MT mX11_trace 21 (13, 3, 4, 0, []) := o_getR (M := mX11_trace) (C := RX0) (T := TX0) (ci := 0) (j := 4) (z := 0) dX11_trace_21 rfl lq_RX11_365 rfl rfl
theorem oX11_trace_24 : oP MT mX11_trace 24 (1, 1, 1, 0, []) := o_iload_n dX11_trace_24 rfl
theorem oX11_trace_25 : oP MT mX11_trace 25 (16, 1, 1, 0, []) := o_iaload dX11_trace_25
theorem oX11_trace_26 : oP MT mX11_trace 26 (9, 3, 31, 0, []) := o_goto dX11_trace_26 (by decide)
theorem oX11_trace_29 : oP MT mX11_trace 29 (0, 2, 0, (-3), []) := o_bipush dX11_trace_29 (by decide)
theorem oX11_trace_31 : oP MT mX11_trace 31 (21, 1, 0, 0, []) := o_iret dX11_trace_31 rfl
def ops_X11_trace : List (Nat × aO) := [(0, (1, 1, 1, 0, [])), (1, (0, 1, 0, 0, [])), (2, (1, 1, 0, 1, [])), (3, (13, 3, 5, 11, [])), (6, (12, 3, 3, 0, [])), (9, (0, 1, 0, 1, [])), (10, (4, 1, 1, 0, [])), (11, (25, 3, 37, 3, [])), (14, (10, 3, 0, 29, [])), (17, (1, 1, 0, 1, [])), (18, (13, 3, 5, 11, [])), (21, (13, 3, 4, 0, [])), (24, (1, 1, 1, 0, [])), (25, (16, 1, 1, 0, [])), (26, (9, 3, 31, 0, [])), (29, (0, 2, 0, (-3), [])), (31, (21, 1, 0, 0, []))]
theorem os_X11_trace : oA MT mX11_trace ops_X11_trace := (oA.cons oX11_trace_0 (oA.cons oX11_trace_1 (oA.cons oX11_trace_2 (oA.cons oX11_trace_3 (oA.cons oX11_trace_6 (oA.cons oX11_trace_9 (oA.cons oX11_trace_10 (oA.cons oX11_trace_11 (oA.cons oX11_trace_14 (oA.cons oX11_trace_17 (oA.cons oX11_trace_18 (oA.cons oX11_trace_21 (oA.cons oX11_trace_24 (oA.cons oX11_trace_25 (oA.cons oX11_trace_26 (oA.cons oX11_trace_29 (oA.cons oX11_trace_31 oA.nil)))))))))))))))))
theorem dX11_many_0 : decode cX11_many 0 = .ok (.iload_n 1, 1) := by decide +kernel
theorem dX11_many_1 : decode cX11_many 1 = .ok (.tableswitch 102 0 6 #[43, 51, 62, 73, 81, 86, 94], 43) := by decide +kernel
theorem dX11_many_44 : decode cX11_many 44 = .ok (.aload_n 0, 1) := by decide +kernel
theorem dX11_many_45 : decode cX11_many 45 = .ok (.getfield 56, 3) := by decide +kernel
theorem dX11_many_48 : decode cX11_many 48 = .ok (.getfield 97, 3) := by decide +kernel
theorem dX11_many_51 : decode cX11_many 51 = .ok (.ireturn, 1) := by decide +kernel
theorem dX11_many_52 : decode cX11_many 52 = .ok (.aload_n 0, 1) := by decide +kernel
theorem dX11_many_53 : decode cX11_many 53 = .ok (.getfield 56, 3) := by decide +kernel
theorem dX11_many_56 : decode cX11_many 56 = .ok (.getfield 189, 3) := by decide +kernel
theorem dX11_many_59 : decode cX11_many 59 = .ok (.getfield 202, 3) := by decide +kernel
theorem dX11_many_62 : decode cX11_many 62 = .ok (.ireturn, 1) := by decide +kernel
theorem dX11_many_63 : decode cX11_many 63 = .ok (.aload_n 0, 1) := by decide +kernel
theorem dX11_many_64 : decode cX11_many 64 = .ok (.getfield 56, 3) := by decide +kernel
theorem dX11_many_67 : decode cX11_many 67 = .ok (.getfield 165, 3) := by decide +kernel
theorem dX11_many_70 : decode cX11_many 70 = .ok (.invokestatic 288, 3) := by decide +kernel
theorem dX11_many_73 : decode cX11_many 73 = .ok (.ireturn, 1) := by decide +kernel
theorem dX11_many_74 : decode cX11_many 74 = .ok (.aload_n 0, 1) := by decide +kernel
theorem dX11_many_75 : decode cX11_many 75 = .ok (.getfield 56, 3) := by decide +kernel
theorem dX11_many_78 : decode cX11_many 78 = .ok (.getfield 270, 3) := by decide +kernel
theorem dX11_many_81 : decode cX11_many 81 = .ok (.ireturn, 1) := by decide +kernel
theorem dX11_many_82 : decode cX11_many 82 = .ok (.aload_n 0, 1) := by decide +kernel
theorem dX11_many_83 : decode cX11_many 83 = .ok (.getfield 307, 3) := by decide +kernel
theorem dX11_many_86 : decode cX11_many 86 = .ok (.ireturn, 1) := by decide +kernel
theorem dX11_many_87 : decode cX11_many 87 = .ok (.aload_n 0, 1) := by decide +kernel
theorem dX11_many_88 : decode cX11_many 88 = .ok (.getfield 75, 3) := by decide +kernel
theorem dX11_many_91 : decode cX11_many 91 = .ok (.getfield 179, 3) := by decide +kernel
theorem dX11_many_94 : decode cX11_many 94 = .ok (.ireturn, 1) := by decide +kernel
theorem dX11_many_95 : decode cX11_many 95 = .ok (.aload_n 0, 1) := by decide +kernel
theorem dX11_many_96 : decode cX11_many 96 = .ok (.getfield 82, 3) := by decide +kernel
theorem dX11_many_99 : decode cX11_many 99 = .ok (.getfield 340, 3) := by decide +kernel
theorem dX11_many_102 : decode cX11_many 102 = .ok (.ireturn, 1) := by decide +kernel
theorem dX11_many_103 : decode cX11_many 103 = .ok (.iconst (-1), 1) := by decide +kernel
theorem dX11_many_104 : decode cX11_many 104 = .ok (.ireturn, 1) := by decide +kernel
theorem oX11_many_0 : oP MT mX11_many 0 (1, 1, 1, 0, []) := o_iload_n dX11_many_0 rfl
theorem oX11_many_1 : oP MT mX11_many 1 (24, 43, 103, 0, [(0, 44), (1, 52), (2, 63), (3, 74), (4, 82), (5, 87), (6, 95)]) := o_table dX11_many_1 rfl (by decide) (by decide) (by decide)
theorem oX11_many_44 : oP MT mX11_many 44 (1, 1, 0, 1, []) := o_aload_n dX11_many_44 rfl
theorem oX11_many_45 : oP MT mX11_many 45 (13, 3, 0, 11, []) := o_getR (M := mX11_many) (C := RX11) (T := TX11) (ci := 11) (j := 0) (z := 11) dX11_many_45 rfl lq_RX11_56 rfl rfl
theorem oX11_many_48 : oP MT mX11_many 48 (12, 3, 8, 1, []) := o_getI (M := mX11_many) (C := RX1) (T := TX1) (ci := 1) (j := 8) (z := 1) dX11_many_48 rfl lq_RX11_97 rfl rfl
theorem oX11_many_51 : oP MT mX11_many 51 (21, 1, 0, 0, []) := o_iret dX11_many_51 rfl
theorem oX11_many_52 : oP MT mX11_many 52 (1, 1, 0, 1, []) := o_aload_n dX11_many_52 rfl
theorem oX11_many_53 : oP MT mX11_many 53 (13, 3, 0, 11, []) := o_getR (M := mX11_many) (C := RX11) (T := TX11) (ci := 11) (j := 0) (z := 11) dX11_many_53 rfl lq_RX11_56 rfl rfl
theorem oX11_many_56 : oP MT mX11_many 56 (13, 3, 14, 1, []) := o_getR (M := mX11_many) (C := RX1) (T := TX1) (ci := 1) (j := 14) (z := 1) dX11_many_56 rfl lq_RX11_189 rfl rfl
theorem oX11_many_59 : oP MT mX11_many 59 (12, 3, 0, 6, []) := o_getI (M := mX11_many) (C := RX6) (T := TX6) (ci := 6) (j := 0) (z := 6) dX11_many_59 rfl lq_RX11_202 rfl rfl
theorem oX11_many_62 : oP MT mX11_many 62 (21, 1, 0, 0, []) := o_iret dX11_many_62 rfl
theorem oX11_many_63 : oP MT mX11_many 63 (1, 1, 0, 1, []) := o_aload_n dX11_many_63 rfl
theorem oX11_many_64 : oP MT mX11_many 64 (13, 3, 0, 11, []) := o_getR (M := mX11_many) (C := RX11) (T := TX11) (ci := 11) (j := 0) (z := 11) dX11_many_64 rfl lq_RX11_56 rfl rfl
theorem oX11_many_67 : oP MT mX11_many 67 (12, 3, 9, 1, []) := o_getI (M := mX11_many) (C := RX1) (T := TX1) (ci := 1) (j := 9) (z := 1) dX11_many_67 rfl lq_RX11_165 rfl rfl
theorem oX11_many_70 : oP MT mX11_many 70 (25, 3, 296, 1, []) := o_callS dX11_many_70 (mj := mJ6_bitCount_0f7a4) mt_J6_bitCount_0f7a4 cmq_J6_bitCount_0f7a4 wq_326 wq_329 (by decide) (by decide)
theorem oX11_many_73 : oP MT mX11_many 73 (21, 1, 0, 0, []) := o_iret dX11_many_73 rfl
theorem oX11_many_74 : oP MT mX11_many 74 (1, 1, 0, 1, []) := o_aload_n dX11_many_74 rfl
theorem oX11_many_75 : oP MT mX11_many 75 (13, 3, 0, 11, []) := o_getR (M := mX11_many) (C := RX11) (T := TX11) (ci := 11) (j := 0) (z := 11) dX11_many_75 rfl lq_RX11_56 rfl rfl
theorem oX11_many_78 : oP MT mX11_many 78 (12, 3, 16, 1, []) := o_getI (M := mX11_many) (C := RX1) (T := TX1) (ci := 1) (j := 16) (z := 1) dX11_many_78 rfl lq_RX11_270 rfl rfl
theorem oX11_many_81 : oP MT mX11_many 81 (21, 1, 0, 0, []) := o_iret dX11_many_81 rfl
theorem oX11_many_82 : oP MT mX11_many 82 (1, 1, 0, 1, []) := o_aload_n dX11_many_82 rfl
theorem oX11_many_83 : oP MT mX11_many 83 (12, 3, 7, 11, []) := o_getI (M := mX11_many) (C := RX11) (T := TX11) (ci := 11) (j := 7) (z := 11) dX11_many_83 rfl lq_RX11_307 rfl rfl
theorem oX11_many_86 : oP MT mX11_many 86 (21, 1, 0, 0, []) := o_iret dX11_many_86 rfl
theorem oX11_many_87 : oP MT mX11_many 87 (1, 1, 0, 1, []) := o_aload_n dX11_many_87 rfl
theorem oX11_many_88 : oP MT mX11_many 88 (13, 3, 4, 11, []) := o_getR (M := mX11_many) (C := RX11) (T := TX11) (ci := 11) (j := 4) (z := 11) dX11_many_88 rfl lq_RX11_75 rfl rfl
theorem oX11_many_91 : oP MT mX11_many 91 (12, 3, 1, 5, []) := o_getI (M := mX11_many) (C := RX5) (T := TX5) (ci := 5) (j := 1) (z := 5) dX11_many_91 rfl lq_RX11_179 rfl rfl
theorem oX11_many_94 : oP MT mX11_many 94 (21, 1, 0, 0, []) := o_iret dX11_many_94 rfl
theorem oX11_many_95 : oP MT mX11_many 95 (1, 1, 0, 1, []) := o_aload_n dX11_many_95 rfl
theorem oX11_many_96 : oP MT mX11_many 96 (13, 3, 5, 11, []) := o_getR (M := mX11_many) (C := RX11) (T := TX11) (ci := 11) (j := 5) (z := 11) dX11_many_96 rfl lq_RX11_82 rfl rfl
theorem oX11_many_99 : oP MT mX11_many 99 (12, 3, 3, 0, []) := o_getI (M := mX11_many) (C := RX0) (T := TX0) (ci := 0) (j := 3) (z := 0) dX11_many_99 rfl lq_RX11_340 rfl rfl
theorem oX11_many_102 : oP MT mX11_many 102 (21, 1, 0, 0, []) := o_iret dX11_many_102 rfl
theorem oX11_many_103 : oP MT mX11_many 103 (0, 1, 0, (-1), []) := o_iconst dX11_many_103 (by decide)
theorem oX11_many_104 : oP MT mX11_many 104 (21, 1, 0, 0, []) := o_iret dX11_many_104 rfl
def ops_X11_many : List (Nat × aO) := [(0, (1, 1, 1, 0, [])), (1, (24, 43, 103, 0, [(0, 44), (1, 52), (2, 63), (3, 74), (4, 82), (5, 87), (6, 95)])), (44, (1, 1, 0, 1, [])), (45, (13, 3, 0, 11, [])), (48, (12, 3, 8, 1, [])), (51, (21, 1, 0, 0, [])), (52, (1, 1, 0, 1, [])), (53, (13, 3, 0, 11, [])), (56, (13, 3, 14, 1, [])), (59, (12, 3, 0, 6, [])), (62, (21, 1, 0, 0, [])), (63, (1, 1, 0, 1, [])), (64, (13, 3, 0, 11, [])), (67, (12, 3, 9, 1, [])), (70, (25, 3, 296, 1, [])), (73, (21, 1, 0, 0, [])), (74, (1, 1, 0, 1, [])), (75, (13, 3, 0, 11, [])), (78, (12, 3, 16, 1, [])), (81, (21, 1, 0, 0, [])), (82, (1, 1, 0, 1, [])), (83, (12, 3, 7, 11, [])), (86, (21, 1, 0, 0, [])), (87, (1, 1, 0, 1, [])), (88, (13, 3, 4, 11, [])), (91, (12, 3, 1, 5, [])), (94, (21, 1, 0, 0, [])), (95, (1, 1, 0, 1, [])), (96, (13, 3, 5, 11, [])), (99, (12, 3, 3, 0, [])), (102, (21, 1, 0, 0, [])), (103, (0, 1, 0, (-1), [])), (104, (21, 1, 0, 0, []))]
theorem os_X11_many : oA MT mX11_many ops_X11_many := (oA.cons oX11_many_0 (oA.cons oX11_many_1 (oA.cons oX11_many_44 (oA.cons oX11_many_45 (oA.cons oX11_many_48 (oA.cons oX11_many_51 (oA.cons oX11_many_52 (oA.cons oX11_many_53 (oA.cons oX11_many_56 (oA.cons oX11_many_59 (oA.cons oX11_many_62 (oA.cons oX11_many_63 (oA.cons oX11_many_64 (oA.cons oX11_many_67 (oA.cons oX11_many_70 (oA.cons oX11_many_73 (oA.cons oX11_many_74 (oA.cons oX11_many_75 (oA.cons oX11_many_78 (oA.cons oX11_many_81 (oA.cons oX11_many_82 (oA.cons oX11_many_83 (oA.cons oX11_many_86 (oA.cons oX11_many_87 (oA.cons oX11_many_88 (oA.cons oX11_many_91 (oA.cons oX11_many_94 (oA.cons oX11_many_95 (oA.cons oX11_many_96 (oA.cons oX11_many_99 (oA.cons oX11_many_102 (oA.cons oX11_many_103 (oA.cons oX11_many_104 oA.nil)))))))))))))))))))))))))))))))))
theorem dX11_keep_0 : decode cX11_keep 0 = .ok (.aload_n 0, 1) := by decide +kernel
theorem dX11_keep_1 : decode cX11_keep 1 = .ok (.getfield 60, 3) := by decide +kernel
theorem dX11_keep_4 : decode cX11_keep 4 = .ok (.aload_n 0, 1) := by decide +kernel
theorem dX11_keep_5 : decode cX11_keep 5 = .ok (.getfield 56, 3) := by decide +kernel
theorem dX11_keep_8 : decode cX11_keep 8 = .ok (.invokevirtual 368, 3) := by decide +kernel
theorem dX11_keep_11 : decode cX11_keep 11 = .ok (.aload_n 0, 1) := by decide +kernel
theorem dX11_keep_12 : decode cX11_keep 12 = .ok (.iconst 1, 1) := by decide +kernel
theorem dX11_keep_13 : decode cX11_keep 13 = .ok (.putfield 370, 3) := by decide +kernel
theorem dX11_keep_16 : decode cX11_keep 16 = .ok (.iconst 1, 1) := by decide +kernel
theorem dX11_keep_17 : decode cX11_keep 17 = .ok (.ireturn, 1) := by decide +kernel
theorem oX11_keep_0 : oP MT mX11_keep 0 (1, 1, 0, 1, []) := o_aload_n dX11_keep_0 rfl
theorem oX11_keep_1 : oP MT mX11_keep 1 (13, 3, 1, 11, []) := o_getR (M := mX11_keep) (C := RX11) (T := TX11) (ci := 11) (j := 1) (z := 11) dX11_keep_1 rfl lq_RX11_60 rfl rfl
theorem oX11_keep_4 : oP MT mX11_keep 4 (1, 1, 0, 1, []) := o_aload_n dX11_keep_4 rfl
theorem oX11_keep_5 : oP MT mX11_keep 5 (13, 3, 0, 11, []) := o_getR (M := mX11_keep) (C := RX11) (T := TX11) (ci := 11) (j := 0) (z := 11) dX11_keep_5 rfl lq_RX11_56 rfl rfl
theorem oX11_keep_8 : oP MT mX11_keep 8 (26, 3, 0, 1, [(1, 111)]) := o_callO ((vA.cons (v_callV dX11_keep_8 (ci := 1) rfl rfl (mj := mX1_copyFrom) mt_X1_copyFrom cmq_X1_copyFrom wq_838 wq_840 wq_841 (by decide) (by decide)) vA.nil))
theorem oX11_keep_11 : oP MT mX11_keep 11 (1, 1, 0, 1, []) := o_aload_n dX11_keep_11 rfl
theorem oX11_keep_12 : oP MT mX11_keep 12 (0, 1, 0, 1, []) := o_iconst dX11_keep_12 (by decide)
theorem oX11_keep_13 : oP MT mX11_keep 13 (15, 3, 2, 11, []) := o_putZ (M := mX11_keep) (C := RX11) (T := TX11) (ci := 11) (j := 2) (z := 11) dX11_keep_13 rfl lq_RX11_370 rfl rfl rfl rfl
theorem oX11_keep_16 : oP MT mX11_keep 16 (0, 1, 0, 1, []) := o_iconst dX11_keep_16 (by decide)
theorem oX11_keep_17 : oP MT mX11_keep 17 (21, 1, 0, 0, []) := o_iret dX11_keep_17 rfl
def ops_X11_keep : List (Nat × aO) := [(0, (1, 1, 0, 1, [])), (1, (13, 3, 1, 11, [])), (4, (1, 1, 0, 1, [])), (5, (13, 3, 0, 11, [])), (8, (26, 3, 0, 1, [(1, 111)])), (11, (1, 1, 0, 1, [])), (12, (0, 1, 0, 1, [])), (13, (15, 3, 2, 11, [])), (16, (0, 1, 0, 1, [])), (17, (21, 1, 0, 0, []))]
theorem os_X11_keep : oA MT mX11_keep ops_X11_keep := (oA.cons oX11_keep_0 (oA.cons oX11_keep_1 (oA.cons oX11_keep_4 (oA.cons oX11_keep_5 (oA.cons oX11_keep_8 (oA.cons oX11_keep_11 (oA.cons oX11_keep_12 (oA.cons oX11_keep_13 (oA.cons oX11_keep_16 (oA.cons oX11_keep_17 oA.nil))))))))))
theorem dX11_again_0 : decode cX11_again 0 = .ok (.aload_n 0, 1) := by decide +kernel
theorem dX11_again_1 : decode cX11_again 1 = .ok (.getfield 370, 3) := by decide +kernel
theorem dX11_again_4 : decode cX11_again 4 = .ok (.ifCond .ne 6, 3) := by decide +kernel
theorem dX11_again_7 : decode cX11_again 7 = .ok (.bipush (-3), 2) := by decide +kernel
theorem dX11_again_9 : decode cX11_again 9 = .ok (.ireturn, 1) := by decide +kernel
theorem dX11_again_10 : decode cX11_again 10 = .ok (.aload_n 0, 1) := by decide +kernel
theorem dX11_again_11 : decode cX11_again 11 = .ok (.getfield 56, 3) := by decide +kernel
theorem dX11_again_14 : decode cX11_again 14 = .ok (.aload_n 0, 1) := by decide +kernel
theorem dX11_again_15 : decode cX11_again 15 = .ok (.getfield 60, 3) := by decide +kernel
theorem dX11_again_18 : decode cX11_again 18 = .ok (.invokevirtual 368, 3) := by decide +kernel
theorem dX11_again_21 : decode cX11_again 21 = .ok (.aload_n 0, 1) := by decide +kernel
theorem dX11_again_22 : decode cX11_again 22 = .ok (.getfield 56, 3) := by decide +kernel
theorem dX11_again_25 : decode cX11_again 25 = .ok (.getfield 97, 3) := by decide +kernel
theorem dX11_again_28 : decode cX11_again 28 = .ok (.ireturn, 1) := by decide +kernel
theorem oX11_again_0 : oP MT mX11_again 0 (1, 1, 0, 1, []) := o_aload_n dX11_again_0 rfl
theorem oX11_again_1 : oP MT mX11_again 1 (12, 3, 2, 11, []) := o_getI (M := mX11_again) (C := RX11) (T := TX11) (ci := 11) (j := 2) (z := 11) dX11_again_1 rfl lq_RX11_370 rfl rfl
theorem oX11_again_4 : oP MT mX11_again 4 (10, 3, 1, 10, []) := o_if_ne dX11_again_4 (by decide) (by decide)
theorem oX11_again_7 : oP MT mX11_again 7 (0, 2, 0, (-3), []) := o_bipush dX11_again_7 (by decide)
theorem oX11_again_9 : oP MT mX11_again 9 (21, 1, 0, 0, []) := o_iret dX11_again_9 rfl
theorem oX11_again_10 : oP MT mX11_again 10 (1, 1, 0, 1, []) := o_aload_n dX11_again_10 rfl
theorem oX11_again_11 : oP MT mX11_again 11 (13, 3, 0, 11, []) := o_getR (M := mX11_again) (C := RX11) (T := TX11) (ci := 11) (j := 0) (z := 11) dX11_again_11 rfl lq_RX11_56 rfl rfl
theorem oX11_again_14 : oP MT mX11_again 14 (1, 1, 0, 1, []) := o_aload_n dX11_again_14 rfl
theorem oX11_again_15 : oP MT mX11_again 15 (13, 3, 1, 11, []) := o_getR (M := mX11_again) (C := RX11) (T := TX11) (ci := 11) (j := 1) (z := 11) dX11_again_15 rfl lq_RX11_60 rfl rfl
theorem oX11_again_18 : oP MT mX11_again 18 (26, 3, 0, 1, [(1, 111)]) := o_callO ((vA.cons (v_callV dX11_again_18 (ci := 1) rfl rfl (mj := mX1_copyFrom) mt_X1_copyFrom cmq_X1_copyFrom wq_838 wq_840 wq_841 (by decide) (by decide)) vA.nil))
theorem oX11_again_21 : oP MT mX11_again 21 (1, 1, 0, 1, []) := o_aload_n dX11_again_21 rfl
theorem oX11_again_22 : oP MT mX11_again 22 (13, 3, 0, 11, []) := o_getR (M := mX11_again) (C := RX11) (T := TX11) (ci := 11) (j := 0) (z := 11) dX11_again_22 rfl lq_RX11_56 rfl rfl
theorem oX11_again_25 : oP MT mX11_again 25 (12, 3, 8, 1, []) := o_getI (M := mX11_again) (C := RX1) (T := TX1) (ci := 1) (j := 8) (z := 1) dX11_again_25 rfl lq_RX11_97 rfl rfl
theorem oX11_again_28 : oP MT mX11_again 28 (21, 1, 0, 0, []) := o_iret dX11_again_28 rfl
def ops_X11_again : List (Nat × aO) := [(0, (1, 1, 0, 1, [])), (1, (12, 3, 2, 11, [])), (4, (10, 3, 1, 10, [])), (7, (0, 2, 0, (-3), [])), (9, (21, 1, 0, 0, [])), (10, (1, 1, 0, 1, [])), (11, (13, 3, 0, 11, [])), (14, (1, 1, 0, 1, [])), (15, (13, 3, 1, 11, [])), (18, (26, 3, 0, 1, [(1, 111)])), (21, (1, 1, 0, 1, [])), (22, (13, 3, 0, 11, [])), (25, (12, 3, 8, 1, [])), (28, (21, 1, 0, 0, []))]
theorem os_X11_again : oA MT mX11_again ops_X11_again := (oA.cons oX11_again_0 (oA.cons oX11_again_1 (oA.cons oX11_again_4 (oA.cons oX11_again_7 (oA.cons oX11_again_9 (oA.cons oX11_again_10 (oA.cons oX11_again_11 (oA.cons oX11_again_14 (oA.cons oX11_again_15 (oA.cons oX11_again_18 (oA.cons oX11_again_21 (oA.cons oX11_again_22 (oA.cons oX11_again_25 (oA.cons oX11_again_28 oA.nil))))))))))))))
theorem dJ6_bitCount_0f7a4_0 : decode cJ6_bitCount_0f7a4 0 = .ok (.iload_n 0, 1) := by decide +kernel
theorem dJ6_bitCount_0f7a4_1 : decode cJ6_bitCount_0f7a4 1 = .ok (.iload_n 0, 1) := by decide +kernel
theorem dJ6_bitCount_0f7a4_2 : decode cJ6_bitCount_0f7a4 2 = .ok (.iconst 1, 1) := by decide +kernel
theorem dJ6_bitCount_0f7a4_3 : decode cJ6_bitCount_0f7a4 3 = .ok (.iushr, 1) := by decide +kernel
theorem dJ6_bitCount_0f7a4_4 : decode cJ6_bitCount_0f7a4 4 = .ok (.ldc_w 265, 3) := by decide +kernel
theorem dJ6_bitCount_0f7a4_7 : decode cJ6_bitCount_0f7a4 7 = .ok (.iand, 1) := by decide +kernel
theorem dJ6_bitCount_0f7a4_8 : decode cJ6_bitCount_0f7a4 8 = .ok (.isub, 1) := by decide +kernel
theorem dJ6_bitCount_0f7a4_9 : decode cJ6_bitCount_0f7a4 9 = .ok (.istore_n 0, 1) := by decide +kernel
theorem dJ6_bitCount_0f7a4_10 : decode cJ6_bitCount_0f7a4 10 = .ok (.iload_n 0, 1) := by decide +kernel
theorem dJ6_bitCount_0f7a4_11 : decode cJ6_bitCount_0f7a4 11 = .ok (.ldc_w 266, 3) := by decide +kernel
theorem dJ6_bitCount_0f7a4_14 : decode cJ6_bitCount_0f7a4 14 = .ok (.iand, 1) := by decide +kernel
theorem dJ6_bitCount_0f7a4_15 : decode cJ6_bitCount_0f7a4 15 = .ok (.iload_n 0, 1) := by decide +kernel
theorem dJ6_bitCount_0f7a4_16 : decode cJ6_bitCount_0f7a4 16 = .ok (.iconst 2, 1) := by decide +kernel
theorem dJ6_bitCount_0f7a4_17 : decode cJ6_bitCount_0f7a4 17 = .ok (.iushr, 1) := by decide +kernel
theorem dJ6_bitCount_0f7a4_18 : decode cJ6_bitCount_0f7a4 18 = .ok (.ldc_w 266, 3) := by decide +kernel
theorem dJ6_bitCount_0f7a4_21 : decode cJ6_bitCount_0f7a4 21 = .ok (.iand, 1) := by decide +kernel
theorem dJ6_bitCount_0f7a4_22 : decode cJ6_bitCount_0f7a4 22 = .ok (.iadd, 1) := by decide +kernel
theorem dJ6_bitCount_0f7a4_23 : decode cJ6_bitCount_0f7a4 23 = .ok (.istore_n 0, 1) := by decide +kernel
theorem dJ6_bitCount_0f7a4_24 : decode cJ6_bitCount_0f7a4 24 = .ok (.iload_n 0, 1) := by decide +kernel
theorem dJ6_bitCount_0f7a4_25 : decode cJ6_bitCount_0f7a4 25 = .ok (.iload_n 0, 1) := by decide +kernel
theorem dJ6_bitCount_0f7a4_26 : decode cJ6_bitCount_0f7a4 26 = .ok (.iconst 4, 1) := by decide +kernel
theorem dJ6_bitCount_0f7a4_27 : decode cJ6_bitCount_0f7a4 27 = .ok (.iushr, 1) := by decide +kernel
theorem dJ6_bitCount_0f7a4_28 : decode cJ6_bitCount_0f7a4 28 = .ok (.iadd, 1) := by decide +kernel
theorem dJ6_bitCount_0f7a4_29 : decode cJ6_bitCount_0f7a4 29 = .ok (.ldc_w 267, 3) := by decide +kernel
theorem dJ6_bitCount_0f7a4_32 : decode cJ6_bitCount_0f7a4 32 = .ok (.iand, 1) := by decide +kernel
theorem dJ6_bitCount_0f7a4_33 : decode cJ6_bitCount_0f7a4 33 = .ok (.istore_n 0, 1) := by decide +kernel
theorem dJ6_bitCount_0f7a4_34 : decode cJ6_bitCount_0f7a4 34 = .ok (.iload_n 0, 1) := by decide +kernel
theorem dJ6_bitCount_0f7a4_35 : decode cJ6_bitCount_0f7a4 35 = .ok (.iload_n 0, 1) := by decide +kernel
theorem dJ6_bitCount_0f7a4_36 : decode cJ6_bitCount_0f7a4 36 = .ok (.bipush 8, 2) := by decide +kernel
theorem dJ6_bitCount_0f7a4_38 : decode cJ6_bitCount_0f7a4 38 = .ok (.iushr, 1) := by decide +kernel
theorem dJ6_bitCount_0f7a4_39 : decode cJ6_bitCount_0f7a4 39 = .ok (.iadd, 1) := by decide +kernel
theorem dJ6_bitCount_0f7a4_40 : decode cJ6_bitCount_0f7a4 40 = .ok (.istore_n 0, 1) := by decide +kernel
theorem dJ6_bitCount_0f7a4_41 : decode cJ6_bitCount_0f7a4 41 = .ok (.iload_n 0, 1) := by decide +kernel
theorem dJ6_bitCount_0f7a4_42 : decode cJ6_bitCount_0f7a4 42 = .ok (.iload_n 0, 1) := by decide +kernel
theorem dJ6_bitCount_0f7a4_43 : decode cJ6_bitCount_0f7a4 43 = .ok (.bipush 16, 2) := by decide +kernel
theorem dJ6_bitCount_0f7a4_45 : decode cJ6_bitCount_0f7a4 45 = .ok (.iushr, 1) := by decide +kernel
theorem dJ6_bitCount_0f7a4_46 : decode cJ6_bitCount_0f7a4 46 = .ok (.iadd, 1) := by decide +kernel
theorem dJ6_bitCount_0f7a4_47 : decode cJ6_bitCount_0f7a4 47 = .ok (.istore_n 0, 1) := by decide +kernel
theorem dJ6_bitCount_0f7a4_48 : decode cJ6_bitCount_0f7a4 48 = .ok (.iload_n 0, 1) := by decide +kernel
theorem dJ6_bitCount_0f7a4_49 : decode cJ6_bitCount_0f7a4 49 = .ok (.bipush 63, 2) := by decide +kernel
theorem dJ6_bitCount_0f7a4_51 : decode cJ6_bitCount_0f7a4 51 = .ok (.iand, 1) := by decide +kernel
theorem dJ6_bitCount_0f7a4_52 : decode cJ6_bitCount_0f7a4 52 = .ok (.ireturn, 1) := by decide +kernel
theorem oJ6_bitCount_0f7a4_0 : oP MT mJ6_bitCount_0f7a4 0 (1, 1, 0, 0, []) := o_iload_n dJ6_bitCount_0f7a4_0 rfl
theorem oJ6_bitCount_0f7a4_1 : oP MT mJ6_bitCount_0f7a4 1 (1, 1, 0, 0, []) := o_iload_n dJ6_bitCount_0f7a4_1 rfl
theorem oJ6_bitCount_0f7a4_2 : oP MT mJ6_bitCount_0f7a4 2 (0, 1, 0, 1, []) := o_iconst dJ6_bitCount_0f7a4_2 (by decide)
theorem oJ6_bitCount_0f7a4_3 : oP MT mJ6_bitCount_0f7a4 3 (4, 1, 8, 0, []) := o_iushr dJ6_bitCount_0f7a4_3
theorem oJ6_bitCount_0f7a4_4 : oP MT mJ6_bitCount_0f7a4 4 (0, 3, 0, 1431655765, []) := o_ldcw dJ6_bitCount_0f7a4_4 cq_RJ6_265 (by decide)
theorem oJ6_bitCount_0f7a4_7 : oP MT mJ6_bitCount_0f7a4 7 (4, 1, 3, 0, []) := o_iand dJ6_bitCount_0f7a4_7
theorem oJ6_bitCount_0f7a4_8 : oP MT mJ6_bitCount_0f7a4 8 (4, 1, 1, 0, []) := o_isub dJ6_bitCount_0f7a4_8
theorem oJ6_bitCount_0f7a4_9 : oP MT mJ6_bitCount_0f7a4 9 (2, 1, 0, 0, []) := o_istore_n dJ6_bitCount_0f7a4_9 rfl (by decide)
theorem oJ6_bitCount_0f7a4_10 : oP MT mJ6_bitCount_0f7a4 10 (1, 1, 0, 0, []) := o_iload_n dJ6_bitCount_0f7a4_10 rfl
theorem oJ6_bitCount_0f7a4_11 : oP MT mJ6_bitCount_0f7a4 11 (0, 3, 0, 858993459, []) := o_ldcw dJ6_bitCount_0f7a4_11 cq_RJ6_266 (by decide)
theorem oJ6_bitCount_0f7a4_14 : oP MT mJ6_bitCount_0f7a4 14 (4, 1, 3, 0, []) := o_iand dJ6_bitCount_0f7a4_14
theorem oJ6_bitCount_0f7a4_15 : oP MT mJ6_bitCount_0f7a4 15 (1, 1, 0, 0, []) := o_iload_n dJ6_bitCount_0f7a4_15 rfl
theorem oJ6_bitCount_0f7a4_16 : oP MT mJ6_bitCount_0f7a4 16 (0, 1, 0, 2, []) := o_iconst dJ6_bitCount_0f7a4_16 (by decide)
theorem oJ6_bitCount_0f7a4_17 : oP MT mJ6_bitCount_0f7a4 17 (4, 1, 8, 0, []) := o_iushr dJ6_bitCount_0f7a4_17
theorem oJ6_bitCount_0f7a4_18 : oP MT mJ6_bitCount_0f7a4 18 (0, 3, 0, 858993459, []) := o_ldcw dJ6_bitCount_0f7a4_18 cq_RJ6_266 (by decide)
theorem oJ6_bitCount_0f7a4_21 : oP MT mJ6_bitCount_0f7a4 21 (4, 1, 3, 0, []) := o_iand dJ6_bitCount_0f7a4_21
theorem oJ6_bitCount_0f7a4_22 : oP MT mJ6_bitCount_0f7a4 22 (4, 1, 0, 0, []) := o_iadd dJ6_bitCount_0f7a4_22
theorem oJ6_bitCount_0f7a4_23 : oP MT mJ6_bitCount_0f7a4 23 (2, 1, 0, 0, []) := o_istore_n dJ6_bitCount_0f7a4_23 rfl (by decide)
theorem oJ6_bitCount_0f7a4_24 : oP MT mJ6_bitCount_0f7a4 24 (1, 1, 0, 0, []) := o_iload_n dJ6_bitCount_0f7a4_24 rfl
theorem oJ6_bitCount_0f7a4_25 : oP MT mJ6_bitCount_0f7a4 25 (1, 1, 0, 0, []) := o_iload_n dJ6_bitCount_0f7a4_25 rfl
theorem oJ6_bitCount_0f7a4_26 : oP MT mJ6_bitCount_0f7a4 26 (0, 1, 0, 4, []) := o_iconst dJ6_bitCount_0f7a4_26 (by decide)
theorem oJ6_bitCount_0f7a4_27 : oP MT mJ6_bitCount_0f7a4 27 (4, 1, 8, 0, []) := o_iushr dJ6_bitCount_0f7a4_27
theorem oJ6_bitCount_0f7a4_28 : oP MT mJ6_bitCount_0f7a4 28 (4, 1, 0, 0, []) := o_iadd dJ6_bitCount_0f7a4_28
theorem oJ6_bitCount_0f7a4_29 : oP MT mJ6_bitCount_0f7a4 29 (0, 3, 0, 252645135, []) := o_ldcw dJ6_bitCount_0f7a4_29 cq_RJ6_267 (by decide)
theorem oJ6_bitCount_0f7a4_32 : oP MT mJ6_bitCount_0f7a4 32 (4, 1, 3, 0, []) := o_iand dJ6_bitCount_0f7a4_32
theorem oJ6_bitCount_0f7a4_33 : oP MT mJ6_bitCount_0f7a4 33 (2, 1, 0, 0, []) := o_istore_n dJ6_bitCount_0f7a4_33 rfl (by decide)
theorem oJ6_bitCount_0f7a4_34 : oP MT mJ6_bitCount_0f7a4 34 (1, 1, 0, 0, []) := o_iload_n dJ6_bitCount_0f7a4_34 rfl
theorem oJ6_bitCount_0f7a4_35 : oP MT mJ6_bitCount_0f7a4 35 (1, 1, 0, 0, []) := o_iload_n dJ6_bitCount_0f7a4_35 rfl
theorem oJ6_bitCount_0f7a4_36 : oP MT mJ6_bitCount_0f7a4 36 (0, 2, 0, 8, []) := o_bipush dJ6_bitCount_0f7a4_36 (by decide)
theorem oJ6_bitCount_0f7a4_38 : oP MT mJ6_bitCount_0f7a4 38 (4, 1, 8, 0, []) := o_iushr dJ6_bitCount_0f7a4_38
theorem oJ6_bitCount_0f7a4_39 : oP MT mJ6_bitCount_0f7a4 39 (4, 1, 0, 0, []) := o_iadd dJ6_bitCount_0f7a4_39
theorem oJ6_bitCount_0f7a4_40 : oP MT mJ6_bitCount_0f7a4 40 (2, 1, 0, 0, []) := o_istore_n dJ6_bitCount_0f7a4_40 rfl (by decide)
theorem oJ6_bitCount_0f7a4_41 : oP MT mJ6_bitCount_0f7a4 41 (1, 1, 0, 0, []) := o_iload_n dJ6_bitCount_0f7a4_41 rfl
theorem oJ6_bitCount_0f7a4_42 : oP MT mJ6_bitCount_0f7a4 42 (1, 1, 0, 0, []) := o_iload_n dJ6_bitCount_0f7a4_42 rfl
theorem oJ6_bitCount_0f7a4_43 : oP MT mJ6_bitCount_0f7a4 43 (0, 2, 0, 16, []) := o_bipush dJ6_bitCount_0f7a4_43 (by decide)
theorem oJ6_bitCount_0f7a4_45 : oP MT mJ6_bitCount_0f7a4 45 (4, 1, 8, 0, []) := o_iushr dJ6_bitCount_0f7a4_45
theorem oJ6_bitCount_0f7a4_46 : oP MT mJ6_bitCount_0f7a4 46 (4, 1, 0, 0, []) := o_iadd dJ6_bitCount_0f7a4_46
theorem oJ6_bitCount_0f7a4_47 : oP MT mJ6_bitCount_0f7a4 47 (2, 1, 0, 0, []) := o_istore_n dJ6_bitCount_0f7a4_47 rfl (by decide)
theorem oJ6_bitCount_0f7a4_48 : oP MT mJ6_bitCount_0f7a4 48 (1, 1, 0, 0, []) := o_iload_n dJ6_bitCount_0f7a4_48 rfl
theorem oJ6_bitCount_0f7a4_49 : oP MT mJ6_bitCount_0f7a4 49 (0, 2, 0, 63, []) := o_bipush dJ6_bitCount_0f7a4_49 (by decide)
theorem oJ6_bitCount_0f7a4_51 : oP MT mJ6_bitCount_0f7a4 51 (4, 1, 3, 0, []) := o_iand dJ6_bitCount_0f7a4_51
theorem oJ6_bitCount_0f7a4_52 : oP MT mJ6_bitCount_0f7a4 52 (21, 1, 0, 0, []) := o_iret dJ6_bitCount_0f7a4_52 rfl
def ops_J6_bitCount_0f7a4 : List (Nat × aO) := [(0, (1, 1, 0, 0, [])), (1, (1, 1, 0, 0, [])), (2, (0, 1, 0, 1, [])), (3, (4, 1, 8, 0, [])), (4, (0, 3, 0, 1431655765, [])), (7, (4, 1, 3, 0, [])), (8, (4, 1, 1, 0, [])), (9, (2, 1, 0, 0, [])), (10, (1, 1, 0, 0, [])), (11, (0, 3, 0, 858993459, [])), (14, (4, 1, 3, 0, [])), (15, (1, 1, 0, 0, [])), (16, (0, 1, 0, 2, [])), (17, (4, 1, 8, 0, [])), (18, (0, 3, 0, 858993459, [])), (21, (4, 1, 3, 0, [])), (22, (4, 1, 0, 0, [])), (23, (2, 1, 0, 0, [])), (24, (1, 1, 0, 0, [])), (25, (1, 1, 0, 0, [])), (26, (0, 1, 0, 4, [])), (27, (4, 1, 8, 0, [])), (28, (4, 1, 0, 0, [])), (29, (0, 3, 0, 252645135, [])), (32, (4, 1, 3, 0, [])), (33, (2, 1, 0, 0, [])), (34, (1, 1, 0, 0, [])), (35, (1, 1, 0, 0, [])), (36, (0, 2, 0, 8, [])), (38, (4, 1, 8, 0, [])), (39, (4, 1, 0, 0, [])), (40, (2, 1, 0, 0, [])), (41, (1, 1, 0, 0, [])), (42, (1, 1, 0, 0, [])), (43, (0, 2, 0, 16, [])), (45, (4, 1, 8, 0, [])), (46, (4, 1, 0, 0, [])), (47, (2, 1, 0, 0, [])), (48, (1, 1, 0, 0, [])), (49, (0, 2, 0, 63, [])), (51, (4, 1, 3, 0, [])), (52, (21, 1, 0, 0, []))]
theorem os_J6_bitCount_0f7a4 : oA MT mJ6_bitCount_0f7a4 ops_J6_bitCount_0f7a4 := (oA.cons oJ6_bitCount_0f7a4_0 (oA.cons oJ6_bitCount_0f7a4_1 (oA.cons oJ6_bitCount_0f7a4_2 (oA.cons oJ6_bitCount_0f7a4_3 (oA.cons oJ6_bitCount_0f7a4_4 (oA.cons oJ6_bitCount_0f7a4_7 (oA.cons oJ6_bitCount_0f7a4_8 (oA.cons oJ6_bitCount_0f7a4_9 (oA.cons oJ6_bitCount_0f7a4_10 (oA.cons oJ6_bitCount_0f7a4_11 (oA.cons oJ6_bitCount_0f7a4_14 (oA.cons oJ6_bitCount_0f7a4_15 (oA.cons oJ6_bitCount_0f7a4_16 (oA.cons oJ6_bitCount_0f7a4_17 (oA.cons oJ6_bitCount_0f7a4_18 (oA.cons oJ6_bitCount_0f7a4_21 (oA.cons oJ6_bitCount_0f7a4_22 (oA.cons oJ6_bitCount_0f7a4_23 (oA.cons oJ6_bitCount_0f7a4_24 (oA.cons oJ6_bitCount_0f7a4_25 (oA.cons oJ6_bitCount_0f7a4_26 (oA.cons oJ6_bitCount_0f7a4_27 (oA.cons oJ6_bitCount_0f7a4_28 (oA.cons oJ6_bitCount_0f7a4_29 (oA.cons oJ6_bitCount_0f7a4_32 (oA.cons oJ6_bitCount_0f7a4_33 (oA.cons oJ6_bitCount_0f7a4_34 (oA.cons oJ6_bitCount_0f7a4_35 (oA.cons oJ6_bitCount_0f7a4_36 (oA.cons oJ6_bitCount_0f7a4_38 (oA.cons oJ6_bitCount_0f7a4_39 (oA.cons oJ6_bitCount_0f7a4_40 (oA.cons oJ6_bitCount_0f7a4_41 (oA.cons oJ6_bitCount_0f7a4_42 (oA.cons oJ6_bitCount_0f7a4_43 (oA.cons oJ6_bitCount_0f7a4_45 (oA.cons oJ6_bitCount_0f7a4_46 (oA.cons oJ6_bitCount_0f7a4_47 (oA.cons oJ6_bitCount_0f7a4_48 (oA.cons oJ6_bitCount_0f7a4_49 (oA.cons oJ6_bitCount_0f7a4_51 (oA.cons oJ6_bitCount_0f7a4_52 oA.nil))))))))))))))))))))))))))))))))))))))))))
theorem dX12_get_0 : decode cX12_get 0 = .ok (.aload_n 0, 1) := by decide +kernel
theorem dX12_get_1 : decode cX12_get 1 = .ok (.getfield 9, 3) := by decide +kernel
theorem dX12_get_4 : decode cX12_get 4 = .ok (.bipush 35, 2) := by decide +kernel
theorem dX12_get_6 : decode cX12_get 6 = .ok (.iconst 5, 1) := by decide +kernel
theorem dX12_get_7 : decode cX12_get 7 = .ok (.iload_n 1, 1) := by decide +kernel
theorem dX12_get_8 : decode cX12_get 8 = .ok (.imul, 1) := by decide +kernel
theorem dX12_get_9 : decode cX12_get 9 = .ok (.iadd, 1) := by decide +kernel
theorem dX12_get_10 : decode cX12_get 10 = .ok (.iload_n 2, 1) := by decide +kernel
theorem dX12_get_11 : decode cX12_get 11 = .ok (.iadd, 1) := by decide +kernel
theorem dX12_get_12 : decode cX12_get 12 = .ok (.iaload, 1) := by decide +kernel
theorem dX12_get_13 : decode cX12_get 13 = .ok (.ireturn, 1) := by decide +kernel
theorem oX12_get_0 : oP MT mX12_get 0 (1, 1, 0, 1, []) := o_aload_n dX12_get_0 rfl
theorem oX12_get_1 : oP MT mX12_get 1 (13, 3, 0, 12, []) := o_getR (M := mX12_get) (C := RX12) (T := TX12) (ci := 12) (j := 0) (z := 12) dX12_get_1 rfl lq_RX12_9 rfl rfl
theorem oX12_get_4 : oP MT mX12_get 4 (0, 2, 0, 35, []) := o_bipush dX12_get_4 (by decide)
theorem oX12_get_6 : oP MT mX12_get 6 (0, 1, 0, 5, []) := o_iconst dX12_get_6 (by decide)
theorem oX12_get_7 : oP MT mX12_get 7 (1, 1, 1, 0, []) := o_iload_n dX12_get_7 rfl
theorem oX12_get_8 : oP MT mX12_get 8 (4, 1, 2, 0, []) := o_imul dX12_get_8
theorem oX12_get_9 : oP MT mX12_get 9 (4, 1, 0, 0, []) := o_iadd dX12_get_9
theorem oX12_get_10 : oP MT mX12_get 10 (1, 1, 2, 0, []) := o_iload_n dX12_get_10 rfl
theorem oX12_get_11 : oP MT mX12_get 11 (4, 1, 0, 0, []) := o_iadd dX12_get_11
theorem oX12_get_12 : oP MT mX12_get 12 (16, 1, 1, 0, []) := o_iaload dX12_get_12
theorem oX12_get_13 : oP MT mX12_get 13 (21, 1, 0, 0, []) := o_iret dX12_get_13 rfl
def ops_X12_get : List (Nat × aO) := [(0, (1, 1, 0, 1, [])), (1, (13, 3, 0, 12, [])), (4, (0, 2, 0, 35, [])), (6, (0, 1, 0, 5, [])), (7, (1, 1, 1, 0, [])), (8, (4, 1, 2, 0, [])), (9, (4, 1, 0, 0, [])), (10, (1, 1, 2, 0, [])), (11, (4, 1, 0, 0, [])), (12, (16, 1, 1, 0, [])), (13, (21, 1, 0, 0, []))]
theorem os_X12_get : oA MT mX12_get ops_X12_get := (oA.cons oX12_get_0 (oA.cons oX12_get_1 (oA.cons oX12_get_4 (oA.cons oX12_get_6 (oA.cons oX12_get_7 (oA.cons oX12_get_8 (oA.cons oX12_get_9 (oA.cons oX12_get_10 (oA.cons oX12_get_11 (oA.cons oX12_get_12 (oA.cons oX12_get_13 oA.nil)))))))))))
theorem dX12_ruleOf_0 : decode cX12_ruleOf 0 = .ok (.aload_n 0, 1) := by decide +kernel
theorem dX12_ruleOf_1 : decode cX12_ruleOf 1 = .ok (.getfield 9, 3) := by decide +kernel
theorem dX12_ruleOf_4 : decode cX12_ruleOf 4 = .ok (.bipush 89, 2) := by decide +kernel
theorem dX12_ruleOf_6 : decode cX12_ruleOf 6 = .ok (.iconst 3, 1) := by decide +kernel
theorem dX12_ruleOf_7 : decode cX12_ruleOf 7 = .ok (.iload_n 1, 1) := by decide +kernel
theorem dX12_ruleOf_8 : decode cX12_ruleOf 8 = .ok (.imul, 1) := by decide +kernel
theorem dX12_ruleOf_9 : decode cX12_ruleOf 9 = .ok (.iadd, 1) := by decide +kernel
theorem dX12_ruleOf_10 : decode cX12_ruleOf 10 = .ok (.iload_n 2, 1) := by decide +kernel
theorem dX12_ruleOf_11 : decode cX12_ruleOf 11 = .ok (.iadd, 1) := by decide +kernel
theorem dX12_ruleOf_12 : decode cX12_ruleOf 12 = .ok (.iaload, 1) := by decide +kernel
theorem dX12_ruleOf_13 : decode cX12_ruleOf 13 = .ok (.ireturn, 1) := by decide +kernel
theorem oX12_ruleOf_0 : oP MT mX12_ruleOf 0 (1, 1, 0, 1, []) := o_aload_n dX12_ruleOf_0 rfl
theorem oX12_ruleOf_1 : oP MT mX12_ruleOf 1 (13, 3, 0, 12, []) := o_getR (M := mX12_ruleOf) (C := RX12) (T := TX12) (ci := 12) (j := 0) (z := 12) dX12_ruleOf_1 rfl lq_RX12_9 rfl rfl
theorem oX12_ruleOf_4 : oP MT mX12_ruleOf 4 (0, 2, 0, 89, []) := o_bipush dX12_ruleOf_4 (by decide)
theorem oX12_ruleOf_6 : oP MT mX12_ruleOf 6 (0, 1, 0, 3, []) := o_iconst dX12_ruleOf_6 (by decide)
theorem oX12_ruleOf_7 : oP MT mX12_ruleOf 7 (1, 1, 1, 0, []) := o_iload_n dX12_ruleOf_7 rfl
theorem oX12_ruleOf_8 : oP MT mX12_ruleOf 8 (4, 1, 2, 0, []) := o_imul dX12_ruleOf_8
theorem oX12_ruleOf_9 : oP MT mX12_ruleOf 9 (4, 1, 0, 0, []) := o_iadd dX12_ruleOf_9
theorem oX12_ruleOf_10 : oP MT mX12_ruleOf 10 (1, 1, 2, 0, []) := o_iload_n dX12_ruleOf_10 rfl
theorem oX12_ruleOf_11 : oP MT mX12_ruleOf 11 (4, 1, 0, 0, []) := o_iadd dX12_ruleOf_11
theorem oX12_ruleOf_12 : oP MT mX12_ruleOf 12 (16, 1, 1, 0, []) := o_iaload dX12_ruleOf_12
theorem oX12_ruleOf_13 : oP MT mX12_ruleOf 13 (21, 1, 0, 0, []) := o_iret dX12_ruleOf_13 rfl
def ops_X12_ruleOf : List (Nat × aO) := [(0, (1, 1, 0, 1, [])), (1, (13, 3, 0, 12, [])), (4, (0, 2, 0, 89, [])), (6, (0, 1, 0, 3, [])), (7, (1, 1, 1, 0, [])), (8, (4, 1, 2, 0, [])), (9, (4, 1, 0, 0, [])), (10, (1, 1, 2, 0, [])), (11, (4, 1, 0, 0, [])), (12, (16, 1, 1, 0, [])), (13, (21, 1, 0, 0, []))]
theorem os_X12_ruleOf : oA MT mX12_ruleOf ops_X12_ruleOf := (oA.cons oX12_ruleOf_0 (oA.cons oX12_ruleOf_1 (oA.cons oX12_ruleOf_4 (oA.cons oX12_ruleOf_6 (oA.cons oX12_ruleOf_7 (oA.cons oX12_ruleOf_8 (oA.cons oX12_ruleOf_9 (oA.cons oX12_ruleOf_10 (oA.cons oX12_ruleOf_11 (oA.cons oX12_ruleOf_12 (oA.cons oX12_ruleOf_13 oA.nil)))))))))))
theorem dX12_isUnder_0 : decode cX12_isUnder 0 = .ok (.iload_n 0, 1) := by decide +kernel
theorem dX12_isUnder_1 : decode cX12_isUnder 1 = .ok (.istore_n 2, 1) := by decide +kernel
theorem dX12_isUnder_2 : decode cX12_isUnder 2 = .ok (.iload_n 2, 1) := by decide +kernel
theorem dX12_isUnder_3 : decode cX12_isUnder 3 = .ok (.iload_n 1, 1) := by decide +kernel
theorem dX12_isUnder_4 : decode cX12_isUnder 4 = .ok (.if_icmp .eq 15, 3) := by decide +kernel
theorem dX12_isUnder_7 : decode cX12_isUnder 7 = .ok (.iload_n 2, 1) := by decide +kernel
theorem dX12_isUnder_8 : decode cX12_isUnder 8 = .ok (.ifCond .eq 11, 3) := by decide +kernel
theorem dX12_isUnder_11 : decode cX12_isUnder 11 = .ok (.iload_n 2, 1) := by decide +kernel
theorem dX12_isUnder_12 : decode cX12_isUnder 12 = .ok (.invokestatic 75, 3) := by decide +kernel
theorem dX12_isUnder_15 : decode cX12_isUnder 15 = .ok (.istore_n 2, 1) := by decide +kernel
theorem dX12_isUnder_16 : decode cX12_isUnder 16 = .ok (.goto (-14), 3) := by decide +kernel
theorem dX12_isUnder_19 : decode cX12_isUnder 19 = .ok (.iload_n 2, 1) := by decide +kernel
theorem dX12_isUnder_20 : decode cX12_isUnder 20 = .ok (.iload_n 1, 1) := by decide +kernel
theorem dX12_isUnder_21 : decode cX12_isUnder 21 = .ok (.if_icmp .ne 7, 3) := by decide +kernel
theorem dX12_isUnder_24 : decode cX12_isUnder 24 = .ok (.iconst 1, 1) := by decide +kernel
theorem dX12_isUnder_25 : decode cX12_isUnder 25 = .ok (.goto 4, 3) := by decide +kernel
theorem dX12_isUnder_28 : decode cX12_isUnder 28 = .ok (.iconst 0, 1) := by decide +kernel
theorem dX12_isUnder_29 : decode cX12_isUnder 29 = .ok (.ireturn, 1) := by decide +kernel
theorem oX12_isUnder_0 : oP MT mX12_isUnder 0 (1, 1, 0, 0, []) := o_iload_n dX12_isUnder_0 rfl
theorem oX12_isUnder_1 : oP MT mX12_isUnder 1 (2, 1, 2, 0, []) := o_istore_n dX12_isUnder_1 rfl (by decide)
theorem oX12_isUnder_2 : oP MT mX12_isUnder 2 (1, 1, 2, 0, []) := o_iload_n dX12_isUnder_2 rfl
theorem oX12_isUnder_3 : oP MT mX12_isUnder 3 (1, 1, 1, 0, []) := o_iload_n dX12_isUnder_3 rfl
theorem oX12_isUnder_4 : oP MT mX12_isUnder 4 (11, 3, 0, 19, []) := o_icmp_eq dX12_isUnder_4 (by decide) (by decide)
theorem oX12_isUnder_7 : oP MT mX12_isUnder 7 (1, 1, 2, 0, []) := o_iload_n dX12_isUnder_7 rfl
theorem oX12_isUnder_8 : oP MT mX12_isUnder 8 (10, 3, 0, 19, []) := o_if_eq dX12_isUnder_8 (by decide) (by decide)
theorem oX12_isUnder_11 : oP MT mX12_isUnder 11 (1, 1, 2, 0, []) := o_iload_n dX12_isUnder_11 rfl
theorem oX12_isUnder_12 : oP MT mX12_isUnder 12 (25, 3, 115, 1, []) := o_callS dX12_isUnder_12 (mj := mX12_above) mt_X12_above cmq_X12_above wq_420 wq_423 (by decide) (by decide)
theorem oX12_isUnder_15 : oP MT mX12_isUnder 15 (2, 1, 2, 0, []) := o_istore_n dX12_isUnder_15 rfl (by decide)
theorem oX12_isUnder_16 : oP MT mX12_isUnder 16 (9, 3, 2, 0, []) := o_goto dX12_isUnder_16 (by decide)
theorem oX12_isUnder_19 : oP MT mX12_isUnder 19 (1, 1, 2, 0, []) := o_iload_n dX12_isUnder_19 rfl
theorem oX12_isUnder_20 : oP MT mX12_isUnder 20 (1, 1, 1, 0, []) := o_iload_n dX12_isUnder_20 rfl
theorem oX12_isUnder_21 : oP MT mX12_isUnder 21 (11, 3, 1, 28, []) := o_icmp_ne dX12_isUnder_21 (by decide) (by decide)
theorem oX12_isUnder_24 : oP MT mX12_isUnder 24 (0, 1, 0, 1, []) := o_iconst dX12_isUnder_24 (by decide)
theorem oX12_isUnder_25 : oP MT mX12_isUnder 25 (9, 3, 29, 0, []) := o_goto dX12_isUnder_25 (by decide)
theorem oX12_isUnder_28 : oP MT mX12_isUnder 28 (0, 1, 0, 0, []) := o_iconst dX12_isUnder_28 (by decide)
theorem oX12_isUnder_29 : oP MT mX12_isUnder 29 (22, 1, 0, 0, []) := o_zret dX12_isUnder_29 rfl
def ops_X12_isUnder : List (Nat × aO) := [(0, (1, 1, 0, 0, [])), (1, (2, 1, 2, 0, [])), (2, (1, 1, 2, 0, [])), (3, (1, 1, 1, 0, [])), (4, (11, 3, 0, 19, [])), (7, (1, 1, 2, 0, [])), (8, (10, 3, 0, 19, [])), (11, (1, 1, 2, 0, [])), (12, (25, 3, 115, 1, [])), (15, (2, 1, 2, 0, [])), (16, (9, 3, 2, 0, [])), (19, (1, 1, 2, 0, [])), (20, (1, 1, 1, 0, [])), (21, (11, 3, 1, 28, [])), (24, (0, 1, 0, 1, [])), (25, (9, 3, 29, 0, [])), (28, (0, 1, 0, 0, [])), (29, (22, 1, 0, 0, []))]
theorem os_X12_isUnder : oA MT mX12_isUnder ops_X12_isUnder := (oA.cons oX12_isUnder_0 (oA.cons oX12_isUnder_1 (oA.cons oX12_isUnder_2 (oA.cons oX12_isUnder_3 (oA.cons oX12_isUnder_4 (oA.cons oX12_isUnder_7 (oA.cons oX12_isUnder_8 (oA.cons oX12_isUnder_11 (oA.cons oX12_isUnder_12 (oA.cons oX12_isUnder_15 (oA.cons oX12_isUnder_16 (oA.cons oX12_isUnder_19 (oA.cons oX12_isUnder_20 (oA.cons oX12_isUnder_21 (oA.cons oX12_isUnder_24 (oA.cons oX12_isUnder_25 (oA.cons oX12_isUnder_28 (oA.cons oX12_isUnder_29 oA.nil))))))))))))))))))
theorem dX12_above_0 : decode cX12_above 0 = .ok (.iload_n 0, 1) := by decide +kernel
theorem dX12_above_1 : decode cX12_above 1 = .ok (.iconst 3, 1) := by decide +kernel
theorem dX12_above_2 : decode cX12_above 2 = .ok (.if_icmp .ne 7, 3) := by decide +kernel
theorem dX12_above_5 : decode cX12_above 5 = .ok (.iconst 2, 1) := by decide +kernel
theorem dX12_above_6 : decode cX12_above 6 = .ok (.goto 13, 3) := by decide +kernel
theorem dX12_above_9 : decode cX12_above 9 = .ok (.iload_n 0, 1) := by decide +kernel
theorem dX12_above_10 : decode cX12_above 10 = .ok (.iconst 5, 1) := by decide +kernel
theorem dX12_above_11 : decode cX12_above 11 = .ok (.if_icmp .ne 7, 3) := by decide +kernel
theorem dX12_above_14 : decode cX12_above 14 = .ok (.iconst 4, 1) := by decide +kernel
theorem dX12_above_15 : decode cX12_above 15 = .ok (.goto 4, 3) := by decide +kernel
theorem dX12_above_18 : decode cX12_above 18 = .ok (.iconst 0, 1) := by decide +kernel
theorem dX12_above_19 : decode cX12_above 19 = .ok (.ireturn, 1) := by decide +kernel
theorem oX12_above_0 : oP MT mX12_above 0 (1, 1, 0, 0, []) := o_iload_n dX12_above_0 rfl
theorem oX12_above_1 : oP MT mX12_above 1 (0, 1, 0, 3, []) := o_iconst dX12_above_1 (by decide)
theorem oX12_above_2 : oP MT mX12_above 2 (11, 3, 1, 9, []) := o_icmp_ne dX12_above_2 (by decide) (by decide)
theorem oX12_above_5 : oP MT mX12_above 5 (0, 1, 0, 2, []) := o_iconst dX12_above_5 (by decide)
theorem oX12_above_6 : oP MT mX12_above 6 (9, 3, 19, 0, []) := o_goto dX12_above_6 (by decide)
theorem oX12_above_9 : oP MT mX12_above 9 (1, 1, 0, 0, []) := o_iload_n dX12_above_9 rfl
theorem oX12_above_10 : oP MT mX12_above 10 (0, 1, 0, 5, []) := o_iconst dX12_above_10 (by decide)
theorem oX12_above_11 : oP MT mX12_above 11 (11, 3, 1, 18, []) := o_icmp_ne dX12_above_11 (by decide) (by decide)
theorem oX12_above_14 : oP MT mX12_above 14 (0, 1, 0, 4, []) := o_iconst dX12_above_14 (by decide)
theorem oX12_above_15 : oP MT mX12_above 15 (9, 3, 19, 0, []) := o_goto dX12_above_15 (by decide)
theorem oX12_above_18 : oP MT mX12_above 18 (0, 1, 0, 0, []) := o_iconst dX12_above_18 (by decide)
theorem oX12_above_19 : oP MT mX12_above 19 (21, 1, 0, 0, []) := o_iret dX12_above_19 rfl
def ops_X12_above : List (Nat × aO) := [(0, (1, 1, 0, 0, [])), (1, (0, 1, 0, 3, [])), (2, (11, 3, 1, 9, [])), (5, (0, 1, 0, 2, [])), (6, (9, 3, 19, 0, [])), (9, (1, 1, 0, 0, [])), (10, (0, 1, 0, 5, [])), (11, (11, 3, 1, 18, [])), (14, (0, 1, 0, 4, [])), (15, (9, 3, 19, 0, [])), (18, (0, 1, 0, 0, [])), (19, (21, 1, 0, 0, []))]
theorem os_X12_above : oA MT mX12_above ops_X12_above := (oA.cons oX12_above_0 (oA.cons oX12_above_1 (oA.cons oX12_above_2 (oA.cons oX12_above_5 (oA.cons oX12_above_6 (oA.cons oX12_above_9 (oA.cons oX12_above_10 (oA.cons oX12_above_11 (oA.cons oX12_above_14 (oA.cons oX12_above_15 (oA.cons oX12_above_18 (oA.cons oX12_above_19 oA.nil))))))))))))
theorem dX12_holdsFor_0 : decode cX12_holdsFor 0 = .ok (.iconst 0, 1) := by decide +kernel
theorem dX12_holdsFor_1 : decode cX12_holdsFor 1 = .ok (.istore_n 3, 1) := by decide +kernel
theorem dX12_holdsFor_2 : decode cX12_holdsFor 2 = .ok (.iload_n 1, 1) := by decide +kernel
theorem dX12_holdsFor_3 : decode cX12_holdsFor 3 = .ok (.ifCond .ne 7, 3) := by decide +kernel
theorem dX12_holdsFor_6 : decode cX12_holdsFor 6 = .ok (.iconst 0, 1) := by decide +kernel
theorem dX12_holdsFor_7 : decode cX12_holdsFor 7 = .ok (.goto 11, 3) := by decide +kernel
theorem dX12_holdsFor_10 : decode cX12_holdsFor 10 = .ok (.aload_n 0, 1) := by decide +kernel
theorem dX12_holdsFor_11 : decode cX12_holdsFor 11 = .ok (.iload_n 1, 1) := by decide +kernel
theorem dX12_holdsFor_12 : decode cX12_holdsFor 12 = .ok (.iconst 1, 1) := by decide +kernel
theorem dX12_holdsFor_13 : decode cX12_holdsFor 13 = .ok (.isub, 1) := by decide +kernel
theorem dX12_holdsFor_14 : decode cX12_holdsFor 14 = .ok (.iconst 2, 1) := by decide +kernel
theorem dX12_holdsFor_15 : decode cX12_holdsFor 15 = .ok (.invokevirtual 110, 3) := by decide +kernel
theorem dX12_holdsFor_18 : decode cX12_holdsFor 18 = .ok (.istore 4, 2) := by decide +kernel
theorem dX12_holdsFor_20 : decode cX12_holdsFor 20 = .ok (.iload 4, 2) := by decide +kernel
theorem dX12_holdsFor_22 : decode cX12_holdsFor 22 = .ok (.aload_n 0, 1) := by decide +kernel
theorem dX12_holdsFor_23 : decode cX12_holdsFor 23 = .ok (.iload_n 1, 1) := by decide +kernel
theorem dX12_holdsFor_24 : decode cX12_holdsFor 24 = .ok (.iconst 2, 1) := by decide +kernel
theorem dX12_holdsFor_25 : decode cX12_holdsFor 25 = .ok (.invokevirtual 110, 3) := by decide +kernel
theorem dX12_holdsFor_28 : decode cX12_holdsFor 28 = .ok (.if_icmp .ge 124, 3) := by decide +kernel
theorem dX12_holdsFor_31 : decode cX12_holdsFor 31 = .ok (.aload_n 0, 1) := by decide +kernel
theorem dX12_holdsFor_32 : decode cX12_holdsFor 32 = .ok (.getfield 9, 3) := by decide +kernel
theorem dX12_holdsFor_35 : decode cX12_holdsFor 35 = .ok (.bipush 113, 2) := by decide +kernel
theorem dX12_holdsFor_37 : decode cX12_holdsFor 37 = .ok (.iload 4, 2) := by decide +kernel
theorem dX12_holdsFor_39 : decode cX12_holdsFor 39 = .ok (.iadd, 1) := by decide +kernel
theorem dX12_holdsFor_40 : decode cX12_holdsFor 40 = .ok (.iaload, 1) := by decide +kernel
theorem dX12_holdsFor_41 : decode cX12_holdsFor 41 = .ok (.istore 5, 2) := by decide +kernel
theorem dX12_holdsFor_43 : decode cX12_holdsFor 43 = .ok (.iload 5, 2) := by decide +kernel
theorem dX12_holdsFor_45 : decode cX12_holdsFor 45 = .ok (.sipush 10010, 3) := by decide +kernel
theorem dX12_holdsFor_48 : decode cX12_holdsFor 48 = .ok (.if_icmp .ge 39, 3) := by decide +kernel
theorem dX12_holdsFor_51 : decode cX12_holdsFor 51 = .ok (.aload_n 0, 1) := by decide +kernel
theorem dX12_holdsFor_52 : decode cX12_holdsFor 52 = .ok (.getfield 19, 3) := by decide +kernel
theorem dX12_holdsFor_55 : decode cX12_holdsFor 55 = .ok (.iload_n 3, 1) := by decide +kernel
theorem dX12_holdsFor_56 : decode cX12_holdsFor 56 = .ok (.iload 5, 2) := by decide +kernel
theorem dX12_holdsFor_58 : decode cX12_holdsFor 58 = .ok (.sipush 10000, 3) := by decide +kernel
theorem dX12_holdsFor_61 : decode cX12_holdsFor 61 = .ok (.if_icmp .ge 8, 3) := by decide +kernel
theorem dX12_holdsFor_64 : decode cX12_holdsFor 64 = .ok (.iload 5, 2) := by decide +kernel
theorem dX12_holdsFor_66 : decode cX12_holdsFor 66 = .ok (.goto 14, 3) := by decide +kernel
theorem dX12_holdsFor_69 : decode cX12_holdsFor 69 = .ok (.aload_n 0, 1) := by decide +kernel
theorem dX12_holdsFor_70 : decode cX12_holdsFor 70 = .ok (.iload 5, 2) := by decide +kernel
theorem dX12_holdsFor_72 : decode cX12_holdsFor 72 = .ok (.sipush 10000, 3) := by decide +kernel
theorem dX12_holdsFor_75 : decode cX12_holdsFor 75 = .ok (.isub, 1) := by decide +kernel
theorem dX12_holdsFor_76 : decode cX12_holdsFor 76 = .ok (.iload_n 2, 1) := by decide +kernel
theorem dX12_holdsFor_77 : decode cX12_holdsFor 77 = .ok (.invokevirtual 113, 3) := by decide +kernel
theorem dX12_holdsFor_80 : decode cX12_holdsFor 80 = .ok (.iastore, 1) := by decide +kernel
theorem dX12_holdsFor_81 : decode cX12_holdsFor 81 = .ok (.iinc 3 1, 3) := by decide +kernel
theorem dX12_holdsFor_84 : decode cX12_holdsFor 84 = .ok (.goto 62, 3) := by decide +kernel
theorem dX12_holdsFor_87 : decode cX12_holdsFor 87 = .ok (.iload 5, 2) := by decide +kernel
theorem dX12_holdsFor_89 : decode cX12_holdsFor 89 = .ok (.sipush 10015, 3) := by decide +kernel
theorem dX12_holdsFor_92 : decode cX12_holdsFor 92 = .ok (.if_icmp .ne 24, 3) := by decide +kernel
theorem dX12_holdsFor_95 : decode cX12_holdsFor 95 = .ok (.aload_n 0, 1) := by decide +kernel
theorem dX12_holdsFor_96 : decode cX12_holdsFor 96 = .ok (.getfield 19, 3) := by decide +kernel
theorem dX12_holdsFor_99 : decode cX12_holdsFor 99 = .ok (.iload_n 3, 1) := by decide +kernel
theorem dX12_holdsFor_100 : decode cX12_holdsFor 100 = .ok (.iconst 1, 1) := by decide +kernel
theorem dX12_holdsFor_101 : decode cX12_holdsFor 101 = .ok (.isub, 1) := by decide +kernel
theorem dX12_holdsFor_102 : decode cX12_holdsFor 102 = .ok (.iconst 1, 1) := by decide +kernel
theorem dX12_holdsFor_103 : decode cX12_holdsFor 103 = .ok (.aload_n 0, 1) := by decide +kernel
theorem dX12_holdsFor_104 : decode cX12_holdsFor 104 = .ok (.getfield 19, 3) := by decide +kernel
theorem dX12_holdsFor_107 : decode cX12_holdsFor 107 = .ok (.iload_n 3, 1) := by decide +kernel
theorem dX12_holdsFor_108 : decode cX12_holdsFor 108 = .ok (.iconst 1, 1) := by decide +kernel
theorem dX12_holdsFor_109 : decode cX12_holdsFor 109 = .ok (.isub, 1) := by decide +kernel
theorem dX12_holdsFor_110 : decode cX12_holdsFor 110 = .ok (.iaload, 1) := by decide +kernel
theorem dX12_holdsFor_111 : decode cX12_holdsFor 111 = .ok (.isub, 1) := by decide +kernel
theorem dX12_holdsFor_112 : decode cX12_holdsFor 112 = .ok (.iastore, 1) := by decide +kernel
theorem dX12_holdsFor_113 : decode cX12_holdsFor 113 = .ok (.goto 33, 3) := by decide +kernel
theorem dX12_holdsFor_116 : decode cX12_holdsFor 116 = .ok (.iinc 3 (-1), 3) := by decide +kernel
theorem dX12_holdsFor_119 : decode cX12_holdsFor 119 = .ok (.aload_n 0, 1) := by decide +kernel
theorem dX12_holdsFor_120 : decode cX12_holdsFor 120 = .ok (.getfield 19, 3) := by decide +kernel
theorem dX12_holdsFor_123 : decode cX12_holdsFor 123 = .ok (.iload_n 3, 1) := by decide +kernel
theorem dX12_holdsFor_124 : decode cX12_holdsFor 124 = .ok (.iconst 1, 1) := by decide +kernel
theorem dX12_holdsFor_125 : decode cX12_holdsFor 125 = .ok (.isub, 1) := by decide +kernel
theorem dX12_holdsFor_126 : decode cX12_holdsFor 126 = .ok (.iload 5, 2) := by decide +kernel
theorem dX12_holdsFor_128 : decode cX12_holdsFor 128 = .ok (.aload_n 0, 1) := by decide +kernel
theorem dX12_holdsFor_129 : decode cX12_holdsFor 129 = .ok (.getfield 19, 3) := by decide +kernel
theorem dX12_holdsFor_132 : decode cX12_holdsFor 132 = .ok (.iload_n 3, 1) := by decide +kernel
theorem dX12_holdsFor_133 : decode cX12_holdsFor 133 = .ok (.iconst 1, 1) := by decide +kernel
theorem dX12_holdsFor_134 : decode cX12_holdsFor 134 = .ok (.isub, 1) := by decide +kernel
theorem dX12_holdsFor_135 : decode cX12_holdsFor 135 = .ok (.iaload, 1) := by decide +kernel
theorem dX12_holdsFor_136 : decode cX12_holdsFor 136 = .ok (.aload_n 0, 1) := by decide +kernel
theorem dX12_holdsFor_137 : decode cX12_holdsFor 137 = .ok (.getfield 19, 3) := by decide +kernel
theorem dX12_holdsFor_140 : decode cX12_holdsFor 140 = .ok (.iload_n 3, 1) := by decide +kernel
theorem dX12_holdsFor_141 : decode cX12_holdsFor 141 = .ok (.iaload, 1) := by decide +kernel
theorem dX12_holdsFor_142 : decode cX12_holdsFor 142 = .ok (.invokestatic 116, 3) := by decide +kernel
theorem dX12_holdsFor_145 : decode cX12_holdsFor 145 = .ok (.iastore, 1) := by decide +kernel
theorem dX12_holdsFor_146 : decode cX12_holdsFor 146 = .ok (.iinc 4 1, 3) := by decide +kernel
theorem dX12_holdsFor_149 : decode cX12_holdsFor 149 = .ok (.goto (-129), 3) := by decide +kernel
theorem dX12_holdsFor_152 : decode cX12_holdsFor 152 = .ok (.iload_n 3, 1) := by decide +kernel
theorem dX12_holdsFor_153 : decode cX12_holdsFor 153 = .ok (.ifCond .eq 12, 3) := by decide +kernel
theorem dX12_holdsFor_156 : decode cX12_holdsFor 156 = .ok (.aload_n 0, 1) := by decide +kernel
theorem dX12_holdsFor_157 : decode cX12_holdsFor 157 = .ok (.getfield 19, 3) := by decide +kernel
theorem dX12_holdsFor_160 : decode cX12_holdsFor 160 = .ok (.iconst 0, 1) := by decide +kernel
theorem dX12_holdsFor_161 : decode cX12_holdsFor 161 = .ok (.iaload, 1) := by decide +kernel
theorem dX12_holdsFor_162 : decode cX12_holdsFor 162 = .ok (.ifCond .eq 7, 3) := by decide +kernel
theorem dX12_holdsFor_165 : decode cX12_holdsFor 165 = .ok (.iconst 1, 1) := by decide +kernel
theorem dX12_holdsFor_166 : decode cX12_holdsFor 166 = .ok (.goto 4, 3) := by decide +kernel
theorem dX12_holdsFor_169 : decode cX12_holdsFor 169 = .ok (.iconst 0, 1) := by decide +kernel
theorem dX12_holdsFor_170 : decode cX12_holdsFor 170 = .ok (.ireturn, 1) := by decide +kernel
theorem oX12_holdsFor_0 : oP MT mX12_holdsFor 0 (0, 1, 0, 0, []) := o_iconst dX12_holdsFor_0 (by decide)
theorem oX12_holdsFor_1 : oP MT mX12_holdsFor 1 (2, 1, 3, 0, []) := o_istore_n dX12_holdsFor_1 rfl (by decide)
theorem oX12_holdsFor_2 : oP MT mX12_holdsFor 2 (1, 1, 1, 0, []) := o_iload_n dX12_holdsFor_2 rfl
theorem oX12_holdsFor_3 : oP MT mX12_holdsFor 3 (10, 3, 1, 10, []) := o_if_ne dX12_holdsFor_3 (by decide) (by decide)
theorem oX12_holdsFor_6 : oP MT mX12_holdsFor 6 (0, 1, 0, 0, []) := o_iconst dX12_holdsFor_6 (by decide)
theorem oX12_holdsFor_7 : oP MT mX12_holdsFor 7 (9, 3, 18, 0, []) := o_goto dX12_holdsFor_7 (by decide)
theorem oX12_holdsFor_10 : oP MT mX12_holdsFor 10 (1, 1, 0, 1, []) := o_aload_n dX12_holdsFor_10 rfl
theorem oX12_holdsFor_11 : oP MT mX12_holdsFor 11 (1, 1, 1, 0, []) := o_iload_n dX12_holdsFor_11 rfl
theorem oX12_holdsFor_12 : oP MT mX12_holdsFor 12 (0, 1, 0, 1, []) := o_iconst dX12_holdsFor_12 (by decide)
theorem oX12_holdsFor_13 : oP MT mX12_holdsFor 13 (4, 1, 1, 0, []) := o_isub dX12_holdsFor_13
theorem oX12_holdsFor_14 : oP MT mX12_holdsFor 14 (0, 1, 0, 2, []) := o_iconst dX12_holdsFor_14 (by decide)
theorem oX12_holdsFor_15 : oP MT mX12_holdsFor 15 (26, 3, 0, 2, [(12, 113)]) := o_callO ((vA.cons (v_callV dX12_holdsFor_15 (ci := 12) rfl rfl (mj := mX12_ruleOf) mt_X12_ruleOf cmq_X12_ruleOf wq_424 wq_426 wq_427 (by decide) (by decide)) vA.nil))
theorem oX12_holdsFor_18 : oP MT mX12_holdsFor 18 (2, 2, 4, 0, []) := o_istore dX12_holdsFor_18 (by decide)
theorem oX12_holdsFor_20 : oP MT mX12_holdsFor 20 (1, 2, 4, 0, []) := o_iload dX12_holdsFor_20
theorem oX12_holdsFor_22 : oP MT mX12_holdsFor 22 (1, 1, 0, 1, []) := o_aload_n dX12_holdsFor_22 rfl
theorem oX12_holdsFor_23 : oP MT mX12_holdsFor 23 (1, 1, 1, 0, []) := o_iload_n dX12_holdsFor_23 rfl
theorem oX12_holdsFor_24 : oP MT mX12_holdsFor 24 (0, 1, 0, 2, []) := o_iconst dX12_holdsFor_24 (by decide)
theorem oX12_holdsFor_25 : oP MT mX12_holdsFor 25 (26, 3, 0, 2, [(12, 113)]) := o_callO ((vA.cons (v_callV dX12_holdsFor_25 (ci := 12) rfl rfl (mj := mX12_ruleOf) mt_X12_ruleOf cmq_X12_ruleOf wq_424 wq_426 wq_427 (by decide) (by decide)) vA.nil))
theorem oX12_holdsFor_28 : oP MT mX12_holdsFor 28 (11, 3, 3, 152, []) := o_icmp_ge dX12_holdsFor_28 (by decide) (by decide)
theorem oX12_holdsFor_31 : oP MT mX12_holdsFor 31 (1, 1, 0, 1, []) := o_aload_n dX12_holdsFor_31 rfl
theorem oX12_holdsFor_32 : oP MT mX12_holdsFor 32 (13, 3, 0, 12, []) := o_getR (M := mX12_holdsFor) (C := RX12) (T := TX12) (ci := 12) (j := 0) (z := 12) dX12_holdsFor_32 rfl lq_RX12_9 rfl rfl
theorem oX12_holdsFor_35 : oP MT mX12_holdsFor 35 (0, 2, 0, 113, []) := o_bipush dX12_holdsFor_35 (by decide)
theorem oX12_holdsFor_37 : oP MT mX12_holdsFor 37 (1, 2, 4, 0, []) := o_iload dX12_holdsFor_37
theorem oX12_holdsFor_39 : oP MT mX12_holdsFor 39 (4, 1, 0, 0, []) := o_iadd dX12_holdsFor_39
theorem oX12_holdsFor_40 : oP MT mX12_holdsFor 40 (16, 1, 1, 0, []) := o_iaload dX12_holdsFor_40
theorem oX12_holdsFor_41 : oP MT mX12_holdsFor 41 (2, 2, 5, 0, []) := o_istore dX12_holdsFor_41 (by decide)
theorem oX12_holdsFor_43 : oP MT mX12_holdsFor 43 (1, 2, 5, 0, []) := o_iload dX12_holdsFor_43
theorem oX12_holdsFor_45 : oP MT mX12_holdsFor 45 (0, 3, 0, 10010, []) := o_sipush dX12_holdsFor_45 (by decide)
theorem oX12_holdsFor_48 : oP MT mX12_holdsFor 48 (11, 3, 3, 87, []) := o_icmp_ge dX12_holdsFor_48 (by decide) (by decide)
theorem oX12_holdsFor_51 : oP MT mX12_holdsFor 51 (1, 1, 0, 1, []) := o_aload_n dX12_holdsFor_51 rfl
theorem oX12_holdsFor_52 : oP MT mX12_holdsFor 52 (13, 3, 4, 12, []) := o_getR (M := mX12_holdsFor) (C := RX12) (T := TX12) (ci := 12) (j := 4) (z := 12) dX12_holdsFor_52 rfl lq_RX12_19 rfl rfl
theorem oX12_holdsFor_55 : oP MT mX12_holdsFor 55 (1, 1, 3, 0, []) := o_iload_n dX12_holdsFor_55 rfl
theorem oX12_holdsFor_56 : oP MT mX12_holdsFor 56 (1, 2, 5, 0, []) := o_iload dX12_holdsFor_56
theorem oX12_holdsFor_58 : oP MT mX12_holdsFor 58 (0, 3, 0, 10000, []) := o_sipush dX12_holdsFor_58 (by decide)
theorem oX12_holdsFor_61 : oP MT mX12_holdsFor 61 (11, 3, 3, 69, []) := o_icmp_ge dX12_holdsFor_61 (by decide) (by decide)
theorem oX12_holdsFor_64 : oP MT mX12_holdsFor 64 (1, 2, 5, 0, []) := o_iload dX12_holdsFor_64
theorem oX12_holdsFor_66 : oP MT mX12_holdsFor 66 (9, 3, 80, 0, []) := o_goto dX12_holdsFor_66 (by decide)
theorem oX12_holdsFor_69 : oP MT mX12_holdsFor 69 (1, 1, 0, 1, []) := o_aload_n dX12_holdsFor_69 rfl
theorem oX12_holdsFor_70 : oP MT mX12_holdsFor 70 (1, 2, 5, 0, []) := o_iload dX12_holdsFor_70
theorem oX12_holdsFor_72 : oP MT mX12_holdsFor 72 (0, 3, 0, 10000, []) := o_sipush dX12_holdsFor_72 (by decide)
theorem oX12_holdsFor_75 : oP MT mX12_holdsFor 75 (4, 1, 1, 0, []) := o_isub dX12_holdsFor_75
theorem oX12_holdsFor_76 : oP MT mX12_holdsFor 76 (1, 1, 2, 0, []) := o_iload_n dX12_holdsFor_76 rfl
theorem oX12_holdsFor_77 : oP MT mX12_holdsFor 77 (26, 3, 0, 2, [(12, 117)]) := o_callO ((vA.cons (v_callV dX12_holdsFor_77 (ci := 12) rfl rfl (mj := mX12_knownOf) mt_X12_knownOf cmq_X12_knownOf wq_428 wq_430 wq_431 (by decide) (by decide)) vA.nil))
theorem oX12_holdsFor_80 : oP MT mX12_holdsFor 80 (18, 1, 0, 0, []) := o_iastore dX12_holdsFor_80
theorem oX12_holdsFor_81 : oP MT mX12_holdsFor 81 (3, 3, 3, 1, []) := o_iinc dX12_holdsFor_81 (by decide) (by decide)
theorem oX12_holdsFor_84 : oP MT mX12_holdsFor 84 (9, 3, 146, 0, []) := o_goto dX12_holdsFor_84 (by decide)
theorem oX12_holdsFor_87 : oP MT mX12_holdsFor 87 (1, 2, 5, 0, []) := o_iload dX12_holdsFor_87
theorem oX12_holdsFor_89 : oP MT mX12_holdsFor 89 (0, 3, 0, 10015, []) := o_sipush dX12_holdsFor_89 (by decide)
theorem oX12_holdsFor_92 : oP MT mX12_holdsFor 92 (11, 3, 1, 116, []) := o_icmp_ne dX12_holdsFor_92 (by decide) (by decide)
theorem oX12_holdsFor_95 : oP MT mX12_holdsFor 95 (1, 1, 0, 1, []) := o_aload_n dX12_holdsFor_95 rfl
theorem oX12_holdsFor_96 : oP MT mX12_holdsFor 96 (13, 3, 4, 12, []) := o_getR (M := mX12_holdsFor) (C := RX12) (T := TX12) (ci := 12) (j := 4) (z := 12) dX12_holdsFor_96 rfl lq_RX12_19 rfl rfl
theorem oX12_holdsFor_99 : oP MT mX12_holdsFor 99 (1, 1, 3, 0, []) := o_iload_n dX12_holdsFor_99 rfl
theorem oX12_holdsFor_100 : oP MT mX12_holdsFor 100 (0, 1, 0, 1, []) := o_iconst dX12_holdsFor_100 (by decide)
theorem oX12_holdsFor_101 : oP MT mX12_holdsFor 101 (4, 1, 1, 0, []) := o_isub dX12_holdsFor_101
theorem oX12_holdsFor_102 : oP MT mX12_holdsFor 102 (0, 1, 0, 1, []) := o_iconst dX12_holdsFor_102 (by decide)
theorem oX12_holdsFor_103 : oP MT mX12_holdsFor 103 (1, 1, 0, 1, []) := o_aload_n dX12_holdsFor_103 rfl
theorem oX12_holdsFor_104 : oP MT mX12_holdsFor 104 (13, 3, 4, 12, []) := o_getR (M := mX12_holdsFor) (C := RX12) (T := TX12) (ci := 12) (j := 4) (z := 12) dX12_holdsFor_104 rfl lq_RX12_19 rfl rfl
theorem oX12_holdsFor_107 : oP MT mX12_holdsFor 107 (1, 1, 3, 0, []) := o_iload_n dX12_holdsFor_107 rfl
theorem oX12_holdsFor_108 : oP MT mX12_holdsFor 108 (0, 1, 0, 1, []) := o_iconst dX12_holdsFor_108 (by decide)
theorem oX12_holdsFor_109 : oP MT mX12_holdsFor 109 (4, 1, 1, 0, []) := o_isub dX12_holdsFor_109
theorem oX12_holdsFor_110 : oP MT mX12_holdsFor 110 (16, 1, 1, 0, []) := o_iaload dX12_holdsFor_110
theorem oX12_holdsFor_111 : oP MT mX12_holdsFor 111 (4, 1, 1, 0, []) := o_isub dX12_holdsFor_111
theorem oX12_holdsFor_112 : oP MT mX12_holdsFor 112 (18, 1, 0, 0, []) := o_iastore dX12_holdsFor_112
theorem oX12_holdsFor_113 : oP MT mX12_holdsFor 113 (9, 3, 146, 0, []) := o_goto dX12_holdsFor_113 (by decide)
theorem oX12_holdsFor_116 : oP MT mX12_holdsFor 116 (3, 3, 3, (-1), []) := o_iinc dX12_holdsFor_116 (by decide) (by decide)
theorem oX12_holdsFor_119 : oP MT mX12_holdsFor 119 (1, 1, 0, 1, []) := o_aload_n dX12_holdsFor_119 rfl
theorem oX12_holdsFor_120 : oP MT mX12_holdsFor 120 (13, 3, 4, 12, []) := o_getR (M := mX12_holdsFor) (C := RX12) (T := TX12) (ci := 12) (j := 4) (z := 12) dX12_holdsFor_120 rfl lq_RX12_19 rfl rfl
theorem oX12_holdsFor_123 : oP MT mX12_holdsFor 123 (1, 1, 3, 0, []) := o_iload_n dX12_holdsFor_123 rfl
theorem oX12_holdsFor_124 : oP MT mX12_holdsFor 124 (0, 1, 0, 1, []) := o_iconst dX12_holdsFor_124 (by decide)
theorem oX12_holdsFor_125 : oP MT mX12_holdsFor 125 (4, 1, 1, 0, []) := o_isub dX12_holdsFor_125
theorem oX12_holdsFor_126 : oP MT mX12_holdsFor 126 (1, 2, 5, 0, []) := o_iload dX12_holdsFor_126
theorem oX12_holdsFor_128 : oP MT mX12_holdsFor 128 (1, 1, 0, 1, []) := o_aload_n dX12_holdsFor_128 rfl
theorem oX12_holdsFor_129 : oP MT mX12_holdsFor 129 (13, 3, 4, 12, []) := o_getR (M := mX12_holdsFor) (C := RX12) (T := TX12) (ci := 12) (j := 4) (z := 12) dX12_holdsFor_129 rfl lq_RX12_19 rfl rfl
theorem oX12_holdsFor_132 : oP MT mX12_holdsFor 132 (1, 1, 3, 0, []) := o_iload_n dX12_holdsFor_132 rfl
theorem oX12_holdsFor_133 : oP MT mX12_holdsFor 133 (0, 1, 0, 1, []) := o_iconst dX12_holdsFor_133 (by decide)
theorem oX12_holdsFor_134 : oP MT mX12_holdsFor 134 (4, 1, 1, 0, []) := o_isub dX12_holdsFor_134
theorem oX12_holdsFor_135 : oP MT mX12_holdsFor 135 (16, 1, 1, 0, []) := o_iaload dX12_holdsFor_135
theorem oX12_holdsFor_136 : oP MT mX12_holdsFor 136 (1, 1, 0, 1, []) := o_aload_n dX12_holdsFor_136 rfl
theorem oX12_holdsFor_137 : oP MT mX12_holdsFor 137 (13, 3, 4, 12, []) := o_getR (M := mX12_holdsFor) (C := RX12) (T := TX12) (ci := 12) (j := 4) (z := 12) dX12_holdsFor_137 rfl lq_RX12_19 rfl rfl
theorem oX12_holdsFor_140 : oP MT mX12_holdsFor 140 (1, 1, 3, 0, []) := o_iload_n dX12_holdsFor_140 rfl
theorem oX12_holdsFor_141 : oP MT mX12_holdsFor 141 (16, 1, 1, 0, []) := o_iaload dX12_holdsFor_141
theorem oX12_holdsFor_142 : oP MT mX12_holdsFor 142 (25, 3, 119, 3, []) := o_callS dX12_holdsFor_142 (mj := mX12_joined) mt_X12_joined cmq_X12_joined wq_432 wq_434 (by decide) (by decide)
theorem oX12_holdsFor_145 : oP MT mX12_holdsFor 145 (18, 1, 0, 0, []) := o_iastore dX12_holdsFor_145
theorem oX12_holdsFor_146 : oP MT mX12_holdsFor 146 (3, 3, 4, 1, []) := o_iinc dX12_holdsFor_146 (by decide) (by decide)
theorem oX12_holdsFor_149 : oP MT mX12_holdsFor 149 (9, 3, 20, 0, []) := o_goto dX12_holdsFor_149 (by decide)
theorem oX12_holdsFor_152 : oP MT mX12_holdsFor 152 (1, 1, 3, 0, []) := o_iload_n dX12_holdsFor_152 rfl
theorem oX12_holdsFor_153 : oP MT mX12_holdsFor 153 (10, 3, 0, 165, []) := o_if_eq dX12_holdsFor_153 (by decide) (by decide)
theorem oX12_holdsFor_156 : oP MT mX12_holdsFor 156 (1, 1, 0, 1, []) := o_aload_n dX12_holdsFor_156 rfl
theorem oX12_holdsFor_157 : oP MT mX12_holdsFor 157 (13, 3, 4, 12, []) := o_getR (M := mX12_holdsFor) (C := RX12) (T := TX12) (ci := 12) (j := 4) (z := 12) dX12_holdsFor_157 rfl lq_RX12_19 rfl rfl
theorem oX12_holdsFor_160 : oP MT mX12_holdsFor 160 (0, 1, 0, 0, []) := o_iconst dX12_holdsFor_160 (by decide)
theorem oX12_holdsFor_161 : oP MT mX12_holdsFor 161 (16, 1, 1, 0, []) := o_iaload dX12_holdsFor_161
theorem oX12_holdsFor_162 : oP MT mX12_holdsFor 162 (10, 3, 0, 169, []) := o_if_eq dX12_holdsFor_162 (by decide) (by decide)
theorem oX12_holdsFor_165 : oP MT mX12_holdsFor 165 (0, 1, 0, 1, []) := o_iconst dX12_holdsFor_165 (by decide)
theorem oX12_holdsFor_166 : oP MT mX12_holdsFor 166 (9, 3, 170, 0, []) := o_goto dX12_holdsFor_166 (by decide)
theorem oX12_holdsFor_169 : oP MT mX12_holdsFor 169 (0, 1, 0, 0, []) := o_iconst dX12_holdsFor_169 (by decide)
theorem oX12_holdsFor_170 : oP MT mX12_holdsFor 170 (22, 1, 0, 0, []) := o_zret dX12_holdsFor_170 rfl
def ops_X12_holdsFor : List (Nat × aO) := [(0, (0, 1, 0, 0, [])), (1, (2, 1, 3, 0, [])), (2, (1, 1, 1, 0, [])), (3, (10, 3, 1, 10, [])), (6, (0, 1, 0, 0, [])), (7, (9, 3, 18, 0, [])), (10, (1, 1, 0, 1, [])), (11, (1, 1, 1, 0, [])), (12, (0, 1, 0, 1, [])), (13, (4, 1, 1, 0, [])), (14, (0, 1, 0, 2, [])), (15, (26, 3, 0, 2, [(12, 113)])), (18, (2, 2, 4, 0, [])), (20, (1, 2, 4, 0, [])), (22, (1, 1, 0, 1, [])), (23, (1, 1, 1, 0, [])), (24, (0, 1, 0, 2, [])), (25, (26, 3, 0, 2, [(12, 113)])), (28, (11, 3, 3, 152, [])), (31, (1, 1, 0, 1, [])), (32, (13, 3, 0, 12, [])), (35, (0, 2, 0, 113, [])), (37, (1, 2, 4, 0, [])), (39, (4, 1, 0, 0, [])), (40, (16, 1, 1, 0, [])), (41, (2, 2, 5, 0, [])), (43, (1, 2, 5, 0, [])), (45, (0, 3, 0, 10010, [])), (48, (11, 3, 3, 87, [])), (51, (1, 1, 0, 1, [])), (52, (13, 3, 4, 12, [])), (55, (1, 1, 3, 0, [])), (56, (1, 2, 5, 0, [])), (58, (0, 3, 0, 10000, [])), (61, (11, 3, 3, 69, [])), (64, (1, 2, 5, 0, [])), (66, (9, 3, 80, 0, [])), (69, (1, 1, 0, 1, [])), (70, (1, 2, 5, 0, [])), (72, (0, 3, 0, 10000, [])), (75, (4, 1, 1, 0, [])), (76, (1, 1, 2, 0, [])), (77, (26, 3, 0, 2, [(12, 117)])), (80, (18, 1, 0, 0, [])), (81, (3, 3, 3, 1, [])), (84, (9, 3, 146, 0, [])), (87, (1, 2, 5, 0, [])), (89, (0, 3, 0, 10015, [])), (92, (11, 3, 1, 116, [])), (95, (1, 1, 0, 1, [])), (96, (13, 3, 4, 12, [])), (99, (1, 1, 3, 0, [])), (100, (0, 1, 0, 1, [])), (101, (4, 1, 1, 0, [])), (102, (0, 1, 0, 1, [])), (103, (1, 1, 0, 1, [])), (104, (13, 3, 4, 12, [])), (107, (1, 1, 3, 0, [])), (108, (0, 1, 0, 1, [])), (109, (4, 1, 1, 0, [])), (110, (16, 1, 1, 0, [])), (111, (4, 1, 1, 0, [])), (112, (18, 1, 0, 0, [])), (113, (9, 3, 146, 0, [])), (116, (3, 3, 3, (-1), [])), (119, (1, 1, 0, 1, [])), (120, (13, 3, 4, 12, [])), (123, (1, 1, 3, 0, [])), (124, (0, 1, 0, 1, [])), (125, (4, 1, 1, 0, [])), (126, (1, 2, 5, 0, [])), (128, (1, 1, 0, 1, [])), (129, (13, 3, 4, 12, [])), (132, (1, 1, 3, 0, [])), (133, (0, 1, 0, 1, [])), (134, (4, 1, 1, 0, [])), (135, (16, 1, 1, 0, [])), (136, (1, 1, 0, 1, [])), (137, (13, 3, 4, 12, [])), (140, (1, 1, 3, 0, [])), (141, (16, 1, 1, 0, [])), (142, (25, 3, 119, 3, [])), (145, (18, 1, 0, 0, [])), (146, (3, 3, 4, 1, [])), (149, (9, 3, 20, 0, [])), (152, (1, 1, 3, 0, [])), (153, (10, 3, 0, 165, [])), (156, (1, 1, 0, 1, [])), (157, (13, 3, 4, 12, [])), (160, (0, 1, 0, 0, [])), (161, (16, 1, 1, 0, [])), (162, (10, 3, 0, 169, [])), (165, (0, 1, 0, 1, [])), (166, (9, 3, 170, 0, [])), (169, (0, 1, 0, 0, [])), (170, (22, 1, 0, 0, []))]
theorem os_X12_holdsFor : oA MT mX12_holdsFor ops_X12_holdsFor := (oA.cons oX12_holdsFor_0 (oA.cons oX12_holdsFor_1 (oA.cons oX12_holdsFor_2 (oA.cons oX12_holdsFor_3 (oA.cons oX12_holdsFor_6 (oA.cons oX12_holdsFor_7 (oA.cons oX12_holdsFor_10 (oA.cons oX12_holdsFor_11 (oA.cons oX12_holdsFor_12 (oA.cons oX12_holdsFor_13 (oA.cons oX12_holdsFor_14 (oA.cons oX12_holdsFor_15 (oA.cons oX12_holdsFor_18 (oA.cons oX12_holdsFor_20 (oA.cons oX12_holdsFor_22 (oA.cons oX12_holdsFor_23 (oA.cons oX12_holdsFor_24 (oA.cons oX12_holdsFor_25 (oA.cons oX12_holdsFor_28 (oA.cons oX12_holdsFor_31 (oA.cons oX12_holdsFor_32 (oA.cons oX12_holdsFor_35 (oA.cons oX12_holdsFor_37 (oA.cons oX12_holdsFor_39 (oA.cons oX12_holdsFor_40 (oA.cons oX12_holdsFor_41 (oA.cons oX12_holdsFor_43 (oA.cons oX12_holdsFor_45 (oA.cons oX12_holdsFor_48 (oA.cons oX12_holdsFor_51 (oA.cons oX12_holdsFor_52 (oA.cons oX12_holdsFor_55 (oA.cons oX12_holdsFor_56 (oA.cons oX12_holdsFor_58 (oA.cons oX12_holdsFor_61 (oA.cons oX12_holdsFor_64 (oA.cons oX12_holdsFor_66 (oA.cons oX12_holdsFor_69 (oA.cons oX12_holdsFor_70 (oA.cons oX12_holdsFor_72 (oA.cons oX12_holdsFor_75 (oA.cons oX12_holdsFor_76 (oA.cons oX12_holdsFor_77 (oA.cons oX12_holdsFor_80 (oA.cons oX12_holdsFor_81 (oA.cons oX12_holdsFor_84 (oA.cons oX12_holdsFor_87 (oA.cons oX12_holdsFor_89 (oA.cons oX12_holdsFor_92 (oA.cons oX12_holdsFor_95 (oA.cons oX12_holdsFor_96 (oA.cons oX12_holdsFor_99 (oA.cons oX12_holdsFor_100 (oA.cons oX12_holdsFor_101 (oA.cons oX12_holdsFor_102 (oA.cons oX12_holdsFor_103 (oA.cons oX12_holdsFor_104 (oA.cons oX12_holdsFor_107 (oA.cons oX12_holdsFor_108 (oA.cons oX12_holdsFor_109 (oA.cons oX12_holdsFor_110 (oA.cons oX12_holdsFor_111 (oA.cons oX12_holdsFor_112 (oA.cons oX12_holdsFor_113 (oA.cons oX12_holdsFor_116 (oA.cons oX12_holdsFor_119 (oA.cons oX12_holdsFor_120 (oA.cons oX12_holdsFor_123 (oA.cons oX12_holdsFor_124 (oA.cons oX12_holdsFor_125 (oA.cons oX12_holdsFor_126 (oA.cons oX12_holdsFor_128 (oA.cons oX12_holdsFor_129 (oA.cons oX12_holdsFor_132 (oA.cons oX12_holdsFor_133 (oA.cons oX12_holdsFor_134 (oA.cons oX12_holdsFor_135 (oA.cons oX12_holdsFor_136 (oA.cons oX12_holdsFor_137 (oA.cons oX12_holdsFor_140 (oA.cons oX12_holdsFor_141 (oA.cons oX12_holdsFor_142 (oA.cons oX12_holdsFor_145 (oA.cons oX12_holdsFor_146 (oA.cons oX12_holdsFor_149 (oA.cons oX12_holdsFor_152 (oA.cons oX12_holdsFor_153 (oA.cons oX12_holdsFor_156 (oA.cons oX12_holdsFor_157 (oA.cons oX12_holdsFor_160 (oA.cons oX12_holdsFor_161 (oA.cons oX12_holdsFor_162 (oA.cons oX12_holdsFor_165 (oA.cons oX12_holdsFor_166 (oA.cons oX12_holdsFor_169 (oA.cons oX12_holdsFor_170 oA.nil))))))))))))))))))))))))))))))))))))))))))))))))))))))))))))))))))))))))))))))))))))))))))))))))
theorem dX12_knownOf_0 : decode cX12_knownOf 0 = .ok (.iload_n 1, 1) := by decide +kernel
theorem dX12_knownOf_1 : decode cX12_knownOf 1 = .ok (.ifCond .ne 12, 3) := by decide +kernel
theorem dX12_knownOf_4 : decode cX12_knownOf 4 = .ok (.aload_n 0, 1) := by decide +kernel
theorem dX12_knownOf_5 : decode cX12_knownOf 5 = .ok (.getfield 9, 3) := by decide +kernel
theorem dX12_knownOf_8 : decode cX12_knownOf 8 = .ok (.iconst 0, 1) := by decide +kernel
theorem dX12_knownOf_9 : decode cX12_knownOf 9 = .ok (.iaload, 1) := by decide +kernel
theorem dX12_knownOf_10 : decode cX12_knownOf 10 = .ok (.goto 46, 3) := by decide +kernel
theorem dX12_knownOf_13 : decode cX12_knownOf 13 = .ok (.iload_n 1, 1) := by decide +kernel
theorem dX12_knownOf_14 : decode cX12_knownOf 14 = .ok (.iconst 1, 1) := by decide +kernel
theorem dX12_knownOf_15 : decode cX12_knownOf 15 = .ok (.if_icmp .ne 12, 3) := by decide +kernel
theorem dX12_knownOf_18 : decode cX12_knownOf 18 = .ok (.aload_n 0, 1) := by decide +kernel
theorem dX12_knownOf_19 : decode cX12_knownOf 19 = .ok (.iload_n 2, 1) := by decide +kernel
theorem dX12_knownOf_20 : decode cX12_knownOf 20 = .ok (.iconst 1, 1) := by decide +kernel
theorem dX12_knownOf_21 : decode cX12_knownOf 21 = .ok (.invokevirtual 79, 3) := by decide +kernel
theorem dX12_knownOf_24 : decode cX12_knownOf 24 = .ok (.goto 32, 3) := by decide +kernel
theorem dX12_knownOf_27 : decode cX12_knownOf 27 = .ok (.iload_n 1, 1) := by decide +kernel
theorem dX12_knownOf_28 : decode cX12_knownOf 28 = .ok (.iconst 2, 1) := by decide +kernel
theorem dX12_knownOf_29 : decode cX12_knownOf 29 = .ok (.if_icmp .ne 12, 3) := by decide +kernel
theorem dX12_knownOf_32 : decode cX12_knownOf 32 = .ok (.aload_n 0, 1) := by decide +kernel
theorem dX12_knownOf_33 : decode cX12_knownOf 33 = .ok (.iload_n 2, 1) := by decide +kernel
theorem dX12_knownOf_34 : decode cX12_knownOf 34 = .ok (.iconst 2, 1) := by decide +kernel
theorem dX12_knownOf_35 : decode cX12_knownOf 35 = .ok (.invokevirtual 79, 3) := by decide +kernel
theorem dX12_knownOf_38 : decode cX12_knownOf 38 = .ok (.goto 18, 3) := by decide +kernel
theorem dX12_knownOf_41 : decode cX12_knownOf 41 = .ok (.iload_n 1, 1) := by decide +kernel
theorem dX12_knownOf_42 : decode cX12_knownOf 42 = .ok (.iconst 3, 1) := by decide +kernel
theorem dX12_knownOf_43 : decode cX12_knownOf 43 = .ok (.if_icmp .ne 12, 3) := by decide +kernel
theorem dX12_knownOf_46 : decode cX12_knownOf 46 = .ok (.aload_n 0, 1) := by decide +kernel
theorem dX12_knownOf_47 : decode cX12_knownOf 47 = .ok (.invokevirtual 83, 3) := by decide +kernel
theorem dX12_knownOf_50 : decode cX12_knownOf 50 = .ok (.iconst 4, 1) := by decide +kernel
theorem dX12_knownOf_51 : decode cX12_knownOf 51 = .ok (.idiv, 1) := by decide +kernel
theorem dX12_knownOf_52 : decode cX12_knownOf 52 = .ok (.goto 4, 3) := by decide +kernel
theorem dX12_knownOf_55 : decode cX12_knownOf 55 = .ok (.iload_n 2, 1) := by decide +kernel
theorem dX12_knownOf_56 : decode cX12_knownOf 56 = .ok (.ireturn, 1) := by decide +kernel
theorem oX12_knownOf_0 : oP MT mX12_knownOf 0 (1, 1, 1, 0, []) := o_iload_n dX12_knownOf_0 rfl
theorem oX12_knownOf_1 : oP MT mX12_knownOf 1 (10, 3, 1, 13, []) := o_if_ne dX12_knownOf_1 (by decide) (by decide)
theorem oX12_knownOf_4 : oP MT mX12_knownOf 4 (1, 1, 0, 1, []) := o_aload_n dX12_knownOf_4 rfl
theorem oX12_knownOf_5 : oP MT mX12_knownOf 5 (13, 3, 0, 12, []) := o_getR (M := mX12_knownOf) (C := RX12) (T := TX12) (ci := 12) (j := 0) (z := 12) dX12_knownOf_5 rfl lq_RX12_9 rfl rfl
theorem oX12_knownOf_8 : oP MT mX12_knownOf 8 (0, 1, 0, 0, []) := o_iconst dX12_knownOf_8 (by decide)
theorem oX12_knownOf_9 : oP MT mX12_knownOf 9 (16, 1, 1, 0, []) := o_iaload dX12_knownOf_9
theorem oX12_knownOf_10 : oP MT mX12_knownOf 10 (9, 3, 56, 0, []) := o_goto dX12_knownOf_10 (by decide)
theorem oX12_knownOf_13 : oP MT mX12_knownOf 13 (1, 1, 1, 0, []) := o_iload_n dX12_knownOf_13 rfl
theorem oX12_knownOf_14 : oP MT mX12_knownOf 14 (0, 1, 0, 1, []) := o_iconst dX12_knownOf_14 (by decide)
theorem oX12_knownOf_15 : oP MT mX12_knownOf 15 (11, 3, 1, 27, []) := o_icmp_ne dX12_knownOf_15 (by decide) (by decide)
theorem oX12_knownOf_18 : oP MT mX12_knownOf 18 (1, 1, 0, 1, []) := o_aload_n dX12_knownOf_18 rfl
theorem oX12_knownOf_19 : oP MT mX12_knownOf 19 (1, 1, 2, 0, []) := o_iload_n dX12_knownOf_19 rfl
theorem oX12_knownOf_20 : oP MT mX12_knownOf 20 (0, 1, 0, 1, []) := o_iconst dX12_knownOf_20 (by decide)
theorem oX12_knownOf_21 : oP MT mX12_knownOf 21 (26, 3, 0, 2, [(12, 112)]) := o_callO ((vA.cons (v_callV dX12_knownOf_21 (ci := 12) rfl rfl (mj := mX12_get) mt_X12_get cmq_X12_get wq_435 wq_437 wq_438 (by decide) (by decide)) vA.nil))
theorem oX12_knownOf_24 : oP MT mX12_knownOf 24 (9, 3, 56, 0, []) := o_goto dX12_knownOf_24 (by decide)
theorem oX12_knownOf_27 : oP MT mX12_knownOf 27 (1, 1, 1, 0, []) := o_iload_n dX12_knownOf_27 rfl
theorem oX12_knownOf_28 : oP MT mX12_knownOf 28 (0, 1, 0, 2, []) := o_iconst dX12_knownOf_28 (by decide)
theorem oX12_knownOf_29 : oP MT mX12_knownOf 29 (11, 3, 1, 41, []) := o_icmp_ne dX12_knownOf_29 (by decide) (by decide)
theorem oX12_knownOf_32 : oP MT mX12_knownOf 32 (1, 1, 0, 1, []) := o_aload_n dX12_knownOf_32 rfl
theorem oX12_knownOf_33 : oP MT mX12_knownOf 33 (1, 1, 2, 0, []) := o_iload_n dX12_knownOf_33 rfl
theorem oX12_knownOf_34 : oP MT mX12_knownOf 34 (0, 1, 0, 2, []) := o_iconst dX12_knownOf_34 (by decide)
theorem oX12_knownOf_35 : oP MT mX12_knownOf 35 (26, 3, 0, 2, [(12, 112)]) := o_callO ((vA.cons (v_callV dX12_knownOf_35 (ci := 12) rfl rfl (mj := mX12_get) mt_X12_get cmq_X12_get wq_435 wq_437 wq_438 (by decide) (by decide)) vA.nil))
theorem oX12_knownOf_38 : oP MT mX12_knownOf 38 (9, 3, 56, 0, []) := o_goto dX12_knownOf_38 (by decide)
theorem oX12_knownOf_41 : oP MT mX12_knownOf 41 (1, 1, 1, 0, []) := o_iload_n dX12_knownOf_41 rfl
theorem oX12_knownOf_42 : oP MT mX12_knownOf 42 (0, 1, 0, 3, []) := o_iconst dX12_knownOf_42 (by decide)
theorem oX12_knownOf_43 : oP MT mX12_knownOf 43 (11, 3, 1, 55, []) := o_icmp_ne dX12_knownOf_43 (by decide) (by decide)
theorem oX12_knownOf_46 : oP MT mX12_knownOf 46 (1, 1, 0, 1, []) := o_aload_n dX12_knownOf_46 rfl
theorem oX12_knownOf_47 : oP MT mX12_knownOf 47 (26, 3, 0, 0, [(12, 118)]) := o_callO ((vA.cons (v_callV dX12_knownOf_47 (ci := 12) rfl rfl (mj := mX12_sunNow) mt_X12_sunNow cmq_X12_sunNow wq_439 wq_441 wq_442 (by decide) (by decide)) vA.nil))
theorem oX12_knownOf_50 : oP MT mX12_knownOf 50 (0, 1, 0, 4, []) := o_iconst dX12_knownOf_50 (by decide)
theorem oX12_knownOf_51 : oP MT mX12_knownOf 51 (4, 1, 9, 0, []) := o_idiv dX12_knownOf_51
theorem oX12_knownOf_52 : oP MT mX12_knownOf 52 (9, 3, 56, 0, []) := o_goto dX12_knownOf_52 (by decide)
theorem oX12_knownOf_55 : oP MT mX12_knownOf 55 (1, 1, 2, 0, []) := o_iload_n dX12_knownOf_55 rfl
theorem oX12_knownOf_56 : oP MT mX12_knownOf 56 (21, 1, 0, 0, []) := o_iret dX12_knownOf_56 rfl
def ops_X12_knownOf : List (Nat × aO) := [(0, (1, 1, 1, 0, [])), (1, (10, 3, 1, 13, [])), (4, (1, 1, 0, 1, [])), (5, (13, 3, 0, 12, [])), (8, (0, 1, 0, 0, [])), (9, (16, 1, 1, 0, [])), (10, (9, 3, 56, 0, [])), (13, (1, 1, 1, 0, [])), (14, (0, 1, 0, 1, [])), (15, (11, 3, 1, 27, [])), (18, (1, 1, 0, 1, [])), (19, (1, 1, 2, 0, [])), (20, (0, 1, 0, 1, [])), (21, (26, 3, 0, 2, [(12, 112)])), (24, (9, 3, 56, 0, [])), (27, (1, 1, 1, 0, [])), (28, (0, 1, 0, 2, [])), (29, (11, 3, 1, 41, [])), (32, (1, 1, 0, 1, [])), (33, (1, 1, 2, 0, [])), (34, (0, 1, 0, 2, [])), (35, (26, 3, 0, 2, [(12, 112)])), (38, (9, 3, 56, 0, [])), (41, (1, 1, 1, 0, [])), (42, (0, 1, 0, 3, [])), (43, (11, 3, 1, 55, [])), (46, (1, 1, 0, 1, [])), (47, (26, 3, 0, 0, [(12, 118)])), (50, (0, 1, 0, 4, [])), (51, (4, 1, 9, 0, [])), (52, (9, 3, 56, 0, [])), (55, (1, 1, 2, 0, [])), (56, (21, 1, 0, 0, []))]
theorem os_X12_knownOf : oA MT mX12_knownOf ops_X12_knownOf := (oA.cons oX12_knownOf_0 (oA.cons oX12_knownOf_1 (oA.cons oX12_knownOf_4 (oA.cons oX12_knownOf_5 (oA.cons oX12_knownOf_8 (oA.cons oX12_knownOf_9 (oA.cons oX12_knownOf_10 (oA.cons oX12_knownOf_13 (oA.cons oX12_knownOf_14 (oA.cons oX12_knownOf_15 (oA.cons oX12_knownOf_18 (oA.cons oX12_knownOf_19 (oA.cons oX12_knownOf_20 (oA.cons oX12_knownOf_21 (oA.cons oX12_knownOf_24 (oA.cons oX12_knownOf_27 (oA.cons oX12_knownOf_28 (oA.cons oX12_knownOf_29 (oA.cons oX12_knownOf_32 (oA.cons oX12_knownOf_33 (oA.cons oX12_knownOf_34 (oA.cons oX12_knownOf_35 (oA.cons oX12_knownOf_38 (oA.cons oX12_knownOf_41 (oA.cons oX12_knownOf_42 (oA.cons oX12_knownOf_43 (oA.cons oX12_knownOf_46 (oA.cons oX12_knownOf_47 (oA.cons oX12_knownOf_50 (oA.cons oX12_knownOf_51 (oA.cons oX12_knownOf_52 (oA.cons oX12_knownOf_55 (oA.cons oX12_knownOf_56 oA.nil)))))))))))))))))))))))))))))))))
theorem dX12_sunNow_0 : decode cX12_sunNow 0 = .ok (.aload_n 0, 1) := by decide +kernel
theorem dX12_sunNow_1 : decode cX12_sunNow 1 = .ok (.getfield 9, 3) := by decide +kernel
theorem dX12_sunNow_4 : decode cX12_sunNow 4 = .ok (.iconst 0, 1) := by decide +kernel
theorem dX12_sunNow_5 : decode cX12_sunNow 5 = .ok (.iaload, 1) := by decide +kernel
theorem dX12_sunNow_6 : decode cX12_sunNow 6 = .ok (.bipush 16, 2) := by decide +kernel
theorem dX12_sunNow_8 : decode cX12_sunNow 8 = .ok (.if_icmp .ge 20, 3) := by decide +kernel
theorem dX12_sunNow_11 : decode cX12_sunNow 11 = .ok (.aload_n 0, 1) := by decide +kernel
theorem dX12_sunNow_12 : decode cX12_sunNow 12 = .ok (.getfield 9, 3) := by decide +kernel
theorem dX12_sunNow_15 : decode cX12_sunNow 15 = .ok (.bipush 7, 2) := by decide +kernel
theorem dX12_sunNow_17 : decode cX12_sunNow 17 = .ok (.aload_n 0, 1) := by decide +kernel
theorem dX12_sunNow_18 : decode cX12_sunNow 18 = .ok (.getfield 9, 3) := by decide +kernel
theorem dX12_sunNow_21 : decode cX12_sunNow 21 = .ok (.iconst 0, 1) := by decide +kernel
theorem dX12_sunNow_22 : decode cX12_sunNow 22 = .ok (.iaload, 1) := by decide +kernel
theorem dX12_sunNow_23 : decode cX12_sunNow 23 = .ok (.iadd, 1) := by decide +kernel
theorem dX12_sunNow_24 : decode cX12_sunNow 24 = .ok (.iaload, 1) := by decide +kernel
theorem dX12_sunNow_25 : decode cX12_sunNow 25 = .ok (.goto 4, 3) := by decide +kernel
theorem dX12_sunNow_28 : decode cX12_sunNow 28 = .ok (.iconst 0, 1) := by decide +kernel
theorem dX12_sunNow_29 : decode cX12_sunNow 29 = .ok (.ireturn, 1) := by decide +kernel
theorem oX12_sunNow_0 : oP MT mX12_sunNow 0 (1, 1, 0, 1, []) := o_aload_n dX12_sunNow_0 rfl
theorem oX12_sunNow_1 : oP MT mX12_sunNow 1 (13, 3, 0, 12, []) := o_getR (M := mX12_sunNow) (C := RX12) (T := TX12) (ci := 12) (j := 0) (z := 12) dX12_sunNow_1 rfl lq_RX12_9 rfl rfl
theorem oX12_sunNow_4 : oP MT mX12_sunNow 4 (0, 1, 0, 0, []) := o_iconst dX12_sunNow_4 (by decide)
theorem oX12_sunNow_5 : oP MT mX12_sunNow 5 (16, 1, 1, 0, []) := o_iaload dX12_sunNow_5
theorem oX12_sunNow_6 : oP MT mX12_sunNow 6 (0, 2, 0, 16, []) := o_bipush dX12_sunNow_6 (by decide)
theorem oX12_sunNow_8 : oP MT mX12_sunNow 8 (11, 3, 3, 28, []) := o_icmp_ge dX12_sunNow_8 (by decide) (by decide)
theorem oX12_sunNow_11 : oP MT mX12_sunNow 11 (1, 1, 0, 1, []) := o_aload_n dX12_sunNow_11 rfl
theorem oX12_sunNow_12 : oP MT mX12_sunNow 12 (13, 3, 0, 12, []) := o_getR (M := mX12_sunNow) (C := RX12) (T := TX12) (ci := 12) (j := 0) (z := 12) dX12_sunNow_12 rfl lq_RX12_9 rfl rfl
theorem oX12_sunNow_15 : oP MT mX12_sunNow 15 (0, 2, 0, 7, []) := o_bipush dX12_sunNow_15 (by decide)
theorem oX12_sunNow_17 : oP MT mX12_sunNow 17 (1, 1, 0, 1, []) := o_aload_n dX12_sunNow_17 rfl
theorem oX12_sunNow_18 : oP MT mX12_sunNow 18 (13, 3, 0, 12, []) := o_getR (M := mX12_sunNow) (C := RX12) (T := TX12) (ci := 12) (j := 0) (z := 12) dX12_sunNow_18 rfl lq_RX12_9 rfl rfl
theorem oX12_sunNow_21 : oP MT mX12_sunNow 21 (0, 1, 0, 0, []) := o_iconst dX12_sunNow_21 (by decide)
theorem oX12_sunNow_22 : oP MT mX12_sunNow 22 (16, 1, 1, 0, []) := o_iaload dX12_sunNow_22
theorem oX12_sunNow_23 : oP MT mX12_sunNow 23 (4, 1, 0, 0, []) := o_iadd dX12_sunNow_23
theorem oX12_sunNow_24 : oP MT mX12_sunNow 24 (16, 1, 1, 0, []) := o_iaload dX12_sunNow_24
theorem oX12_sunNow_25 : oP MT mX12_sunNow 25 (9, 3, 29, 0, []) := o_goto dX12_sunNow_25 (by decide)
theorem oX12_sunNow_28 : oP MT mX12_sunNow 28 (0, 1, 0, 0, []) := o_iconst dX12_sunNow_28 (by decide)
theorem oX12_sunNow_29 : oP MT mX12_sunNow 29 (21, 1, 0, 0, []) := o_iret dX12_sunNow_29 rfl
def ops_X12_sunNow : List (Nat × aO) := [(0, (1, 1, 0, 1, [])), (1, (13, 3, 0, 12, [])), (4, (0, 1, 0, 0, [])), (5, (16, 1, 1, 0, [])), (6, (0, 2, 0, 16, [])), (8, (11, 3, 3, 28, [])), (11, (1, 1, 0, 1, [])), (12, (13, 3, 0, 12, [])), (15, (0, 2, 0, 7, [])), (17, (1, 1, 0, 1, [])), (18, (13, 3, 0, 12, [])), (21, (0, 1, 0, 0, [])), (22, (16, 1, 1, 0, [])), (23, (4, 1, 0, 0, [])), (24, (16, 1, 1, 0, [])), (25, (9, 3, 29, 0, [])), (28, (0, 1, 0, 0, [])), (29, (21, 1, 0, 0, []))]
theorem os_X12_sunNow : oA MT mX12_sunNow ops_X12_sunNow := (oA.cons oX12_sunNow_0 (oA.cons oX12_sunNow_1 (oA.cons oX12_sunNow_4 (oA.cons oX12_sunNow_5 (oA.cons oX12_sunNow_6 (oA.cons oX12_sunNow_8 (oA.cons oX12_sunNow_11 (oA.cons oX12_sunNow_12 (oA.cons oX12_sunNow_15 (oA.cons oX12_sunNow_17 (oA.cons oX12_sunNow_18 (oA.cons oX12_sunNow_21 (oA.cons oX12_sunNow_22 (oA.cons oX12_sunNow_23 (oA.cons oX12_sunNow_24 (oA.cons oX12_sunNow_25 (oA.cons oX12_sunNow_28 (oA.cons oX12_sunNow_29 oA.nil))))))))))))))))))
theorem dX12_joined_0 : decode cX12_joined 0 = .ok (.iload_n 0, 1) := by decide +kernel
theorem dX12_joined_1 : decode cX12_joined 1 = .ok (.tableswitch 78 10010 10013 #[31, 42, 53, 64], 31) := by decide +kernel
theorem dX12_joined_32 : decode cX12_joined 32 = .ok (.iload_n 1, 1) := by decide +kernel
theorem dX12_joined_33 : decode cX12_joined 33 = .ok (.iload_n 2, 1) := by decide +kernel
theorem dX12_joined_34 : decode cX12_joined 34 = .ok (.if_icmp .ge 7, 3) := by decide +kernel
theorem dX12_joined_37 : decode cX12_joined 37 = .ok (.iconst 1, 1) := by decide +kernel
theorem dX12_joined_38 : decode cX12_joined 38 = .ok (.goto 4, 3) := by decide +kernel
theorem dX12_joined_41 : decode cX12_joined 41 = .ok (.iconst 0, 1) := by decide +kernel
theorem dX12_joined_42 : decode cX12_joined 42 = .ok (.ireturn, 1) := by decide +kernel
theorem dX12_joined_43 : decode cX12_joined 43 = .ok (.iload_n 1, 1) := by decide +kernel
theorem dX12_joined_44 : decode cX12_joined 44 = .ok (.iload_n 2, 1) := by decide +kernel
theorem dX12_joined_45 : decode cX12_joined 45 = .ok (.if_icmp .ne 7, 3) := by decide +kernel
theorem dX12_joined_48 : decode cX12_joined 48 = .ok (.iconst 1, 1) := by decide +kernel
theorem dX12_joined_49 : decode cX12_joined 49 = .ok (.goto 4, 3) := by decide +kernel
theorem dX12_joined_52 : decode cX12_joined 52 = .ok (.iconst 0, 1) := by decide +kernel
theorem dX12_joined_53 : decode cX12_joined 53 = .ok (.ireturn, 1) := by decide +kernel
theorem dX12_joined_54 : decode cX12_joined 54 = .ok (.iload_n 1, 1) := by decide +kernel
theorem dX12_joined_55 : decode cX12_joined 55 = .ok (.iload_n 2, 1) := by decide +kernel
theorem dX12_joined_56 : decode cX12_joined 56 = .ok (.if_icmp .le 7, 3) := by decide +kernel
theorem dX12_joined_59 : decode cX12_joined 59 = .ok (.iconst 1, 1) := by decide +kernel
theorem dX12_joined_60 : decode cX12_joined 60 = .ok (.goto 4, 3) := by decide +kernel
theorem dX12_joined_63 : decode cX12_joined 63 = .ok (.iconst 0, 1) := by decide +kernel
theorem dX12_joined_64 : decode cX12_joined 64 = .ok (.ireturn, 1) := by decide +kernel
theorem dX12_joined_65 : decode cX12_joined 65 = .ok (.iload_n 1, 1) := by decide +kernel
theorem dX12_joined_66 : decode cX12_joined 66 = .ok (.ifCond .eq 11, 3) := by decide +kernel
theorem dX12_joined_69 : decode cX12_joined 69 = .ok (.iload_n 2, 1) := by decide +kernel
theorem dX12_joined_70 : decode cX12_joined 70 = .ok (.ifCond .eq 7, 3) := by decide +kernel
theorem dX12_joined_73 : decode cX12_joined 73 = .ok (.iconst 1, 1) := by decide +kernel
theorem dX12_joined_74 : decode cX12_joined 74 = .ok (.goto 4, 3) := by decide +kernel
theorem dX12_joined_77 : decode cX12_joined 77 = .ok (.iconst 0, 1) := by decide +kernel
theorem dX12_joined_78 : decode cX12_joined 78 = .ok (.ireturn, 1) := by decide +kernel
theorem dX12_joined_79 : decode cX12_joined 79 = .ok (.iload_n 1, 1) := by decide +kernel
theorem dX12_joined_80 : decode cX12_joined 80 = .ok (.ifCond .ne 7, 3) := by decide +kernel
theorem dX12_joined_83 : decode cX12_joined 83 = .ok (.iload_n 2, 1) := by decide +kernel
theorem dX12_joined_84 : decode cX12_joined 84 = .ok (.ifCond .eq 7, 3) := by decide +kernel
theorem dX12_joined_87 : decode cX12_joined 87 = .ok (.iconst 1, 1) := by decide +kernel
theorem dX12_joined_88 : decode cX12_joined 88 = .ok (.goto 4, 3) := by decide +kernel
theorem dX12_joined_91 : decode cX12_joined 91 = .ok (.iconst 0, 1) := by decide +kernel
theorem dX12_joined_92 : decode cX12_joined 92 = .ok (.ireturn, 1) := by decide +kernel
theorem oX12_joined_0 : oP MT mX12_joined 0 (1, 1, 0, 0, []) := o_iload_n dX12_joined_0 rfl
theorem oX12_joined_1 : oP MT mX12_joined 1 (24, 31, 79, 0, [(10010, 32), (10011, 43), (10012, 54), (10013, 65)]) := o_table dX12_joined_1 rfl (by decide) (by decide) (by decide)
theorem oX12_joined_32 : oP MT mX12_joined 32 (1, 1, 1, 0, []) := o_iload_n dX12_joined_32 rfl
theorem oX12_joined_33 : oP MT mX12_joined 33 (1, 1, 2, 0, []) := o_iload_n dX12_joined_33 rfl
theorem oX12_joined_34 : oP MT mX12_joined 34 (11, 3, 3, 41, []) := o_icmp_ge dX12_joined_34 (by decide) (by decide)
theorem oX12_joined_37 : oP MT mX12_joined 37 (0, 1, 0, 1, []) := o_iconst dX12_joined_37 (by decide)
theorem oX12_joined_38 : oP MT mX12_joined 38 (9, 3, 42, 0, []) := o_goto dX12_joined_38 (by decide)
theorem oX12_joined_41 : oP MT mX12_joined 41 (0, 1, 0, 0, []) := o_iconst dX12_joined_41 (by decide)
theorem oX12_joined_42 : oP MT mX12_joined 42 (21, 1, 0, 0, []) := o_iret dX12_joined_42 rfl
theorem oX12_joined_43 : oP MT mX12_joined 43 (1, 1, 1, 0, []) := o_iload_n dX12_joined_43 rfl
theorem oX12_joined_44 : oP MT mX12_joined 44 (1, 1, 2, 0, []) := o_iload_n dX12_joined_44 rfl
theorem oX12_joined_45 : oP MT mX12_joined 45 (11, 3, 1, 52, []) := o_icmp_ne dX12_joined_45 (by decide) (by decide)
theorem oX12_joined_48 : oP MT mX12_joined 48 (0, 1, 0, 1, []) := o_iconst dX12_joined_48 (by decide)
theorem oX12_joined_49 : oP MT mX12_joined 49 (9, 3, 53, 0, []) := o_goto dX12_joined_49 (by decide)
theorem oX12_joined_52 : oP MT mX12_joined 52 (0, 1, 0, 0, []) := o_iconst dX12_joined_52 (by decide)
theorem oX12_joined_53 : oP MT mX12_joined 53 (21, 1, 0, 0, []) := o_iret dX12_joined_53 rfl
theorem oX12_joined_54 : oP MT mX12_joined 54 (1, 1, 1, 0, []) := o_iload_n dX12_joined_54 rfl
theorem oX12_joined_55 : oP MT mX12_joined 55 (1, 1, 2, 0, []) := o_iload_n dX12_joined_55 rfl
theorem oX12_joined_56 : oP MT mX12_joined 56 (11, 3, 5, 63, []) := o_icmp_le dX12_joined_56 (by decide) (by decide)
theorem oX12_joined_59 : oP MT mX12_joined 59 (0, 1, 0, 1, []) := o_iconst dX12_joined_59 (by decide)
theorem oX12_joined_60 : oP MT mX12_joined 60 (9, 3, 64, 0, []) := o_goto dX12_joined_60 (by decide)
theorem oX12_joined_63 : oP MT mX12_joined 63 (0, 1, 0, 0, []) := o_iconst dX12_joined_63 (by decide)
theorem oX12_joined_64 : oP MT mX12_joined 64 (21, 1, 0, 0, []) := o_iret dX12_joined_64 rfl
theorem oX12_joined_65 : oP MT mX12_joined 65 (1, 1, 1, 0, []) := o_iload_n dX12_joined_65 rfl
theorem oX12_joined_66 : oP MT mX12_joined 66 (10, 3, 0, 77, []) := o_if_eq dX12_joined_66 (by decide) (by decide)
theorem oX12_joined_69 : oP MT mX12_joined 69 (1, 1, 2, 0, []) := o_iload_n dX12_joined_69 rfl
theorem oX12_joined_70 : oP MT mX12_joined 70 (10, 3, 0, 77, []) := o_if_eq dX12_joined_70 (by decide) (by decide)
theorem oX12_joined_73 : oP MT mX12_joined 73 (0, 1, 0, 1, []) := o_iconst dX12_joined_73 (by decide)
theorem oX12_joined_74 : oP MT mX12_joined 74 (9, 3, 78, 0, []) := o_goto dX12_joined_74 (by decide)
theorem oX12_joined_77 : oP MT mX12_joined 77 (0, 1, 0, 0, []) := o_iconst dX12_joined_77 (by decide)
theorem oX12_joined_78 : oP MT mX12_joined 78 (21, 1, 0, 0, []) := o_iret dX12_joined_78 rfl
theorem oX12_joined_79 : oP MT mX12_joined 79 (1, 1, 1, 0, []) := o_iload_n dX12_joined_79 rfl
theorem oX12_joined_80 : oP MT mX12_joined 80 (10, 3, 1, 87, []) := o_if_ne dX12_joined_80 (by decide) (by decide)
theorem oX12_joined_83 : oP MT mX12_joined 83 (1, 1, 2, 0, []) := o_iload_n dX12_joined_83 rfl
theorem oX12_joined_84 : oP MT mX12_joined 84 (10, 3, 0, 91, []) := o_if_eq dX12_joined_84 (by decide) (by decide)
theorem oX12_joined_87 : oP MT mX12_joined 87 (0, 1, 0, 1, []) := o_iconst dX12_joined_87 (by decide)
theorem oX12_joined_88 : oP MT mX12_joined 88 (9, 3, 92, 0, []) := o_goto dX12_joined_88 (by decide)
theorem oX12_joined_91 : oP MT mX12_joined 91 (0, 1, 0, 0, []) := o_iconst dX12_joined_91 (by decide)
theorem oX12_joined_92 : oP MT mX12_joined 92 (21, 1, 0, 0, []) := o_iret dX12_joined_92 rfl
def ops_X12_joined : List (Nat × aO) := [(0, (1, 1, 0, 0, [])), (1, (24, 31, 79, 0, [(10010, 32), (10011, 43), (10012, 54), (10013, 65)])), (32, (1, 1, 1, 0, [])), (33, (1, 1, 2, 0, [])), (34, (11, 3, 3, 41, [])), (37, (0, 1, 0, 1, [])), (38, (9, 3, 42, 0, [])), (41, (0, 1, 0, 0, [])), (42, (21, 1, 0, 0, [])), (43, (1, 1, 1, 0, [])), (44, (1, 1, 2, 0, [])), (45, (11, 3, 1, 52, [])), (48, (0, 1, 0, 1, [])), (49, (9, 3, 53, 0, [])), (52, (0, 1, 0, 0, [])), (53, (21, 1, 0, 0, [])), (54, (1, 1, 1, 0, [])), (55, (1, 1, 2, 0, [])), (56, (11, 3, 5, 63, [])), (59, (0, 1, 0, 1, [])), (60, (9, 3, 64, 0, [])), (63, (0, 1, 0, 0, [])), (64, (21, 1, 0, 0, [])), (65, (1, 1, 1, 0, [])), (66, (10, 3, 0, 77, [])), (69, (1, 1, 2, 0, [])), (70, (10, 3, 0, 77, [])), (73, (0, 1, 0, 1, [])), (74, (9, 3, 78, 0, [])), (77, (0, 1, 0, 0, [])), (78, (21, 1, 0, 0, [])), (79, (1, 1, 1, 0, [])), (80, (10, 3, 1, 87, [])), (83, (1, 1, 2, 0, [])), (84, (10, 3, 0, 91, [])), (87, (0, 1, 0, 1, [])), (88, (9, 3, 92, 0, [])), (91, (0, 1, 0, 0, [])), (92, (21, 1, 0, 0, []))]
theorem os_X12_joined : oA MT mX12_joined ops_X12_joined := (oA.cons oX12_joined_0 (oA.cons oX12_joined_1 (oA.cons oX12_joined_32 (oA.cons oX12_joined_33 (oA.cons oX12_joined_34 (oA.cons oX12_joined_37 (oA.cons oX12_joined_38 (oA.cons oX12_joined_41 (oA.cons oX12_joined_42 (oA.cons oX12_joined_43 (oA.cons oX12_joined_44 (oA.cons oX12_joined_45 (oA.cons oX12_joined_48 (oA.cons oX12_joined_49 (oA.cons oX12_joined_52 (oA.cons oX12_joined_53 (oA.cons oX12_joined_54 (oA.cons oX12_joined_55 (oA.cons oX12_joined_56 (oA.cons oX12_joined_59 (oA.cons oX12_joined_60 (oA.cons oX12_joined_63 (oA.cons oX12_joined_64 (oA.cons oX12_joined_65 (oA.cons oX12_joined_66 (oA.cons oX12_joined_69 (oA.cons oX12_joined_70 (oA.cons oX12_joined_73 (oA.cons oX12_joined_74 (oA.cons oX12_joined_77 (oA.cons oX12_joined_78 (oA.cons oX12_joined_79 (oA.cons oX12_joined_80 (oA.cons oX12_joined_83 (oA.cons oX12_joined_84 (oA.cons oX12_joined_87 (oA.cons oX12_joined_88 (oA.cons oX12_joined_91 (oA.cons oX12_joined_92 oA.nil)))))))))))))))))))))))))))))))))))))))
theorem dX12_willOf_0 : decode cX12_willOf 0 = .ok (.iconst 0, 1) := by decide +kernel
theorem dX12_willOf_1 : decode cX12_willOf 1 = .ok (.istore_n 2, 1) := by decide +kernel
theorem dX12_willOf_2 : decode cX12_willOf 2 = .ok (.iload_n 2, 1) := by decide +kernel
theorem dX12_willOf_3 : decode cX12_willOf 3 = .ok (.aload_n 0, 1) := by decide +kernel
theorem dX12_willOf_4 : decode cX12_willOf 4 = .ok (.getfield 9, 3) := by decide +kernel
theorem dX12_willOf_7 : decode cX12_willOf 7 = .ok (.iconst 5, 1) := by decide +kernel
theorem dX12_willOf_8 : decode cX12_willOf 8 = .ok (.iaload, 1) := by decide +kernel
theorem dX12_willOf_9 : decode cX12_willOf 9 = .ok (.if_icmp .ge 43, 3) := by decide +kernel
theorem dX12_willOf_12 : decode cX12_willOf 12 = .ok (.aload_n 0, 1) := by decide +kernel
theorem dX12_willOf_13 : decode cX12_willOf 13 = .ok (.iload_n 1, 1) := by decide +kernel
theorem dX12_willOf_14 : decode cX12_willOf 14 = .ok (.iconst 0, 1) := by decide +kernel
theorem dX12_willOf_15 : decode cX12_willOf 15 = .ok (.invokevirtual 79, 3) := by decide +kernel
theorem dX12_willOf_18 : decode cX12_willOf 18 = .ok (.aload_n 0, 1) := by decide +kernel
theorem dX12_willOf_19 : decode cX12_willOf 19 = .ok (.iload_n 2, 1) := by decide +kernel
theorem dX12_willOf_20 : decode cX12_willOf 20 = .ok (.iconst 0, 1) := by decide +kernel
theorem dX12_willOf_21 : decode cX12_willOf 21 = .ok (.invokevirtual 110, 3) := by decide +kernel
theorem dX12_willOf_24 : decode cX12_willOf 24 = .ok (.invokestatic 120, 3) := by decide +kernel
theorem dX12_willOf_27 : decode cX12_willOf 27 = .ok (.ifCond .eq 19, 3) := by decide +kernel
theorem dX12_willOf_30 : decode cX12_willOf 30 = .ok (.aload_n 0, 1) := by decide +kernel
theorem dX12_willOf_31 : decode cX12_willOf 31 = .ok (.iload_n 2, 1) := by decide +kernel
theorem dX12_willOf_32 : decode cX12_willOf 32 = .ok (.iload_n 1, 1) := by decide +kernel
theorem dX12_willOf_33 : decode cX12_willOf 33 = .ok (.invokevirtual 123, 3) := by decide +kernel
theorem dX12_willOf_36 : decode cX12_willOf 36 = .ok (.ifCond .eq 10, 3) := by decide +kernel
theorem dX12_willOf_39 : decode cX12_willOf 39 = .ok (.aload_n 0, 1) := by decide +kernel
theorem dX12_willOf_40 : decode cX12_willOf 40 = .ok (.iload_n 2, 1) := by decide +kernel
theorem dX12_willOf_41 : decode cX12_willOf 41 = .ok (.iconst 1, 1) := by decide +kernel
theorem dX12_willOf_42 : decode cX12_willOf 42 = .ok (.invokevirtual 110, 3) := by decide +kernel
theorem dX12_willOf_45 : decode cX12_willOf 45 = .ok (.ireturn, 1) := by decide +kernel
theorem dX12_willOf_46 : decode cX12_willOf 46 = .ok (.iinc 2 1, 3) := by decide +kernel
theorem dX12_willOf_49 : decode cX12_willOf 49 = .ok (.goto (-47), 3) := by decide +kernel
theorem dX12_willOf_52 : decode cX12_willOf 52 = .ok (.iconst 0, 1) := by decide +kernel
theorem dX12_willOf_53 : decode cX12_willOf 53 = .ok (.ireturn, 1) := by decide +kernel
theorem oX12_willOf_0 : oP MT mX12_willOf 0 (0, 1, 0, 0, []) := o_iconst dX12_willOf_0 (by decide)
theorem oX12_willOf_1 : oP MT mX12_willOf 1 (2, 1, 2, 0, []) := o_istore_n dX12_willOf_1 rfl (by decide)
theorem oX12_willOf_2 : oP MT mX12_willOf 2 (1, 1, 2, 0, []) := o_iload_n dX12_willOf_2 rfl
theorem oX12_willOf_3 : oP MT mX12_willOf 3 (1, 1, 0, 1, []) := o_aload_n dX12_willOf_3 rfl
theorem oX12_willOf_4 : oP MT mX12_willOf 4 (13, 3, 0, 12, []) := o_getR (M := mX12_willOf) (C := RX12) (T := TX12) (ci := 12) (j := 0) (z := 12) dX12_willOf_4 rfl lq_RX12_9 rfl rfl
theorem oX12_willOf_7 : oP MT mX12_willOf 7 (0, 1, 0, 5, []) := o_iconst dX12_willOf_7 (by decide)
theorem oX12_willOf_8 : oP MT mX12_willOf 8 (16, 1, 1, 0, []) := o_iaload dX12_willOf_8
theorem oX12_willOf_9 : oP MT mX12_willOf 9 (11, 3, 3, 52, []) := o_icmp_ge dX12_willOf_9 (by decide) (by decide)
theorem oX12_willOf_12 : oP MT mX12_willOf 12 (1, 1, 0, 1, []) := o_aload_n dX12_willOf_12 rfl
theorem oX12_willOf_13 : oP MT mX12_willOf 13 (1, 1, 1, 0, []) := o_iload_n dX12_willOf_13 rfl
theorem oX12_willOf_14 : oP MT mX12_willOf 14 (0, 1, 0, 0, []) := o_iconst dX12_willOf_14 (by decide)
theorem oX12_willOf_15 : oP MT mX12_willOf 15 (26, 3, 0, 2, [(12, 112)]) := o_callO ((vA.cons (v_callV dX12_willOf_15 (ci := 12) rfl rfl (mj := mX12_get) mt_X12_get cmq_X12_get wq_435 wq_437 wq_438 (by decide) (by decide)) vA.nil))
theorem oX12_willOf_18 : oP MT mX12_willOf 18 (1, 1, 0, 1, []) := o_aload_n dX12_willOf_18 rfl
theorem oX12_willOf_19 : oP MT mX12_willOf 19 (1, 1, 2, 0, []) := o_iload_n dX12_willOf_19 rfl
theorem oX12_willOf_20 : oP MT mX12_willOf 20 (0, 1, 0, 0, []) := o_iconst dX12_willOf_20 (by decide)
theorem oX12_willOf_21 : oP MT mX12_willOf 21 (26, 3, 0, 2, [(12, 113)]) := o_callO ((vA.cons (v_callV dX12_willOf_21 (ci := 12) rfl rfl (mj := mX12_ruleOf) mt_X12_ruleOf cmq_X12_ruleOf wq_424 wq_426 wq_427 (by decide) (by decide)) vA.nil))
theorem oX12_willOf_24 : oP MT mX12_willOf 24 (25, 3, 114, 2, []) := o_callS dX12_willOf_24 (mj := mX12_isUnder) mt_X12_isUnder cmq_X12_isUnder wq_443 wq_445 (by decide) (by decide)
theorem oX12_willOf_27 : oP MT mX12_willOf 27 (10, 3, 0, 46, []) := o_if_eq dX12_willOf_27 (by decide) (by decide)
theorem oX12_willOf_30 : oP MT mX12_willOf 30 (1, 1, 0, 1, []) := o_aload_n dX12_willOf_30 rfl
theorem oX12_willOf_31 : oP MT mX12_willOf 31 (1, 1, 2, 0, []) := o_iload_n dX12_willOf_31 rfl
theorem oX12_willOf_32 : oP MT mX12_willOf 32 (1, 1, 1, 0, []) := o_iload_n dX12_willOf_32 rfl
theorem oX12_willOf_33 : oP MT mX12_willOf 33 (26, 3, 0, 2, [(12, 116)]) := o_callO ((vA.cons (v_callV dX12_willOf_33 (ci := 12) rfl rfl (mj := mX12_holdsFor) mt_X12_holdsFor cmq_X12_holdsFor wq_446 wq_448 wq_449 (by decide) (by decide)) vA.nil))
theorem oX12_willOf_36 : oP MT mX12_willOf 36 (10, 3, 0, 46, []) := o_if_eq dX12_willOf_36 (by decide) (by decide)
theorem oX12_willOf_39 : oP MT mX12_willOf 39 (1, 1, 0, 1, []) := o_aload_n dX12_willOf_39 rfl
theorem oX12_willOf_40 : oP MT mX12_willOf 40 (1, 1, 2, 0, []) := o_iload_n dX12_willOf_40 rfl
theorem oX12_willOf_41 : oP MT mX12_willOf 41 (0, 1, 0, 1, []) := o_iconst dX12_willOf_41 (by decide)
theorem oX12_willOf_42 : oP MT mX12_willOf 42 (26, 3, 0, 2, [(12, 113)]) := o_callO ((vA.cons (v_callV dX12_willOf_42 (ci := 12) rfl rfl (mj := mX12_ruleOf) mt_X12_ruleOf cmq_X12_ruleOf wq_424 wq_426 wq_427 (by decide) (by decide)) vA.nil))
theorem oX12_willOf_45 : oP MT mX12_willOf 45 (21, 1, 0, 0, []) := o_iret dX12_willOf_45 rfl
theorem oX12_willOf_46 : oP MT mX12_willOf 46 (3, 3, 2, 1, []) := o_iinc dX12_willOf_46 (by decide) (by decide)
theorem oX12_willOf_49 : oP MT mX12_willOf 49 (9, 3, 2, 0, []) := o_goto dX12_willOf_49 (by decide)
theorem oX12_willOf_52 : oP MT mX12_willOf 52 (0, 1, 0, 0, []) := o_iconst dX12_willOf_52 (by decide)
theorem oX12_willOf_53 : oP MT mX12_willOf 53 (21, 1, 0, 0, []) := o_iret dX12_willOf_53 rfl
def ops_X12_willOf : List (Nat × aO) := [(0, (0, 1, 0, 0, [])), (1, (2, 1, 2, 0, [])), (2, (1, 1, 2, 0, [])), (3, (1, 1, 0, 1, [])), (4, (13, 3, 0, 12, [])), (7, (0, 1, 0, 5, [])), (8, (16, 1, 1, 0, [])), (9, (11, 3, 3, 52, [])), (12, (1, 1, 0, 1, [])), (13, (1, 1, 1, 0, [])), (14, (0, 1, 0, 0, [])), (15, (26, 3, 0, 2, [(12, 112)])), (18, (1, 1, 0, 1, [])), (19, (1, 1, 2, 0, [])), (20, (0, 1, 0, 0, [])), (21, (26, 3, 0, 2, [(12, 113)])), (24, (25, 3, 114, 2, [])), (27, (10, 3, 0, 46, [])), (30, (1, 1, 0, 1, [])), (31, (1, 1, 2, 0, [])), (32, (1, 1, 1, 0, [])), (33, (26, 3, 0, 2, [(12, 116)])), (36, (10, 3, 0, 46, [])), (39, (1, 1, 0, 1, [])), (40, (1, 1, 2, 0, [])), (41, (0, 1, 0, 1, [])), (42, (26, 3, 0, 2, [(12, 113)])), (45, (21, 1, 0, 0, [])), (46, (3, 3, 2, 1, [])), (49, (9, 3, 2, 0, [])), (52, (0, 1, 0, 0, [])), (53, (21, 1, 0, 0, []))]
theorem os_X12_willOf : oA MT mX12_willOf ops_X12_willOf := (oA.cons oX12_willOf_0 (oA.cons oX12_willOf_1 (oA.cons oX12_willOf_2 (oA.cons oX12_willOf_3 (oA.cons oX12_willOf_4 (oA.cons oX12_willOf_7 (oA.cons oX12_willOf_8 (oA.cons oX12_willOf_9 (oA.cons oX12_willOf_12 (oA.cons oX12_willOf_13 (oA.cons oX12_willOf_14 (oA.cons oX12_willOf_15 (oA.cons oX12_willOf_18 (oA.cons oX12_willOf_19 (oA.cons oX12_willOf_20 (oA.cons oX12_willOf_21 (oA.cons oX12_willOf_24 (oA.cons oX12_willOf_27 (oA.cons oX12_willOf_30 (oA.cons oX12_willOf_31 (oA.cons oX12_willOf_32 (oA.cons oX12_willOf_33 (oA.cons oX12_willOf_36 (oA.cons oX12_willOf_39 (oA.cons oX12_willOf_40 (oA.cons oX12_willOf_41 (oA.cons oX12_willOf_42 (oA.cons oX12_willOf_45 (oA.cons oX12_willOf_46 (oA.cons oX12_willOf_49 (oA.cons oX12_willOf_52 (oA.cons oX12_willOf_53 oA.nil))))))))))))))))))))))))))))))))
theorem dX12_paysOf_0 : decode cX12_paysOf 0 = .ok (.aload_n 0, 1) := by decide +kernel
theorem dX12_paysOf_1 : decode cX12_paysOf 1 = .ok (.iload_n 1, 1) := by decide +kernel
theorem dX12_paysOf_2 : decode cX12_paysOf 2 = .ok (.iconst 4, 1) := by decide +kernel
theorem dX12_paysOf_3 : decode cX12_paysOf 3 = .ok (.invokevirtual 79, 3) := by decide +kernel
theorem dX12_paysOf_6 : decode cX12_paysOf 6 = .ok (.ifCond .ne 39, 3) := by decide +kernel
theorem dX12_paysOf_9 : decode cX12_paysOf 9 = .ok (.aload_n 0, 1) := by decide +kernel
theorem dX12_paysOf_10 : decode cX12_paysOf 10 = .ok (.iload_n 1, 1) := by decide +kernel
theorem dX12_paysOf_11 : decode cX12_paysOf 11 = .ok (.aload_n 0, 1) := by decide +kernel
theorem dX12_paysOf_12 : decode cX12_paysOf 12 = .ok (.getfield 9, 3) := by decide +kernel
theorem dX12_paysOf_15 : decode cX12_paysOf 15 = .ok (.bipush 23, 2) := by decide +kernel
theorem dX12_paysOf_17 : decode cX12_paysOf 17 = .ok (.aload_n 0, 1) := by decide +kernel
theorem dX12_paysOf_18 : decode cX12_paysOf 18 = .ok (.iload_n 1, 1) := by decide +kernel
theorem dX12_paysOf_19 : decode cX12_paysOf 19 = .ok (.iconst 3, 1) := by decide +kernel
theorem dX12_paysOf_20 : decode cX12_paysOf 20 = .ok (.invokevirtual 79, 3) := by decide +kernel
theorem dX12_paysOf_23 : decode cX12_paysOf 23 = .ok (.iadd, 1) := by decide +kernel
theorem dX12_paysOf_24 : decode cX12_paysOf 24 = .ok (.iaload, 1) := by decide +kernel
theorem dX12_paysOf_25 : decode cX12_paysOf 25 = .ok (.invokevirtual 100, 3) := by decide +kernel
theorem dX12_paysOf_28 : decode cX12_paysOf 28 = .ok (.ifCond .eq 17, 3) := by decide +kernel
theorem dX12_paysOf_31 : decode cX12_paysOf 31 = .ok (.iconst 5, 1) := by decide +kernel
theorem dX12_paysOf_32 : decode cX12_paysOf 32 = .ok (.aload_n 0, 1) := by decide +kernel
theorem dX12_paysOf_33 : decode cX12_paysOf 33 = .ok (.iload_n 1, 1) := by decide +kernel
theorem dX12_paysOf_34 : decode cX12_paysOf 34 = .ok (.iconst 1, 1) := by decide +kernel
theorem dX12_paysOf_35 : decode cX12_paysOf 35 = .ok (.invokevirtual 79, 3) := by decide +kernel
theorem dX12_paysOf_38 : decode cX12_paysOf 38 = .ok (.bipush 20, 2) := by decide +kernel
theorem dX12_paysOf_40 : decode cX12_paysOf 40 = .ok (.idiv, 1) := by decide +kernel
theorem dX12_paysOf_41 : decode cX12_paysOf 41 = .ok (.iadd, 1) := by decide +kernel
theorem dX12_paysOf_42 : decode cX12_paysOf 42 = .ok (.goto 4, 3) := by decide +kernel
theorem dX12_paysOf_45 : decode cX12_paysOf 45 = .ok (.iconst 0, 1) := by decide +kernel
theorem dX12_paysOf_46 : decode cX12_paysOf 46 = .ok (.ireturn, 1) := by decide +kernel
theorem oX12_paysOf_0 : oP MT mX12_paysOf 0 (1, 1, 0, 1, []) := o_aload_n dX12_paysOf_0 rfl
theorem oX12_paysOf_1 : oP MT mX12_paysOf 1 (1, 1, 1, 0, []) := o_iload_n dX12_paysOf_1 rfl
theorem oX12_paysOf_2 : oP MT mX12_paysOf 2 (0, 1, 0, 4, []) := o_iconst dX12_paysOf_2 (by decide)
theorem oX12_paysOf_3 : oP MT mX12_paysOf 3 (26, 3, 0, 2, [(12, 112)]) := o_callO ((vA.cons (v_callV dX12_paysOf_3 (ci := 12) rfl rfl (mj := mX12_get) mt_X12_get cmq_X12_get wq_435 wq_437 wq_438 (by decide) (by decide)) vA.nil))
theorem oX12_paysOf_6 : oP MT mX12_paysOf 6 (10, 3, 1, 45, []) := o_if_ne dX12_paysOf_6 (by decide) (by decide)
theorem oX12_paysOf_9 : oP MT mX12_paysOf 9 (1, 1, 0, 1, []) := o_aload_n dX12_paysOf_9 rfl
theorem oX12_paysOf_10 : oP MT mX12_paysOf 10 (1, 1, 1, 0, []) := o_iload_n dX12_paysOf_10 rfl
theorem oX12_paysOf_11 : oP MT mX12_paysOf 11 (1, 1, 0, 1, []) := o_aload_n dX12_paysOf_11 rfl
theorem oX12_paysOf_12 : oP MT mX12_paysOf 12 (13, 3, 0, 12, []) := o_getR (M := mX12_paysOf) (C := RX12) (T := TX12) (ci := 12) (j := 0) (z := 12) dX12_paysOf_12 rfl lq_RX12_9 rfl rfl
theorem oX12_paysOf_15 : oP MT mX12_paysOf 15 (0, 2, 0, 23, []) := o_bipush dX12_paysOf_15 (by decide)
theorem oX12_paysOf_17 : oP MT mX12_paysOf 17 (1, 1, 0, 1, []) := o_aload_n dX12_paysOf_17 rfl
theorem oX12_paysOf_18 : oP MT mX12_paysOf 18 (1, 1, 1, 0, []) := o_iload_n dX12_paysOf_18 rfl
theorem oX12_paysOf_19 : oP MT mX12_paysOf 19 (0, 1, 0, 3, []) := o_iconst dX12_paysOf_19 (by decide)
theorem oX12_paysOf_20 : oP MT mX12_paysOf 20 (26, 3, 0, 2, [(12, 112)]) := o_callO ((vA.cons (v_callV dX12_paysOf_20 (ci := 12) rfl rfl (mj := mX12_get) mt_X12_get cmq_X12_get wq_435 wq_437 wq_438 (by decide) (by decide)) vA.nil))
theorem oX12_paysOf_23 : oP MT mX12_paysOf 23 (4, 1, 0, 0, []) := o_iadd dX12_paysOf_23
theorem oX12_paysOf_24 : oP MT mX12_paysOf 24 (16, 1, 1, 0, []) := o_iaload dX12_paysOf_24
theorem oX12_paysOf_25 : oP MT mX12_paysOf 25 (26, 3, 0, 2, [(12, 122)]) := o_callO ((vA.cons (v_callV dX12_paysOf_25 (ci := 12) rfl rfl (mj := mX12_doesFit) mt_X12_doesFit cmq_X12_doesFit wq_450 wq_452 wq_453 (by decide) (by decide)) vA.nil))
theorem oX12_paysOf_28 : oP MT mX12_paysOf 28 (10, 3, 0, 45, []) := o_if_eq dX12_paysOf_28 (by decide) (by decide)
theorem oX12_paysOf_31 : oP MT mX12_paysOf 31 (0, 1, 0, 5, []) := o_iconst dX12_paysOf_31 (by decide)
theorem oX12_paysOf_32 : oP MT mX12_paysOf 32 (1, 1, 0, 1, []) := o_aload_n dX12_paysOf_32 rfl
theorem oX12_paysOf_33 : oP MT mX12_paysOf 33 (1, 1, 1, 0, []) := o_iload_n dX12_paysOf_33 rfl
theorem oX12_paysOf_34 : oP MT mX12_paysOf 34 (0, 1, 0, 1, []) := o_iconst dX12_paysOf_34 (by decide)
theorem oX12_paysOf_35 : oP MT mX12_paysOf 35 (26, 3, 0, 2, [(12, 112)]) := o_callO ((vA.cons (v_callV dX12_paysOf_35 (ci := 12) rfl rfl (mj := mX12_get) mt_X12_get cmq_X12_get wq_435 wq_437 wq_438 (by decide) (by decide)) vA.nil))
theorem oX12_paysOf_38 : oP MT mX12_paysOf 38 (0, 2, 0, 20, []) := o_bipush dX12_paysOf_38 (by decide)
theorem oX12_paysOf_40 : oP MT mX12_paysOf 40 (4, 1, 9, 0, []) := o_idiv dX12_paysOf_40
theorem oX12_paysOf_41 : oP MT mX12_paysOf 41 (4, 1, 0, 0, []) := o_iadd dX12_paysOf_41
theorem oX12_paysOf_42 : oP MT mX12_paysOf 42 (9, 3, 46, 0, []) := o_goto dX12_paysOf_42 (by decide)
theorem oX12_paysOf_45 : oP MT mX12_paysOf 45 (0, 1, 0, 0, []) := o_iconst dX12_paysOf_45 (by decide)
theorem oX12_paysOf_46 : oP MT mX12_paysOf 46 (21, 1, 0, 0, []) := o_iret dX12_paysOf_46 rfl
def ops_X12_paysOf : List (Nat × aO) := [(0, (1, 1, 0, 1, [])), (1, (1, 1, 1, 0, [])), (2, (0, 1, 0, 4, [])), (3, (26, 3, 0, 2, [(12, 112)])), (6, (10, 3, 1, 45, [])), (9, (1, 1, 0, 1, [])), (10, (1, 1, 1, 0, [])), (11, (1, 1, 0, 1, [])), (12, (13, 3, 0, 12, [])), (15, (0, 2, 0, 23, [])), (17, (1, 1, 0, 1, [])), (18, (1, 1, 1, 0, [])), (19, (0, 1, 0, 3, [])), (20, (26, 3, 0, 2, [(12, 112)])), (23, (4, 1, 0, 0, [])), (24, (16, 1, 1, 0, [])), (25, (26, 3, 0, 2, [(12, 122)])), (28, (10, 3, 0, 45, [])), (31, (0, 1, 0, 5, [])), (32, (1, 1, 0, 1, [])), (33, (1, 1, 1, 0, [])), (34, (0, 1, 0, 1, [])), (35, (26, 3, 0, 2, [(12, 112)])), (38, (0, 2, 0, 20, [])), (40, (4, 1, 9, 0, [])), (41, (4, 1, 0, 0, [])), (42, (9, 3, 46, 0, [])), (45, (0, 1, 0, 0, [])), (46, (21, 1, 0, 0, []))]
theorem os_X12_paysOf : oA MT mX12_paysOf ops_X12_paysOf := (oA.cons oX12_paysOf_0 (oA.cons oX12_paysOf_1 (oA.cons oX12_paysOf_2 (oA.cons oX12_paysOf_3 (oA.cons oX12_paysOf_6 (oA.cons oX12_paysOf_9 (oA.cons oX12_paysOf_10 (oA.cons oX12_paysOf_11 (oA.cons oX12_paysOf_12 (oA.cons oX12_paysOf_15 (oA.cons oX12_paysOf_17 (oA.cons oX12_paysOf_18 (oA.cons oX12_paysOf_19 (oA.cons oX12_paysOf_20 (oA.cons oX12_paysOf_23 (oA.cons oX12_paysOf_24 (oA.cons oX12_paysOf_25 (oA.cons oX12_paysOf_28 (oA.cons oX12_paysOf_31 (oA.cons oX12_paysOf_32 (oA.cons oX12_paysOf_33 (oA.cons oX12_paysOf_34 (oA.cons oX12_paysOf_35 (oA.cons oX12_paysOf_38 (oA.cons oX12_paysOf_40 (oA.cons oX12_paysOf_41 (oA.cons oX12_paysOf_42 (oA.cons oX12_paysOf_45 (oA.cons oX12_paysOf_46 oA.nil)))))))))))))))))))))))))))))
theorem dX12_doesFit_0 : decode cX12_doesFit 0 = .ok (.aload_n 0, 1) := by decide +kernel
theorem dX12_doesFit_1 : decode cX12_doesFit 1 = .ok (.iload_n 1, 1) := by decide +kernel
theorem dX12_doesFit_2 : decode cX12_doesFit 2 = .ok (.iconst 1, 1) := by decide +kernel
theorem dX12_doesFit_3 : decode cX12_doesFit 3 = .ok (.invokevirtual 79, 3) := by decide +kernel
theorem dX12_doesFit_6 : decode cX12_doesFit 6 = .ok (.ifCond .le 35, 3) := by decide +kernel
theorem dX12_doesFit_9 : decode cX12_doesFit 9 = .ok (.aload_n 0, 1) := by decide +kernel
theorem dX12_doesFit_10 : decode cX12_doesFit 10 = .ok (.iload_n 1, 1) := by decide +kernel
theorem dX12_doesFit_11 : decode cX12_doesFit 11 = .ok (.invokevirtual 94, 3) := by decide +kernel
theorem dX12_doesFit_14 : decode cX12_doesFit 14 = .ok (.iload_n 2, 1) := by decide +kernel
theorem dX12_doesFit_15 : decode cX12_doesFit 15 = .ok (.invokestatic 97, 3) := by decide +kernel
theorem dX12_doesFit_18 : decode cX12_doesFit 18 = .ok (.aload_n 0, 1) := by decide +kernel
theorem dX12_doesFit_19 : decode cX12_doesFit 19 = .ok (.getfield 9, 3) := by decide +kernel
theorem dX12_doesFit_22 : decode cX12_doesFit 22 = .ok (.bipush 29, 2) := by decide +kernel
theorem dX12_doesFit_24 : decode cX12_doesFit 24 = .ok (.aload_n 0, 1) := by decide +kernel
theorem dX12_doesFit_25 : decode cX12_doesFit 25 = .ok (.iload_n 1, 1) := by decide +kernel
theorem dX12_doesFit_26 : decode cX12_doesFit 26 = .ok (.iconst 3, 1) := by decide +kernel
theorem dX12_doesFit_27 : decode cX12_doesFit 27 = .ok (.invokevirtual 79, 3) := by decide +kernel
theorem dX12_doesFit_30 : decode cX12_doesFit 30 = .ok (.iadd, 1) := by decide +kernel
theorem dX12_doesFit_31 : decode cX12_doesFit 31 = .ok (.iaload, 1) := by decide +kernel
theorem dX12_doesFit_32 : decode cX12_doesFit 32 = .ok (.iconst 4, 1) := by decide +kernel
theorem dX12_doesFit_33 : decode cX12_doesFit 33 = .ok (.idiv, 1) := by decide +kernel
theorem dX12_doesFit_34 : decode cX12_doesFit 34 = .ok (.if_icmp .gt 7, 3) := by decide +kernel
theorem dX12_doesFit_37 : decode cX12_doesFit 37 = .ok (.iconst 1, 1) := by decide +kernel
theorem dX12_doesFit_38 : decode cX12_doesFit 38 = .ok (.goto 4, 3) := by decide +kernel
theorem dX12_doesFit_41 : decode cX12_doesFit 41 = .ok (.iconst 0, 1) := by decide +kernel
theorem dX12_doesFit_42 : decode cX12_doesFit 42 = .ok (.ireturn, 1) := by decide +kernel
theorem oX12_doesFit_0 : oP MT mX12_doesFit 0 (1, 1, 0, 1, []) := o_aload_n dX12_doesFit_0 rfl
theorem oX12_doesFit_1 : oP MT mX12_doesFit 1 (1, 1, 1, 0, []) := o_iload_n dX12_doesFit_1 rfl
theorem oX12_doesFit_2 : oP MT mX12_doesFit 2 (0, 1, 0, 1, []) := o_iconst dX12_doesFit_2 (by decide)
theorem oX12_doesFit_3 : oP MT mX12_doesFit 3 (26, 3, 0, 2, [(12, 112)]) := o_callO ((vA.cons (v_callV dX12_doesFit_3 (ci := 12) rfl rfl (mj := mX12_get) mt_X12_get cmq_X12_get wq_435 wq_437 wq_438 (by decide) (by decide)) vA.nil))
theorem oX12_doesFit_6 : oP MT mX12_doesFit 6 (10, 3, 5, 41, []) := o_if_le dX12_doesFit_6 (by decide) (by decide)
theorem oX12_doesFit_9 : oP MT mX12_doesFit 9 (1, 1, 0, 1, []) := o_aload_n dX12_doesFit_9 rfl
theorem oX12_doesFit_10 : oP MT mX12_doesFit 10 (1, 1, 1, 0, []) := o_iload_n dX12_doesFit_10 rfl
theorem oX12_doesFit_11 : oP MT mX12_doesFit 11 (26, 3, 0, 1, [(12, 123)]) := o_callO ((vA.cons (v_callV dX12_doesFit_11 (ci := 12) rfl rfl (mj := mX12_shapeOf) mt_X12_shapeOf cmq_X12_shapeOf wq_454 wq_456 wq_457 (by decide) (by decide)) vA.nil))
theorem oX12_doesFit_14 : oP MT mX12_doesFit 14 (1, 1, 2, 0, []) := o_iload_n dX12_doesFit_14 rfl
theorem oX12_doesFit_15 : oP MT mX12_doesFit 15 (25, 3, 125, 2, []) := o_callS dX12_doesFit_15 (mj := mX12_apart) mt_X12_apart cmq_X12_apart wq_458 wq_460 (by decide) (by decide)
theorem oX12_doesFit_18 : oP MT mX12_doesFit 18 (1, 1, 0, 1, []) := o_aload_n dX12_doesFit_18 rfl
theorem oX12_doesFit_19 : oP MT mX12_doesFit 19 (13, 3, 0, 12, []) := o_getR (M := mX12_doesFit) (C := RX12) (T := TX12) (ci := 12) (j := 0) (z := 12) dX12_doesFit_19 rfl lq_RX12_9 rfl rfl
theorem oX12_doesFit_22 : oP MT mX12_doesFit 22 (0, 2, 0, 29, []) := o_bipush dX12_doesFit_22 (by decide)
theorem oX12_doesFit_24 : oP MT mX12_doesFit 24 (1, 1, 0, 1, []) := o_aload_n dX12_doesFit_24 rfl
theorem oX12_doesFit_25 : oP MT mX12_doesFit 25 (1, 1, 1, 0, []) := o_iload_n dX12_doesFit_25 rfl
theorem oX12_doesFit_26 : oP MT mX12_doesFit 26 (0, 1, 0, 3, []) := o_iconst dX12_doesFit_26 (by decide)
theorem oX12_doesFit_27 : oP MT mX12_doesFit 27 (26, 3, 0, 2, [(12, 112)]) := o_callO ((vA.cons (v_callV dX12_doesFit_27 (ci := 12) rfl rfl (mj := mX12_get) mt_X12_get cmq_X12_get wq_435 wq_437 wq_438 (by decide) (by decide)) vA.nil))
theorem oX12_doesFit_30 : oP MT mX12_doesFit 30 (4, 1, 0, 0, []) := o_iadd dX12_doesFit_30
theorem oX12_doesFit_31 : oP MT mX12_doesFit 31 (16, 1, 1, 0, []) := o_iaload dX12_doesFit_31
theorem oX12_doesFit_32 : oP MT mX12_doesFit 32 (0, 1, 0, 4, []) := o_iconst dX12_doesFit_32 (by decide)
theorem oX12_doesFit_33 : oP MT mX12_doesFit 33 (4, 1, 9, 0, []) := o_idiv dX12_doesFit_33
theorem oX12_doesFit_34 : oP MT mX12_doesFit 34 (11, 3, 4, 41, []) := o_icmp_gt dX12_doesFit_34 (by decide) (by decide)
theorem oX12_doesFit_37 : oP MT mX12_doesFit 37 (0, 1, 0, 1, []) := o_iconst dX12_doesFit_37 (by decide)
theorem oX12_doesFit_38 : oP MT mX12_doesFit 38 (9, 3, 42, 0, []) := o_goto dX12_doesFit_38 (by decide)
theorem oX12_doesFit_41 : oP MT mX12_doesFit 41 (0, 1, 0, 0, []) := o_iconst dX12_doesFit_41 (by decide)
theorem oX12_doesFit_42 : oP MT mX12_doesFit 42 (22, 1, 0, 0, []) := o_zret dX12_doesFit_42 rfl
def ops_X12_doesFit : List (Nat × aO) := [(0, (1, 1, 0, 1, [])), (1, (1, 1, 1, 0, [])), (2, (0, 1, 0, 1, [])), (3, (26, 3, 0, 2, [(12, 112)])), (6, (10, 3, 5, 41, [])), (9, (1, 1, 0, 1, [])), (10, (1, 1, 1, 0, [])), (11, (26, 3, 0, 1, [(12, 123)])), (14, (1, 1, 2, 0, [])), (15, (25, 3, 125, 2, [])), (18, (1, 1, 0, 1, [])), (19, (13, 3, 0, 12, [])), (22, (0, 2, 0, 29, [])), (24, (1, 1, 0, 1, [])), (25, (1, 1, 1, 0, [])), (26, (0, 1, 0, 3, [])), (27, (26, 3, 0, 2, [(12, 112)])), (30, (4, 1, 0, 0, [])), (31, (16, 1, 1, 0, [])), (32, (0, 1, 0, 4, [])), (33, (4, 1, 9, 0, [])), (34, (11, 3, 4, 41, [])), (37, (0, 1, 0, 1, [])), (38, (9, 3, 42, 0, [])), (41, (0, 1, 0, 0, [])), (42, (22, 1, 0, 0, []))]
theorem os_X12_doesFit : oA MT mX12_doesFit ops_X12_doesFit := (oA.cons oX12_doesFit_0 (oA.cons oX12_doesFit_1 (oA.cons oX12_doesFit_2 (oA.cons oX12_doesFit_3 (oA.cons oX12_doesFit_6 (oA.cons oX12_doesFit_9 (oA.cons oX12_doesFit_10 (oA.cons oX12_doesFit_11 (oA.cons oX12_doesFit_14 (oA.cons oX12_doesFit_15 (oA.cons oX12_doesFit_18 (oA.cons oX12_doesFit_19 (oA.cons oX12_doesFit_22 (oA.cons oX12_doesFit_24 (oA.cons oX12_doesFit_25 (oA.cons oX12_doesFit_26 (oA.cons oX12_doesFit_27 (oA.cons oX12_doesFit_30 (oA.cons oX12_doesFit_31 (oA.cons oX12_doesFit_32 (oA.cons oX12_doesFit_33 (oA.cons oX12_doesFit_34 (oA.cons oX12_doesFit_37 (oA.cons oX12_doesFit_38 (oA.cons oX12_doesFit_41 (oA.cons oX12_doesFit_42 oA.nil))))))))))))))))))))))))))
theorem dX12_shapeOf_0 : decode cX12_shapeOf 0 = .ok (.aload_n 0, 1) := by decide +kernel
theorem dX12_shapeOf_1 : decode cX12_shapeOf 1 = .ok (.iload_n 1, 1) := by decide +kernel
theorem dX12_shapeOf_2 : decode cX12_shapeOf 2 = .ok (.iconst 0, 1) := by decide +kernel
theorem dX12_shapeOf_3 : decode cX12_shapeOf 3 = .ok (.invokevirtual 79, 3) := by decide +kernel
theorem dX12_shapeOf_6 : decode cX12_shapeOf 6 = .ok (.aload_n 0, 1) := by decide +kernel
theorem dX12_shapeOf_7 : decode cX12_shapeOf 7 = .ok (.iload_n 1, 1) := by decide +kernel
theorem dX12_shapeOf_8 : decode cX12_shapeOf 8 = .ok (.iconst 1, 1) := by decide +kernel
theorem dX12_shapeOf_9 : decode cX12_shapeOf 9 = .ok (.invokevirtual 79, 3) := by decide +kernel
theorem dX12_shapeOf_12 : decode cX12_shapeOf 12 = .ok (.aload_n 0, 1) := by decide +kernel
theorem dX12_shapeOf_13 : decode cX12_shapeOf 13 = .ok (.iload_n 1, 1) := by decide +kernel
theorem dX12_shapeOf_14 : decode cX12_shapeOf 14 = .ok (.iconst 2, 1) := by decide +kernel
theorem dX12_shapeOf_15 : decode cX12_shapeOf 15 = .ok (.invokevirtual 79, 3) := by decide +kernel
theorem dX12_shapeOf_18 : decode cX12_shapeOf 18 = .ok (.iload_n 1, 1) := by decide +kernel
theorem dX12_shapeOf_19 : decode cX12_shapeOf 19 = .ok (.invokestatic 91, 3) := by decide +kernel
theorem dX12_shapeOf_22 : decode cX12_shapeOf 22 = .ok (.ireturn, 1) := by decide +kernel
theorem oX12_shapeOf_0 : oP MT mX12_shapeOf 0 (1, 1, 0, 1, []) := o_aload_n dX12_shapeOf_0 rfl
theorem oX12_shapeOf_1 : oP MT mX12_shapeOf 1 (1, 1, 1, 0, []) := o_iload_n dX12_shapeOf_1 rfl
theorem oX12_shapeOf_2 : oP MT mX12_shapeOf 2 (0, 1, 0, 0, []) := o_iconst dX12_shapeOf_2 (by decide)
theorem oX12_shapeOf_3 : oP MT mX12_shapeOf 3 (26, 3, 0, 2, [(12, 112)]) := o_callO ((vA.cons (v_callV dX12_shapeOf_3 (ci := 12) rfl rfl (mj := mX12_get) mt_X12_get cmq_X12_get wq_435 wq_437 wq_438 (by decide) (by decide)) vA.nil))
theorem oX12_shapeOf_6 : oP MT mX12_shapeOf 6 (1, 1, 0, 1, []) := o_aload_n dX12_shapeOf_6 rfl
theorem oX12_shapeOf_7 : oP MT mX12_shapeOf 7 (1, 1, 1, 0, []) := o_iload_n dX12_shapeOf_7 rfl
theorem oX12_shapeOf_8 : oP MT mX12_shapeOf 8 (0, 1, 0, 1, []) := o_iconst dX12_shapeOf_8 (by decide)
theorem oX12_shapeOf_9 : oP MT mX12_shapeOf 9 (26, 3, 0, 2, [(12, 112)]) := o_callO ((vA.cons (v_callV dX12_shapeOf_9 (ci := 12) rfl rfl (mj := mX12_get) mt_X12_get cmq_X12_get wq_435 wq_437 wq_438 (by decide) (by decide)) vA.nil))
theorem oX12_shapeOf_12 : oP MT mX12_shapeOf 12 (1, 1, 0, 1, []) := o_aload_n dX12_shapeOf_12 rfl
theorem oX12_shapeOf_13 : oP MT mX12_shapeOf 13 (1, 1, 1, 0, []) := o_iload_n dX12_shapeOf_13 rfl
theorem oX12_shapeOf_14 : oP MT mX12_shapeOf 14 (0, 1, 0, 2, []) := o_iconst dX12_shapeOf_14 (by decide)
theorem oX12_shapeOf_15 : oP MT mX12_shapeOf 15 (26, 3, 0, 2, [(12, 112)]) := o_callO ((vA.cons (v_callV dX12_shapeOf_15 (ci := 12) rfl rfl (mj := mX12_get) mt_X12_get cmq_X12_get wq_435 wq_437 wq_438 (by decide) (by decide)) vA.nil))
theorem oX12_shapeOf_18 : oP MT mX12_shapeOf 18 (1, 1, 1, 0, []) := o_iload_n dX12_shapeOf_18 rfl
theorem oX12_shapeOf_19 : oP MT mX12_shapeOf 19 (25, 3, 124, 4, []) := o_callS dX12_shapeOf_19 (mj := mX12_shapeBy) mt_X12_shapeBy cmq_X12_shapeBy wq_461 wq_463 (by decide) (by decide)
theorem oX12_shapeOf_22 : oP MT mX12_shapeOf 22 (21, 1, 0, 0, []) := o_iret dX12_shapeOf_22 rfl
def ops_X12_shapeOf : List (Nat × aO) := [(0, (1, 1, 0, 1, [])), (1, (1, 1, 1, 0, [])), (2, (0, 1, 0, 0, [])), (3, (26, 3, 0, 2, [(12, 112)])), (6, (1, 1, 0, 1, [])), (7, (1, 1, 1, 0, [])), (8, (0, 1, 0, 1, [])), (9, (26, 3, 0, 2, [(12, 112)])), (12, (1, 1, 0, 1, [])), (13, (1, 1, 1, 0, [])), (14, (0, 1, 0, 2, [])), (15, (26, 3, 0, 2, [(12, 112)])), (18, (1, 1, 1, 0, [])), (19, (25, 3, 124, 4, [])), (22, (21, 1, 0, 0, []))]
theorem os_X12_shapeOf : oA MT mX12_shapeOf ops_X12_shapeOf := (oA.cons oX12_shapeOf_0 (oA.cons oX12_shapeOf_1 (oA.cons oX12_shapeOf_2 (oA.cons oX12_shapeOf_3 (oA.cons oX12_shapeOf_6 (oA.cons oX12_shapeOf_7 (oA.cons oX12_shapeOf_8 (oA.cons oX12_shapeOf_9 (oA.cons oX12_shapeOf_12 (oA.cons oX12_shapeOf_13 (oA.cons oX12_shapeOf_14 (oA.cons oX12_shapeOf_15 (oA.cons oX12_shapeOf_18 (oA.cons oX12_shapeOf_19 (oA.cons oX12_shapeOf_22 oA.nil)))))))))))))))
theorem dX12_shapeBy_0 : decode cX12_shapeBy 0 = .ok (.iload_n 1, 1) := by decide +kernel
theorem dX12_shapeBy_1 : decode cX12_shapeBy 1 = .ok (.bipush 10, 2) := by decide +kernel
theorem dX12_shapeBy_3 : decode cX12_shapeBy 3 = .ok (.idiv, 1) := by decide +kernel
theorem dX12_shapeBy_4 : decode cX12_shapeBy 4 = .ok (.iload_n 1, 1) := by decide +kernel
theorem dX12_shapeBy_5 : decode cX12_shapeBy 5 = .ok (.bipush 50, 2) := by decide +kernel
theorem dX12_shapeBy_7 : decode cX12_shapeBy 7 = .ok (.idiv, 1) := by decide +kernel
theorem dX12_shapeBy_8 : decode cX12_shapeBy 8 = .ok (.iadd, 1) := by decide +kernel
theorem dX12_shapeBy_9 : decode cX12_shapeBy 9 = .ok (.istore 4, 2) := by decide +kernel
theorem dX12_shapeBy_11 : decode cX12_shapeBy 11 = .ok (.iload_n 1, 1) := by decide +kernel
theorem dX12_shapeBy_12 : decode cX12_shapeBy 12 = .ok (.bipush 12, 2) := by decide +kernel
theorem dX12_shapeBy_14 : decode cX12_shapeBy 14 = .ok (.idiv, 1) := by decide +kernel
theorem dX12_shapeBy_15 : decode cX12_shapeBy 15 = .ok (.istore 5, 2) := by decide +kernel
theorem dX12_shapeBy_17 : decode cX12_shapeBy 17 = .ok (.iload_n 0, 1) := by decide +kernel
theorem dX12_shapeBy_18 : decode cX12_shapeBy 18 = .ok (.tableswitch 80 1 5 #[34, 36, 39, 58, 61], 34) := by decide +kernel
theorem dX12_shapeBy_52 : decode cX12_shapeBy 52 = .ok (.iconst 5, 1) := by decide +kernel
theorem dX12_shapeBy_53 : decode cX12_shapeBy 53 = .ok (.ireturn, 1) := by decide +kernel
theorem dX12_shapeBy_54 : decode cX12_shapeBy 54 = .ok (.iload 4, 2) := by decide +kernel
theorem dX12_shapeBy_56 : decode cX12_shapeBy 56 = .ok (.ireturn, 1) := by decide +kernel
theorem dX12_shapeBy_57 : decode cX12_shapeBy 57 = .ok (.iload 4, 2) := by decide +kernel
theorem dX12_shapeBy_59 : decode cX12_shapeBy 59 = .ok (.iload_n 2, 1) := by decide +kernel
theorem dX12_shapeBy_60 : decode cX12_shapeBy 60 = .ok (.iconst 4, 1) := by decide +kernel
theorem dX12_shapeBy_61 : decode cX12_shapeBy 61 = .ok (.idiv, 1) := by decide +kernel
theorem dX12_shapeBy_62 : decode cX12_shapeBy 62 = .ok (.if_icmp .le 12, 3) := by decide +kernel
theorem dX12_shapeBy_65 : decode cX12_shapeBy 65 = .ok (.iload 4, 2) := by decide +kernel
theorem dX12_shapeBy_67 : decode cX12_shapeBy 67 = .ok (.iload_n 2, 1) := by decide +kernel
theorem dX12_shapeBy_68 : decode cX12_shapeBy 68 = .ok (.iconst 4, 1) := by decide +kernel
theorem dX12_shapeBy_69 : decode cX12_shapeBy 69 = .ok (.idiv, 1) := by decide +kernel
theorem dX12_shapeBy_70 : decode cX12_shapeBy 70 = .ok (.isub, 1) := by decide +kernel
theorem dX12_shapeBy_71 : decode cX12_shapeBy 71 = .ok (.goto 4, 3) := by decide +kernel
theorem dX12_shapeBy_74 : decode cX12_shapeBy 74 = .ok (.iconst 0, 1) := by decide +kernel
theorem dX12_shapeBy_75 : decode cX12_shapeBy 75 = .ok (.ireturn, 1) := by decide +kernel
theorem dX12_shapeBy_76 : decode cX12_shapeBy 76 = .ok (.iload 5, 2) := by decide +kernel
theorem dX12_shapeBy_78 : decode cX12_shapeBy 78 = .ok (.ireturn, 1) := by decide +kernel
theorem dX12_shapeBy_79 : decode cX12_shapeBy 79 = .ok (.iload 5, 2) := by decide +kernel
theorem dX12_shapeBy_81 : decode cX12_shapeBy 81 = .ok (.iload_n 3, 1) := by decide +kernel
theorem dX12_shapeBy_82 : decode cX12_shapeBy 82 = .ok (.iadd, 1) := by decide +kernel
theorem dX12_shapeBy_83 : decode cX12_shapeBy 83 = .ok (.bipush 9, 2) := by decide +kernel
theorem dX12_shapeBy_85 : decode cX12_shapeBy 85 = .ok (.if_icmp .le 8, 3) := by decide +kernel
theorem dX12_shapeBy_88 : decode cX12_shapeBy 88 = .ok (.bipush 9, 2) := by decide +kernel
theorem dX12_shapeBy_90 : decode cX12_shapeBy 90 = .ok (.goto 7, 3) := by decide +kernel
theorem dX12_shapeBy_93 : decode cX12_shapeBy 93 = .ok (.iload 5, 2) := by decide +kernel
theorem dX12_shapeBy_95 : decode cX12_shapeBy 95 = .ok (.iload_n 3, 1) := by decide +kernel
theorem dX12_shapeBy_96 : decode cX12_shapeBy 96 = .ok (.iadd, 1) := by decide +kernel
theorem dX12_shapeBy_97 : decode cX12_shapeBy 97 = .ok (.ireturn, 1) := by decide +kernel
theorem dX12_shapeBy_98 : decode cX12_shapeBy 98 = .ok (.iload_n 1, 1) := by decide +kernel
theorem dX12_shapeBy_99 : decode cX12_shapeBy 99 = .ok (.bipush 10, 2) := by decide +kernel
theorem dX12_shapeBy_101 : decode cX12_shapeBy 101 = .ok (.idiv, 1) := by decide +kernel
theorem dX12_shapeBy_102 : decode cX12_shapeBy 102 = .ok (.ireturn, 1) := by decide +kernel
theorem oX12_shapeBy_0 : oP MT mX12_shapeBy 0 (1, 1, 1, 0, []) := o_iload_n dX12_shapeBy_0 rfl
theorem oX12_shapeBy_1 : oP MT mX12_shapeBy 1 (0, 2, 0, 10, []) := o_bipush dX12_shapeBy_1 (by decide)
theorem oX12_shapeBy_3 : oP MT mX12_shapeBy 3 (4, 1, 9, 0, []) := o_idiv dX12_shapeBy_3
theorem oX12_shapeBy_4 : oP MT mX12_shapeBy 4 (1, 1, 1, 0, []) := o_iload_n dX12_shapeBy_4 rfl
theorem oX12_shapeBy_5 : oP MT mX12_shapeBy 5 (0, 2, 0, 50, []) := o_bipush dX12_shapeBy_5 (by decide)
theorem oX12_shapeBy_7 : oP MT mX12_shapeBy 7 (4, 1, 9, 0, []) := o_idiv dX12_shapeBy_7
theorem oX12_shapeBy_8 : oP MT mX12_shapeBy 8 (4, 1, 0, 0, []) := o_iadd dX12_shapeBy_8
theorem oX12_shapeBy_9 : oP MT mX12_shapeBy 9 (2, 2, 4, 0, []) := o_istore dX12_shapeBy_9 (by decide)
theorem oX12_shapeBy_11 : oP MT mX12_shapeBy 11 (1, 1, 1, 0, []) := o_iload_n dX12_shapeBy_11 rfl
theorem oX12_shapeBy_12 : oP MT mX12_shapeBy 12 (0, 2, 0, 12, []) := o_bipush dX12_shapeBy_12 (by decide)
theorem oX12_shapeBy_14 : oP MT mX12_shapeBy 14 (4, 1, 9, 0, []) := o_idiv dX12_shapeBy_14
theorem oX12_shapeBy_15 : oP MT mX12_shapeBy 15 (2, 2, 5, 0, []) := o_istore dX12_shapeBy_15 (by decide)
theorem oX12_shapeBy_17 : oP MT mX12_shapeBy 17 (1, 1, 0, 0, []) := o_iload_n dX12_shapeBy_17 rfl
theorem oX12_shapeBy_18 : oP MT mX12_shapeBy 18 (24, 34, 98, 0, [(1, 52), (2, 54), (3, 57), (4, 76), (5, 79)]) := o_table dX12_shapeBy_18 rfl (by decide) (by decide) (by decide)
theorem oX12_shapeBy_52 : oP MT mX12_shapeBy 52 (0, 1, 0, 5, []) := o_iconst dX12_shapeBy_52 (by decide)
theorem oX12_shapeBy_53 : oP MT mX12_shapeBy 53 (21, 1, 0, 0, []) := o_iret dX12_shapeBy_53 rfl
theorem oX12_shapeBy_54 : oP MT mX12_shapeBy 54 (1, 2, 4, 0, []) := o_iload dX12_shapeBy_54
theorem oX12_shapeBy_56 : oP MT mX12_shapeBy 56 (21, 1, 0, 0, []) := o_iret dX12_shapeBy_56 rfl
theorem oX12_shapeBy_57 : oP MT mX12_shapeBy 57 (1, 2, 4, 0, []) := o_iload dX12_shapeBy_57
theorem oX12_shapeBy_59 : oP MT mX12_shapeBy 59 (1, 1, 2, 0, []) := o_iload_n dX12_shapeBy_59 rfl
theorem oX12_shapeBy_60 : oP MT mX12_shapeBy 60 (0, 1, 0, 4, []) := o_iconst dX12_shapeBy_60 (by decide)
theorem oX12_shapeBy_61 : oP MT mX12_shapeBy 61 (4, 1, 9, 0, []) := o_idiv dX12_shapeBy_61
theorem oX12_shapeBy_62 : oP MT mX12_shapeBy 62 (11, 3, 5, 74, []) := o_icmp_le dX12_shapeBy_62 (by decide) (by decide)
theorem oX12_shapeBy_65 : oP MT mX12_shapeBy 65 (1, 2, 4, 0, []) := o_iload dX12_shapeBy_65
theorem oX12_shapeBy_67 : oP MT mX12_shapeBy 67 (1, 1, 2, 0, []) := o_iload_n dX12_shapeBy_67 rfl
theorem oX12_shapeBy_68 : oP MT mX12_shapeBy 68 (0, 1, 0, 4, []) := o_iconst dX12_shapeBy_68 (by decide)
theorem oX12_shapeBy_69 : oP MT mX12_shapeBy 69 (4, 1, 9, 0, []) := o_idiv dX12_shapeBy_69
theorem oX12_shapeBy_70 : oP MT mX12_shapeBy 70 (4, 1, 1, 0, []) := o_isub dX12_shapeBy_70
theorem oX12_shapeBy_71 : oP MT mX12_shapeBy 71 (9, 3, 75, 0, []) := o_goto dX12_shapeBy_71 (by decide)
theorem oX12_shapeBy_74 : oP MT mX12_shapeBy 74 (0, 1, 0, 0, []) := o_iconst dX12_shapeBy_74 (by decide)
theorem oX12_shapeBy_75 : oP MT mX12_shapeBy 75 (21, 1, 0, 0, []) := o_iret dX12_shapeBy_75 rfl
theorem oX12_shapeBy_76 : oP MT mX12_shapeBy 76 (1, 2, 5, 0, []) := o_iload dX12_shapeBy_76
theorem oX12_shapeBy_78 : oP MT mX12_shapeBy 78 (21, 1, 0, 0, []) := o_iret dX12_shapeBy_78 rfl
theorem oX12_shapeBy_79 : oP MT mX12_shapeBy 79 (1, 2, 5, 0, []) := o_iload dX12_shapeBy_79
theorem oX12_shapeBy_81 : oP MT mX12_shapeBy 81 (1, 1, 3, 0, []) := o_iload_n dX12_shapeBy_81 rfl
theorem oX12_shapeBy_82 : oP MT mX12_shapeBy 82 (4, 1, 0, 0, []) := o_iadd dX12_shapeBy_82
theorem oX12_shapeBy_83 : oP MT mX12_shapeBy 83 (0, 2, 0, 9, []) := o_bipush dX12_shapeBy_83 (by decide)
theorem oX12_shapeBy_85 : oP MT mX12_shapeBy 85 (11, 3, 5, 93, []) := o_icmp_le dX12_shapeBy_85 (by decide) (by decide)
theorem oX12_shapeBy_88 : oP MT mX12_shapeBy 88 (0, 2, 0, 9, []) := o_bipush dX12_shapeBy_88 (by decide)
theorem oX12_shapeBy_90 : oP MT mX12_shapeBy 90 (9, 3, 97, 0, []) := o_goto dX12_shapeBy_90 (by decide)
theorem oX12_shapeBy_93 : oP MT mX12_shapeBy 93 (1, 2, 5, 0, []) := o_iload dX12_shapeBy_93
theorem oX12_shapeBy_95 : oP MT mX12_shapeBy 95 (1, 1, 3, 0, []) := o_iload_n dX12_shapeBy_95 rfl
theorem oX12_shapeBy_96 : oP MT mX12_shapeBy 96 (4, 1, 0, 0, []) := o_iadd dX12_shapeBy_96
theorem oX12_shapeBy_97 : oP MT mX12_shapeBy 97 (21, 1, 0, 0, []) := o_iret dX12_shapeBy_97 rfl
theorem oX12_shapeBy_98 : oP MT mX12_shapeBy 98 (1, 1, 1, 0, []) := o_iload_n dX12_shapeBy_98 rfl
theorem oX12_shapeBy_99 : oP MT mX12_shapeBy 99 (0, 2, 0, 10, []) := o_bipush dX12_shapeBy_99 (by decide)
theorem oX12_shapeBy_101 : oP MT mX12_shapeBy 101 (4, 1, 9, 0, []) := o_idiv dX12_shapeBy_101
theorem oX12_shapeBy_102 : oP MT mX12_shapeBy 102 (21, 1, 0, 0, []) := o_iret dX12_shapeBy_102 rfl
def ops_X12_shapeBy : List (Nat × aO) := [(0, (1, 1, 1, 0, [])), (1, (0, 2, 0, 10, [])), (3, (4, 1, 9, 0, [])), (4, (1, 1, 1, 0, [])), (5, (0, 2, 0, 50, [])), (7, (4, 1, 9, 0, [])), (8, (4, 1, 0, 0, [])), (9, (2, 2, 4, 0, [])), (11, (1, 1, 1, 0, [])), (12, (0, 2, 0, 12, [])), (14, (4, 1, 9, 0, [])), (15, (2, 2, 5, 0, [])), (17, (1, 1, 0, 0, [])), (18, (24, 34, 98, 0, [(1, 52), (2, 54), (3, 57), (4, 76), (5, 79)])), (52, (0, 1, 0, 5, [])), (53, (21, 1, 0, 0, [])), (54, (1, 2, 4, 0, [])), (56, (21, 1, 0, 0, [])), (57, (1, 2, 4, 0, [])), (59, (1, 1, 2, 0, [])), (60, (0, 1, 0, 4, [])), (61, (4, 1, 9, 0, [])), (62, (11, 3, 5, 74, [])), (65, (1, 2, 4, 0, [])), (67, (1, 1, 2, 0, [])), (68, (0, 1, 0, 4, [])), (69, (4, 1, 9, 0, [])), (70, (4, 1, 1, 0, [])), (71, (9, 3, 75, 0, [])), (74, (0, 1, 0, 0, [])), (75, (21, 1, 0, 0, [])), (76, (1, 2, 5, 0, [])), (78, (21, 1, 0, 0, [])), (79, (1, 2, 5, 0, [])), (81, (1, 1, 3, 0, [])), (82, (4, 1, 0, 0, [])), (83, (0, 2, 0, 9, [])), (85, (11, 3, 5, 93, [])), (88, (0, 2, 0, 9, [])), (90, (9, 3, 97, 0, [])), (93, (1, 2, 5, 0, [])), (95, (1, 1, 3, 0, [])), (96, (4, 1, 0, 0, [])), (97, (21, 1, 0, 0, [])), (98, (1, 1, 1, 0, [])), (99, (0, 2, 0, 10, [])), (101, (4, 1, 9, 0, [])), (102, (21, 1, 0, 0, []))]
theorem os_X12_shapeBy : oA MT mX12_shapeBy ops_X12_shapeBy := (oA.cons oX12_shapeBy_0 (oA.cons oX12_shapeBy_1 (oA.cons oX12_shapeBy_3 (oA.cons oX12_shapeBy_4 (oA.cons oX12_shapeBy_5 (oA.cons oX12_shapeBy_7 (oA.cons oX12_shapeBy_8 (oA.cons oX12_shapeBy_9 (oA.cons oX12_shapeBy_11 (oA.cons oX12_shapeBy_12 (oA.cons oX12_shapeBy_14 (oA.cons oX12_shapeBy_15 (oA.cons oX12_shapeBy_17 (oA.cons oX12_shapeBy_18 (oA.cons oX12_shapeBy_52 (oA.cons oX12_shapeBy_53 (oA.cons oX12_shapeBy_54 (oA.cons oX12_shapeBy_56 (oA.cons oX12_shapeBy_57 (oA.cons oX12_shapeBy_59 (oA.cons oX12_shapeBy_60 (oA.cons oX12_shapeBy_61 (oA.cons oX12_shapeBy_62 (oA.cons oX12_shapeBy_65 (oA.cons oX12_shapeBy_67 (oA.cons oX12_shapeBy_68 (oA.cons oX12_shapeBy_69 (oA.cons oX12_shapeBy_70 (oA.cons oX12_shapeBy_71 (oA.cons oX12_shapeBy_74 (oA.cons oX12_shapeBy_75 (oA.cons oX12_shapeBy_76 (oA.cons oX12_shapeBy_78 (oA.cons oX12_shapeBy_79 (oA.cons oX12_shapeBy_81 (oA.cons oX12_shapeBy_82 (oA.cons oX12_shapeBy_83 (oA.cons oX12_shapeBy_85 (oA.cons oX12_shapeBy_88 (oA.cons oX12_shapeBy_90 (oA.cons oX12_shapeBy_93 (oA.cons oX12_shapeBy_95 (oA.cons oX12_shapeBy_96 (oA.cons oX12_shapeBy_97 (oA.cons oX12_shapeBy_98 (oA.cons oX12_shapeBy_99 (oA.cons oX12_shapeBy_101 (oA.cons oX12_shapeBy_102 oA.nil))))))))))))))))))))))))))))))))))))))))))))))))
theorem dX12_apart_0 : decode cX12_apart 0 = .ok (.iload_n 0, 1) := by decide +kernel
theorem dX12_apart_1 : decode cX12_apart 1 = .ok (.iload_n 1, 1) := by decide +kernel
theorem dX12_apart_2 : decode cX12_apart 2 = .ok (.if_icmp .ge 9, 3) := by decide +kernel
theorem dX12_apart_5 : decode cX12_apart 5 = .ok (.iload_n 1, 1) := by decide +kernel
theorem dX12_apart_6 : decode cX12_apart 6 = .ok (.iload_n 0, 1) := by decide +kernel
theorem dX12_apart_7 : decode cX12_apart 7 = .ok (.isub, 1) := by decide +kernel
theorem dX12_apart_8 : decode cX12_apart 8 = .ok (.goto 6, 3) := by decide +kernel
theorem dX12_apart_11 : decode cX12_apart 11 = .ok (.iload_n 0, 1) := by decide +kernel
theorem dX12_apart_12 : decode cX12_apart 12 = .ok (.iload_n 1, 1) := by decide +kernel
theorem dX12_apart_13 : decode cX12_apart 13 = .ok (.isub, 1) := by decide +kernel
theorem dX12_apart_14 : decode cX12_apart 14 = .ok (.ireturn, 1) := by decide +kernel
theorem oX12_apart_0 : oP MT mX12_apart 0 (1, 1, 0, 0, []) := o_iload_n dX12_apart_0 rfl
theorem oX12_apart_1 : oP MT mX12_apart 1 (1, 1, 1, 0, []) := o_iload_n dX12_apart_1 rfl
theorem oX12_apart_2 : oP MT mX12_apart 2 (11, 3, 3, 11, []) := o_icmp_ge dX12_apart_2 (by decide) (by decide)
theorem oX12_apart_5 : oP MT mX12_apart 5 (1, 1, 1, 0, []) := o_iload_n dX12_apart_5 rfl
theorem oX12_apart_6 : oP MT mX12_apart 6 (1, 1, 0, 0, []) := o_iload_n dX12_apart_6 rfl
theorem oX12_apart_7 : oP MT mX12_apart 7 (4, 1, 1, 0, []) := o_isub dX12_apart_7
theorem oX12_apart_8 : oP MT mX12_apart 8 (9, 3, 14, 0, []) := o_goto dX12_apart_8 (by decide)
theorem oX12_apart_11 : oP MT mX12_apart 11 (1, 1, 0, 0, []) := o_iload_n dX12_apart_11 rfl
theorem oX12_apart_12 : oP MT mX12_apart 12 (1, 1, 1, 0, []) := o_iload_n dX12_apart_12 rfl
theorem oX12_apart_13 : oP MT mX12_apart 13 (4, 1, 1, 0, []) := o_isub dX12_apart_13
theorem oX12_apart_14 : oP MT mX12_apart 14 (21, 1, 0, 0, []) := o_iret dX12_apart_14 rfl
def ops_X12_apart : List (Nat × aO) := [(0, (1, 1, 0, 0, [])), (1, (1, 1, 1, 0, [])), (2, (11, 3, 3, 11, [])), (5, (1, 1, 1, 0, [])), (6, (1, 1, 0, 0, [])), (7, (4, 1, 1, 0, [])), (8, (9, 3, 14, 0, [])), (11, (1, 1, 0, 0, [])), (12, (1, 1, 1, 0, [])), (13, (4, 1, 1, 0, [])), (14, (21, 1, 0, 0, []))]
theorem os_X12_apart : oA MT mX12_apart ops_X12_apart := (oA.cons oX12_apart_0 (oA.cons oX12_apart_1 (oA.cons oX12_apart_2 (oA.cons oX12_apart_5 (oA.cons oX12_apart_6 (oA.cons oX12_apart_7 (oA.cons oX12_apart_8 (oA.cons oX12_apart_11 (oA.cons oX12_apart_12 (oA.cons oX12_apart_13 (oA.cons oX12_apart_14 oA.nil)))))))))))
theorem dX12_byteAt_0 : decode cX12_byteAt 0 = .ok (.iload_n 1, 1) := by decide +kernel
theorem dX12_byteAt_1 : decode cX12_byteAt 1 = .ok (.aload_n 0, 1) := by decide +kernel
theorem dX12_byteAt_2 : decode cX12_byteAt 2 = .ok (.getfield 126, 3) := by decide +kernel
theorem dX12_byteAt_5 : decode cX12_byteAt 5 = .ok (.if_icmp .ge 12, 3) := by decide +kernel
theorem dX12_byteAt_8 : decode cX12_byteAt 8 = .ok (.aload_n 0, 1) := by decide +kernel
theorem dX12_byteAt_9 : decode cX12_byteAt 9 = .ok (.getfield 22, 3) := by decide +kernel
theorem dX12_byteAt_12 : decode cX12_byteAt 12 = .ok (.iload_n 1, 1) := by decide +kernel
theorem dX12_byteAt_13 : decode cX12_byteAt 13 = .ok (.iaload, 1) := by decide +kernel
theorem dX12_byteAt_14 : decode cX12_byteAt 14 = .ok (.goto 4, 3) := by decide +kernel
theorem dX12_byteAt_17 : decode cX12_byteAt 17 = .ok (.iconst (-1), 1) := by decide +kernel
theorem dX12_byteAt_18 : decode cX12_byteAt 18 = .ok (.ireturn, 1) := by decide +kernel
theorem oX12_byteAt_0 : oP MT mX12_byteAt 0 (1, 1, 1, 0, []) := o_iload_n dX12_byteAt_0 rfl
theorem oX12_byteAt_1 : oP MT mX12_byteAt 1 (1, 1, 0, 1, []) := o_aload_n dX12_byteAt_1 rfl
theorem oX12_byteAt_2 : oP MT mX12_byteAt 2 (12, 3, 6, 12, []) := o_getI (M := mX12_byteAt) (C := RX12) (T := TX12) (ci := 12) (j := 6) (z := 12) dX12_byteAt_2 rfl lq_RX12_126 rfl rfl
theorem oX12_byteAt_5 : oP MT mX12_byteAt 5 (11, 3, 3, 17, []) := o_icmp_ge dX12_byteAt_5 (by decide) (by decide)
theorem oX12_byteAt_8 : oP MT mX12_byteAt 8 (1, 1, 0, 1, []) := o_aload_n dX12_byteAt_8 rfl
theorem oX12_byteAt_9 : oP MT mX12_byteAt 9 (13, 3, 5, 12, []) := o_getR (M := mX12_byteAt) (C := RX12) (T := TX12) (ci := 12) (j := 5) (z := 12) dX12_byteAt_9 rfl lq_RX12_22 rfl rfl
theorem oX12_byteAt_12 : oP MT mX12_byteAt 12 (1, 1, 1, 0, []) := o_iload_n dX12_byteAt_12 rfl
theorem oX12_byteAt_13 : oP MT mX12_byteAt 13 (16, 1, 1, 0, []) := o_iaload dX12_byteAt_13
theorem oX12_byteAt_14 : oP MT mX12_byteAt 14 (9, 3, 18, 0, []) := o_goto dX12_byteAt_14 (by decide)
theorem oX12_byteAt_17 : oP MT mX12_byteAt 17 (0, 1, 0, (-1), []) := o_iconst dX12_byteAt_17 (by decide)
theorem oX12_byteAt_18 : oP MT mX12_byteAt 18 (21, 1, 0, 0, []) := o_iret dX12_byteAt_18 rfl
def ops_X12_byteAt : List (Nat × aO) := [(0, (1, 1, 1, 0, [])), (1, (1, 1, 0, 1, [])), (2, (12, 3, 6, 12, [])), (5, (11, 3, 3, 17, [])), (8, (1, 1, 0, 1, [])), (9, (13, 3, 5, 12, [])), (12, (1, 1, 1, 0, [])), (13, (16, 1, 1, 0, [])), (14, (9, 3, 18, 0, [])), (17, (0, 1, 0, (-1), [])), (18, (21, 1, 0, 0, []))]
theorem os_X12_byteAt : oA MT mX12_byteAt ops_X12_byteAt := (oA.cons oX12_byteAt_0 (oA.cons oX12_byteAt_1 (oA.cons oX12_byteAt_2 (oA.cons oX12_byteAt_5 (oA.cons oX12_byteAt_8 (oA.cons oX12_byteAt_9 (oA.cons oX12_byteAt_12 (oA.cons oX12_byteAt_13 (oA.cons oX12_byteAt_14 (oA.cons oX12_byteAt_17 (oA.cons oX12_byteAt_18 oA.nil)))))))))))
theorem dX12_in1_0 : decode cX12_in1 0 = .ok (.iload_n 0, 1) := by decide +kernel
theorem dX12_in1_1 : decode cX12_in1 1 = .ok (.iload_n 1, 1) := by decide +kernel
theorem dX12_in1_2 : decode cX12_in1 2 = .ok (.if_icmp .lt 12, 3) := by decide +kernel
theorem dX12_in1_5 : decode cX12_in1 5 = .ok (.iload_n 0, 1) := by decide +kernel
theorem dX12_in1_6 : decode cX12_in1 6 = .ok (.iload_n 2, 1) := by decide +kernel
theorem dX12_in1_7 : decode cX12_in1 7 = .ok (.if_icmp .gt 7, 3) := by decide +kernel
theorem dX12_in1_10 : decode cX12_in1 10 = .ok (.iconst 1, 1) := by decide +kernel
theorem dX12_in1_11 : decode cX12_in1 11 = .ok (.goto 4, 3) := by decide +kernel
theorem dX12_in1_14 : decode cX12_in1 14 = .ok (.iconst 0, 1) := by decide +kernel
theorem dX12_in1_15 : decode cX12_in1 15 = .ok (.ireturn, 1) := by decide +kernel
theorem oX12_in1_0 : oP MT mX12_in1 0 (1, 1, 0, 0, []) := o_iload_n dX12_in1_0 rfl
theorem oX12_in1_1 : oP MT mX12_in1 1 (1, 1, 1, 0, []) := o_iload_n dX12_in1_1 rfl
theorem oX12_in1_2 : oP MT mX12_in1 2 (11, 3, 2, 14, []) := o_icmp_lt dX12_in1_2 (by decide) (by decide)
theorem oX12_in1_5 : oP MT mX12_in1 5 (1, 1, 0, 0, []) := o_iload_n dX12_in1_5 rfl
theorem oX12_in1_6 : oP MT mX12_in1 6 (1, 1, 2, 0, []) := o_iload_n dX12_in1_6 rfl
theorem oX12_in1_7 : oP MT mX12_in1 7 (11, 3, 4, 14, []) := o_icmp_gt dX12_in1_7 (by decide) (by decide)
theorem oX12_in1_10 : oP MT mX12_in1 10 (0, 1, 0, 1, []) := o_iconst dX12_in1_10 (by decide)
theorem oX12_in1_11 : oP MT mX12_in1 11 (9, 3, 15, 0, []) := o_goto dX12_in1_11 (by decide)
theorem oX12_in1_14 : oP MT mX12_in1 14 (0, 1, 0, 0, []) := o_iconst dX12_in1_14 (by decide)
theorem oX12_in1_15 : oP MT mX12_in1 15 (22, 1, 0, 0, []) := o_zret dX12_in1_15 rfl
def ops_X12_in1 : List (Nat × aO) := [(0, (1, 1, 0, 0, [])), (1, (1, 1, 1, 0, [])), (2, (11, 3, 2, 14, [])), (5, (1, 1, 0, 0, [])), (6, (1, 1, 2, 0, [])), (7, (11, 3, 4, 14, [])), (10, (0, 1, 0, 1, [])), (11, (9, 3, 15, 0, [])), (14, (0, 1, 0, 0, [])), (15, (22, 1, 0, 0, []))]
theorem os_X12_in1 : oA MT mX12_in1 ops_X12_in1 := (oA.cons oX12_in1_0 (oA.cons oX12_in1_1 (oA.cons oX12_in1_2 (oA.cons oX12_in1_5 (oA.cons oX12_in1_6 (oA.cons oX12_in1_7 (oA.cons oX12_in1_10 (oA.cons oX12_in1_11 (oA.cons oX12_in1_14 (oA.cons oX12_in1_15 oA.nil))))))))))
theorem dX12_readsName_0 : decode cX12_readsName 0 = .ok (.aload_n 0, 1) := by decide +kernel
theorem dX12_readsName_1 : decode cX12_readsName 1 = .ok (.aload_n 0, 1) := by decide +kernel
theorem dX12_readsName_2 : decode cX12_readsName 2 = .ok (.getfield 130, 3) := by decide +kernel
theorem dX12_readsName_5 : decode cX12_readsName 5 = .ok (.invokevirtual 136, 3) := by decide +kernel
theorem dX12_readsName_8 : decode cX12_readsName 8 = .ok (.bipush 97, 2) := by decide +kernel
theorem dX12_readsName_10 : decode cX12_readsName 10 = .ok (.bipush 122, 2) := by decide +kernel
theorem dX12_readsName_12 : decode cX12_readsName 12 = .ok (.invokestatic 71, 3) := by decide +kernel
theorem dX12_readsName_15 : decode cX12_readsName 15 = .ok (.ifCond .eq 16, 3) := by decide +kernel
theorem dX12_readsName_18 : decode cX12_readsName 18 = .ok (.aload_n 0, 1) := by decide +kernel
theorem dX12_readsName_19 : decode cX12_readsName 19 = .ok (.dup, 1) := by decide +kernel
theorem dX12_readsName_20 : decode cX12_readsName 20 = .ok (.getfield 130, 3) := by decide +kernel
theorem dX12_readsName_23 : decode cX12_readsName 23 = .ok (.iconst 1, 1) := by decide +kernel
theorem dX12_readsName_24 : decode cX12_readsName 24 = .ok (.iadd, 1) := by decide +kernel
theorem dX12_readsName_25 : decode cX12_readsName 25 = .ok (.putfield 130, 3) := by decide +kernel
theorem dX12_readsName_28 : decode cX12_readsName 28 = .ok (.goto (-28), 3) := by decide +kernel
theorem dX12_readsName_31 : decode cX12_readsName 31 = .ok (.aload_n 0, 1) := by decide +kernel
theorem dX12_readsName_32 : decode cX12_readsName 32 = .ok (.bipush 101, 2) := by decide +kernel
theorem dX12_readsName_34 : decode cX12_readsName 34 = .ok (.putfield 139, 3) := by decide +kernel
theorem dX12_readsName_37 : decode cX12_readsName 37 = .ok (.iconst 0, 1) := by decide +kernel
theorem dX12_readsName_38 : decode cX12_readsName 38 = .ok (.istore_n 1, 1) := by decide +kernel
theorem dX12_readsName_39 : decode cX12_readsName 39 = .ok (.iload_n 1, 1) := by decide +kernel
theorem dX12_readsName_40 : decode cX12_readsName 40 = .ok (.bipush 18, 2) := by decide +kernel
theorem dX12_readsName_42 : decode cX12_readsName 42 = .ok (.if_icmp .ge 29, 3) := by decide +kernel
theorem dX12_readsName_45 : decode cX12_readsName 45 = .ok (.aload_n 0, 1) := by decide +kernel
theorem dX12_readsName_46 : decode cX12_readsName 46 = .ok (.aload_n 0, 1) := by decide +kernel
theorem dX12_readsName_47 : decode cX12_readsName 47 = .ok (.iload_n 1, 1) := by decide +kernel
theorem dX12_readsName_48 : decode cX12_readsName 48 = .ok (.invokevirtual 142, 3) := by decide +kernel
theorem dX12_readsName_51 : decode cX12_readsName 51 = .ok (.ifCond .eq 7, 3) := by decide +kernel
theorem dX12_readsName_54 : decode cX12_readsName 54 = .ok (.iload_n 1, 1) := by decide +kernel
theorem dX12_readsName_55 : decode cX12_readsName 55 = .ok (.goto 7, 3) := by decide +kernel
theorem dX12_readsName_58 : decode cX12_readsName 58 = .ok (.aload_n 0, 1) := by decide +kernel
theorem dX12_readsName_59 : decode cX12_readsName 59 = .ok (.getfield 139, 3) := by decide +kernel
theorem dX12_readsName_62 : decode cX12_readsName 62 = .ok (.putfield 139, 3) := by decide +kernel
theorem dX12_readsName_65 : decode cX12_readsName 65 = .ok (.iinc 1 1, 3) := by decide +kernel
theorem dX12_readsName_68 : decode cX12_readsName 68 = .ok (.goto (-29), 3) := by decide +kernel
theorem dX12_readsName_71 : decode cX12_readsName 71 = .ok (.return_, 1) := by decide +kernel
theorem oX12_readsName_0 : oP MT mX12_readsName 0 (1, 1, 0, 1, []) := o_aload_n dX12_readsName_0 rfl
theorem oX12_readsName_1 : oP MT mX12_readsName 1 (1, 1, 0, 1, []) := o_aload_n dX12_readsName_1 rfl
theorem oX12_readsName_2 : oP MT mX12_readsName 2 (12, 3, 8, 12, []) := o_getI (M := mX12_readsName) (C := RX12) (T := TX12) (ci := 12) (j := 8) (z := 12) dX12_readsName_2 rfl lq_RX12_130 rfl rfl
theorem oX12_readsName_5 : oP MT mX12_readsName 5 (26, 3, 0, 1, [(12, 126)]) := o_callO ((vA.cons (v_callV dX12_readsName_5 (ci := 12) rfl rfl (mj := mX12_byteAt) mt_X12_byteAt cmq_X12_byteAt wq_464 wq_466 wq_467 (by decide) (by decide)) vA.nil))
theorem oX12_readsName_8 : oP MT mX12_readsName 8 (0, 2, 0, 97, []) := o_bipush dX12_readsName_8 (by decide)
theorem oX12_readsName_10 : oP MT mX12_readsName 10 (0, 2, 0, 122, []) := o_bipush dX12_readsName_10 (by decide)
theorem oX12_readsName_12 : oP MT mX12_readsName 12 (25, 3, 127, 3, []) := o_callS dX12_readsName_12 (mj := mX12_in1) mt_X12_in1 cmq_X12_in1 wq_468 wq_470 (by decide) (by decide)
theorem oX12_readsName_15 : oP MT mX12_readsName 15 (10, 3, 0, 31, []) := o_if_eq dX12_readsName_15 (by decide) (by decide)
theorem oX12_readsName_18 : oP MT mX12_readsName 18 (1, 1, 0, 1, []) := o_aload_n dX12_readsName_18 rfl
theorem oX12_readsName_19 : oP MT mX12_readsName 19 (6, 1, 0, 0, []) := o_dup dX12_readsName_19
theorem oX12_readsName_20 : oP MT mX12_readsName 20 (12, 3, 8, 12, []) := o_getI (M := mX12_readsName) (C := RX12) (T := TX12) (ci := 12) (j := 8) (z := 12) dX12_readsName_20 rfl lq_RX12_130 rfl rfl
theorem oX12_readsName_23 : oP MT mX12_readsName 23 (0, 1, 0, 1, []) := o_iconst dX12_readsName_23 (by decide)
theorem oX12_readsName_24 : oP MT mX12_readsName 24 (4, 1, 0, 0, []) := o_iadd dX12_readsName_24
theorem oX12_readsName_25 : oP MT mX12_readsName 25 (14, 3, 8, 12, []) := o_putI (M := mX12_readsName) (C := RX12) (T := TX12) (ci := 12) (j := 8) (z := 12) dX12_readsName_25 rfl lq_RX12_130 rfl rfl rfl rfl
theorem oX12_readsName_28 : oP MT mX12_readsName 28 (9, 3, 0, 0, []) := o_goto dX12_readsName_28 (by decide)
theorem oX12_readsName_31 : oP MT mX12_readsName 31 (1, 1, 0, 1, []) := o_aload_n dX12_readsName_31 rfl
theorem oX12_readsName_32 : oP MT mX12_readsName 32 (0, 2, 0, 101, []) := o_bipush dX12_readsName_32 (by decide)
theorem oX12_readsName_34 : oP MT mX12_readsName 34 (14, 3, 10, 12, []) := o_putI (M := mX12_readsName) (C := RX12) (T := TX12) (ci := 12) (j := 10) (z := 12) dX12_readsName_34 rfl lq_RX12_139 rfl rfl rfl rfl
theorem oX12_readsName_37 : oP MT mX12_readsName 37 (0, 1, 0, 0, []) := o_iconst dX12_readsName_37 (by decide)
theorem oX12_readsName_38 : oP MT mX12_readsName 38 (2, 1, 1, 0, []) := o_istore_n dX12_readsName_38 rfl (by decide)
theorem oX12_readsName_39 : oP MT mX12_readsName 39 (1, 1, 1, 0, []) := o_iload_n dX12_readsName_39 rfl
theorem oX12_readsName_40 : oP MT mX12_readsName 40 (0, 2, 0, 18, []) := o_bipush dX12_readsName_40 (by decide)
theorem oX12_readsName_42 : oP MT mX12_readsName 42 (11, 3, 3, 71, []) := o_icmp_ge dX12_readsName_42 (by decide) (by decide)
theorem oX12_readsName_45 : oP MT mX12_readsName 45 (1, 1, 0, 1, []) := o_aload_n dX12_readsName_45 rfl
theorem oX12_readsName_46 : oP MT mX12_readsName 46 (1, 1, 0, 1, []) := o_aload_n dX12_readsName_46 rfl
theorem oX12_readsName_47 : oP MT mX12_readsName 47 (1, 1, 1, 0, []) := o_iload_n dX12_readsName_47 rfl
theorem oX12_readsName_48 : oP MT mX12_readsName 48 (26, 3, 0, 1, [(12, 129)]) := o_callO ((vA.cons (v_callV dX12_readsName_48 (ci := 12) rfl rfl (mj := mX12_isNameOf) mt_X12_isNameOf cmq_X12_isNameOf wq_471 wq_473 wq_474 (by decide) (by decide)) vA.nil))
theorem oX12_readsName_51 : oP MT mX12_readsName 51 (10, 3, 0, 58, []) := o_if_eq dX12_readsName_51 (by decide) (by decide)
theorem oX12_readsName_54 : oP MT mX12_readsName 54 (1, 1, 1, 0, []) := o_iload_n dX12_readsName_54 rfl
theorem oX12_readsName_55 : oP MT mX12_readsName 55 (9, 3, 62, 0, []) := o_goto dX12_readsName_55 (by decide)
theorem oX12_readsName_58 : oP MT mX12_readsName 58 (1, 1, 0, 1, []) := o_aload_n dX12_readsName_58 rfl
theorem oX12_readsName_59 : oP MT mX12_readsName 59 (12, 3, 10, 12, []) := o_getI (M := mX12_readsName) (C := RX12) (T := TX12) (ci := 12) (j := 10) (z := 12) dX12_readsName_59 rfl lq_RX12_139 rfl rfl
theorem oX12_readsName_62 : oP MT mX12_readsName 62 (14, 3, 10, 12, []) := o_putI (M := mX12_readsName) (C := RX12) (T := TX12) (ci := 12) (j := 10) (z := 12) dX12_readsName_62 rfl lq_RX12_139 rfl rfl rfl rfl
theorem oX12_readsName_65 : oP MT mX12_readsName 65 (3, 3, 1, 1, []) := o_iinc dX12_readsName_65 (by decide) (by decide)
theorem oX12_readsName_68 : oP MT mX12_readsName 68 (9, 3, 39, 0, []) := o_goto dX12_readsName_68 (by decide)
theorem oX12_readsName_71 : oP MT mX12_readsName 71 (23, 1, 0, 0, []) := o_vret dX12_readsName_71 rfl
def ops_X12_readsName : List (Nat × aO) := [(0, (1, 1, 0, 1, [])), (1, (1, 1, 0, 1, [])), (2, (12, 3, 8, 12, [])), (5, (26, 3, 0, 1, [(12, 126)])), (8, (0, 2, 0, 97, [])), (10, (0, 2, 0, 122, [])), (12, (25, 3, 127, 3, [])), (15, (10, 3, 0, 31, [])), (18, (1, 1, 0, 1, [])), (19, (6, 1, 0, 0, [])), (20, (12, 3, 8, 12, [])), (23, (0, 1, 0, 1, [])), (24, (4, 1, 0, 0, [])), (25, (14, 3, 8, 12, [])), (28, (9, 3, 0, 0, [])), (31, (1, 1, 0, 1, [])), (32, (0, 2, 0, 101, [])), (34, (14, 3, 10, 12, [])), (37, (0, 1, 0, 0, [])), (38, (2, 1, 1, 0, [])), (39, (1, 1, 1, 0, [])), (40, (0, 2, 0, 18, [])), (42, (11, 3, 3, 71, [])), (45, (1, 1, 0, 1, [])), (46, (1, 1, 0, 1, [])), (47, (1, 1, 1, 0, [])), (48, (26, 3, 0, 1, [(12, 129)])), (51, (10, 3, 0, 58, [])), (54, (1, 1, 1, 0, [])), (55, (9, 3, 62, 0, [])), (58, (1, 1, 0, 1, [])), (59, (12, 3, 10, 12, [])), (62, (14, 3, 10, 12, [])), (65, (3, 3, 1, 1, [])), (68, (9, 3, 39, 0, [])), (71, (23, 1, 0, 0, []))]
theorem os_X12_readsName : oA MT mX12_readsName ops_X12_readsName := (oA.cons oX12_readsName_0 (oA.cons oX12_readsName_1 (oA.cons oX12_readsName_2 (oA.cons oX12_readsName_5 (oA.cons oX12_readsName_8 (oA.cons oX12_readsName_10 (oA.cons oX12_readsName_12 (oA.cons oX12_readsName_15 (oA.cons oX12_readsName_18 (oA.cons oX12_readsName_19 (oA.cons oX12_readsName_20 (oA.cons oX12_readsName_23 (oA.cons oX12_readsName_24 (oA.cons oX12_readsName_25 (oA.cons oX12_readsName_28 (oA.cons oX12_readsName_31 (oA.cons oX12_readsName_32 (oA.cons oX12_readsName_34 (oA.cons oX12_readsName_37 (oA.cons oX12_readsName_38 (oA.cons oX12_readsName_39 (oA.cons oX12_readsName_40 (oA.cons oX12_readsName_42 (oA.cons oX12_readsName_45 (oA.cons oX12_readsName_46 (oA.cons oX12_readsName_47 (oA.cons oX12_readsName_48 (oA.cons oX12_readsName_51 (oA.cons oX12_readsName_54 (oA.cons oX12_readsName_55 (oA.cons oX12_readsName_58 (oA.cons oX12_readsName_59 (oA.cons oX12_readsName_62 (oA.cons oX12_readsName_65 (oA.cons oX12_readsName_68 (oA.cons oX12_readsName_71 oA.nil))))))))))))))))))))))))))))))))))))
theorem dX12_isNameOf_0 : decode cX12_isNameOf 0 = .ok (.aload_n 0, 1) := by decide +kernel
theorem dX12_isNameOf_1 : decode cX12_isNameOf 1 = .ok (.getfield 130, 3) := by decide +kernel
theorem dX12_isNameOf_4 : decode cX12_isNameOf 4 = .ok (.aload_n 0, 1) := by decide +kernel
theorem dX12_isNameOf_5 : decode cX12_isNameOf 5 = .ok (.getfield 133, 3) := by decide +kernel
theorem dX12_isNameOf_8 : decode cX12_isNameOf 8 = .ok (.isub, 1) := by decide +kernel
theorem dX12_isNameOf_9 : decode cX12_isNameOf 9 = .ok (.bipush 8, 2) := by decide +kernel
theorem dX12_isNameOf_11 : decode cX12_isNameOf 11 = .ok (.if_icmp .gt 7, 3) := by decide +kernel
theorem dX12_isNameOf_14 : decode cX12_isNameOf 14 = .ok (.iconst 1, 1) := by decide +kernel
theorem dX12_isNameOf_15 : decode cX12_isNameOf 15 = .ok (.goto 4, 3) := by decide +kernel
theorem dX12_isNameOf_18 : decode cX12_isNameOf 18 = .ok (.iconst 0, 1) := by decide +kernel
theorem dX12_isNameOf_19 : decode cX12_isNameOf 19 = .ok (.istore_n 2, 1) := by decide +kernel
theorem dX12_isNameOf_20 : decode cX12_isNameOf 20 = .ok (.iconst 0, 1) := by decide +kernel
theorem dX12_isNameOf_21 : decode cX12_isNameOf 21 = .ok (.istore_n 3, 1) := by decide +kernel
theorem dX12_isNameOf_22 : decode cX12_isNameOf 22 = .ok (.iload_n 3, 1) := by decide +kernel
theorem dX12_isNameOf_23 : decode cX12_isNameOf 23 = .ok (.bipush 8, 2) := by decide +kernel
theorem dX12_isNameOf_25 : decode cX12_isNameOf 25 = .ok (.if_icmp .ge 61, 3) := by decide +kernel
theorem dX12_isNameOf_28 : decode cX12_isNameOf 28 = .ok (.iload_n 2, 1) := by decide +kernel
theorem dX12_isNameOf_29 : decode cX12_isNameOf 29 = .ok (.ifCond .eq 57, 3) := by decide +kernel
theorem dX12_isNameOf_32 : decode cX12_isNameOf 32 = .ok (.aload_n 0, 1) := by decide +kernel
theorem dX12_isNameOf_33 : decode cX12_isNameOf 33 = .ok (.getfield 25, 3) := by decide +kernel
theorem dX12_isNameOf_36 : decode cX12_isNameOf 36 = .ok (.bipush 8, 2) := by decide +kernel
theorem dX12_isNameOf_38 : decode cX12_isNameOf 38 = .ok (.iload_n 1, 1) := by decide +kernel
theorem dX12_isNameOf_39 : decode cX12_isNameOf 39 = .ok (.imul, 1) := by decide +kernel
theorem dX12_isNameOf_40 : decode cX12_isNameOf 40 = .ok (.iload_n 3, 1) := by decide +kernel
theorem dX12_isNameOf_41 : decode cX12_isNameOf 41 = .ok (.iadd, 1) := by decide +kernel
theorem dX12_isNameOf_42 : decode cX12_isNameOf 42 = .ok (.caload, 1) := by decide +kernel
theorem dX12_isNameOf_43 : decode cX12_isNameOf 43 = .ok (.aload_n 0, 1) := by decide +kernel
theorem dX12_isNameOf_44 : decode cX12_isNameOf 44 = .ok (.getfield 133, 3) := by decide +kernel
theorem dX12_isNameOf_47 : decode cX12_isNameOf 47 = .ok (.iload_n 3, 1) := by decide +kernel
theorem dX12_isNameOf_48 : decode cX12_isNameOf 48 = .ok (.iadd, 1) := by decide +kernel
theorem dX12_isNameOf_49 : decode cX12_isNameOf 49 = .ok (.aload_n 0, 1) := by decide +kernel
theorem dX12_isNameOf_50 : decode cX12_isNameOf 50 = .ok (.getfield 130, 3) := by decide +kernel
theorem dX12_isNameOf_53 : decode cX12_isNameOf 53 = .ok (.if_icmp .ge 16, 3) := by decide +kernel
theorem dX12_isNameOf_56 : decode cX12_isNameOf 56 = .ok (.aload_n 0, 1) := by decide +kernel
theorem dX12_isNameOf_57 : decode cX12_isNameOf 57 = .ok (.aload_n 0, 1) := by decide +kernel
theorem dX12_isNameOf_58 : decode cX12_isNameOf 58 = .ok (.getfield 133, 3) := by decide +kernel
theorem dX12_isNameOf_61 : decode cX12_isNameOf 61 = .ok (.iload_n 3, 1) := by decide +kernel
theorem dX12_isNameOf_62 : decode cX12_isNameOf 62 = .ok (.iadd, 1) := by decide +kernel
theorem dX12_isNameOf_63 : decode cX12_isNameOf 63 = .ok (.invokevirtual 136, 3) := by decide +kernel
theorem dX12_isNameOf_66 : decode cX12_isNameOf 66 = .ok (.goto 5, 3) := by decide +kernel
theorem dX12_isNameOf_69 : decode cX12_isNameOf 69 = .ok (.bipush 32, 2) := by decide +kernel
theorem dX12_isNameOf_71 : decode cX12_isNameOf 71 = .ok (.if_icmp .ne 7, 3) := by decide +kernel
theorem dX12_isNameOf_74 : decode cX12_isNameOf 74 = .ok (.iconst 1, 1) := by decide +kernel
theorem dX12_isNameOf_75 : decode cX12_isNameOf 75 = .ok (.goto 4, 3) := by decide +kernel
theorem dX12_isNameOf_78 : decode cX12_isNameOf 78 = .ok (.iconst 0, 1) := by decide +kernel
theorem dX12_isNameOf_79 : decode cX12_isNameOf 79 = .ok (.istore_n 2, 1) := by decide +kernel
theorem dX12_isNameOf_80 : decode cX12_isNameOf 80 = .ok (.iinc 3 1, 3) := by decide +kernel
theorem dX12_isNameOf_83 : decode cX12_isNameOf 83 = .ok (.goto (-61), 3) := by decide +kernel
theorem dX12_isNameOf_86 : decode cX12_isNameOf 86 = .ok (.iload_n 2, 1) := by decide +kernel
theorem dX12_isNameOf_87 : decode cX12_isNameOf 87 = .ok (.ireturn, 1) := by decide +kernel
theorem oX12_isNameOf_0 : oP MT mX12_isNameOf 0 (1, 1, 0, 1, []) := o_aload_n dX12_isNameOf_0 rfl
theorem oX12_isNameOf_1 : oP MT mX12_isNameOf 1 (12, 3, 8, 12, []) := o_getI (M := mX12_isNameOf) (C := RX12) (T := TX12) (ci := 12) (j := 8) (z := 12) dX12_isNameOf_1 rfl lq_RX12_130 rfl rfl
theorem oX12_isNameOf_4 : oP MT mX12_isNameOf 4 (1, 1, 0, 1, []) := o_aload_n dX12_isNameOf_4 rfl
theorem oX12_isNameOf_5 : oP MT mX12_isNameOf 5 (12, 3, 9, 12, []) := o_getI (M := mX12_isNameOf) (C := RX12) (T := TX12) (ci := 12) (j := 9) (z := 12) dX12_isNameOf_5 rfl lq_RX12_133 rfl rfl
theorem oX12_isNameOf_8 : oP MT mX12_isNameOf 8 (4, 1, 1, 0, []) := o_isub dX12_isNameOf_8
theorem oX12_isNameOf_9 : oP MT mX12_isNameOf 9 (0, 2, 0, 8, []) := o_bipush dX12_isNameOf_9 (by decide)
theorem oX12_isNameOf_11 : oP MT mX12_isNameOf 11 (11, 3, 4, 18, []) := o_icmp_gt dX12_isNameOf_11 (by decide) (by decide)
theorem oX12_isNameOf_14 : oP MT mX12_isNameOf 14 (0, 1, 0, 1, []) := o_iconst dX12_isNameOf_14 (by decide)
theorem oX12_isNameOf_15 : oP MT mX12_isNameOf 15 (9, 3, 19, 0, []) := o_goto dX12_isNameOf_15 (by decide)
theorem oX12_isNameOf_18 : oP MT mX12_isNameOf 18 (0, 1, 0, 0, []) := o_iconst dX12_isNameOf_18 (by decide)
theorem oX12_isNameOf_19 : oP MT mX12_isNameOf 19 (2, 1, 2, 0, []) := o_istore_n dX12_isNameOf_19 rfl (by decide)
theorem oX12_isNameOf_20 : oP MT mX12_isNameOf 20 (0, 1, 0, 0, []) := o_iconst dX12_isNameOf_20 (by decide)
theorem oX12_isNameOf_21 : oP MT mX12_isNameOf 21 (2, 1, 3, 0, []) := o_istore_n dX12_isNameOf_21 rfl (by decide)
theorem oX12_isNameOf_22 : oP MT mX12_isNameOf 22 (1, 1, 3, 0, []) := o_iload_n dX12_isNameOf_22 rfl
theorem oX12_isNameOf_23 : oP MT mX12_isNameOf 23 (0, 2, 0, 8, []) := o_bipush dX12_isNameOf_23 (by decide)
theorem oX12_isNameOf_25 : oP MT mX12_isNameOf 25 (11, 3, 3, 86, []) := o_icmp_ge dX12_isNameOf_25 (by decide) (by decide)
theorem oX12_isNameOf_28 : oP MT mX12_isNameOf 28 (1, 1, 2, 0, []) := o_iload_n dX12_isNameOf_28 rfl
theorem oX12_isNameOf_29 : oP MT mX12_isNameOf 29 (10, 3, 0, 86, []) := o_if_eq dX12_isNameOf_29 (by decide) (by decide)
theorem oX12_isNameOf_32 : oP MT mX12_isNameOf 32 (1, 1, 0, 1, []) := o_aload_n dX12_isNameOf_32 rfl
theorem oX12_isNameOf_33 : oP MT mX12_isNameOf 33 (13, 3, 7, 12, []) := o_getR (M := mX12_isNameOf) (C := RX12) (T := TX12) (ci := 12) (j := 7) (z := 12) dX12_isNameOf_33 rfl lq_RX12_25 rfl rfl
theorem oX12_isNameOf_36 : oP MT mX12_isNameOf 36 (0, 2, 0, 8, []) := o_bipush dX12_isNameOf_36 (by decide)
theorem oX12_isNameOf_38 : oP MT mX12_isNameOf 38 (1, 1, 1, 0, []) := o_iload_n dX12_isNameOf_38 rfl
theorem oX12_isNameOf_39 : oP MT mX12_isNameOf 39 (4, 1, 2, 0, []) := o_imul dX12_isNameOf_39
theorem oX12_isNameOf_40 : oP MT mX12_isNameOf 40 (1, 1, 3, 0, []) := o_iload_n dX12_isNameOf_40 rfl
theorem oX12_isNameOf_41 : oP MT mX12_isNameOf 41 (4, 1, 0, 0, []) := o_iadd dX12_isNameOf_41
theorem oX12_isNameOf_42 : oP MT mX12_isNameOf 42 (16, 1, 3, 0, []) := o_caload dX12_isNameOf_42
theorem oX12_isNameOf_43 : oP MT mX12_isNameOf 43 (1, 1, 0, 1, []) := o_aload_n dX12_isNameOf_43 rfl
theorem oX12_isNameOf_44 : oP MT mX12_isNameOf 44 (12, 3, 9, 12, []) := o_getI (M := mX12_isNameOf) (C := RX12) (T := TX12) (ci := 12) (j := 9) (z := 12) dX12_isNameOf_44 rfl lq_RX12_133 rfl rfl
theorem oX12_isNameOf_47 : oP MT mX12_isNameOf 47 (1, 1, 3, 0, []) := o_iload_n dX12_isNameOf_47 rfl
theorem oX12_isNameOf_48 : oP MT mX12_isNameOf 48 (4, 1, 0, 0, []) := o_iadd dX12_isNameOf_48
theorem oX12_isNameOf_49 : oP MT mX12_isNameOf 49 (1, 1, 0, 1, []) := o_aload_n dX12_isNameOf_49 rfl
theorem oX12_isNameOf_50 : oP MT mX12_isNameOf 50 (12, 3, 8, 12, []) := o_getI (M := mX12_isNameOf) (C := RX12) (T := TX12) (ci := 12) (j := 8) (z := 12) dX12_isNameOf_50 rfl lq_RX12_130 rfl rfl
theorem oX12_isNameOf_53 : oP MT mX12_isNameOf 53 (11, 3, 3, 69, []) := o_icmp_ge dX12_isNameOf_53 (by decide) (by decide)
theorem oX12_isNameOf_56 : oP MT mX12_isNameOf 56 (1, 1, 0, 1, []) := o_aload_n dX12_isNameOf_56 rfl
theorem oX12_isNameOf_57 : oP MT mX12_isNameOf 57 (1, 1, 0, 1, []) := o_aload_n dX12_isNameOf_57 rfl
theorem oX12_isNameOf_58 : oP MT mX12_isNameOf 58 (12, 3, 9, 12, []) := o_getI (M := mX12_isNameOf) (C := RX12) (T := TX12) (ci := 12) (j := 9) (z := 12) dX12_isNameOf_58 rfl lq_RX12_133 rfl rfl
theorem oX12_isNameOf_61 : oP MT mX12_isNameOf 61 (1, 1, 3, 0, []) := o_iload_n dX12_isNameOf_61 rfl
theorem oX12_isNameOf_62 : oP MT mX12_isNameOf 62 (4, 1, 0, 0, []) := o_iadd dX12_isNameOf_62
theorem oX12_isNameOf_63 : oP MT mX12_isNameOf 63 (26, 3, 0, 1, [(12, 126)]) := o_callO ((vA.cons (v_callV dX12_isNameOf_63 (ci := 12) rfl rfl (mj := mX12_byteAt) mt_X12_byteAt cmq_X12_byteAt wq_464 wq_466 wq_467 (by decide) (by decide)) vA.nil))
theorem oX12_isNameOf_66 : oP MT mX12_isNameOf 66 (9, 3, 71, 0, []) := o_goto dX12_isNameOf_66 (by decide)
theorem oX12_isNameOf_69 : oP MT mX12_isNameOf 69 (0, 2, 0, 32, []) := o_bipush dX12_isNameOf_69 (by decide)
theorem oX12_isNameOf_71 : oP MT mX12_isNameOf 71 (11, 3, 1, 78, []) := o_icmp_ne dX12_isNameOf_71 (by decide) (by decide)
theorem oX12_isNameOf_74 : oP MT mX12_isNameOf 74 (0, 1, 0, 1, []) := o_iconst dX12_isNameOf_74 (by decide)
theorem oX12_isNameOf_75 : oP MT mX12_isNameOf 75 (9, 3, 79, 0, []) := o_goto dX12_isNameOf_75 (by decide)
theorem oX12_isNameOf_78 : oP MT mX12_isNameOf 78 (0, 1, 0, 0, []) := o_iconst dX12_isNameOf_78 (by decide)
theorem oX12_isNameOf_79 : oP MT mX12_isNameOf 79 (2, 1, 2, 0, []) := o_istore_n dX12_isNameOf_79 rfl (by decide)
theorem oX12_isNameOf_80 : oP MT mX12_isNameOf 80 (3, 3, 3, 1, []) := o_iinc dX12_isNameOf_80 (by decide) (by decide)
theorem oX12_isNameOf_83 : oP MT mX12_isNameOf 83 (9, 3, 22, 0, []) := o_goto dX12_isNameOf_83 (by decide)
theorem oX12_isNameOf_86 : oP MT mX12_isNameOf 86 (1, 1, 2, 0, []) := o_iload_n dX12_isNameOf_86 rfl
theorem oX12_isNameOf_87 : oP MT mX12_isNameOf 87 (22, 1, 0, 0, []) := o_zret dX12_isNameOf_87 rfl
def ops_X12_isNameOf : List (Nat × aO) := [(0, (1, 1, 0, 1, [])), (1, (12, 3, 8, 12, [])), (4, (1, 1, 0, 1, [])), (5, (12, 3, 9, 12, [])), (8, (4, 1, 1, 0, [])), (9, (0, 2, 0, 8, [])), (11, (11, 3, 4, 18, [])), (14, (0, 1, 0, 1, [])), (15, (9, 3, 19, 0, [])), (18, (0, 1, 0, 0, [])), (19, (2, 1, 2, 0, [])), (20, (0, 1, 0, 0, [])), (21, (2, 1, 3, 0, [])), (22, (1, 1, 3, 0, [])), (23, (0, 2, 0, 8, [])), (25, (11, 3, 3, 86, [])), (28, (1, 1, 2, 0, [])), (29, (10, 3, 0, 86, [])), (32, (1, 1, 0, 1, [])), (33, (13, 3, 7, 12, [])), (36, (0, 2, 0, 8, [])), (38, (1, 1, 1, 0, [])), (39, (4, 1, 2, 0, [])), (40, (1, 1, 3, 0, [])), (41, (4, 1, 0, 0, [])), (42, (16, 1, 3, 0, [])), (43, (1, 1, 0, 1, [])), (44, (12, 3, 9, 12, [])), (47, (1, 1, 3, 0, [])), (48, (4, 1, 0, 0, [])), (49, (1, 1, 0, 1, [])), (50, (12, 3, 8, 12, [])), (53, (11, 3, 3, 69, [])), (56, (1, 1, 0, 1, [])), (57, (1, 1, 0, 1, [])), (58, (12, 3, 9, 12, [])), (61, (1, 1, 3, 0, [])), (62, (4, 1, 0, 0, [])), (63, (26, 3, 0, 1, [(12, 126)])), (66, (9, 3, 71, 0, [])), (69, (0, 2, 0, 32, [])), (71, (11, 3, 1, 78, [])), (74, (0, 1, 0, 1, [])), (75, (9, 3, 79, 0, [])), (78, (0, 1, 0, 0, [])), (79, (2, 1, 2, 0, [])), (80, (3, 3, 3, 1, [])), (83, (9, 3, 22, 0, [])), (86, (1, 1, 2, 0, [])), (87, (22, 1, 0, 0, []))]
theorem os_X12_isNameOf : oA MT mX12_isNameOf ops_X12_isNameOf := (oA.cons oX12_isNameOf_0 (oA.cons oX12_isNameOf_1 (oA.cons oX12_isNameOf_4 (oA.cons oX12_isNameOf_5 (oA.cons oX12_isNameOf_8 (oA.cons oX12_isNameOf_9 (oA.cons oX12_isNameOf_11 (oA.cons oX12_isNameOf_14 (oA.cons oX12_isNameOf_15 (oA.cons oX12_isNameOf_18 (oA.cons oX12_isNameOf_19 (oA.cons oX12_isNameOf_20 (oA.cons oX12_isNameOf_21 (oA.cons oX12_isNameOf_22 (oA.cons oX12_isNameOf_23 (oA.cons oX12_isNameOf_25 (oA.cons oX12_isNameOf_28 (oA.cons oX12_isNameOf_29 (oA.cons oX12_isNameOf_32 (oA.cons oX12_isNameOf_33 (oA.cons oX12_isNameOf_36 (oA.cons oX12_isNameOf_38 (oA.cons oX12_isNameOf_39 (oA.cons oX12_isNameOf_40 (oA.cons oX12_isNameOf_41 (oA.cons oX12_isNameOf_42 (oA.cons oX12_isNameOf_43 (oA.cons oX12_isNameOf_44 (oA.cons oX12_isNameOf_47 (oA.cons oX12_isNameOf_48 (oA.cons oX12_isNameOf_49 (oA.cons oX12_isNameOf_50 (oA.cons oX12_isNameOf_53 (oA.cons oX12_isNameOf_56 (oA.cons oX12_isNameOf_57 (oA.cons oX12_isNameOf_58 (oA.cons oX12_isNameOf_61 (oA.cons oX12_isNameOf_62 (oA.cons oX12_isNameOf_63 (oA.cons oX12_isNameOf_66 (oA.cons oX12_isNameOf_69 (oA.cons oX12_isNameOf_71 (oA.cons oX12_isNameOf_74 (oA.cons oX12_isNameOf_75 (oA.cons oX12_isNameOf_78 (oA.cons oX12_isNameOf_79 (oA.cons oX12_isNameOf_80 (oA.cons oX12_isNameOf_83 (oA.cons oX12_isNameOf_86 (oA.cons oX12_isNameOf_87 oA.nil))))))))))))))))))))))))))))))))))))))))))))))))))
theorem dX12_readsNumber_0 : decode cX12_readsNumber 0 = .ok (.aload_n 0, 1) := by decide +kernel
theorem dX12_readsNumber_1 : decode cX12_readsNumber 1 = .ok (.iconst 0, 1) := by decide +kernel
theorem dX12_readsNumber_2 : decode cX12_readsNumber 2 = .ok (.putfield 146, 3) := by decide +kernel
theorem dX12_readsNumber_5 : decode cX12_readsNumber 5 = .ok (.aload_n 0, 1) := by decide +kernel
theorem dX12_readsNumber_6 : decode cX12_readsNumber 6 = .ok (.aload_n 0, 1) := by decide +kernel
theorem dX12_readsNumber_7 : decode cX12_readsNumber 7 = .ok (.getfield 130, 3) := by decide +kernel
theorem dX12_readsNumber_10 : decode cX12_readsNumber 10 = .ok (.invokevirtual 136, 3) := by decide +kernel
theorem dX12_readsNumber_13 : decode cX12_readsNumber 13 = .ok (.bipush 48, 2) := by decide +kernel
theorem dX12_readsNumber_15 : decode cX12_readsNumber 15 = .ok (.bipush 57, 2) := by decide +kernel
theorem dX12_readsNumber_17 : decode cX12_readsNumber 17 = .ok (.invokestatic 71, 3) := by decide +kernel
theorem dX12_readsNumber_20 : decode cX12_readsNumber 20 = .ok (.ifCond .eq 59, 3) := by decide +kernel
theorem dX12_readsNumber_23 : decode cX12_readsNumber 23 = .ok (.aload_n 0, 1) := by decide +kernel
theorem dX12_readsNumber_24 : decode cX12_readsNumber 24 = .ok (.aload_n 0, 1) := by decide +kernel
theorem dX12_readsNumber_25 : decode cX12_readsNumber 25 = .ok (.getfield 130, 3) := by decide +kernel
theorem dX12_readsNumber_28 : decode cX12_readsNumber 28 = .ok (.aload_n 0, 1) := by decide +kernel
theorem dX12_readsNumber_29 : decode cX12_readsNumber 29 = .ok (.getfield 133, 3) := by decide +kernel
theorem dX12_readsNumber_32 : decode cX12_readsNumber 32 = .ok (.isub, 1) := by decide +kernel
theorem dX12_readsNumber_33 : decode cX12_readsNumber 33 = .ok (.iconst 4, 1) := by decide +kernel
theorem dX12_readsNumber_34 : decode cX12_readsNumber 34 = .ok (.if_icmp .ge 25, 3) := by decide +kernel
theorem dX12_readsNumber_37 : decode cX12_readsNumber 37 = .ok (.bipush 10, 2) := by decide +kernel
theorem dX12_readsNumber_39 : decode cX12_readsNumber 39 = .ok (.aload_n 0, 1) := by decide +kernel
theorem dX12_readsNumber_40 : decode cX12_readsNumber 40 = .ok (.getfield 146, 3) := by decide +kernel
theorem dX12_readsNumber_43 : decode cX12_readsNumber 43 = .ok (.imul, 1) := by decide +kernel
theorem dX12_readsNumber_44 : decode cX12_readsNumber 44 = .ok (.aload_n 0, 1) := by decide +kernel
theorem dX12_readsNumber_45 : decode cX12_readsNumber 45 = .ok (.aload_n 0, 1) := by decide +kernel
theorem dX12_readsNumber_46 : decode cX12_readsNumber 46 = .ok (.getfield 130, 3) := by decide +kernel
theorem dX12_readsNumber_49 : decode cX12_readsNumber 49 = .ok (.invokevirtual 136, 3) := by decide +kernel
theorem dX12_readsNumber_52 : decode cX12_readsNumber 52 = .ok (.iadd, 1) := by decide +kernel
theorem dX12_readsNumber_53 : decode cX12_readsNumber 53 = .ok (.bipush 48, 2) := by decide +kernel
theorem dX12_readsNumber_55 : decode cX12_readsNumber 55 = .ok (.isub, 1) := by decide +kernel
theorem dX12_readsNumber_56 : decode cX12_readsNumber 56 = .ok (.goto 7, 3) := by decide +kernel
theorem dX12_readsNumber_59 : decode cX12_readsNumber 59 = .ok (.aload_n 0, 1) := by decide +kernel
theorem dX12_readsNumber_60 : decode cX12_readsNumber 60 = .ok (.getfield 146, 3) := by decide +kernel
theorem dX12_readsNumber_63 : decode cX12_readsNumber 63 = .ok (.putfield 146, 3) := by decide +kernel
theorem dX12_readsNumber_66 : decode cX12_readsNumber 66 = .ok (.aload_n 0, 1) := by decide +kernel
theorem dX12_readsNumber_67 : decode cX12_readsNumber 67 = .ok (.dup, 1) := by decide +kernel
theorem dX12_readsNumber_68 : decode cX12_readsNumber 68 = .ok (.getfield 130, 3) := by decide +kernel
theorem dX12_readsNumber_71 : decode cX12_readsNumber 71 = .ok (.iconst 1, 1) := by decide +kernel
theorem dX12_readsNumber_72 : decode cX12_readsNumber 72 = .ok (.iadd, 1) := by decide +kernel
theorem dX12_readsNumber_73 : decode cX12_readsNumber 73 = .ok (.putfield 130, 3) := by decide +kernel
theorem dX12_readsNumber_76 : decode cX12_readsNumber 76 = .ok (.goto (-71), 3) := by decide +kernel
theorem dX12_readsNumber_79 : decode cX12_readsNumber 79 = .ok (.aload_n 0, 1) := by decide +kernel
theorem dX12_readsNumber_80 : decode cX12_readsNumber 80 = .ok (.aload_n 0, 1) := by decide +kernel
theorem dX12_readsNumber_81 : decode cX12_readsNumber 81 = .ok (.getfield 130, 3) := by decide +kernel
theorem dX12_readsNumber_84 : decode cX12_readsNumber 84 = .ok (.aload_n 0, 1) := by decide +kernel
theorem dX12_readsNumber_85 : decode cX12_readsNumber 85 = .ok (.getfield 133, 3) := by decide +kernel
theorem dX12_readsNumber_88 : decode cX12_readsNumber 88 = .ok (.isub, 1) := by decide +kernel
theorem dX12_readsNumber_89 : decode cX12_readsNumber 89 = .ok (.iconst 4, 1) := by decide +kernel
theorem dX12_readsNumber_90 : decode cX12_readsNumber 90 = .ok (.if_icmp .le 8, 3) := by decide +kernel
theorem dX12_readsNumber_93 : decode cX12_readsNumber 93 = .ok (.bipush 101, 2) := by decide +kernel
theorem dX12_readsNumber_95 : decode cX12_readsNumber 95 = .ok (.goto 5, 3) := by decide +kernel
theorem dX12_readsNumber_98 : decode cX12_readsNumber 98 = .ok (.bipush 100, 2) := by decide +kernel
theorem dX12_readsNumber_100 : decode cX12_readsNumber 100 = .ok (.putfield 139, 3) := by decide +kernel
theorem dX12_readsNumber_103 : decode cX12_readsNumber 103 = .ok (.return_, 1) := by decide +kernel
theorem oX12_readsNumber_0 : oP MT mX12_readsNumber 0 (1, 1, 0, 1, []) := o_aload_n dX12_readsNumber_0 rfl
theorem oX12_readsNumber_1 : oP MT mX12_readsNumber 1 (0, 1, 0, 0, []) := o_iconst dX12_readsNumber_1 (by decide)
theorem oX12_readsNumber_2 : oP MT mX12_readsNumber 2 (14, 3, 11, 12, []) := o_putI (M := mX12_readsNumber) (C := RX12) (T := TX12) (ci := 12) (j := 11) (z := 12) dX12_readsNumber_2 rfl lq_RX12_146 rfl rfl rfl rfl
theorem oX12_readsNumber_5 : oP MT mX12_readsNumber 5 (1, 1, 0, 1, []) := o_aload_n dX12_readsNumber_5 rfl
theorem oX12_readsNumber_6 : oP MT mX12_readsNumber 6 (1, 1, 0, 1, []) := o_aload_n dX12_readsNumber_6 rfl
theorem oX12_readsNumber_7 : oP MT mX12_readsNumber 7 (12, 3, 8, 12, []) := o_getI (M := mX12_readsNumber) (C := RX12) (T := TX12) (ci := 12) (j := 8) (z := 12) dX12_readsNumber_7 rfl lq_RX12_130 rfl rfl
theorem oX12_readsNumber_10 : oP MT mX12_readsNumber 10 (26, 3, 0, 1, [(12, 126)]) := o_callO ((vA.cons (v_callV dX12_readsNumber_10 (ci := 12) rfl rfl (mj := mX12_byteAt) mt_X12_byteAt cmq_X12_byteAt wq_464 wq_466 wq_467 (by decide) (by decide)) vA.nil))
theorem oX12_readsNumber_13 : oP MT mX12_readsNumber 13 (0, 2, 0, 48, []) := o_bipush dX12_readsNumber_13 (by decide)
theorem oX12_readsNumber_15 : oP MT mX12_readsNumber 15 (0, 2, 0, 57, []) := o_bipush dX12_readsNumber_15 (by decide)
theorem oX12_readsNumber_17 : oP MT mX12_readsNumber 17 (25, 3, 127, 3, []) := o_callS dX12_readsNumber_17 (mj := mX12_in1) mt_X12_in1 cmq_X12_in1 wq_468 wq_470 (by decide) (by decide)
theorem oX12_readsNumber_20 : oP MT mX12_readsNumber 20 (10, 3, 0, 79, []) := o_if_eq dX12_readsNumber_20 (by decide) (by decide)
theorem oX12_readsNumber_23 : oP MT mX12_readsNumber 23 (1, 1, 0, 1, []) := o_aload_n dX12_readsNumber_23 rfl
theorem oX12_readsNumber_24 : oP MT mX12_readsNumber 24 (1, 1, 0, 1, []) := o_aload_n dX12_readsNumber_24 rfl
theorem oX12_readsNumber_25 : oP MT mX12_readsNumber 25 (12, 3, 8, 12, []) := o_getI (M := mX12_readsNumber) (C := RX12) (T := TX12) (ci := 12) (j := 8) (z := 12) dX12_readsNumber_25 rfl lq_RX12_130 rfl rfl
theorem oX12_readsNumber_28 : oP MT mX12_readsNumber 28 (1, 1, 0, 1, []) := o_aload_n dX12_readsNumber_28 rfl
theorem oX12_readsNumber_29 : oP MT mX12_readsNumber 29 (12, 3, 9, 12, []) := o_getI (M := mX12_readsNumber) (C := RX12) (T := TX12) (ci := 12) (j := 9) (z := 12) dX12_readsNumber_29 rfl lq_RX12_133 rfl rfl
theorem oX12_readsNumber_32 : oP MT mX12_readsNumber 32 (4, 1, 1, 0, []) := o_isub dX12_readsNumber_32
theorem oX12_readsNumber_33 : oP MT mX12_readsNumber 33 (0, 1, 0, 4, []) := o_iconst dX12_readsNumber_33 (by decide)
theorem oX12_readsNumber_34 : oP MT mX12_readsNumber 34 (11, 3, 3, 59, []) := o_icmp_ge dX12_readsNumber_34 (by decide) (by decide)
theorem oX12_readsNumber_37 : oP MT mX12_readsNumber 37 (0, 2, 0, 10, []) := o_bipush dX12_readsNumber_37 (by decide)
theorem oX12_readsNumber_39 : oP MT mX12_readsNumber 39 (1, 1, 0, 1, []) := o_aload_n dX12_readsNumber_39 rfl
theorem oX12_readsNumber_40 : oP MT mX12_readsNumber 40 (12, 3, 11, 12, []) := o_getI (M := mX12_readsNumber) (C := RX12) (T := TX12) (ci := 12) (j := 11) (z := 12) dX12_readsNumber_40 rfl lq_RX12_146 rfl rfl
theorem oX12_readsNumber_43 : oP MT mX12_readsNumber 43 (4, 1, 2, 0, []) := o_imul dX12_readsNumber_43
theorem oX12_readsNumber_44 : oP MT mX12_readsNumber 44 (1, 1, 0, 1, []) := o_aload_n dX12_readsNumber_44 rfl
theorem oX12_readsNumber_45 : oP MT mX12_readsNumber 45 (1, 1, 0, 1, []) := o_aload_n dX12_readsNumber_45 rfl
theorem oX12_readsNumber_46 : oP MT mX12_readsNumber 46 (12, 3, 8, 12, []) := o_getI (M := mX12_readsNumber) (C := RX12) (T := TX12) (ci := 12) (j := 8) (z := 12) dX12_readsNumber_46 rfl lq_RX12_130 rfl rfl
theorem oX12_readsNumber_49 : oP MT mX12_readsNumber 49 (26, 3, 0, 1, [(12, 126)]) := o_callO ((vA.cons (v_callV dX12_readsNumber_49 (ci := 12) rfl rfl (mj := mX12_byteAt) mt_X12_byteAt cmq_X12_byteAt wq_464 wq_466 wq_467 (by decide) (by decide)) vA.nil))
theorem oX12_readsNumber_52 : oP MT mX12_readsNumber 52 (4, 1, 0, 0, []) := o_iadd dX12_readsNumber_52
theorem oX12_readsNumber_53 : oP MT mX12_readsNumber 53 (0, 2, 0, 48, []) := o_bipush dX12_readsNumber_53 (by decide)
theorem oX12_readsNumber_55 : oP MT mX12_readsNumber 55 (4, 1, 1, 0, []) := o_isub dX12_readsNumber_55
theorem oX12_readsNumber_56 : oP MT mX12_readsNumber 56 (9, 3, 63, 0, []) := o_goto dX12_readsNumber_56 (by decide)
theorem oX12_readsNumber_59 : oP MT mX12_readsNumber 59 (1, 1, 0, 1, []) := o_aload_n dX12_readsNumber_59 rfl
theorem oX12_readsNumber_60 : oP MT mX12_readsNumber 60 (12, 3, 11, 12, []) := o_getI (M := mX12_readsNumber) (C := RX12) (T := TX12) (ci := 12) (j := 11) (z := 12) dX12_readsNumber_60 rfl lq_RX12_146 rfl rfl
theorem oX12_readsNumber_63 : oP MT mX12_readsNumber 63 (14, 3, 11, 12, []) := o_putI (M := mX12_readsNumber) (C := RX12) (T := TX12) (ci := 12) (j := 11) (z := 12) dX12_readsNumber_63 rfl lq_RX12_146 rfl rfl rfl rfl
theorem oX12_readsNumber_66 : oP MT mX12_readsNumber 66 (1, 1, 0, 1, []) := o_aload_n dX12_readsNumber_66 rfl
theorem oX12_readsNumber_67 : oP MT mX12_readsNumber 67 (6, 1, 0, 0, []) := o_dup dX12_readsNumber_67
theorem oX12_readsNumber_68 : oP MT mX12_readsNumber 68 (12, 3, 8, 12, []) := o_getI (M := mX12_readsNumber) (C := RX12) (T := TX12) (ci := 12) (j := 8) (z := 12) dX12_readsNumber_68 rfl lq_RX12_130 rfl rfl
theorem oX12_readsNumber_71 : oP MT mX12_readsNumber 71 (0, 1, 0, 1, []) := o_iconst dX12_readsNumber_71 (by decide)
theorem oX12_readsNumber_72 : oP MT mX12_readsNumber 72 (4, 1, 0, 0, []) := o_iadd dX12_readsNumber_72
theorem oX12_readsNumber_73 : oP MT mX12_readsNumber 73 (14, 3, 8, 12, []) := o_putI (M := mX12_readsNumber) (C := RX12) (T := TX12) (ci := 12) (j := 8) (z := 12) dX12_readsNumber_73 rfl lq_RX12_130 rfl rfl rfl rfl
theorem oX12_readsNumber_76 : oP MT mX12_readsNumber 76 (9, 3, 5, 0, []) := o_goto dX12_readsNumber_76 (by decide)
theorem oX12_readsNumber_79 : oP MT mX12_readsNumber 79 (1, 1, 0, 1, []) := o_aload_n dX12_readsNumber_79 rfl
theorem oX12_readsNumber_80 : oP MT mX12_readsNumber 80 (1, 1, 0, 1, []) := o_aload_n dX12_readsNumber_80 rfl
theorem oX12_readsNumber_81 : oP MT mX12_readsNumber 81 (12, 3, 8, 12, []) := o_getI (M := mX12_readsNumber) (C := RX12) (T := TX12) (ci := 12) (j := 8) (z := 12) dX12_readsNumber_81 rfl lq_RX12_130 rfl rfl
theorem oX12_readsNumber_84 : oP MT mX12_readsNumber 84 (1, 1, 0, 1, []) := o_aload_n dX12_readsNumber_84 rfl
theorem oX12_readsNumber_85 : oP MT mX12_readsNumber 85 (12, 3, 9, 12, []) := o_getI (M := mX12_readsNumber) (C := RX12) (T := TX12) (ci := 12) (j := 9) (z := 12) dX12_readsNumber_85 rfl lq_RX12_133 rfl rfl
theorem oX12_readsNumber_88 : oP MT mX12_readsNumber 88 (4, 1, 1, 0, []) := o_isub dX12_readsNumber_88
theorem oX12_readsNumber_89 : oP MT mX12_readsNumber 89 (0, 1, 0, 4, []) := o_iconst dX12_readsNumber_89 (by decide)
theorem oX12_readsNumber_90 : oP MT mX12_readsNumber 90 (11, 3, 5, 98, []) := o_icmp_le dX12_readsNumber_90 (by decide) (by decide)
theorem oX12_readsNumber_93 : oP MT mX12_readsNumber 93 (0, 2, 0, 101, []) := o_bipush dX12_readsNumber_93 (by decide)
theorem oX12_readsNumber_95 : oP MT mX12_readsNumber 95 (9, 3, 100, 0, []) := o_goto dX12_readsNumber_95 (by decide)
theorem oX12_readsNumber_98 : oP MT mX12_readsNumber 98 (0, 2, 0, 100, []) := o_bipush dX12_readsNumber_98 (by decide)
theorem oX12_readsNumber_100 : oP MT mX12_readsNumber 100 (14, 3, 10, 12, []) := o_putI (M := mX12_readsNumber) (C := RX12) (T := TX12) (ci := 12) (j := 10) (z := 12) dX12_readsNumber_100 rfl lq_RX12_139 rfl rfl rfl rfl
theorem oX12_readsNumber_103 : oP MT mX12_readsNumber 103 (23, 1, 0, 0, []) := o_vret dX12_readsNumber_103 rfl
def ops_X12_readsNumber : List (Nat × aO) := [(0, (1, 1, 0, 1, [])), (1, (0, 1, 0, 0, [])), (2, (14, 3, 11, 12, [])), (5, (1, 1, 0, 1, [])), (6, (1, 1, 0, 1, [])), (7, (12, 3, 8, 12, [])), (10, (26, 3, 0, 1, [(12, 126)])), (13, (0, 2, 0, 48, [])), (15, (0, 2, 0, 57, [])), (17, (25, 3, 127, 3, [])), (20, (10, 3, 0, 79, [])), (23, (1, 1, 0, 1, [])), (24, (1, 1, 0, 1, [])), (25, (12, 3, 8, 12, [])), (28, (1, 1, 0, 1, [])), (29, (12, 3, 9, 12, [])), (32, (4, 1, 1, 0, [])), (33, (0, 1, 0, 4, [])), (34, (11, 3, 3, 59, [])), (37, (0, 2, 0, 10, [])), (39, (1, 1, 0, 1, [])), (40, (12, 3, 11, 12, [])), (43, (4, 1, 2, 0, [])), (44, (1, 1, 0, 1, [])), (45, (1, 1, 0, 1, [])), (46, (12, 3, 8, 12, [])), (49, (26, 3, 0, 1, [(12, 126)])), (52, (4, 1, 0, 0, [])), (53, (0, 2, 0, 48, [])), (55, (4, 1, 1, 0, [])), (56, (9, 3, 63, 0, [])), (59, (1, 1, 0, 1, [])), (60, (12, 3, 11, 12, [])), (63, (14, 3, 11, 12, [])), (66, (1, 1, 0, 1, [])), (67, (6, 1, 0, 0, [])), (68, (12, 3, 8, 12, [])), (71, (0, 1, 0, 1, [])), (72, (4, 1, 0, 0, [])), (73, (14, 3, 8, 12, [])), (76, (9, 3, 5, 0, [])), (79, (1, 1, 0, 1, [])), (80, (1, 1, 0, 1, [])), (81, (12, 3, 8, 12, [])), (84, (1, 1, 0, 1, [])), (85, (12, 3, 9, 12, [])), (88, (4, 1, 1, 0, [])), (89, (0, 1, 0, 4, [])), (90, (11, 3, 5, 98, [])), (93, (0, 2, 0, 101, [])), (95, (9, 3, 100, 0, [])), (98, (0, 2, 0, 100, [])), (100, (14, 3, 10, 12, [])), (103, (23, 1, 0, 0, []))]
theorem os_X12_readsNumber : oA MT mX12_readsNumber ops_X12_readsNumber := (oA.cons oX12_readsNumber_0 (oA.cons oX12_readsNumber_1 (oA.cons oX12_readsNumber_2 (oA.cons oX12_readsNumber_5 (oA.cons oX12_readsNumber_6 (oA.cons oX12_readsNumber_7 (oA.cons oX12_readsNumber_10 (oA.cons oX12_readsNumber_13 (oA.cons oX12_readsNumber_15 (oA.cons oX12_readsNumber_17 (oA.cons oX12_readsNumber_20 (oA.cons oX12_readsNumber_23 (oA.cons oX12_readsNumber_24 (oA.cons oX12_readsNumber_25 (oA.cons oX12_readsNumber_28 (oA.cons oX12_readsNumber_29 (oA.cons oX12_readsNumber_32 (oA.cons oX12_readsNumber_33 (oA.cons oX12_readsNumber_34 (oA.cons oX12_readsNumber_37 (oA.cons oX12_readsNumber_39 (oA.cons oX12_readsNumber_40 (oA.cons oX12_readsNumber_43 (oA.cons oX12_readsNumber_44 (oA.cons oX12_readsNumber_45 (oA.cons oX12_readsNumber_46 (oA.cons oX12_readsNumber_49 (oA.cons oX12_readsNumber_52 (oA.cons oX12_readsNumber_53 (oA.cons oX12_readsNumber_55 (oA.cons oX12_readsNumber_56 (oA.cons oX12_readsNumber_59 (oA.cons oX12_readsNumber_60 (oA.cons oX12_readsNumber_63 (oA.cons oX12_readsNumber_66 (oA.cons oX12_readsNumber_67 (oA.cons oX12_readsNumber_68 (oA.cons oX12_readsNumber_71 (oA.cons oX12_readsNumber_72 (oA.cons oX12_readsNumber_73 (oA.cons oX12_readsNumber_76 (oA.cons oX12_readsNumber_79 (oA.cons oX12_readsNumber_80 (oA.cons oX12_readsNumber_81 (oA.cons oX12_readsNumber_84 (oA.cons oX12_readsNumber_85 (oA.cons oX12_readsNumber_88 (oA.cons oX12_readsNumber_89 (oA.cons oX12_readsNumber_90 (oA.cons oX12_readsNumber_93 (oA.cons oX12_readsNumber_95 (oA.cons oX12_readsNumber_98 (oA.cons oX12_readsNumber_100 (oA.cons oX12_readsNumber_103 oA.nil))))))))))))))))))))))))))))))))))))))))))))))))))))))
theorem dX12_next_0 : decode cX12_next 0 = .ok (.aload_n 0, 1) := by decide +kernel
theorem dX12_next_1 : decode cX12_next 1 = .ok (.aload_n 0, 1) := by decide +kernel
theorem dX12_next_2 : decode cX12_next 2 = .ok (.getfield 130, 3) := by decide +kernel
theorem dX12_next_5 : decode cX12_next 5 = .ok (.invokevirtual 136, 3) := by decide +kernel
theorem dX12_next_8 : decode cX12_next 8 = .ok (.bipush 32, 2) := by decide +kernel
theorem dX12_next_10 : decode cX12_next 10 = .ok (.if_icmp .ne 16, 3) := by decide +kernel
theorem dX12_next_13 : decode cX12_next 13 = .ok (.aload_n 0, 1) := by decide +kernel
theorem dX12_next_14 : decode cX12_next 14 = .ok (.dup, 1) := by decide +kernel
theorem dX12_next_15 : decode cX12_next 15 = .ok (.getfield 130, 3) := by decide +kernel
theorem dX12_next_18 : decode cX12_next 18 = .ok (.iconst 1, 1) := by decide +kernel
theorem dX12_next_19 : decode cX12_next 19 = .ok (.iadd, 1) := by decide +kernel
theorem dX12_next_20 : decode cX12_next 20 = .ok (.putfield 130, 3) := by decide +kernel
theorem dX12_next_23 : decode cX12_next 23 = .ok (.goto (-23), 3) := by decide +kernel
theorem dX12_next_26 : decode cX12_next 26 = .ok (.aload_n 0, 1) := by decide +kernel
theorem dX12_next_27 : decode cX12_next 27 = .ok (.aload_n 0, 1) := by decide +kernel
theorem dX12_next_28 : decode cX12_next 28 = .ok (.getfield 130, 3) := by decide +kernel
theorem dX12_next_31 : decode cX12_next 31 = .ok (.putfield 133, 3) := by decide +kernel
theorem dX12_next_34 : decode cX12_next 34 = .ok (.aload_n 0, 1) := by decide +kernel
theorem dX12_next_35 : decode cX12_next 35 = .ok (.aload_n 0, 1) := by decide +kernel
theorem dX12_next_36 : decode cX12_next 36 = .ok (.getfield 130, 3) := by decide +kernel
theorem dX12_next_39 : decode cX12_next 39 = .ok (.invokevirtual 136, 3) := by decide +kernel
theorem dX12_next_42 : decode cX12_next 42 = .ok (.istore_n 1, 1) := by decide +kernel
theorem dX12_next_43 : decode cX12_next 43 = .ok (.iload_n 1, 1) := by decide +kernel
theorem dX12_next_44 : decode cX12_next 44 = .ok (.ifCond .ge 11, 3) := by decide +kernel
theorem dX12_next_47 : decode cX12_next 47 = .ok (.aload_n 0, 1) := by decide +kernel
theorem dX12_next_48 : decode cX12_next 48 = .ok (.iconst (-1), 1) := by decide +kernel
theorem dX12_next_49 : decode cX12_next 49 = .ok (.putfield 139, 3) := by decide +kernel
theorem dX12_next_52 : decode cX12_next 52 = .ok (.goto 58, 3) := by decide +kernel
theorem dX12_next_55 : decode cX12_next 55 = .ok (.iload_n 1, 1) := by decide +kernel
theorem dX12_next_56 : decode cX12_next 56 = .ok (.bipush 97, 2) := by decide +kernel
theorem dX12_next_58 : decode cX12_next 58 = .ok (.bipush 122, 2) := by decide +kernel
theorem dX12_next_60 : decode cX12_next 60 = .ok (.invokestatic 71, 3) := by decide +kernel
theorem dX12_next_63 : decode cX12_next 63 = .ok (.ifCond .eq 10, 3) := by decide +kernel
theorem dX12_next_66 : decode cX12_next 66 = .ok (.aload_n 0, 1) := by decide +kernel
theorem dX12_next_67 : decode cX12_next 67 = .ok (.invokevirtual 149, 3) := by decide +kernel
theorem dX12_next_70 : decode cX12_next 70 = .ok (.goto 40, 3) := by decide +kernel
theorem dX12_next_73 : decode cX12_next 73 = .ok (.iload_n 1, 1) := by decide +kernel
theorem dX12_next_74 : decode cX12_next 74 = .ok (.bipush 48, 2) := by decide +kernel
theorem dX12_next_76 : decode cX12_next 76 = .ok (.bipush 57, 2) := by decide +kernel
theorem dX12_next_78 : decode cX12_next 78 = .ok (.invokestatic 71, 3) := by decide +kernel
theorem dX12_next_81 : decode cX12_next 81 = .ok (.ifCond .eq 10, 3) := by decide +kernel
theorem dX12_next_84 : decode cX12_next 84 = .ok (.aload_n 0, 1) := by decide +kernel
theorem dX12_next_85 : decode cX12_next 85 = .ok (.invokevirtual 152, 3) := by decide +kernel
theorem dX12_next_88 : decode cX12_next 88 = .ok (.goto 22, 3) := by decide +kernel
theorem dX12_next_91 : decode cX12_next 91 = .ok (.aload_n 0, 1) := by decide +kernel
theorem dX12_next_92 : decode cX12_next 92 = .ok (.sipush 200, 3) := by decide +kernel
theorem dX12_next_95 : decode cX12_next 95 = .ok (.iload_n 1, 1) := by decide +kernel
theorem dX12_next_96 : decode cX12_next 96 = .ok (.iadd, 1) := by decide +kernel
theorem dX12_next_97 : decode cX12_next 97 = .ok (.putfield 139, 3) := by decide +kernel
theorem dX12_next_100 : decode cX12_next 100 = .ok (.aload_n 0, 1) := by decide +kernel
theorem dX12_next_101 : decode cX12_next 101 = .ok (.dup, 1) := by decide +kernel
theorem dX12_next_102 : decode cX12_next 102 = .ok (.getfield 130, 3) := by decide +kernel
theorem dX12_next_105 : decode cX12_next 105 = .ok (.iconst 1, 1) := by decide +kernel
theorem dX12_next_106 : decode cX12_next 106 = .ok (.iadd, 1) := by decide +kernel
theorem dX12_next_107 : decode cX12_next 107 = .ok (.putfield 130, 3) := by decide +kernel
theorem dX12_next_110 : decode cX12_next 110 = .ok (.return_, 1) := by decide +kernel
theorem oX12_next_0 : oP MT mX12_next 0 (1, 1, 0, 1, []) := o_aload_n dX12_next_0 rfl
theorem oX12_next_1 : oP MT mX12_next 1 (1, 1, 0, 1, []) := o_aload_n dX12_next_1 rfl
theorem oX12_next_2 : oP MT mX12_next 2 (12, 3, 8, 12, []) := o_getI (M := mX12_next) (C := RX12) (T := TX12) (ci := 12) (j := 8) (z := 12) dX12_next_2 rfl lq_RX12_130 rfl rfl
theorem oX12_next_5 : oP MT mX12_next 5 (26, 3, 0, 1, [(12, 126)]) := o_callO ((vA.cons (v_callV dX12_next_5 (ci := 12) rfl rfl (mj := mX12_byteAt) mt_X12_byteAt cmq_X12_byteAt wq_464 wq_466 wq_467 (by decide) (by decide)) vA.nil))
theorem oX12_next_8 : oP MT mX12_next 8 (0, 2, 0, 32, []) := o_bipush dX12_next_8 (by decide)
theorem oX12_next_10 : oP MT mX12_next 10 (11, 3, 1, 26, []) := o_icmp_ne dX12_next_10 (by decide) (by decide)
theorem oX12_next_13 : oP MT mX12_next 13 (1, 1, 0, 1, []) := o_aload_n dX12_next_13 rfl
theorem oX12_next_14 : oP MT mX12_next 14 (6, 1, 0, 0, []) := o_dup dX12_next_14
theorem oX12_next_15 : oP MT mX12_next 15 (12, 3, 8, 12, []) := o_getI (M := mX12_next) (C := RX12) (T := TX12) (ci := 12) (j := 8) (z := 12) dX12_next_15 rfl lq_RX12_130 rfl rfl
theorem oX12_next_18 : oP MT mX12_next 18 (0, 1, 0, 1, []) := o_iconst dX12_next_18 (by decide)
theorem oX12_next_19 : oP MT mX12_next 19 (4, 1, 0, 0, []) := o_iadd dX12_next_19
theorem oX12_next_20 : oP MT mX12_next 20 (14, 3, 8, 12, []) := o_putI (M := mX12_next) (C := RX12) (T := TX12) (ci := 12) (j := 8) (z := 12) dX12_next_20 rfl lq_RX12_130 rfl rfl rfl rfl
theorem oX12_next_23 : oP MT mX12_next 23 (9, 3, 0, 0, []) := o_goto dX12_next_23 (by decide)
theorem oX12_next_26 : oP MT mX12_next 26 (1, 1, 0, 1, []) := o_aload_n dX12_next_26 rfl
theorem oX12_next_27 : oP MT mX12_next 27 (1, 1, 0, 1, []) := o_aload_n dX12_next_27 rfl
theorem oX12_next_28 : oP MT mX12_next 28 (12, 3, 8, 12, []) := o_getI (M := mX12_next) (C := RX12) (T := TX12) (ci := 12) (j := 8) (z := 12) dX12_next_28 rfl lq_RX12_130 rfl rfl
theorem oX12_next_31 : oP MT mX12_next 31 (14, 3, 9, 12, []) := o_putI (M := mX12_next) (C := RX12) (T := TX12) (ci := 12) (j := 9) (z := 12) dX12_next_31 rfl lq_RX12_133 rfl rfl rfl rfl
theorem oX12_next_34 : oP MT mX12_next 34 (1, 1, 0, 1, []) := o_aload_n dX12_next_34 rfl
theorem oX12_next_35 : oP MT mX12_next 35 (1, 1, 0, 1, []) := o_aload_n dX12_next_35 rfl
theorem oX12_next_36 : oP MT mX12_next 36 (12, 3, 8, 12, []) := o_getI (M := mX12_next) (C := RX12) (T := TX12) (ci := 12) (j := 8) (z := 12) dX12_next_36 rfl lq_RX12_130 rfl rfl
theorem oX12_next_39 : oP MT mX12_next 39 (26, 3, 0, 1, [(12, 126)]) := o_callO ((vA.cons (v_callV dX12_next_39 (ci := 12) rfl rfl (mj := mX12_byteAt) mt_X12_byteAt cmq_X12_byteAt wq_464 wq_466 wq_467 (by decide) (by decide)) vA.nil))
theorem oX12_next_42 : oP MT mX12_next 42 (2, 1, 1, 0, []) := o_istore_n dX12_next_42 rfl (by decide)
theorem oX12_next_43 : oP MT mX12_next 43 (1, 1, 1, 0, []) := o_iload_n dX12_next_43 rfl
theorem oX12_next_44 : oP MT mX12_next 44 (10, 3, 3, 55, []) := o_if_ge dX12_next_44 (by decide) (by decide)
theorem oX12_next_47 : oP MT mX12_next 47 (1, 1, 0, 1, []) := o_aload_n dX12_next_47 rfl
theorem oX12_next_48 : oP MT mX12_next 48 (0, 1, 0, (-1), []) := o_iconst dX12_next_48 (by decide)
theorem oX12_next_49 : oP MT mX12_next 49 (14, 3, 10, 12, []) := o_putI (M := mX12_next) (C := RX12) (T := TX12) (ci := 12) (j := 10) (z := 12) dX12_next_49 rfl lq_RX12_139 rfl rfl rfl rfl
theorem oX12_next_52 : oP MT mX12_next 52 (9, 3, 110, 0, []) := o_goto dX12_next_52 (by decide)
theorem oX12_next_55 : oP MT mX12_next 55 (1, 1, 1, 0, []) := o_iload_n dX12_next_55 rfl
theorem oX12_next_56 : oP MT mX12_next 56 (0, 2, 0, 97, []) := o_bipush dX12_next_56 (by decide)
theorem oX12_next_58 : oP MT mX12_next 58 (0, 2, 0, 122, []) := o_bipush dX12_next_58 (by decide)
theorem oX12_next_60 : oP MT mX12_next 60 (25, 3, 127, 3, []) := o_callS dX12_next_60 (mj := mX12_in1) mt_X12_in1 cmq_X12_in1 wq_468 wq_470 (by decide) (by decide)
theorem oX12_next_63 : oP MT mX12_next 63 (10, 3, 0, 73, []) := o_if_eq dX12_next_63 (by decide) (by decide)
theorem oX12_next_66 : oP MT mX12_next 66 (1, 1, 0, 1, []) := o_aload_n dX12_next_66 rfl
theorem oX12_next_67 : oP MT mX12_next 67 (26, 3, 0, 0, [(12, 128)]) := o_callO ((vA.cons (v_callV dX12_next_67 (ci := 12) rfl rfl (mj := mX12_readsName) mt_X12_readsName cmq_X12_readsName wq_475 wq_477 wq_478 (by decide) (by decide)) vA.nil))
theorem oX12_next_70 : oP MT mX12_next 70 (9, 3, 110, 0, []) := o_goto dX12_next_70 (by decide)
theorem oX12_next_73 : oP MT mX12_next 73 (1, 1, 1, 0, []) := o_iload_n dX12_next_73 rfl
theorem oX12_next_74 : oP MT mX12_next 74 (0, 2, 0, 48, []) := o_bipush dX12_next_74 (by decide)
theorem oX12_next_76 : oP MT mX12_next 76 (0, 2, 0, 57, []) := o_bipush dX12_next_76 (by decide)
theorem oX12_next_78 : oP MT mX12_next 78 (25, 3, 127, 3, []) := o_callS dX12_next_78 (mj := mX12_in1) mt_X12_in1 cmq_X12_in1 wq_468 wq_470 (by decide) (by decide)
theorem oX12_next_81 : oP MT mX12_next 81 (10, 3, 0, 91, []) := o_if_eq dX12_next_81 (by decide) (by decide)
theorem oX12_next_84 : oP MT mX12_next 84 (1, 1, 0, 1, []) := o_aload_n dX12_next_84 rfl
theorem oX12_next_85 : oP MT mX12_next 85 (26, 3, 0, 0, [(12, 130)]) := o_callO ((vA.cons (v_callV dX12_next_85 (ci := 12) rfl rfl (mj := mX12_readsNumber) mt_X12_readsNumber cmq_X12_readsNumber wq_479 wq_481 wq_482 (by decide) (by decide)) vA.nil))
theorem oX12_next_88 : oP MT mX12_next 88 (9, 3, 110, 0, []) := o_goto dX12_next_88 (by decide)
theorem oX12_next_91 : oP MT mX12_next 91 (1, 1, 0, 1, []) := o_aload_n dX12_next_91 rfl
theorem oX12_next_92 : oP MT mX12_next 92 (0, 3, 0, 200, []) := o_sipush dX12_next_92 (by decide)
theorem oX12_next_95 : oP MT mX12_next 95 (1, 1, 1, 0, []) := o_iload_n dX12_next_95 rfl
theorem oX12_next_96 : oP MT mX12_next 96 (4, 1, 0, 0, []) := o_iadd dX12_next_96
theorem oX12_next_97 : oP MT mX12_next 97 (14, 3, 10, 12, []) := o_putI (M := mX12_next) (C := RX12) (T := TX12) (ci := 12) (j := 10) (z := 12) dX12_next_97 rfl lq_RX12_139 rfl rfl rfl rfl
theorem oX12_next_100 : oP MT mX12_next 100 (1, 1, 0, 1, []) := o_aload_n dX12_next_100 rfl
theorem oX12_next_101 : oP MT mX12_next 101 (6, 1, 0, 0, []) := o_dup dX12_next_101
theorem oX12_next_102 : oP MT mX12_next 102 (12, 3, 8, 12, []) := o_getI (M := mX12_next) (C := RX12) (T := TX12) (ci := 12) (j := 8) (z := 12) dX12_next_102 rfl lq_RX12_130 rfl rfl
theorem oX12_next_105 : oP MT mX12_next 105 (0, 1, 0, 1, []) := o_iconst dX12_next_105 (by decide)
theorem oX12_next_106 : oP MT mX12_next 106 (4, 1, 0, 0, []) := o_iadd dX12_next_106
theorem oX12_next_107 : oP MT mX12_next 107 (14, 3, 8, 12, []) := o_putI (M := mX12_next) (C := RX12) (T := TX12) (ci := 12) (j := 8) (z := 12) dX12_next_107 rfl lq_RX12_130 rfl rfl rfl rfl
theorem oX12_next_110 : oP MT mX12_next 110 (23, 1, 0, 0, []) := o_vret dX12_next_110 rfl
def ops_X12_next : List (Nat × aO) := [(0, (1, 1, 0, 1, [])), (1, (1, 1, 0, 1, [])), (2, (12, 3, 8, 12, [])), (5, (26, 3, 0, 1, [(12, 126)])), (8, (0, 2, 0, 32, [])), (10, (11, 3, 1, 26, [])), (13, (1, 1, 0, 1, [])), (14, (6, 1, 0, 0, [])), (15, (12, 3, 8, 12, [])), (18, (0, 1, 0, 1, [])), (19, (4, 1, 0, 0, [])), (20, (14, 3, 8, 12, [])), (23, (9, 3, 0, 0, [])), (26, (1, 1, 0, 1, [])), (27, (1, 1, 0, 1, [])), (28, (12, 3, 8, 12, [])), (31, (14, 3, 9, 12, [])), (34, (1, 1, 0, 1, [])), (35, (1, 1, 0, 1, [])), (36, (12, 3, 8, 12, [])), (39, (26, 3, 0, 1, [(12, 126)])), (42, (2, 1, 1, 0, [])), (43, (1, 1, 1, 0, [])), (44, (10, 3, 3, 55, [])), (47, (1, 1, 0, 1, [])), (48, (0, 1, 0, (-1), [])), (49, (14, 3, 10, 12, [])), (52, (9, 3, 110, 0, [])), (55, (1, 1, 1, 0, [])), (56, (0, 2, 0, 97, [])), (58, (0, 2, 0, 122, [])), (60, (25, 3, 127, 3, [])), (63, (10, 3, 0, 73, [])), (66, (1, 1, 0, 1, [])), (67, (26, 3, 0, 0, [(12, 128)])), (70, (9, 3, 110, 0, [])), (73, (1, 1, 1, 0, [])), (74, (0, 2, 0, 48, [])), (76, (0, 2, 0, 57, [])), (78, (25, 3, 127, 3, [])), (81, (10, 3, 0, 91, [])), (84, (1, 1, 0, 1, [])), (85, (26, 3, 0, 0, [(12, 130)])), (88, (9, 3, 110, 0, [])), (91, (1, 1, 0, 1, [])), (92, (0, 3, 0, 200, [])), (95, (1, 1, 1, 0, [])), (96, (4, 1, 0, 0, [])), (97, (14, 3, 10, 12, [])), (100, (1, 1, 0, 1, [])), (101, (6, 1, 0, 0, [])), (102, (12, 3, 8, 12, [])), (105, (0, 1, 0, 1, [])), (106, (4, 1, 0, 0, [])), (107, (14, 3, 8, 12, [])), (110, (23, 1, 0, 0, []))]
theorem os_X12_next : oA MT mX12_next ops_X12_next := (oA.cons oX12_next_0 (oA.cons oX12_next_1 (oA.cons oX12_next_2 (oA.cons oX12_next_5 (oA.cons oX12_next_8 (oA.cons oX12_next_10 (oA.cons oX12_next_13 (oA.cons oX12_next_14 (oA.cons oX12_next_15 (oA.cons oX12_next_18 (oA.cons oX12_next_19 (oA.cons oX12_next_20 (oA.cons oX12_next_23 (oA.cons oX12_next_26 (oA.cons oX12_next_27 (oA.cons oX12_next_28 (oA.cons oX12_next_31 (oA.cons oX12_next_34 (oA.cons oX12_next_35 (oA.cons oX12_next_36 (oA.cons oX12_next_39 (oA.cons oX12_next_42 (oA.cons oX12_next_43 (oA.cons oX12_next_44 (oA.cons oX12_next_47 (oA.cons oX12_next_48 (oA.cons oX12_next_49 (oA.cons oX12_next_52 (oA.cons oX12_next_55 (oA.cons oX12_next_56 (oA.cons oX12_next_58 (oA.cons oX12_next_60 (oA.cons oX12_next_63 (oA.cons oX12_next_66 (oA.cons oX12_next_67 (oA.cons oX12_next_70 (oA.cons oX12_next_73 (oA.cons oX12_next_74 (oA.cons oX12_next_76 (oA.cons oX12_next_78 (oA.cons oX12_next_81 (oA.cons oX12_next_84 (oA.cons oX12_next_85 (oA.cons oX12_next_88 (oA.cons oX12_next_91 (oA.cons oX12_next_92 (oA.cons oX12_next_95 (oA.cons oX12_next_96 (oA.cons oX12_next_97 (oA.cons oX12_next_100 (oA.cons oX12_next_101 (oA.cons oX12_next_102 (oA.cons oX12_next_105 (oA.cons oX12_next_106 (oA.cons oX12_next_107 (oA.cons oX12_next_110 oA.nil))))))))))))))))))))))))))))))))))))))))))))))))))))))))
theorem dX12_lays_0 : decode cX12_lays 0 = .ok (.aload_n 0, 1) := by decide +kernel
theorem dX12_lays_1 : decode cX12_lays 1 = .ok (.getfield 29, 3) := by decide +kernel
theorem dX12_lays_4 : decode cX12_lays 4 = .ok (.aload_n 0, 1) := by decide +kernel
theorem dX12_lays_5 : decode cX12_lays 5 = .ok (.getfield 158, 3) := by decide +kernel
theorem dX12_lays_8 : decode cX12_lays 8 = .ok (.iload_n 1, 1) := by decide +kernel
theorem dX12_lays_9 : decode cX12_lays 9 = .ok (.iastore, 1) := by decide +kernel
theorem dX12_lays_10 : decode cX12_lays 10 = .ok (.aload_n 0, 1) := by decide +kernel
theorem dX12_lays_11 : decode cX12_lays 11 = .ok (.dup, 1) := by decide +kernel
theorem dX12_lays_12 : decode cX12_lays 12 = .ok (.getfield 158, 3) := by decide +kernel
theorem dX12_lays_15 : decode cX12_lays 15 = .ok (.iconst 1, 1) := by decide +kernel
theorem dX12_lays_16 : decode cX12_lays 16 = .ok (.iadd, 1) := by decide +kernel
theorem dX12_lays_17 : decode cX12_lays 17 = .ok (.putfield 158, 3) := by decide +kernel
theorem dX12_lays_20 : decode cX12_lays 20 = .ok (.return_, 1) := by decide +kernel
theorem oX12_lays_0 : oP MT mX12_lays 0 (1, 1, 0, 1, []) := o_aload_n dX12_lays_0 rfl
theorem oX12_lays_1 : oP MT mX12_lays 1 (13, 3, 14, 12, []) := o_getR (M := mX12_lays) (C := RX12) (T := TX12) (ci := 12) (j := 14) (z := 12) dX12_lays_1 rfl lq_RX12_29 rfl rfl
theorem oX12_lays_4 : oP MT mX12_lays 4 (1, 1, 0, 1, []) := o_aload_n dX12_lays_4 rfl
theorem oX12_lays_5 : oP MT mX12_lays 5 (12, 3, 13, 12, []) := o_getI (M := mX12_lays) (C := RX12) (T := TX12) (ci := 12) (j := 13) (z := 12) dX12_lays_5 rfl lq_RX12_158 rfl rfl
theorem oX12_lays_8 : oP MT mX12_lays 8 (1, 1, 1, 0, []) := o_iload_n dX12_lays_8 rfl
theorem oX12_lays_9 : oP MT mX12_lays 9 (18, 1, 0, 0, []) := o_iastore dX12_lays_9
theorem oX12_lays_10 : oP MT mX12_lays 10 (1, 1, 0, 1, []) := o_aload_n dX12_lays_10 rfl
theorem oX12_lays_11 : oP MT mX12_lays 11 (6, 1, 0, 0, []) := o_dup dX12_lays_11
theorem oX12_lays_12 : oP MT mX12_lays 12 (12, 3, 13, 12, []) := o_getI (M := mX12_lays) (C := RX12) (T := TX12) (ci := 12) (j := 13) (z := 12) dX12_lays_12 rfl lq_RX12_158 rfl rfl
theorem oX12_lays_15 : oP MT mX12_lays 15 (0, 1, 0, 1, []) := o_iconst dX12_lays_15 (by decide)
theorem oX12_lays_16 : oP MT mX12_lays 16 (4, 1, 0, 0, []) := o_iadd dX12_lays_16
theorem oX12_lays_17 : oP MT mX12_lays 17 (14, 3, 13, 12, []) := o_putI (M := mX12_lays) (C := RX12) (T := TX12) (ci := 12) (j := 13) (z := 12) dX12_lays_17 rfl lq_RX12_158 rfl rfl rfl rfl
theorem oX12_lays_20 : oP MT mX12_lays 20 (23, 1, 0, 0, []) := o_vret dX12_lays_20 rfl
def ops_X12_lays : List (Nat × aO) := [(0, (1, 1, 0, 1, [])), (1, (13, 3, 14, 12, [])), (4, (1, 1, 0, 1, [])), (5, (12, 3, 13, 12, [])), (8, (1, 1, 1, 0, [])), (9, (18, 1, 0, 0, [])), (10, (1, 1, 0, 1, [])), (11, (6, 1, 0, 0, [])), (12, (12, 3, 13, 12, [])), (15, (0, 1, 0, 1, [])), (16, (4, 1, 0, 0, [])), (17, (14, 3, 13, 12, [])), (20, (23, 1, 0, 0, []))]
theorem os_X12_lays : oA MT mX12_lays ops_X12_lays := (oA.cons oX12_lays_0 (oA.cons oX12_lays_1 (oA.cons oX12_lays_4 (oA.cons oX12_lays_5 (oA.cons oX12_lays_8 (oA.cons oX12_lays_9 (oA.cons oX12_lays_10 (oA.cons oX12_lays_11 (oA.cons oX12_lays_12 (oA.cons oX12_lays_15 (oA.cons oX12_lays_16 (oA.cons oX12_lays_17 (oA.cons oX12_lays_20 oA.nil)))))))))))))
theorem dX12_readsValue_0 : decode cX12_readsValue 0 = .ok (.aload_n 0, 1) := by decide +kernel
theorem dX12_readsValue_1 : decode cX12_readsValue 1 = .ok (.getfield 139, 3) := by decide +kernel
theorem dX12_readsValue_4 : decode cX12_readsValue 4 = .ok (.bipush 100, 2) := by decide +kernel
theorem dX12_readsValue_6 : decode cX12_readsValue 6 = .ok (.if_icmp .eq 17, 3) := by decide +kernel
theorem dX12_readsValue_9 : decode cX12_readsValue 9 = .ok (.aload_n 0, 1) := by decide +kernel
theorem dX12_readsValue_10 : decode cX12_readsValue 10 = .ok (.getfield 139, 3) := by decide +kernel
theorem dX12_readsValue_13 : decode cX12_readsValue 13 = .ok (.bipush 13, 2) := by decide +kernel
theorem dX12_readsValue_15 : decode cX12_readsValue 15 = .ok (.bipush 17, 2) := by decide +kernel
theorem dX12_readsValue_17 : decode cX12_readsValue 17 = .ok (.invokestatic 71, 3) := by decide +kernel
theorem dX12_readsValue_20 : decode cX12_readsValue 20 = .ok (.ifCond .eq 7, 3) := by decide +kernel
theorem dX12_readsValue_23 : decode cX12_readsValue 23 = .ok (.iconst 1, 1) := by decide +kernel
theorem dX12_readsValue_24 : decode cX12_readsValue 24 = .ok (.goto 4, 3) := by decide +kernel
theorem dX12_readsValue_27 : decode cX12_readsValue 27 = .ok (.iconst 0, 1) := by decide +kernel
theorem dX12_readsValue_28 : decode cX12_readsValue 28 = .ok (.istore_n 1, 1) := by decide +kernel
theorem dX12_readsValue_29 : decode cX12_readsValue 29 = .ok (.iload_n 1, 1) := by decide +kernel
theorem dX12_readsValue_30 : decode cX12_readsValue 30 = .ok (.ifCond .eq 38, 3) := by decide +kernel
theorem dX12_readsValue_33 : decode cX12_readsValue 33 = .ok (.aload_n 0, 1) := by decide +kernel
theorem dX12_readsValue_34 : decode cX12_readsValue 34 = .ok (.aload_n 0, 1) := by decide +kernel
theorem dX12_readsValue_35 : decode cX12_readsValue 35 = .ok (.getfield 139, 3) := by decide +kernel
theorem dX12_readsValue_38 : decode cX12_readsValue 38 = .ok (.bipush 100, 2) := by decide +kernel
theorem dX12_readsValue_40 : decode cX12_readsValue 40 = .ok (.if_icmp .ne 10, 3) := by decide +kernel
theorem dX12_readsValue_43 : decode cX12_readsValue 43 = .ok (.aload_n 0, 1) := by decide +kernel
theorem dX12_readsValue_44 : decode cX12_readsValue 44 = .ok (.getfield 146, 3) := by decide +kernel
theorem dX12_readsValue_47 : decode cX12_readsValue 47 = .ok (.goto 14, 3) := by decide +kernel
theorem dX12_readsValue_50 : decode cX12_readsValue 50 = .ok (.sipush 10000, 3) := by decide +kernel
theorem dX12_readsValue_53 : decode cX12_readsValue 53 = .ok (.aload_n 0, 1) := by decide +kernel
theorem dX12_readsValue_54 : decode cX12_readsValue 54 = .ok (.getfield 139, 3) := by decide +kernel
theorem dX12_readsValue_57 : decode cX12_readsValue 57 = .ok (.iadd, 1) := by decide +kernel
theorem dX12_readsValue_58 : decode cX12_readsValue 58 = .ok (.bipush 13, 2) := by decide +kernel
theorem dX12_readsValue_60 : decode cX12_readsValue 60 = .ok (.isub, 1) := by decide +kernel
theorem dX12_readsValue_61 : decode cX12_readsValue 61 = .ok (.invokevirtual 161, 3) := by decide +kernel
theorem dX12_readsValue_64 : decode cX12_readsValue 64 = .ok (.aload_n 0, 1) := by decide +kernel
theorem dX12_readsValue_65 : decode cX12_readsValue 65 = .ok (.invokevirtual 155, 3) := by decide +kernel
theorem dX12_readsValue_68 : decode cX12_readsValue 68 = .ok (.iload_n 1, 1) := by decide +kernel
theorem dX12_readsValue_69 : decode cX12_readsValue 69 = .ok (.ireturn, 1) := by decide +kernel
theorem oX12_readsValue_0 : oP MT mX12_readsValue 0 (1, 1, 0, 1, []) := o_aload_n dX12_readsValue_0 rfl
theorem oX12_readsValue_1 : oP MT mX12_readsValue 1 (12, 3, 10, 12, []) := o_getI (M := mX12_readsValue) (C := RX12) (T := TX12) (ci := 12) (j := 10) (z := 12) dX12_readsValue_1 rfl lq_RX12_139 rfl rfl
theorem oX12_readsValue_4 : oP MT mX12_readsValue 4 (0, 2, 0, 100, []) := o_bipush dX12_readsValue_4 (by decide)
theorem oX12_readsValue_6 : oP MT mX12_readsValue 6 (11, 3, 0, 23, []) := o_icmp_eq dX12_readsValue_6 (by decide) (by decide)
theorem oX12_readsValue_9 : oP MT mX12_readsValue 9 (1, 1, 0, 1, []) := o_aload_n dX12_readsValue_9 rfl
theorem oX12_readsValue_10 : oP MT mX12_readsValue 10 (12, 3, 10, 12, []) := o_getI (M := mX12_readsValue) (C := RX12) (T := TX12) (ci := 12) (j := 10) (z := 12) dX12_readsValue_10 rfl lq_RX12_139 rfl rfl
theorem oX12_readsValue_13 : oP MT mX12_readsValue 13 (0, 2, 0, 13, []) := o_bipush dX12_readsValue_13 (by decide)
theorem oX12_readsValue_15 : oP MT mX12_readsValue 15 (0, 2, 0, 17, []) := o_bipush dX12_readsValue_15 (by decide)
theorem oX12_readsValue_17 : oP MT mX12_readsValue 17 (25, 3, 127, 3, []) := o_callS dX12_readsValue_17 (mj := mX12_in1) mt_X12_in1 cmq_X12_in1 wq_468 wq_470 (by decide) (by decide)
theorem oX12_readsValue_20 : oP MT mX12_readsValue 20 (10, 3, 0, 27, []) := o_if_eq dX12_readsValue_20 (by decide) (by decide)
theorem oX12_readsValue_23 : oP MT mX12_readsValue 23 (0, 1, 0, 1, []) := o_iconst dX12_readsValue_23 (by decide)
theorem oX12_readsValue_24 : oP MT mX12_readsValue 24 (9, 3, 28, 0, []) := o_goto dX12_readsValue_24 (by decide)
theorem oX12_readsValue_27 : oP MT mX12_readsValue 27 (0, 1, 0, 0, []) := o_iconst dX12_readsValue_27 (by decide)
theorem oX12_readsValue_28 : oP MT mX12_readsValue 28 (2, 1, 1, 0, []) := o_istore_n dX12_readsValue_28 rfl (by decide)
theorem oX12_readsValue_29 : oP MT mX12_readsValue 29 (1, 1, 1, 0, []) := o_iload_n dX12_readsValue_29 rfl
theorem oX12_readsValue_30 : oP MT mX12_readsValue 30 (10, 3, 0, 68, []) := o_if_eq dX12_readsValue_30 (by decide) (by decide)
theorem oX12_readsValue_33 : oP MT mX12_readsValue 33 (1, 1, 0, 1, []) := o_aload_n dX12_readsValue_33 rfl
theorem oX12_readsValue_34 : oP MT mX12_readsValue 34 (1, 1, 0, 1, []) := o_aload_n dX12_readsValue_34 rfl
theorem oX12_readsValue_35 : oP MT mX12_readsValue 35 (12, 3, 10, 12, []) := o_getI (M := mX12_readsValue) (C := RX12) (T := TX12) (ci := 12) (j := 10) (z := 12) dX12_readsValue_35 rfl lq_RX12_139 rfl rfl
theorem oX12_readsValue_38 : oP MT mX12_readsValue 38 (0, 2, 0, 100, []) := o_bipush dX12_readsValue_38 (by decide)
theorem oX12_readsValue_40 : oP MT mX12_readsValue 40 (11, 3, 1, 50, []) := o_icmp_ne dX12_readsValue_40 (by decide) (by decide)
theorem oX12_readsValue_43 : oP MT mX12_readsValue 43 (1, 1, 0, 1, []) := o_aload_n dX12_readsValue_43 rfl
theorem oX12_readsValue_44 : oP MT mX12_readsValue 44 (12, 3, 11, 12, []) := o_getI (M := mX12_readsValue) (C := RX12) (T := TX12) (ci := 12) (j := 11) (z := 12) dX12_readsValue_44 rfl lq_RX12_146 rfl rfl
theorem oX12_readsValue_47 : oP MT mX12_readsValue 47 (9, 3, 61, 0, []) := o_goto dX12_readsValue_47 (by decide)
theorem oX12_readsValue_50 : oP MT mX12_readsValue 50 (0, 3, 0, 10000, []) := o_sipush dX12_readsValue_50 (by decide)
theorem oX12_readsValue_53 : oP MT mX12_readsValue 53 (1, 1, 0, 1, []) := o_aload_n dX12_readsValue_53 rfl
theorem oX12_readsValue_54 : oP MT mX12_readsValue 54 (12, 3, 10, 12, []) := o_getI (M := mX12_readsValue) (C := RX12) (T := TX12) (ci := 12) (j := 10) (z := 12) dX12_readsValue_54 rfl lq_RX12_139 rfl rfl
theorem oX12_readsValue_57 : oP MT mX12_readsValue 57 (4, 1, 0, 0, []) := o_iadd dX12_readsValue_57
theorem oX12_readsValue_58 : oP MT mX12_readsValue 58 (0, 2, 0, 13, []) := o_bipush dX12_readsValue_58 (by decide)
theorem oX12_readsValue_60 : oP MT mX12_readsValue 60 (4, 1, 1, 0, []) := o_isub dX12_readsValue_60
theorem oX12_readsValue_61 : oP MT mX12_readsValue 61 (26, 3, 0, 1, [(12, 132)]) := o_callO ((vA.cons (v_callV dX12_readsValue_61 (ci := 12) rfl rfl (mj := mX12_lays) mt_X12_lays cmq_X12_lays wq_483 wq_485 wq_486 (by decide) (by decide)) vA.nil))
theorem oX12_readsValue_64 : oP MT mX12_readsValue 64 (1, 1, 0, 1, []) := o_aload_n dX12_readsValue_64 rfl
theorem oX12_readsValue_65 : oP MT mX12_readsValue 65 (26, 3, 0, 0, [(12, 131)]) := o_callO ((vA.cons (v_callV dX12_readsValue_65 (ci := 12) rfl rfl (mj := mX12_next) mt_X12_next cmq_X12_next wq_487 wq_489 wq_490 (by decide) (by decide)) vA.nil))
theorem oX12_readsValue_68 : oP MT mX12_readsValue 68 (1, 1, 1, 0, []) := o_iload_n dX12_readsValue_68 rfl
theorem oX12_readsValue_69 : oP MT mX12_readsValue 69 (22, 1, 0, 0, []) := o_zret dX12_readsValue_69 rfl
def ops_X12_readsValue : List (Nat × aO) := [(0, (1, 1, 0, 1, [])), (1, (12, 3, 10, 12, [])), (4, (0, 2, 0, 100, [])), (6, (11, 3, 0, 23, [])), (9, (1, 1, 0, 1, [])), (10, (12, 3, 10, 12, [])), (13, (0, 2, 0, 13, [])), (15, (0, 2, 0, 17, [])), (17, (25, 3, 127, 3, [])), (20, (10, 3, 0, 27, [])), (23, (0, 1, 0, 1, [])), (24, (9, 3, 28, 0, [])), (27, (0, 1, 0, 0, [])), (28, (2, 1, 1, 0, [])), (29, (1, 1, 1, 0, [])), (30, (10, 3, 0, 68, [])), (33, (1, 1, 0, 1, [])), (34, (1, 1, 0, 1, [])), (35, (12, 3, 10, 12, [])), (38, (0, 2, 0, 100, [])), (40, (11, 3, 1, 50, [])), (43, (1, 1, 0, 1, [])), (44, (12, 3, 11, 12, [])), (47, (9, 3, 61, 0, [])), (50, (0, 3, 0, 10000, [])), (53, (1, 1, 0, 1, [])), (54, (12, 3, 10, 12, [])), (57, (4, 1, 0, 0, [])), (58, (0, 2, 0, 13, [])), (60, (4, 1, 1, 0, [])), (61, (26, 3, 0, 1, [(12, 132)])), (64, (1, 1, 0, 1, [])), (65, (26, 3, 0, 0, [(12, 131)])), (68, (1, 1, 1, 0, [])), (69, (22, 1, 0, 0, []))]
theorem os_X12_readsValue : oA MT mX12_readsValue ops_X12_readsValue := (oA.cons oX12_readsValue_0 (oA.cons oX12_readsValue_1 (oA.cons oX12_readsValue_4 (oA.cons oX12_readsValue_6 (oA.cons oX12_readsValue_9 (oA.cons oX12_readsValue_10 (oA.cons oX12_readsValue_13 (oA.cons oX12_readsValue_15 (oA.cons oX12_readsValue_17 (oA.cons oX12_readsValue_20 (oA.cons oX12_readsValue_23 (oA.cons oX12_readsValue_24 (oA.cons oX12_readsValue_27 (oA.cons oX12_readsValue_28 (oA.cons oX12_readsValue_29 (oA.cons oX12_readsValue_30 (oA.cons oX12_readsValue_33 (oA.cons oX12_readsValue_34 (oA.cons oX12_readsValue_35 (oA.cons oX12_readsValue_38 (oA.cons oX12_readsValue_40 (oA.cons oX12_readsValue_43 (oA.cons oX12_readsValue_44 (oA.cons oX12_readsValue_47 (oA.cons oX12_readsValue_50 (oA.cons oX12_readsValue_53 (oA.cons oX12_readsValue_54 (oA.cons oX12_readsValue_57 (oA.cons oX12_readsValue_58 (oA.cons oX12_readsValue_60 (oA.cons oX12_readsValue_61 (oA.cons oX12_readsValue_64 (oA.cons oX12_readsValue_65 (oA.cons oX12_readsValue_68 (oA.cons oX12_readsValue_69 oA.nil)))))))))))))))))))))))))))))))))))
theorem dX12_takes_0 : decode cX12_takes 0 = .ok (.aload_n 0, 1) := by decide +kernel
theorem dX12_takes_1 : decode cX12_takes 1 = .ok (.getfield 139, 3) := by decide +kernel
theorem dX12_takes_4 : decode cX12_takes 4 = .ok (.iload_n 1, 1) := by decide +kernel
theorem dX12_takes_5 : decode cX12_takes 5 = .ok (.if_icmp .ne 7, 3) := by decide +kernel
theorem dX12_takes_8 : decode cX12_takes 8 = .ok (.iconst 1, 1) := by decide +kernel
theorem dX12_takes_9 : decode cX12_takes 9 = .ok (.goto 4, 3) := by decide +kernel
theorem dX12_takes_12 : decode cX12_takes 12 = .ok (.iconst 0, 1) := by decide +kernel
theorem dX12_takes_13 : decode cX12_takes 13 = .ok (.istore_n 2, 1) := by decide +kernel
theorem dX12_takes_14 : decode cX12_takes 14 = .ok (.iload_n 2, 1) := by decide +kernel
theorem dX12_takes_15 : decode cX12_takes 15 = .ok (.ifCond .eq 7, 3) := by decide +kernel
theorem dX12_takes_18 : decode cX12_takes 18 = .ok (.aload_n 0, 1) := by decide +kernel
theorem dX12_takes_19 : decode cX12_takes 19 = .ok (.invokevirtual 155, 3) := by decide +kernel
theorem dX12_takes_22 : decode cX12_takes 22 = .ok (.iload_n 2, 1) := by decide +kernel
theorem dX12_takes_23 : decode cX12_takes 23 = .ok (.ireturn, 1) := by decide +kernel
theorem oX12_takes_0 : oP MT mX12_takes 0 (1, 1, 0, 1, []) := o_aload_n dX12_takes_0 rfl
theorem oX12_takes_1 : oP MT mX12_takes 1 (12, 3, 10, 12, []) := o_getI (M := mX12_takes) (C := RX12) (T := TX12) (ci := 12) (j := 10) (z := 12) dX12_takes_1 rfl lq_RX12_139 rfl rfl
theorem oX12_takes_4 : oP MT mX12_takes 4 (1, 1, 1, 0, []) := o_iload_n dX12_takes_4 rfl
theorem oX12_takes_5 : oP MT mX12_takes 5 (11, 3, 1, 12, []) := o_icmp_ne dX12_takes_5 (by decide) (by decide)
theorem oX12_takes_8 : oP MT mX12_takes 8 (0, 1, 0, 1, []) := o_iconst dX12_takes_8 (by decide)
theorem oX12_takes_9 : oP MT mX12_takes 9 (9, 3, 13, 0, []) := o_goto dX12_takes_9 (by decide)
theorem oX12_takes_12 : oP MT mX12_takes 12 (0, 1, 0, 0, []) := o_iconst dX12_takes_12 (by decide)
theorem oX12_takes_13 : oP MT mX12_takes 13 (2, 1, 2, 0, []) := o_istore_n dX12_takes_13 rfl (by decide)
theorem oX12_takes_14 : oP MT mX12_takes 14 (1, 1, 2, 0, []) := o_iload_n dX12_takes_14 rfl
theorem oX12_takes_15 : oP MT mX12_takes 15 (10, 3, 0, 22, []) := o_if_eq dX12_takes_15 (by decide) (by decide)
theorem oX12_takes_18 : oP MT mX12_takes 18 (1, 1, 0, 1, []) := o_aload_n dX12_takes_18 rfl
theorem oX12_takes_19 : oP MT mX12_takes 19 (26, 3, 0, 0, [(12, 131)]) := o_callO ((vA.cons (v_callV dX12_takes_19 (ci := 12) rfl rfl (mj := mX12_next) mt_X12_next cmq_X12_next wq_487 wq_489 wq_490 (by decide) (by decide)) vA.nil))
theorem oX12_takes_22 : oP MT mX12_takes 22 (1, 1, 2, 0, []) := o_iload_n dX12_takes_22 rfl
theorem oX12_takes_23 : oP MT mX12_takes 23 (22, 1, 0, 0, []) := o_zret dX12_takes_23 rfl
def ops_X12_takes : List (Nat × aO) := [(0, (1, 1, 0, 1, [])), (1, (12, 3, 10, 12, [])), (4, (1, 1, 1, 0, [])), (5, (11, 3, 1, 12, [])), (8, (0, 1, 0, 1, [])), (9, (9, 3, 13, 0, [])), (12, (0, 1, 0, 0, [])), (13, (2, 1, 2, 0, [])), (14, (1, 1, 2, 0, [])), (15, (10, 3, 0, 22, [])), (18, (1, 1, 0, 1, [])), (19, (26, 3, 0, 0, [(12, 131)])), (22, (1, 1, 2, 0, [])), (23, (22, 1, 0, 0, []))]
theorem os_X12_takes : oA MT mX12_takes ops_X12_takes := (oA.cons oX12_takes_0 (oA.cons oX12_takes_1 (oA.cons oX12_takes_4 (oA.cons oX12_takes_5 (oA.cons oX12_takes_8 (oA.cons oX12_takes_9 (oA.cons oX12_takes_12 (oA.cons oX12_takes_13 (oA.cons oX12_takes_14 (oA.cons oX12_takes_15 (oA.cons oX12_takes_18 (oA.cons oX12_takes_19 (oA.cons oX12_takes_22 (oA.cons oX12_takes_23 oA.nil))))))))))))))
theorem dX12_readsCondition_0 : decode cX12_readsCondition 0 = .ok (.aload_n 0, 1) := by decide +kernel
theorem dX12_readsCondition_1 : decode cX12_readsCondition 1 = .ok (.invokevirtual 187, 3) := by decide +kernel
theorem dX12_readsCondition_4 : decode cX12_readsCondition 4 = .ok (.istore_n 1, 1) := by decide +kernel
theorem dX12_readsCondition_5 : decode cX12_readsCondition 5 = .ok (.iload_n 1, 1) := by decide +kernel
theorem dX12_readsCondition_6 : decode cX12_readsCondition 6 = .ok (.ifCond .eq 31, 3) := by decide +kernel
theorem dX12_readsCondition_9 : decode cX12_readsCondition 9 = .ok (.aload_n 0, 1) := by decide +kernel
theorem dX12_readsCondition_10 : decode cX12_readsCondition 10 = .ok (.bipush 12, 2) := by decide +kernel
theorem dX12_readsCondition_12 : decode cX12_readsCondition 12 = .ok (.invokevirtual 175, 3) := by decide +kernel
theorem dX12_readsCondition_15 : decode cX12_readsCondition 15 = .ok (.ifCond .eq 22, 3) := by decide +kernel
theorem dX12_readsCondition_18 : decode cX12_readsCondition 18 = .ok (.aload_n 0, 1) := by decide +kernel
theorem dX12_readsCondition_19 : decode cX12_readsCondition 19 = .ok (.invokevirtual 187, 3) := by decide +kernel
theorem dX12_readsCondition_22 : decode cX12_readsCondition 22 = .ok (.istore_n 1, 1) := by decide +kernel
theorem dX12_readsCondition_23 : decode cX12_readsCondition 23 = .ok (.iload_n 1, 1) := by decide +kernel
theorem dX12_readsCondition_24 : decode cX12_readsCondition 24 = .ok (.ifCond .eq (-19), 3) := by decide +kernel
theorem dX12_readsCondition_27 : decode cX12_readsCondition 27 = .ok (.aload_n 0, 1) := by decide +kernel
theorem dX12_readsCondition_28 : decode cX12_readsCondition 28 = .ok (.sipush 10014, 3) := by decide +kernel
theorem dX12_readsCondition_31 : decode cX12_readsCondition 31 = .ok (.invokevirtual 161, 3) := by decide +kernel
theorem dX12_readsCondition_34 : decode cX12_readsCondition 34 = .ok (.goto (-29), 3) := by decide +kernel
theorem dX12_readsCondition_37 : decode cX12_readsCondition 37 = .ok (.iload_n 1, 1) := by decide +kernel
theorem dX12_readsCondition_38 : decode cX12_readsCondition 38 = .ok (.ireturn, 1) := by decide +kernel
theorem oX12_readsCondition_0 : oP MT mX12_readsCondition 0 (1, 1, 0, 1, []) := o_aload_n dX12_readsCondition_0 rfl
theorem oX12_readsCondition_1 : oP MT mX12_readsCondition 1 (26, 3, 0, 0, [(12, 139)]) := o_callO ((vA.cons (v_callV dX12_readsCondition_1 (ci := 12) rfl rfl (mj := mX12_readsAll) mt_X12_readsAll cmq_X12_readsAll wq_491 wq_493 wq_494 (by decide) (by decide)) vA.nil))
theorem oX12_readsCondition_4 : oP MT mX12_readsCondition 4 (2, 1, 1, 0, []) := o_istore_n dX12_readsCondition_4 rfl (by decide)
theorem oX12_readsCondition_5 : oP MT mX12_readsCondition 5 (1, 1, 1, 0, []) := o_iload_n dX12_readsCondition_5 rfl
theorem oX12_readsCondition_6 : oP MT mX12_readsCondition 6 (10, 3, 0, 37, []) := o_if_eq dX12_readsCondition_6 (by decide) (by decide)
theorem oX12_readsCondition_9 : oP MT mX12_readsCondition 9 (1, 1, 0, 1, []) := o_aload_n dX12_readsCondition_9 rfl
theorem oX12_readsCondition_10 : oP MT mX12_readsCondition 10 (0, 2, 0, 12, []) := o_bipush dX12_readsCondition_10 (by decide)
theorem oX12_readsCondition_12 : oP MT mX12_readsCondition 12 (26, 3, 0, 1, [(12, 134)]) := o_callO ((vA.cons (v_callV dX12_readsCondition_12 (ci := 12) rfl rfl (mj := mX12_takes) mt_X12_takes cmq_X12_takes wq_495 wq_497 wq_498 (by decide) (by decide)) vA.nil))
theorem oX12_readsCondition_15 : oP MT mX12_readsCondition 15 (10, 3, 0, 37, []) := o_if_eq dX12_readsCondition_15 (by decide) (by decide)
theorem oX12_readsCondition_18 : oP MT mX12_readsCondition 18 (1, 1, 0, 1, []) := o_aload_n dX12_readsCondition_18 rfl
theorem oX12_readsCondition_19 : oP MT mX12_readsCondition 19 (26, 3, 0, 0, [(12, 139)]) := o_callO ((vA.cons (v_callV dX12_readsCondition_19 (ci := 12) rfl rfl (mj := mX12_readsAll) mt_X12_readsAll cmq_X12_readsAll wq_491 wq_493 wq_494 (by decide) (by decide)) vA.nil))
theorem oX12_readsCondition_22 : oP MT mX12_readsCondition 22 (2, 1, 1, 0, []) := o_istore_n dX12_readsCondition_22 rfl (by decide)
theorem oX12_readsCondition_23 : oP MT mX12_readsCondition 23 (1, 1, 1, 0, []) := o_iload_n dX12_readsCondition_23 rfl
theorem oX12_readsCondition_24 : oP MT mX12_readsCondition 24 (10, 3, 0, 5, []) := o_if_eq dX12_readsCondition_24 (by decide) (by decide)
theorem oX12_readsCondition_27 : oP MT mX12_readsCondition 27 (1, 1, 0, 1, []) := o_aload_n dX12_readsCondition_27 rfl
theorem oX12_readsCondition_28 : oP MT mX12_readsCondition 28 (0, 3, 0, 10014, []) := o_sipush dX12_readsCondition_28 (by decide)
theorem oX12_readsCondition_31 : oP MT mX12_readsCondition 31 (26, 3, 0, 1, [(12, 132)]) := o_callO ((vA.cons (v_callV dX12_readsCondition_31 (ci := 12) rfl rfl (mj := mX12_lays) mt_X12_lays cmq_X12_lays wq_483 wq_485 wq_486 (by decide) (by decide)) vA.nil))
theorem oX12_readsCondition_34 : oP MT mX12_readsCondition 34 (9, 3, 5, 0, []) := o_goto dX12_readsCondition_34 (by decide)
theorem oX12_readsCondition_37 : oP MT mX12_readsCondition 37 (1, 1, 1, 0, []) := o_iload_n dX12_readsCondition_37 rfl
theorem oX12_readsCondition_38 : oP MT mX12_readsCondition 38 (22, 1, 0, 0, []) := o_zret dX12_readsCondition_38 rfl
def ops_X12_readsCondition : List (Nat × aO) := [(0, (1, 1, 0, 1, [])), (1, (26, 3, 0, 0, [(12, 139)])), (4, (2, 1, 1, 0, [])), (5, (1, 1, 1, 0, [])), (6, (10, 3, 0, 37, [])), (9, (1, 1, 0, 1, [])), (10, (0, 2, 0, 12, [])), (12, (26, 3, 0, 1, [(12, 134)])), (15, (10, 3, 0, 37, [])), (18, (1, 1, 0, 1, [])), (19, (26, 3, 0, 0, [(12, 139)])), (22, (2, 1, 1, 0, [])), (23, (1, 1, 1, 0, [])), (24, (10, 3, 0, 5, [])), (27, (1, 1, 0, 1, [])), (28, (0, 3, 0, 10014, [])), (31, (26, 3, 0, 1, [(12, 132)])), (34, (9, 3, 5, 0, [])), (37, (1, 1, 1, 0, [])), (38, (22, 1, 0, 0, []))]
theorem os_X12_readsCondition : oA MT mX12_readsCondition ops_X12_readsCondition := (oA.cons oX12_readsCondition_0 (oA.cons oX12_readsCondition_1 (oA.cons oX12_readsCondition_4 (oA.cons oX12_readsCondition_5 (oA.cons oX12_readsCondition_6 (oA.cons oX12_readsCondition_9 (oA.cons oX12_readsCondition_10 (oA.cons oX12_readsCondition_12 (oA.cons oX12_readsCondition_15 (oA.cons oX12_readsCondition_18 (oA.cons oX12_readsCondition_19 (oA.cons oX12_readsCondition_22 (oA.cons oX12_readsCondition_23 (oA.cons oX12_readsCondition_24 (oA.cons oX12_readsCondition_27 (oA.cons oX12_readsCondition_28 (oA.cons oX12_readsCondition_31 (oA.cons oX12_readsCondition_34 (oA.cons oX12_readsCondition_37 (oA.cons oX12_readsCondition_38 oA.nil))))))))))))))))))))
theorem dX12_readsOne_0 : decode cX12_readsOne 0 = .ok (.iconst 0, 1) := by decide +kernel
theorem dX12_readsOne_1 : decode cX12_readsOne 1 = .ok (.istore_n 1, 1) := by decide +kernel
theorem dX12_readsOne_2 : decode cX12_readsOne 2 = .ok (.aload_n 0, 1) := by decide +kernel
theorem dX12_readsOne_3 : decode cX12_readsOne 3 = .ok (.bipush 10, 2) := by decide +kernel
theorem dX12_readsOne_5 : decode cX12_readsOne 5 = .ok (.invokevirtual 175, 3) := by decide +kernel
theorem dX12_readsOne_8 : decode cX12_readsOne 8 = .ok (.ifCond .eq 9, 3) := by decide +kernel
theorem dX12_readsOne_11 : decode cX12_readsOne 11 = .ok (.iinc 1 1, 3) := by decide +kernel
theorem dX12_readsOne_14 : decode cX12_readsOne 14 = .ok (.goto (-12), 3) := by decide +kernel
theorem dX12_readsOne_17 : decode cX12_readsOne 17 = .ok (.aload_n 0, 1) := by decide +kernel
theorem dX12_readsOne_18 : decode cX12_readsOne 18 = .ok (.getfield 139, 3) := by decide +kernel
theorem dX12_readsOne_21 : decode cX12_readsOne 21 = .ok (.sipush 240, 3) := by decide +kernel
theorem dX12_readsOne_24 : decode cX12_readsOne 24 = .ok (.if_icmp .ne 10, 3) := by decide +kernel
theorem dX12_readsOne_27 : decode cX12_readsOne 27 = .ok (.aload_n 0, 1) := by decide +kernel
theorem dX12_readsOne_28 : decode cX12_readsOne 28 = .ok (.invokevirtual 178, 3) := by decide +kernel
theorem dX12_readsOne_31 : decode cX12_readsOne 31 = .ok (.goto 7, 3) := by decide +kernel
theorem dX12_readsOne_34 : decode cX12_readsOne 34 = .ok (.aload_n 0, 1) := by decide +kernel
theorem dX12_readsOne_35 : decode cX12_readsOne 35 = .ok (.invokevirtual 181, 3) := by decide +kernel
theorem dX12_readsOne_38 : decode cX12_readsOne 38 = .ok (.istore_n 2, 1) := by decide +kernel
theorem dX12_readsOne_39 : decode cX12_readsOne 39 = .ok (.iconst 0, 1) := by decide +kernel
theorem dX12_readsOne_40 : decode cX12_readsOne 40 = .ok (.istore_n 3, 1) := by decide +kernel
theorem dX12_readsOne_41 : decode cX12_readsOne 41 = .ok (.iload_n 3, 1) := by decide +kernel
theorem dX12_readsOne_42 : decode cX12_readsOne 42 = .ok (.iload_n 1, 1) := by decide +kernel
theorem dX12_readsOne_43 : decode cX12_readsOne 43 = .ok (.if_icmp .ge 20, 3) := by decide +kernel
theorem dX12_readsOne_46 : decode cX12_readsOne 46 = .ok (.iload_n 2, 1) := by decide +kernel
theorem dX12_readsOne_47 : decode cX12_readsOne 47 = .ok (.ifCond .eq 16, 3) := by decide +kernel
theorem dX12_readsOne_50 : decode cX12_readsOne 50 = .ok (.aload_n 0, 1) := by decide +kernel
theorem dX12_readsOne_51 : decode cX12_readsOne 51 = .ok (.sipush 10015, 3) := by decide +kernel
theorem dX12_readsOne_54 : decode cX12_readsOne 54 = .ok (.invokevirtual 161, 3) := by decide +kernel
theorem dX12_readsOne_57 : decode cX12_readsOne 57 = .ok (.iinc 3 1, 3) := by decide +kernel
theorem dX12_readsOne_60 : decode cX12_readsOne 60 = .ok (.goto (-19), 3) := by decide +kernel
theorem dX12_readsOne_63 : decode cX12_readsOne 63 = .ok (.iload_n 2, 1) := by decide +kernel
theorem dX12_readsOne_64 : decode cX12_readsOne 64 = .ok (.ireturn, 1) := by decide +kernel
theorem oX12_readsOne_0 : oP MT mX12_readsOne 0 (0, 1, 0, 0, []) := o_iconst dX12_readsOne_0 (by decide)
theorem oX12_readsOne_1 : oP MT mX12_readsOne 1 (2, 1, 1, 0, []) := o_istore_n dX12_readsOne_1 rfl (by decide)
theorem oX12_readsOne_2 : oP MT mX12_readsOne 2 (1, 1, 0, 1, []) := o_aload_n dX12_readsOne_2 rfl
theorem oX12_readsOne_3 : oP MT mX12_readsOne 3 (0, 2, 0, 10, []) := o_bipush dX12_readsOne_3 (by decide)
theorem oX12_readsOne_5 : oP MT mX12_readsOne 5 (26, 3, 0, 1, [(12, 134)]) := o_callO ((vA.cons (v_callV dX12_readsOne_5 (ci := 12) rfl rfl (mj := mX12_takes) mt_X12_takes cmq_X12_takes wq_495 wq_497 wq_498 (by decide) (by decide)) vA.nil))
theorem oX12_readsOne_8 : oP MT mX12_readsOne 8 (10, 3, 0, 17, []) := o_if_eq dX12_readsOne_8 (by decide) (by decide)
theorem oX12_readsOne_11 : oP MT mX12_readsOne 11 (3, 3, 1, 1, []) := o_iinc dX12_readsOne_11 (by decide) (by decide)
theorem oX12_readsOne_14 : oP MT mX12_readsOne 14 (9, 3, 2, 0, []) := o_goto dX12_readsOne_14 (by decide)
theorem oX12_readsOne_17 : oP MT mX12_readsOne 17 (1, 1, 0, 1, []) := o_aload_n dX12_readsOne_17 rfl
theorem oX12_readsOne_18 : oP MT mX12_readsOne 18 (12, 3, 10, 12, []) := o_getI (M := mX12_readsOne) (C := RX12) (T := TX12) (ci := 12) (j := 10) (z := 12) dX12_readsOne_18 rfl lq_RX12_139 rfl rfl
theorem oX12_readsOne_21 : oP MT mX12_readsOne 21 (0, 3, 0, 240, []) := o_sipush dX12_readsOne_21 (by decide)
theorem oX12_readsOne_24 : oP MT mX12_readsOne 24 (11, 3, 1, 34, []) := o_icmp_ne dX12_readsOne_24 (by decide) (by decide)
theorem oX12_readsOne_27 : oP MT mX12_readsOne 27 (1, 1, 0, 1, []) := o_aload_n dX12_readsOne_27 rfl
theorem oX12_readsOne_28 : oP MT mX12_readsOne 28 (26, 3, 0, 0, [(12, 138)]) := o_callO ((vA.cons (v_callV dX12_readsOne_28 (ci := 12) rfl rfl (mj := mX12_readsWithin) mt_X12_readsWithin cmq_X12_readsWithin wq_499 wq_501 wq_502 (by decide) (by decide)) vA.nil))
theorem oX12_readsOne_31 : oP MT mX12_readsOne 31 (9, 3, 38, 0, []) := o_goto dX12_readsOne_31 (by decide)
theorem oX12_readsOne_34 : oP MT mX12_readsOne 34 (1, 1, 0, 1, []) := o_aload_n dX12_readsOne_34 rfl
theorem oX12_readsOne_35 : oP MT mX12_readsOne 35 (26, 3, 0, 0, [(12, 137)]) := o_callO ((vA.cons (v_callV dX12_readsOne_35 (ci := 12) rfl rfl (mj := mX12_readsLike) mt_X12_readsLike cmq_X12_readsLike wq_503 wq_505 wq_506 (by decide) (by decide)) vA.nil))
theorem oX12_readsOne_38 : oP MT mX12_readsOne 38 (2, 1, 2, 0, []) := o_istore_n dX12_readsOne_38 rfl (by decide)
theorem oX12_readsOne_39 : oP MT mX12_readsOne 39 (0, 1, 0, 0, []) := o_iconst dX12_readsOne_39 (by decide)
theorem oX12_readsOne_40 : oP MT mX12_readsOne 40 (2, 1, 3, 0, []) := o_istore_n dX12_readsOne_40 rfl (by decide)
theorem oX12_readsOne_41 : oP MT mX12_readsOne 41 (1, 1, 3, 0, []) := o_iload_n dX12_readsOne_41 rfl
theorem oX12_readsOne_42 : oP MT mX12_readsOne 42 (1, 1, 1, 0, []) := o_iload_n dX12_readsOne_42 rfl
theorem oX12_readsOne_43 : oP MT mX12_readsOne 43 (11, 3, 3, 63, []) := o_icmp_ge dX12_readsOne_43 (by decide) (by decide)
theorem oX12_readsOne_46 : oP MT mX12_readsOne 46 (1, 1, 2, 0, []) := o_iload_n dX12_readsOne_46 rfl
theorem oX12_readsOne_47 : oP MT mX12_readsOne 47 (10, 3, 0, 63, []) := o_if_eq dX12_readsOne_47 (by decide) (by decide)
theorem oX12_readsOne_50 : oP MT mX12_readsOne 50 (1, 1, 0, 1, []) := o_aload_n dX12_readsOne_50 rfl
theorem oX12_readsOne_51 : oP MT mX12_readsOne 51 (0, 3, 0, 10015, []) := o_sipush dX12_readsOne_51 (by decide)
theorem oX12_readsOne_54 : oP MT mX12_readsOne 54 (26, 3, 0, 1, [(12, 132)]) := o_callO ((vA.cons (v_callV dX12_readsOne_54 (ci := 12) rfl rfl (mj := mX12_lays) mt_X12_lays cmq_X12_lays wq_483 wq_485 wq_486 (by decide) (by decide)) vA.nil))
theorem oX12_readsOne_57 : oP MT mX12_readsOne 57 (3, 3, 3, 1, []) := o_iinc dX12_readsOne_57 (by decide) (by decide)
theorem oX12_readsOne_60 : oP MT mX12_readsOne 60 (9, 3, 41, 0, []) := o_goto dX12_readsOne_60 (by decide)
theorem oX12_readsOne_63 : oP MT mX12_readsOne 63 (1, 1, 2, 0, []) := o_iload_n dX12_readsOne_63 rfl
theorem oX12_readsOne_64 : oP MT mX12_readsOne 64 (22, 1, 0, 0, []) := o_zret dX12_readsOne_64 rfl
def ops_X12_readsOne : List (Nat × aO) := [(0, (0, 1, 0, 0, [])), (1, (2, 1, 1, 0, [])), (2, (1, 1, 0, 1, [])), (3, (0, 2, 0, 10, [])), (5, (26, 3, 0, 1, [(12, 134)])), (8, (10, 3, 0, 17, [])), (11, (3, 3, 1, 1, [])), (14, (9, 3, 2, 0, [])), (17, (1, 1, 0, 1, [])), (18, (12, 3, 10, 12, [])), (21, (0, 3, 0, 240, [])), (24, (11, 3, 1, 34, [])), (27, (1, 1, 0, 1, [])), (28, (26, 3, 0, 0, [(12, 138)])), (31, (9, 3, 38, 0, [])), (34, (1, 1, 0, 1, [])), (35, (26, 3, 0, 0, [(12, 137)])), (38, (2, 1, 2, 0, [])), (39, (0, 1, 0, 0, [])), (40, (2, 1, 3, 0, [])), (41, (1, 1, 3, 0, [])), (42, (1, 1, 1, 0, [])), (43, (11, 3, 3, 63, [])), (46, (1, 1, 2, 0, [])), (47, (10, 3, 0, 63, [])), (50, (1, 1, 0, 1, [])), (51, (0, 3, 0, 10015, [])), (54, (26, 3, 0, 1, [(12, 132)])), (57, (3, 3, 3, 1, [])), (60, (9, 3, 41, 0, [])), (63, (1, 1, 2, 0, [])), (64, (22, 1, 0, 0, []))]
theorem os_X12_readsOne : oA MT mX12_readsOne ops_X12_readsOne := (oA.cons oX12_readsOne_0 (oA.cons oX12_readsOne_1 (oA.cons oX12_readsOne_2 (oA.cons oX12_readsOne_3 (oA.cons oX12_readsOne_5 (oA.cons oX12_readsOne_8 (oA.cons oX12_readsOne_11 (oA.cons oX12_readsOne_14 (oA.cons oX12_readsOne_17 (oA.cons oX12_readsOne_18 (oA.cons oX12_readsOne_21 (oA.cons oX12_readsOne_24 (oA.cons oX12_readsOne_27 (oA.cons oX12_readsOne_28 (oA.cons oX12_readsOne_31 (oA.cons oX12_readsOne_34 (oA.cons oX12_readsOne_35 (oA.cons oX12_readsOne_38 (oA.cons oX12_readsOne_39 (oA.cons oX12_readsOne_40 (oA.cons oX12_readsOne_41 (oA.cons oX12_readsOne_42 (oA.cons oX12_readsOne_43 (oA.cons oX12_readsOne_46 (oA.cons oX12_readsOne_47 (oA.cons oX12_readsOne_50 (oA.cons oX12_readsOne_51 (oA.cons oX12_readsOne_54 (oA.cons oX12_readsOne_57 (oA.cons oX12_readsOne_60 (oA.cons oX12_readsOne_63 (oA.cons oX12_readsOne_64 oA.nil))))))))))))))))))))))))))))))))
theorem dX12_readsLike_0 : decode cX12_readsLike 0 = .ok (.aload_n 0, 1) := by decide +kernel
theorem dX12_readsLike_1 : decode cX12_readsLike 1 = .ok (.invokevirtual 165, 3) := by decide +kernel
theorem dX12_readsLike_4 : decode cX12_readsLike 4 = .ok (.ifCond .ne 5, 3) := by decide +kernel
theorem dX12_readsLike_7 : decode cX12_readsLike 7 = .ok (.iconst 0, 1) := by decide +kernel
theorem dX12_readsLike_8 : decode cX12_readsLike 8 = .ok (.ireturn, 1) := by decide +kernel
theorem dX12_readsLike_9 : decode cX12_readsLike 9 = .ok (.aload_n 0, 1) := by decide +kernel
theorem dX12_readsLike_10 : decode cX12_readsLike 10 = .ok (.getfield 139, 3) := by decide +kernel
theorem dX12_readsLike_13 : decode cX12_readsLike 13 = .ok (.sipush 260, 3) := by decide +kernel
theorem dX12_readsLike_16 : decode cX12_readsLike 16 = .ok (.if_icmp .ne 9, 3) := by decide +kernel
theorem dX12_readsLike_19 : decode cX12_readsLike 19 = .ok (.sipush 10010, 3) := by decide +kernel
theorem dX12_readsLike_22 : decode cX12_readsLike 22 = .ok (.goto 36, 3) := by decide +kernel
theorem dX12_readsLike_25 : decode cX12_readsLike 25 = .ok (.aload_n 0, 1) := by decide +kernel
theorem dX12_readsLike_26 : decode cX12_readsLike 26 = .ok (.getfield 139, 3) := by decide +kernel
theorem dX12_readsLike_29 : decode cX12_readsLike 29 = .ok (.sipush 261, 3) := by decide +kernel
theorem dX12_readsLike_32 : decode cX12_readsLike 32 = .ok (.if_icmp .ne 9, 3) := by decide +kernel
theorem dX12_readsLike_35 : decode cX12_readsLike 35 = .ok (.sipush 10011, 3) := by decide +kernel
theorem dX12_readsLike_38 : decode cX12_readsLike 38 = .ok (.goto 20, 3) := by decide +kernel
theorem dX12_readsLike_41 : decode cX12_readsLike 41 = .ok (.aload_n 0, 1) := by decide +kernel
theorem dX12_readsLike_42 : decode cX12_readsLike 42 = .ok (.getfield 139, 3) := by decide +kernel
theorem dX12_readsLike_45 : decode cX12_readsLike 45 = .ok (.sipush 262, 3) := by decide +kernel
theorem dX12_readsLike_48 : decode cX12_readsLike 48 = .ok (.if_icmp .ne 9, 3) := by decide +kernel
theorem dX12_readsLike_51 : decode cX12_readsLike 51 = .ok (.sipush 10012, 3) := by decide +kernel
theorem dX12_readsLike_54 : decode cX12_readsLike 54 = .ok (.goto 4, 3) := by decide +kernel
theorem dX12_readsLike_57 : decode cX12_readsLike 57 = .ok (.iconst 0, 1) := by decide +kernel
theorem dX12_readsLike_58 : decode cX12_readsLike 58 = .ok (.istore_n 1, 1) := by decide +kernel
theorem dX12_readsLike_59 : decode cX12_readsLike 59 = .ok (.iload_n 1, 1) := by decide +kernel
theorem dX12_readsLike_60 : decode cX12_readsLike 60 = .ok (.ifCond .ne 5, 3) := by decide +kernel
theorem dX12_readsLike_63 : decode cX12_readsLike 63 = .ok (.iconst 0, 1) := by decide +kernel
theorem dX12_readsLike_64 : decode cX12_readsLike 64 = .ok (.ireturn, 1) := by decide +kernel
theorem dX12_readsLike_65 : decode cX12_readsLike 65 = .ok (.aload_n 0, 1) := by decide +kernel
theorem dX12_readsLike_66 : decode cX12_readsLike 66 = .ok (.invokevirtual 155, 3) := by decide +kernel
theorem dX12_readsLike_69 : decode cX12_readsLike 69 = .ok (.aload_n 0, 1) := by decide +kernel
theorem dX12_readsLike_70 : decode cX12_readsLike 70 = .ok (.invokevirtual 165, 3) := by decide +kernel
theorem dX12_readsLike_73 : decode cX12_readsLike 73 = .ok (.ifCond .ne 5, 3) := by decide +kernel
theorem dX12_readsLike_76 : decode cX12_readsLike 76 = .ok (.iconst 0, 1) := by decide +kernel
theorem dX12_readsLike_77 : decode cX12_readsLike 77 = .ok (.ireturn, 1) := by decide +kernel
theorem dX12_readsLike_78 : decode cX12_readsLike 78 = .ok (.aload_n 0, 1) := by decide +kernel
theorem dX12_readsLike_79 : decode cX12_readsLike 79 = .ok (.iload_n 1, 1) := by decide +kernel
theorem dX12_readsLike_80 : decode cX12_readsLike 80 = .ok (.invokevirtual 161, 3) := by decide +kernel
theorem dX12_readsLike_83 : decode cX12_readsLike 83 = .ok (.iconst 1, 1) := by decide +kernel
theorem dX12_readsLike_84 : decode cX12_readsLike 84 = .ok (.ireturn, 1) := by decide +kernel
theorem oX12_readsLike_0 : oP MT mX12_readsLike 0 (1, 1, 0, 1, []) := o_aload_n dX12_readsLike_0 rfl
theorem oX12_readsLike_1 : oP MT mX12_readsLike 1 (26, 3, 0, 0, [(12, 133)]) := o_callO ((vA.cons (v_callV dX12_readsLike_1 (ci := 12) rfl rfl (mj := mX12_readsValue) mt_X12_readsValue cmq_X12_readsValue wq_507 wq_509 wq_510 (by decide) (by decide)) vA.nil))
theorem oX12_readsLike_4 : oP MT mX12_readsLike 4 (10, 3, 1, 9, []) := o_if_ne dX12_readsLike_4 (by decide) (by decide)
theorem oX12_readsLike_7 : oP MT mX12_readsLike 7 (0, 1, 0, 0, []) := o_iconst dX12_readsLike_7 (by decide)
theorem oX12_readsLike_8 : oP MT mX12_readsLike 8 (22, 1, 0, 0, []) := o_zret dX12_readsLike_8 rfl
theorem oX12_readsLike_9 : oP MT mX12_readsLike 9 (1, 1, 0, 1, []) := o_aload_n dX12_readsLike_9 rfl
theorem oX12_readsLike_10 : oP MT mX12_readsLike 10 (12, 3, 10, 12, []) := o_getI (M := mX12_readsLike) (C := RX12) (T := TX12) (ci := 12) (j := 10) (z := 12) dX12_readsLike_10 rfl lq_RX12_139 rfl rfl
theorem oX12_readsLike_13 : oP MT mX12_readsLike 13 (0, 3, 0, 260, []) := o_sipush dX12_readsLike_13 (by decide)
theorem oX12_readsLike_16 : oP MT mX12_readsLike 16 (11, 3, 1, 25, []) := o_icmp_ne dX12_readsLike_16 (by decide) (by decide)
theorem oX12_readsLike_19 : oP MT mX12_readsLike 19 (0, 3, 0, 10010, []) := o_sipush dX12_readsLike_19 (by decide)
theorem oX12_readsLike_22 : oP MT mX12_readsLike 22 (9, 3, 58, 0, []) := o_goto dX12_readsLike_22 (by decide)
theorem oX12_readsLike_25 : oP MT mX12_readsLike 25 (1, 1, 0, 1, []) := o_aload_n dX12_readsLike_25 rfl
theorem oX12_readsLike_26 : oP MT mX12_readsLike 26 (12, 3, 10, 12, []) := o_getI (M := mX12_readsLike) (C := RX12) (T := TX12) (ci := 12) (j := 10) (z := 12) dX12_readsLike_26 rfl lq_RX12_139 rfl rfl
theorem oX12_readsLike_29 : oP MT mX12_readsLike 29 (0, 3, 0, 261, []) := o_sipush dX12_readsLike_29 (by decide)
theorem oX12_readsLike_32 : oP MT mX12_readsLike 32 (11, 3, 1, 41, []) := o_icmp_ne dX12_readsLike_32 (by decide) (by decide)
theorem oX12_readsLike_35 : oP MT mX12_readsLike 35 (0, 3, 0, 10011, []) := o_sipush dX12_readsLike_35 (by decide)
theorem oX12_readsLike_38 : oP MT mX12_readsLike 38 (9, 3, 58, 0, []) := o_goto dX12_readsLike_38 (by decide)
theorem oX12_readsLike_41 : oP MT mX12_readsLike 41 (1, 1, 0, 1, []) := o_aload_n dX12_readsLike_41 rfl
theorem oX12_readsLike_42 : oP MT mX12_readsLike 42 (12, 3, 10, 12, []) := o_getI (M := mX12_readsLike) (C := RX12) (T := TX12) (ci := 12) (j := 10) (z := 12) dX12_readsLike_42 rfl lq_RX12_139 rfl rfl
theorem oX12_readsLike_45 : oP MT mX12_readsLike 45 (0, 3, 0, 262, []) := o_sipush dX12_readsLike_45 (by decide)
theorem oX12_readsLike_48 : oP MT mX12_readsLike 48 (11, 3, 1, 57, []) := o_icmp_ne dX12_readsLike_48 (by decide) (by decide)
theorem oX12_readsLike_51 : oP MT mX12_readsLike 51 (0, 3, 0, 10012, []) := o_sipush dX12_readsLike_51 (by decide)
theorem oX12_readsLike_54 : oP MT mX12_readsLike 54 (9, 3, 58, 0, []) := o_goto dX12_readsLike_54 (by decide)
theorem oX12_readsLike_57 : oP MT mX12_readsLike 57 (0, 1, 0, 0, []) := o_iconst dX12_readsLike_57 (by decide)
theorem oX12_readsLike_58 : oP MT mX12_readsLike 58 (2, 1, 1, 0, []) := o_istore_n dX12_readsLike_58 rfl (by decide)
theorem oX12_readsLike_59 : oP MT mX12_readsLike 59 (1, 1, 1, 0, []) := o_iload_n dX12_readsLike_59 rfl
theorem oX12_readsLike_60 : oP MT mX12_readsLike 60 (10, 3, 1, 65, []) := o_if_ne dX12_readsLike_60 (by decide) (by decide)
theorem oX12_readsLike_63 : oP MT mX12_readsLike 63 (0, 1, 0, 0, []) := o_iconst dX12_readsLike_63 (by decide)
theorem oX12_readsLike_64 : oP MT mX12_readsLike 64 (22, 1, 0, 0, []) := o_zret dX12_readsLike_64 rfl
theorem oX12_readsLike_65 : oP MT mX12_readsLike 65 (1, 1, 0, 1, []) := o_aload_n dX12_readsLike_65 rfl
theorem oX12_readsLike_66 : oP MT mX12_readsLike 66 (26, 3, 0, 0, [(12, 131)]) := o_callO ((vA.cons (v_callV dX12_readsLike_66 (ci := 12) rfl rfl (mj := mX12_next) mt_X12_next cmq_X12_next wq_487 wq_489 wq_490 (by decide) (by decide)) vA.nil))
theorem oX12_readsLike_69 : oP MT mX12_readsLike 69 (1, 1, 0, 1, []) := o_aload_n dX12_readsLike_69 rfl
theorem oX12_readsLike_70 : oP MT mX12_readsLike 70 (26, 3, 0, 0, [(12, 133)]) := o_callO ((vA.cons (v_callV dX12_readsLike_70 (ci := 12) rfl rfl (mj := mX12_readsValue) mt_X12_readsValue cmq_X12_readsValue wq_507 wq_509 wq_510 (by decide) (by decide)) vA.nil))
theorem oX12_readsLike_73 : oP MT mX12_readsLike 73 (10, 3, 1, 78, []) := o_if_ne dX12_readsLike_73 (by decide) (by decide)
theorem oX12_readsLike_76 : oP MT mX12_readsLike 76 (0, 1, 0, 0, []) := o_iconst dX12_readsLike_76 (by decide)
theorem oX12_readsLike_77 : oP MT mX12_readsLike 77 (22, 1, 0, 0, []) := o_zret dX12_readsLike_77 rfl
theorem oX12_readsLike_78 : oP MT mX12_readsLike 78 (1, 1, 0, 1, []) := o_aload_n dX12_readsLike_78 rfl
theorem oX12_readsLike_79 : oP MT mX12_readsLike 79 (1, 1, 1, 0, []) := o_iload_n dX12_readsLike_79 rfl
theorem oX12_readsLike_80 : oP MT mX12_readsLike 80 (26, 3, 0, 1, [(12, 132)]) := o_callO ((vA.cons (v_callV dX12_readsLike_80 (ci := 12) rfl rfl (mj := mX12_lays) mt_X12_lays cmq_X12_lays wq_483 wq_485 wq_486 (by decide) (by decide)) vA.nil))
theorem oX12_readsLike_83 : oP MT mX12_readsLike 83 (0, 1, 0, 1, []) := o_iconst dX12_readsLike_83 (by decide)
theorem oX12_readsLike_84 : oP MT mX12_readsLike 84 (22, 1, 0, 0, []) := o_zret dX12_readsLike_84 rfl
def ops_X12_readsLike : List (Nat × aO) := [(0, (1, 1, 0, 1, [])), (1, (26, 3, 0, 0, [(12, 133)])), (4, (10, 3, 1, 9, [])), (7, (0, 1, 0, 0, [])), (8, (22, 1, 0, 0, [])), (9, (1, 1, 0, 1, [])), (10, (12, 3, 10, 12, [])), (13, (0, 3, 0, 260, [])), (16, (11, 3, 1, 25, [])), (19, (0, 3, 0, 10010, [])), (22, (9, 3, 58, 0, [])), (25, (1, 1, 0, 1, [])), (26, (12, 3, 10, 12, [])), (29, (0, 3, 0, 261, [])), (32, (11, 3, 1, 41, [])), (35, (0, 3, 0, 10011, [])), (38, (9, 3, 58, 0, [])), (41, (1, 1, 0, 1, [])), (42, (12, 3, 10, 12, [])), (45, (0, 3, 0, 262, [])), (48, (11, 3, 1, 57, [])), (51, (0, 3, 0, 10012, [])), (54, (9, 3, 58, 0, [])), (57, (0, 1, 0, 0, [])), (58, (2, 1, 1, 0, [])), (59, (1, 1, 1, 0, [])), (60, (10, 3, 1, 65, [])), (63, (0, 1, 0, 0, [])), (64, (22, 1, 0, 0, [])), (65, (1, 1, 0, 1, [])), (66, (26, 3, 0, 0, [(12, 131)])), (69, (1, 1, 0, 1, [])), (70, (26, 3, 0, 0, [(12, 133)])), (73, (10, 3, 1, 78, [])), (76, (0, 1, 0, 0, [])), (77, (22, 1, 0, 0, [])), (78, (1, 1, 0, 1, [])), (79, (1, 1, 1, 0, [])), (80, (26, 3, 0, 1, [(12, 132)])), (83, (0, 1, 0, 1, [])), (84, (22, 1, 0, 0, []))]
theorem os_X12_readsLike : oA MT mX12_readsLike ops_X12_readsLike := (oA.cons oX12_readsLike_0 (oA.cons oX12_readsLike_1 (oA.cons oX12_readsLike_4 (oA.cons oX12_readsLike_7 (oA.cons oX12_readsLike_8 (oA.cons oX12_readsLike_9 (oA.cons oX12_readsLike_10 (oA.cons oX12_readsLike_13 (oA.cons oX12_readsLike_16 (oA.cons oX12_readsLike_19 (oA.cons oX12_readsLike_22 (oA.cons oX12_readsLike_25 (oA.cons oX12_readsLike_26 (oA.cons oX12_readsLike_29 (oA.cons oX12_readsLike_32 (oA.cons oX12_readsLike_35 (oA.cons oX12_readsLike_38 (oA.cons oX12_readsLike_41 (oA.cons oX12_readsLike_42 (oA.cons oX12_readsLike_45 (oA.cons oX12_readsLike_48 (oA.cons oX12_readsLike_51 (oA.cons oX12_readsLike_54 (oA.cons oX12_readsLike_57 (oA.cons oX12_readsLike_58 (oA.cons oX12_readsLike_59 (oA.cons oX12_readsLike_60 (oA.cons oX12_readsLike_63 (oA.cons oX12_readsLike_64 (oA.cons oX12_readsLike_65 (oA.cons oX12_readsLike_66 (oA.cons oX12_readsLike_69 (oA.cons oX12_readsLike_70 (oA.cons oX12_readsLike_73 (oA.cons oX12_readsLike_76 (oA.cons oX12_readsLike_77 (oA.cons oX12_readsLike_78 (oA.cons oX12_readsLike_79 (oA.cons oX12_readsLike_80 (oA.cons oX12_readsLike_83 (oA.cons oX12_readsLike_84 oA.nil)))))))))))))))))))))))))))))))))))))))))
theorem dX12_readsWithin_0 : decode cX12_readsWithin 0 = .ok (.aload_n 0, 1) := by decide +kernel
theorem dX12_readsWithin_1 : decode cX12_readsWithin 1 = .ok (.getfield 169, 3) := by decide +kernel
theorem dX12_readsWithin_4 : decode cX12_readsWithin 4 = .ok (.iconst 3, 1) := by decide +kernel
theorem dX12_readsWithin_5 : decode cX12_readsWithin 5 = .ok (.if_icmp .ne 5, 3) := by decide +kernel
theorem dX12_readsWithin_8 : decode cX12_readsWithin 8 = .ok (.iconst 0, 1) := by decide +kernel
theorem dX12_readsWithin_9 : decode cX12_readsWithin 9 = .ok (.ireturn, 1) := by decide +kernel
theorem dX12_readsWithin_10 : decode cX12_readsWithin 10 = .ok (.aload_n 0, 1) := by decide +kernel
theorem dX12_readsWithin_11 : decode cX12_readsWithin 11 = .ok (.dup, 1) := by decide +kernel
theorem dX12_readsWithin_12 : decode cX12_readsWithin 12 = .ok (.getfield 169, 3) := by decide +kernel
theorem dX12_readsWithin_15 : decode cX12_readsWithin 15 = .ok (.iconst 1, 1) := by decide +kernel
theorem dX12_readsWithin_16 : decode cX12_readsWithin 16 = .ok (.iadd, 1) := by decide +kernel
theorem dX12_readsWithin_17 : decode cX12_readsWithin 17 = .ok (.putfield 169, 3) := by decide +kernel
theorem dX12_readsWithin_20 : decode cX12_readsWithin 20 = .ok (.aload_n 0, 1) := by decide +kernel
theorem dX12_readsWithin_21 : decode cX12_readsWithin 21 = .ok (.invokevirtual 155, 3) := by decide +kernel
theorem dX12_readsWithin_24 : decode cX12_readsWithin 24 = .ok (.aload_n 0, 1) := by decide +kernel
theorem dX12_readsWithin_25 : decode cX12_readsWithin 25 = .ok (.invokevirtual 172, 3) := by decide +kernel
theorem dX12_readsWithin_28 : decode cX12_readsWithin 28 = .ok (.ifCond .eq 13, 3) := by decide +kernel
theorem dX12_readsWithin_31 : decode cX12_readsWithin 31 = .ok (.aload_n 0, 1) := by decide +kernel
theorem dX12_readsWithin_32 : decode cX12_readsWithin 32 = .ok (.sipush 241, 3) := by decide +kernel
theorem dX12_readsWithin_35 : decode cX12_readsWithin 35 = .ok (.invokevirtual 175, 3) := by decide +kernel
theorem dX12_readsWithin_38 : decode cX12_readsWithin 38 = .ok (.ifCond .ne 5, 3) := by decide +kernel
theorem dX12_readsWithin_41 : decode cX12_readsWithin 41 = .ok (.iconst 0, 1) := by decide +kernel
theorem dX12_readsWithin_42 : decode cX12_readsWithin 42 = .ok (.ireturn, 1) := by decide +kernel
theorem dX12_readsWithin_43 : decode cX12_readsWithin 43 = .ok (.aload_n 0, 1) := by decide +kernel
theorem dX12_readsWithin_44 : decode cX12_readsWithin 44 = .ok (.dup, 1) := by decide +kernel
theorem dX12_readsWithin_45 : decode cX12_readsWithin 45 = .ok (.getfield 169, 3) := by decide +kernel
theorem dX12_readsWithin_48 : decode cX12_readsWithin 48 = .ok (.iconst 1, 1) := by decide +kernel
theorem dX12_readsWithin_49 : decode cX12_readsWithin 49 = .ok (.isub, 1) := by decide +kernel
theorem dX12_readsWithin_50 : decode cX12_readsWithin 50 = .ok (.putfield 169, 3) := by decide +kernel
theorem dX12_readsWithin_53 : decode cX12_readsWithin 53 = .ok (.iconst 1, 1) := by decide +kernel
theorem dX12_readsWithin_54 : decode cX12_readsWithin 54 = .ok (.ireturn, 1) := by decide +kernel
theorem oX12_readsWithin_0 : oP MT mX12_readsWithin 0 (1, 1, 0, 1, []) := o_aload_n dX12_readsWithin_0 rfl
theorem oX12_readsWithin_1 : oP MT mX12_readsWithin 1 (12, 3, 12, 12, []) := o_getI (M := mX12_readsWithin) (C := RX12) (T := TX12) (ci := 12) (j := 12) (z := 12) dX12_readsWithin_1 rfl lq_RX12_169 rfl rfl
theorem oX12_readsWithin_4 : oP MT mX12_readsWithin 4 (0, 1, 0, 3, []) := o_iconst dX12_readsWithin_4 (by decide)
theorem oX12_readsWithin_5 : oP MT mX12_readsWithin 5 (11, 3, 1, 10, []) := o_icmp_ne dX12_readsWithin_5 (by decide) (by decide)
theorem oX12_readsWithin_8 : oP MT mX12_readsWithin 8 (0, 1, 0, 0, []) := o_iconst dX12_readsWithin_8 (by decide)
theorem oX12_readsWithin_9 : oP MT mX12_readsWithin 9 (22, 1, 0, 0, []) := o_zret dX12_readsWithin_9 rfl
theorem oX12_readsWithin_10 : oP MT mX12_readsWithin 10 (1, 1, 0, 1, []) := o_aload_n dX12_readsWithin_10 rfl
theorem oX12_readsWithin_11 : oP MT mX12_readsWithin 11 (6, 1, 0, 0, []) := o_dup dX12_readsWithin_11
theorem oX12_readsWithin_12 : oP MT mX12_readsWithin 12 (12, 3, 12, 12, []) := o_getI (M := mX12_readsWithin) (C := RX12) (T := TX12) (ci := 12) (j := 12) (z := 12) dX12_readsWithin_12 rfl lq_RX12_169 rfl rfl
theorem oX12_readsWithin_15 : oP MT mX12_readsWithin 15 (0, 1, 0, 1, []) := o_iconst dX12_readsWithin_15 (by decide)
theorem oX12_readsWithin_16 : oP MT mX12_readsWithin 16 (4, 1, 0, 0, []) := o_iadd dX12_readsWithin_16
theorem oX12_readsWithin_17 : oP MT mX12_readsWithin 17 (14, 3, 12, 12, []) := o_putI (M := mX12_readsWithin) (C := RX12) (T := TX12) (ci := 12) (j := 12) (z := 12) dX12_readsWithin_17 rfl lq_RX12_169 rfl rfl rfl rfl
theorem oX12_readsWithin_20 : oP MT mX12_readsWithin 20 (1, 1, 0, 1, []) := o_aload_n dX12_readsWithin_20 rfl
theorem oX12_readsWithin_21 : oP MT mX12_readsWithin 21 (26, 3, 0, 0, [(12, 131)]) := o_callO ((vA.cons (v_callV dX12_readsWithin_21 (ci := 12) rfl rfl (mj := mX12_next) mt_X12_next cmq_X12_next wq_487 wq_489 wq_490 (by decide) (by decide)) vA.nil))
theorem oX12_readsWithin_24 : oP MT mX12_readsWithin 24 (1, 1, 0, 1, []) := o_aload_n dX12_readsWithin_24 rfl
theorem oX12_readsWithin_25 : oP MT mX12_readsWithin 25 (26, 3, 0, 0, [(12, 135)]) := o_callO ((vA.cons (v_callV dX12_readsWithin_25 (ci := 12) rfl rfl (mj := mX12_readsCondition) mt_X12_readsCondition cmq_X12_readsCondition wq_511 wq_513 wq_514 (by decide) (by decide)) vA.nil))
theorem oX12_readsWithin_28 : oP MT mX12_readsWithin 28 (10, 3, 0, 41, []) := o_if_eq dX12_readsWithin_28 (by decide) (by decide)
theorem oX12_readsWithin_31 : oP MT mX12_readsWithin 31 (1, 1, 0, 1, []) := o_aload_n dX12_readsWithin_31 rfl
theorem oX12_readsWithin_32 : oP MT mX12_readsWithin 32 (0, 3, 0, 241, []) := o_sipush dX12_readsWithin_32 (by decide)
theorem oX12_readsWithin_35 : oP MT mX12_readsWithin 35 (26, 3, 0, 1, [(12, 134)]) := o_callO ((vA.cons (v_callV dX12_readsWithin_35 (ci := 12) rfl rfl (mj := mX12_takes) mt_X12_takes cmq_X12_takes wq_495 wq_497 wq_498 (by decide) (by decide)) vA.nil))
theorem oX12_readsWithin_38 : oP MT mX12_readsWithin 38 (10, 3, 1, 43, []) := o_if_ne dX12_readsWithin_38 (by decide) (by decide)
theorem oX12_readsWithin_41 : oP MT mX12_readsWithin 41 (0, 1, 0, 0, []) := o_iconst dX12_readsWithin_41 (by decide)
theorem oX12_readsWithin_42 : oP MT mX12_readsWithin 42 (22, 1, 0, 0, []) := o_zret dX12_readsWithin_42 rfl
theorem oX12_readsWithin_43 : oP MT mX12_readsWithin 43 (1, 1, 0, 1, []) := o_aload_n dX12_readsWithin_43 rfl
theorem oX12_readsWithin_44 : oP MT mX12_readsWithin 44 (6, 1, 0, 0, []) := o_dup dX12_readsWithin_44
theorem oX12_readsWithin_45 : oP MT mX12_readsWithin 45 (12, 3, 12, 12, []) := o_getI (M := mX12_readsWithin) (C := RX12) (T := TX12) (ci := 12) (j := 12) (z := 12) dX12_readsWithin_45 rfl lq_RX12_169 rfl rfl
theorem oX12_readsWithin_48 : oP MT mX12_readsWithin 48 (0, 1, 0, 1, []) := o_iconst dX12_readsWithin_48 (by decide)
theorem oX12_readsWithin_49 : oP MT mX12_readsWithin 49 (4, 1, 1, 0, []) := o_isub dX12_readsWithin_49
theorem oX12_readsWithin_50 : oP MT mX12_readsWithin 50 (14, 3, 12, 12, []) := o_putI (M := mX12_readsWithin) (C := RX12) (T := TX12) (ci := 12) (j := 12) (z := 12) dX12_readsWithin_50 rfl lq_RX12_169 rfl rfl rfl rfl
theorem oX12_readsWithin_53 : oP MT mX12_readsWithin 53 (0, 1, 0, 1, []) := o_iconst dX12_readsWithin_53 (by decide)
theorem oX12_readsWithin_54 : oP MT mX12_readsWithin 54 (22, 1, 0, 0, []) := o_zret dX12_readsWithin_54 rfl
def ops_X12_readsWithin : List (Nat × aO) := [(0, (1, 1, 0, 1, [])), (1, (12, 3, 12, 12, [])), (4, (0, 1, 0, 3, [])), (5, (11, 3, 1, 10, [])), (8, (0, 1, 0, 0, [])), (9, (22, 1, 0, 0, [])), (10, (1, 1, 0, 1, [])), (11, (6, 1, 0, 0, [])), (12, (12, 3, 12, 12, [])), (15, (0, 1, 0, 1, [])), (16, (4, 1, 0, 0, [])), (17, (14, 3, 12, 12, [])), (20, (1, 1, 0, 1, [])), (21, (26, 3, 0, 0, [(12, 131)])), (24, (1, 1, 0, 1, [])), (25, (26, 3, 0, 0, [(12, 135)])), (28, (10, 3, 0, 41, [])), (31, (1, 1, 0, 1, [])), (32, (0, 3, 0, 241, [])), (35, (26, 3, 0, 1, [(12, 134)])), (38, (10, 3, 1, 43, [])), (41, (0, 1, 0, 0, [])), (42, (22, 1, 0, 0, [])), (43, (1, 1, 0, 1, [])), (44, (6, 1, 0, 0, [])), (45, (12, 3, 12, 12, [])), (48, (0, 1, 0, 1, [])), (49, (4, 1, 1, 0, [])), (50, (14, 3, 12, 12, [])), (53, (0, 1, 0, 1, [])), (54, (22, 1, 0, 0, []))]
theorem os_X12_readsWithin : oA MT mX12_readsWithin ops_X12_readsWithin := (oA.cons oX12_readsWithin_0 (oA.cons oX12_readsWithin_1 (oA.cons oX12_readsWithin_4 (oA.cons oX12_readsWithin_5 (oA.cons oX12_readsWithin_8 (oA.cons oX12_readsWithin_9 (oA.cons oX12_readsWithin_10 (oA.cons oX12_readsWithin_11 (oA.cons oX12_readsWithin_12 (oA.cons oX12_readsWithin_15 (oA.cons oX12_readsWithin_16 (oA.cons oX12_readsWithin_17 (oA.cons oX12_readsWithin_20 (oA.cons oX12_readsWithin_21 (oA.cons oX12_readsWithin_24 (oA.cons oX12_readsWithin_25 (oA.cons oX12_readsWithin_28 (oA.cons oX12_readsWithin_31 (oA.cons oX12_readsWithin_32 (oA.cons oX12_readsWithin_35 (oA.cons oX12_readsWithin_38 (oA.cons oX12_readsWithin_41 (oA.cons oX12_readsWithin_42 (oA.cons oX12_readsWithin_43 (oA.cons oX12_readsWithin_44 (oA.cons oX12_readsWithin_45 (oA.cons oX12_readsWithin_48 (oA.cons oX12_readsWithin_49 (oA.cons oX12_readsWithin_50 (oA.cons oX12_readsWithin_53 (oA.cons oX12_readsWithin_54 oA.nil)))))))))))))))))))))))))))))))
theorem dX12_readsAll_0 : decode cX12_readsAll 0 = .ok (.aload_n 0, 1) := by decide +kernel
theorem dX12_readsAll_1 : decode cX12_readsAll 1 = .ok (.invokevirtual 184, 3) := by decide +kernel
theorem dX12_readsAll_4 : decode cX12_readsAll 4 = .ok (.istore_n 1, 1) := by decide +kernel
theorem dX12_readsAll_5 : decode cX12_readsAll 5 = .ok (.iload_n 1, 1) := by decide +kernel
theorem dX12_readsAll_6 : decode cX12_readsAll 6 = .ok (.ifCond .eq 31, 3) := by decide +kernel
theorem dX12_readsAll_9 : decode cX12_readsAll 9 = .ok (.aload_n 0, 1) := by decide +kernel
theorem dX12_readsAll_10 : decode cX12_readsAll 10 = .ok (.bipush 11, 2) := by decide +kernel
theorem dX12_readsAll_12 : decode cX12_readsAll 12 = .ok (.invokevirtual 175, 3) := by decide +kernel
theorem dX12_readsAll_15 : decode cX12_readsAll 15 = .ok (.ifCond .eq 22, 3) := by decide +kernel
theorem dX12_readsAll_18 : decode cX12_readsAll 18 = .ok (.aload_n 0, 1) := by decide +kernel
theorem dX12_readsAll_19 : decode cX12_readsAll 19 = .ok (.invokevirtual 184, 3) := by decide +kernel
theorem dX12_readsAll_22 : decode cX12_readsAll 22 = .ok (.istore_n 1, 1) := by decide +kernel
theorem dX12_readsAll_23 : decode cX12_readsAll 23 = .ok (.iload_n 1, 1) := by decide +kernel
theorem dX12_readsAll_24 : decode cX12_readsAll 24 = .ok (.ifCond .eq (-19), 3) := by decide +kernel
theorem dX12_readsAll_27 : decode cX12_readsAll 27 = .ok (.aload_n 0, 1) := by decide +kernel
theorem dX12_readsAll_28 : decode cX12_readsAll 28 = .ok (.sipush 10013, 3) := by decide +kernel
theorem dX12_readsAll_31 : decode cX12_readsAll 31 = .ok (.invokevirtual 161, 3) := by decide +kernel
theorem dX12_readsAll_34 : decode cX12_readsAll 34 = .ok (.goto (-29), 3) := by decide +kernel
theorem dX12_readsAll_37 : decode cX12_readsAll 37 = .ok (.iload_n 1, 1) := by decide +kernel
theorem dX12_readsAll_38 : decode cX12_readsAll 38 = .ok (.ireturn, 1) := by decide +kernel
theorem oX12_readsAll_0 : oP MT mX12_readsAll 0 (1, 1, 0, 1, []) := o_aload_n dX12_readsAll_0 rfl
theorem oX12_readsAll_1 : oP MT mX12_readsAll 1 (26, 3, 0, 0, [(12, 136)]) := o_callO ((vA.cons (v_callV dX12_readsAll_1 (ci := 12) rfl rfl (mj := mX12_readsOne) mt_X12_readsOne cmq_X12_readsOne wq_515 wq_517 wq_518 (by decide) (by decide)) vA.nil))
theorem oX12_readsAll_4 : oP MT mX12_readsAll 4 (2, 1, 1, 0, []) := o_istore_n dX12_readsAll_4 rfl (by decide)
theorem oX12_readsAll_5 : oP MT mX12_readsAll 5 (1, 1, 1, 0, []) := o_iload_n dX12_readsAll_5 rfl
theorem oX12_readsAll_6 : oP MT mX12_readsAll 6 (10, 3, 0, 37, []) := o_if_eq dX12_readsAll_6 (by decide) (by decide)
theorem oX12_readsAll_9 : oP MT mX12_readsAll 9 (1, 1, 0, 1, []) := o_aload_n dX12_readsAll_9 rfl
theorem oX12_readsAll_10 : oP MT mX12_readsAll 10 (0, 2, 0, 11, []) := o_bipush dX12_readsAll_10 (by decide)
theorem oX12_readsAll_12 : oP MT mX12_readsAll 12 (26, 3, 0, 1, [(12, 134)]) := o_callO ((vA.cons (v_callV dX12_readsAll_12 (ci := 12) rfl rfl (mj := mX12_takes) mt_X12_takes cmq_X12_takes wq_495 wq_497 wq_498 (by decide) (by decide)) vA.nil))
theorem oX12_readsAll_15 : oP MT mX12_readsAll 15 (10, 3, 0, 37, []) := o_if_eq dX12_readsAll_15 (by decide) (by decide)
theorem oX12_readsAll_18 : oP MT mX12_readsAll 18 (1, 1, 0, 1, []) := o_aload_n dX12_readsAll_18 rfl
theorem oX12_readsAll_19 : oP MT mX12_readsAll 19 (26, 3, 0, 0, [(12, 136)]) := o_callO ((vA.cons (v_callV dX12_readsAll_19 (ci := 12) rfl rfl (mj := mX12_readsOne) mt_X12_readsOne cmq_X12_readsOne wq_515 wq_517 wq_518 (by decide) (by decide)) vA.nil))
theorem oX12_readsAll_22 : oP MT mX12_readsAll 22 (2, 1, 1, 0, []) := o_istore_n dX12_readsAll_22 rfl (by decide)
theorem oX12_readsAll_23 : oP MT mX12_readsAll 23 (1, 1, 1, 0, []) := o_iload_n dX12_readsAll_23 rfl
theorem oX12_readsAll_24 : oP MT mX12_readsAll 24 (10, 3, 0, 5, []) := o_if_eq dX12_readsAll_24 (by decide) (by decide)
theorem oX12_readsAll_27 : oP MT mX12_readsAll 27 (1, 1, 0, 1, []) := o_aload_n dX12_readsAll_27 rfl
theorem oX12_readsAll_28 : oP MT mX12_readsAll 28 (0, 3, 0, 10013, []) := o_sipush dX12_readsAll_28 (by decide)
theorem oX12_readsAll_31 : oP MT mX12_readsAll 31 (26, 3, 0, 1, [(12, 132)]) := o_callO ((vA.cons (v_callV dX12_readsAll_31 (ci := 12) rfl rfl (mj := mX12_lays) mt_X12_lays cmq_X12_lays wq_483 wq_485 wq_486 (by decide) (by decide)) vA.nil))
theorem oX12_readsAll_34 : oP MT mX12_readsAll 34 (9, 3, 5, 0, []) := o_goto dX12_readsAll_34 (by decide)
theorem oX12_readsAll_37 : oP MT mX12_readsAll 37 (1, 1, 1, 0, []) := o_iload_n dX12_readsAll_37 rfl
theorem oX12_readsAll_38 : oP MT mX12_readsAll 38 (22, 1, 0, 0, []) := o_zret dX12_readsAll_38 rfl
def ops_X12_readsAll : List (Nat × aO) := [(0, (1, 1, 0, 1, [])), (1, (26, 3, 0, 0, [(12, 136)])), (4, (2, 1, 1, 0, [])), (5, (1, 1, 1, 0, [])), (6, (10, 3, 0, 37, [])), (9, (1, 1, 0, 1, [])), (10, (0, 2, 0, 11, [])), (12, (26, 3, 0, 1, [(12, 134)])), (15, (10, 3, 0, 37, [])), (18, (1, 1, 0, 1, [])), (19, (26, 3, 0, 0, [(12, 136)])), (22, (2, 1, 1, 0, [])), (23, (1, 1, 1, 0, [])), (24, (10, 3, 0, 5, [])), (27, (1, 1, 0, 1, [])), (28, (0, 3, 0, 10013, [])), (31, (26, 3, 0, 1, [(12, 132)])), (34, (9, 3, 5, 0, [])), (37, (1, 1, 1, 0, [])), (38, (22, 1, 0, 0, []))]
theorem os_X12_readsAll : oA MT mX12_readsAll ops_X12_readsAll := (oA.cons oX12_readsAll_0 (oA.cons oX12_readsAll_1 (oA.cons oX12_readsAll_4 (oA.cons oX12_readsAll_5 (oA.cons oX12_readsAll_6 (oA.cons oX12_readsAll_9 (oA.cons oX12_readsAll_10 (oA.cons oX12_readsAll_12 (oA.cons oX12_readsAll_15 (oA.cons oX12_readsAll_18 (oA.cons oX12_readsAll_19 (oA.cons oX12_readsAll_22 (oA.cons oX12_readsAll_23 (oA.cons oX12_readsAll_24 (oA.cons oX12_readsAll_27 (oA.cons oX12_readsAll_28 (oA.cons oX12_readsAll_31 (oA.cons oX12_readsAll_34 (oA.cons oX12_readsAll_37 (oA.cons oX12_readsAll_38 oA.nil))))))))))))))))))))
theorem dX12_readsRule_0 : decode cX12_readsRule 0 = .ok (.iload_n 1, 1) := by decide +kernel
theorem dX12_readsRule_1 : decode cX12_readsRule 1 = .ok (.bipush 8, 2) := by decide +kernel
theorem dX12_readsRule_3 : decode cX12_readsRule 3 = .ok (.if_icmp .eq 15, 3) := by decide +kernel
theorem dX12_readsRule_6 : decode cX12_readsRule 6 = .ok (.aload_n 0, 1) := by decide +kernel
theorem dX12_readsRule_7 : decode cX12_readsRule 7 = .ok (.getfield 139, 3) := by decide +kernel
theorem dX12_readsRule_10 : decode cX12_readsRule 10 = .ok (.iconst 0, 1) := by decide +kernel
theorem dX12_readsRule_11 : decode cX12_readsRule 11 = .ok (.iconst 5, 1) := by decide +kernel
theorem dX12_readsRule_12 : decode cX12_readsRule 12 = .ok (.invokestatic 71, 3) := by decide +kernel
theorem dX12_readsRule_15 : decode cX12_readsRule 15 = .ok (.ifCond .ne 5, 3) := by decide +kernel
theorem dX12_readsRule_18 : decode cX12_readsRule 18 = .ok (.iconst 0, 1) := by decide +kernel
theorem dX12_readsRule_19 : decode cX12_readsRule 19 = .ok (.ireturn, 1) := by decide +kernel
theorem dX12_readsRule_20 : decode cX12_readsRule 20 = .ok (.aload_n 0, 1) := by decide +kernel
theorem dX12_readsRule_21 : decode cX12_readsRule 21 = .ok (.getfield 32, 3) := by decide +kernel
theorem dX12_readsRule_24 : decode cX12_readsRule 24 = .ok (.iconst 3, 1) := by decide +kernel
theorem dX12_readsRule_25 : decode cX12_readsRule 25 = .ok (.iload_n 1, 1) := by decide +kernel
theorem dX12_readsRule_26 : decode cX12_readsRule 26 = .ok (.imul, 1) := by decide +kernel
theorem dX12_readsRule_27 : decode cX12_readsRule 27 = .ok (.aload_n 0, 1) := by decide +kernel
theorem dX12_readsRule_28 : decode cX12_readsRule 28 = .ok (.getfield 139, 3) := by decide +kernel
theorem dX12_readsRule_31 : decode cX12_readsRule 31 = .ok (.iastore, 1) := by decide +kernel
theorem dX12_readsRule_32 : decode cX12_readsRule 32 = .ok (.aload_n 0, 1) := by decide +kernel
theorem dX12_readsRule_33 : decode cX12_readsRule 33 = .ok (.invokevirtual 155, 3) := by decide +kernel
theorem dX12_readsRule_36 : decode cX12_readsRule 36 = .ok (.aload_n 0, 1) := by decide +kernel
theorem dX12_readsRule_37 : decode cX12_readsRule 37 = .ok (.iconst 0, 1) := by decide +kernel
theorem dX12_readsRule_38 : decode cX12_readsRule 38 = .ok (.putfield 169, 3) := by decide +kernel
theorem dX12_readsRule_41 : decode cX12_readsRule 41 = .ok (.aload_n 0, 1) := by decide +kernel
theorem dX12_readsRule_42 : decode cX12_readsRule 42 = .ok (.bipush 9, 2) := by decide +kernel
theorem dX12_readsRule_44 : decode cX12_readsRule 44 = .ok (.invokevirtual 175, 3) := by decide +kernel
theorem dX12_readsRule_47 : decode cX12_readsRule 47 = .ok (.ifCond .eq 12, 3) := by decide +kernel
theorem dX12_readsRule_50 : decode cX12_readsRule 50 = .ok (.aload_n 0, 1) := by decide +kernel
theorem dX12_readsRule_51 : decode cX12_readsRule 51 = .ok (.invokevirtual 172, 3) := by decide +kernel
theorem dX12_readsRule_54 : decode cX12_readsRule 54 = .ok (.ifCond .ne 5, 3) := by decide +kernel
theorem dX12_readsRule_57 : decode cX12_readsRule 57 = .ok (.iconst 0, 1) := by decide +kernel
theorem dX12_readsRule_58 : decode cX12_readsRule 58 = .ok (.ireturn, 1) := by decide +kernel
theorem dX12_readsRule_59 : decode cX12_readsRule 59 = .ok (.aload_n 0, 1) := by decide +kernel
theorem dX12_readsRule_60 : decode cX12_readsRule 60 = .ok (.getfield 139, 3) := by decide +kernel
theorem dX12_readsRule_63 : decode cX12_readsRule 63 = .ok (.bipush 6, 2) := by decide +kernel
theorem dX12_readsRule_65 : decode cX12_readsRule 65 = .ok (.bipush 8, 2) := by decide +kernel
theorem dX12_readsRule_67 : decode cX12_readsRule 67 = .ok (.invokestatic 71, 3) := by decide +kernel
theorem dX12_readsRule_70 : decode cX12_readsRule 70 = .ok (.ifCond .ne 5, 3) := by decide +kernel
theorem dX12_readsRule_73 : decode cX12_readsRule 73 = .ok (.iconst 0, 1) := by decide +kernel
theorem dX12_readsRule_74 : decode cX12_readsRule 74 = .ok (.ireturn, 1) := by decide +kernel
theorem dX12_readsRule_75 : decode cX12_readsRule 75 = .ok (.aload_n 0, 1) := by decide +kernel
theorem dX12_readsRule_76 : decode cX12_readsRule 76 = .ok (.getfield 32, 3) := by decide +kernel
theorem dX12_readsRule_79 : decode cX12_readsRule 79 = .ok (.iconst 3, 1) := by decide +kernel
theorem dX12_readsRule_80 : decode cX12_readsRule 80 = .ok (.iload_n 1, 1) := by decide +kernel
theorem dX12_readsRule_81 : decode cX12_readsRule 81 = .ok (.imul, 1) := by decide +kernel
theorem dX12_readsRule_82 : decode cX12_readsRule 82 = .ok (.iconst 1, 1) := by decide +kernel
theorem dX12_readsRule_83 : decode cX12_readsRule 83 = .ok (.iadd, 1) := by decide +kernel
theorem dX12_readsRule_84 : decode cX12_readsRule 84 = .ok (.aload_n 0, 1) := by decide +kernel
theorem dX12_readsRule_85 : decode cX12_readsRule 85 = .ok (.getfield 139, 3) := by decide +kernel
theorem dX12_readsRule_88 : decode cX12_readsRule 88 = .ok (.bipush 6, 2) := by decide +kernel
theorem dX12_readsRule_90 : decode cX12_readsRule 90 = .ok (.isub, 1) := by decide +kernel
theorem dX12_readsRule_91 : decode cX12_readsRule 91 = .ok (.iastore, 1) := by decide +kernel
theorem dX12_readsRule_92 : decode cX12_readsRule 92 = .ok (.aload_n 0, 1) := by decide +kernel
theorem dX12_readsRule_93 : decode cX12_readsRule 93 = .ok (.getfield 32, 3) := by decide +kernel
theorem dX12_readsRule_96 : decode cX12_readsRule 96 = .ok (.iconst 3, 1) := by decide +kernel
theorem dX12_readsRule_97 : decode cX12_readsRule 97 = .ok (.iload_n 1, 1) := by decide +kernel
theorem dX12_readsRule_98 : decode cX12_readsRule 98 = .ok (.imul, 1) := by decide +kernel
theorem dX12_readsRule_99 : decode cX12_readsRule 99 = .ok (.iconst 2, 1) := by decide +kernel
theorem dX12_readsRule_100 : decode cX12_readsRule 100 = .ok (.iadd, 1) := by decide +kernel
theorem dX12_readsRule_101 : decode cX12_readsRule 101 = .ok (.aload_n 0, 1) := by decide +kernel
theorem dX12_readsRule_102 : decode cX12_readsRule 102 = .ok (.getfield 158, 3) := by decide +kernel
theorem dX12_readsRule_105 : decode cX12_readsRule 105 = .ok (.iastore, 1) := by decide +kernel
theorem dX12_readsRule_106 : decode cX12_readsRule 106 = .ok (.aload_n 0, 1) := by decide +kernel
theorem dX12_readsRule_107 : decode cX12_readsRule 107 = .ok (.invokevirtual 155, 3) := by decide +kernel
theorem dX12_readsRule_110 : decode cX12_readsRule 110 = .ok (.aload_n 0, 1) := by decide +kernel
theorem dX12_readsRule_111 : decode cX12_readsRule 111 = .ok (.sipush 259, 3) := by decide +kernel
theorem dX12_readsRule_114 : decode cX12_readsRule 114 = .ok (.invokevirtual 175, 3) := by decide +kernel
theorem dX12_readsRule_117 : decode cX12_readsRule 117 = .ok (.ireturn, 1) := by decide +kernel
theorem oX12_readsRule_0 : oP MT mX12_readsRule 0 (1, 1, 1, 0, []) := o_iload_n dX12_readsRule_0 rfl
theorem oX12_readsRule_1 : oP MT mX12_readsRule 1 (0, 2, 0, 8, []) := o_bipush dX12_readsRule_1 (by decide)
theorem oX12_readsRule_3 : oP MT mX12_readsRule 3 (11, 3, 0, 18, []) := o_icmp_eq dX12_readsRule_3 (by decide) (by decide)
theorem oX12_readsRule_6 : oP MT mX12_readsRule 6 (1, 1, 0, 1, []) := o_aload_n dX12_readsRule_6 rfl
theorem oX12_readsRule_7 : oP MT mX12_readsRule 7 (12, 3, 10, 12, []) := o_getI (M := mX12_readsRule) (C := RX12) (T := TX12) (ci := 12) (j := 10) (z := 12) dX12_readsRule_7 rfl lq_RX12_139 rfl rfl
theorem oX12_readsRule_10 : oP MT mX12_readsRule 10 (0, 1, 0, 0, []) := o_iconst dX12_readsRule_10 (by decide)
theorem oX12_readsRule_11 : oP MT mX12_readsRule 11 (0, 1, 0, 5, []) := o_iconst dX12_readsRule_11 (by decide)
theorem oX12_readsRule_12 : oP MT mX12_readsRule 12 (25, 3, 127, 3, []) := o_callS dX12_readsRule_12 (mj := mX12_in1) mt_X12_in1 cmq_X12_in1 wq_468 wq_470 (by decide) (by decide)
theorem oX12_readsRule_15 : oP MT mX12_readsRule 15 (10, 3, 1, 20, []) := o_if_ne dX12_readsRule_15 (by decide) (by decide)
theorem oX12_readsRule_18 : oP MT mX12_readsRule 18 (0, 1, 0, 0, []) := o_iconst dX12_readsRule_18 (by decide)
theorem oX12_readsRule_19 : oP MT mX12_readsRule 19 (22, 1, 0, 0, []) := o_zret dX12_readsRule_19 rfl
theorem oX12_readsRule_20 : oP MT mX12_readsRule 20 (1, 1, 0, 1, []) := o_aload_n dX12_readsRule_20 rfl
theorem oX12_readsRule_21 : oP MT mX12_readsRule 21 (13, 3, 15, 12, []) := o_getR (M := mX12_readsRule) (C := RX12) (T := TX12) (ci := 12) (j := 15) (z := 12) dX12_readsRule_21 rfl lq_RX12_32 rfl rfl
theorem oX12_readsRule_24 : oP MT mX12_readsRule 24 (0, 1, 0, 3, []) := o_iconst dX12_readsRule_24 (by decide)
theorem oX12_readsRule_25 : oP MT mX12_readsRule 25 (1, 1, 1, 0, []) := o_iload_n dX12_readsRule_25 rfl
theorem oX12_readsRule_26 : oP MT mX12_readsRule 26 (4, 1, 2, 0, []) := o_imul dX12_readsRule_26
theorem oX12_readsRule_27 : oP MT mX12_readsRule 27 (1, 1, 0, 1, []) := o_aload_n dX12_readsRule_27 rfl
theorem oX12_readsRule_28 : oP MT mX12_readsRule 28 (12, 3, 10, 12, []) := o_getI (M := mX12_readsRule) (C := RX12) (T := TX12) (ci := 12) (j := 10) (z := 12) dX12_readsRule_28 rfl lq_RX12_139 rfl rfl
theorem oX12_readsRule_31 : oP MT mX12_readsRule 31 (18, 1, 0, 0, []) := o_iastore dX12_readsRule_31
theorem oX12_readsRule_32 : oP MT mX12_readsRule 32 (1, 1, 0, 1, []) := o_aload_n dX12_readsRule_32 rfl
theorem oX12_readsRule_33 : oP MT mX12_readsRule 33 (26, 3, 0, 0, [(12, 131)]) := o_callO ((vA.cons (v_callV dX12_readsRule_33 (ci := 12) rfl rfl (mj := mX12_next) mt_X12_next cmq_X12_next wq_487 wq_489 wq_490 (by decide) (by decide)) vA.nil))
theorem oX12_readsRule_36 : oP MT mX12_readsRule 36 (1, 1, 0, 1, []) := o_aload_n dX12_readsRule_36 rfl
theorem oX12_readsRule_37 : oP MT mX12_readsRule 37 (0, 1, 0, 0, []) := o_iconst dX12_readsRule_37 (by decide)
theorem oX12_readsRule_38 : oP MT mX12_readsRule 38 (14, 3, 12, 12, []) := o_putI (M := mX12_readsRule) (C := RX12) (T := TX12) (ci := 12) (j := 12) (z := 12) dX12_readsRule_38 rfl lq_RX12_169 rfl rfl rfl rfl
theorem oX12_readsRule_41 : oP MT mX12_readsRule 41 (1, 1, 0, 1, []) := o_aload_n dX12_readsRule_41 rfl
theorem oX12_readsRule_42 : oP MT mX12_readsRule 42 (0, 2, 0, 9, []) := o_bipush dX12_readsRule_42 (by decide)
theorem oX12_readsRule_44 : oP MT mX12_readsRule 44 (26, 3, 0, 1, [(12, 134)]) := o_callO ((vA.cons (v_callV dX12_readsRule_44 (ci := 12) rfl rfl (mj := mX12_takes) mt_X12_takes cmq_X12_takes wq_495 wq_497 wq_498 (by decide) (by decide)) vA.nil))
theorem oX12_readsRule_47 : oP MT mX12_readsRule 47 (10, 3, 0, 59, []) := o_if_eq dX12_readsRule_47 (by decide) (by decide)
theorem oX12_readsRule_50 : oP MT mX12_readsRule 50 (1, 1, 0, 1, []) := o_aload_n dX12_readsRule_50 rfl
theorem oX12_readsRule_51 : oP MT mX12_readsRule 51 (26, 3, 0, 0, [(12, 135)]) := o_callO ((vA.cons (v_callV dX12_readsRule_51 (ci := 12) rfl rfl (mj := mX12_readsCondition) mt_X12_readsCondition cmq_X12_readsCondition wq_511 wq_513 wq_514 (by decide) (by decide)) vA.nil))
theorem oX12_readsRule_54 : oP MT mX12_readsRule 54 (10, 3, 1, 59, []) := o_if_ne dX12_readsRule_54 (by decide) (by decide)
theorem oX12_readsRule_57 : oP MT mX12_readsRule 57 (0, 1, 0, 0, []) := o_iconst dX12_readsRule_57 (by decide)
theorem oX12_readsRule_58 : oP MT mX12_readsRule 58 (22, 1, 0, 0, []) := o_zret dX12_readsRule_58 rfl
theorem oX12_readsRule_59 : oP MT mX12_readsRule 59 (1, 1, 0, 1, []) := o_aload_n dX12_readsRule_59 rfl
theorem oX12_readsRule_60 : oP MT mX12_readsRule 60 (12, 3, 10, 12, []) := o_getI (M := mX12_readsRule) (C := RX12) (T := TX12) (ci := 12) (j := 10) (z := 12) dX12_readsRule_60 rfl lq_RX12_139 rfl rfl
theorem oX12_readsRule_63 : oP MT mX12_readsRule 63 (0, 2, 0, 6, []) := o_bipush dX12_readsRule_63 (by decide)
theorem oX12_readsRule_65 : oP MT mX12_readsRule 65 (0, 2, 0, 8, []) := o_bipush dX12_readsRule_65 (by decide)
theorem oX12_readsRule_67 : oP MT mX12_readsRule 67 (25, 3, 127, 3, []) := o_callS dX12_readsRule_67 (mj := mX12_in1) mt_X12_in1 cmq_X12_in1 wq_468 wq_470 (by decide) (by decide)
theorem oX12_readsRule_70 : oP MT mX12_readsRule 70 (10, 3, 1, 75, []) := o_if_ne dX12_readsRule_70 (by decide) (by decide)
theorem oX12_readsRule_73 : oP MT mX12_readsRule 73 (0, 1, 0, 0, []) := o_iconst dX12_readsRule_73 (by decide)
theorem oX12_readsRule_74 : oP MT mX12_readsRule 74 (22, 1, 0, 0, []) := o_zret dX12_readsRule_74 rfl
theorem oX12_readsRule_75 : oP MT mX12_readsRule 75 (1, 1, 0, 1, []) := o_aload_n dX12_readsRule_75 rfl
theorem oX12_readsRule_76 : oP MT mX12_readsRule 76 (13, 3, 15, 12, []) := o_getR (M := mX12_readsRule) (C := RX12) (T := TX12) (ci := 12) (j := 15) (z := 12) dX12_readsRule_76 rfl lq_RX12_32 rfl rfl
theorem oX12_readsRule_79 : oP MT mX12_readsRule 79 (0, 1, 0, 3, []) := o_iconst dX12_readsRule_79 (by decide)
theorem oX12_readsRule_80 : oP MT mX12_readsRule 80 (1, 1, 1, 0, []) := o_iload_n dX12_readsRule_80 rfl
theorem oX12_readsRule_81 : oP MT mX12_readsRule 81 (4, 1, 2, 0, []) := o_imul dX12_readsRule_81
theorem oX12_readsRule_82 : oP MT mX12_readsRule 82 (0, 1, 0, 1, []) := o_iconst dX12_readsRule_82 (by decide)
theorem oX12_readsRule_83 : oP MT mX12_readsRule 83 (4, 1, 0, 0, []) := o_iadd dX12_readsRule_83
theorem oX12_readsRule_84 : oP MT mX12_readsRule 84 (1, 1, 0, 1, []) := o_aload_n dX12_readsRule_84 rfl
theorem oX12_readsRule_85 : oP MT mX12_readsRule 85 (12, 3, 10, 12, []) := o_getI (M := mX12_readsRule) (C := RX12) (T := TX12) (ci := 12) (j := 10) (z := 12) dX12_readsRule_85 rfl lq_RX12_139 rfl rfl
theorem oX12_readsRule_88 : oP MT mX12_readsRule 88 (0, 2, 0, 6, []) := o_bipush dX12_readsRule_88 (by decide)
theorem oX12_readsRule_90 : oP MT mX12_readsRule 90 (4, 1, 1, 0, []) := o_isub dX12_readsRule_90
theorem oX12_readsRule_91 : oP MT mX12_readsRule 91 (18, 1, 0, 0, []) := o_iastore dX12_readsRule_91
theorem oX12_readsRule_92 : oP MT mX12_readsRule 92 (1, 1, 0, 1, []) := o_aload_n dX12_readsRule_92 rfl
theorem oX12_readsRule_93 : oP MT mX12_readsRule 93 (13, 3, 15, 12, []) := o_getR (M := mX12_readsRule) (C := RX12) (T := TX12) (ci := 12) (j := 15) (z := 12) dX12_readsRule_93 rfl lq_RX12_32 rfl rfl
theorem oX12_readsRule_96 : oP MT mX12_readsRule 96 (0, 1, 0, 3, []) := o_iconst dX12_readsRule_96 (by decide)
theorem oX12_readsRule_97 : oP MT mX12_readsRule 97 (1, 1, 1, 0, []) := o_iload_n dX12_readsRule_97 rfl
theorem oX12_readsRule_98 : oP MT mX12_readsRule 98 (4, 1, 2, 0, []) := o_imul dX12_readsRule_98
theorem oX12_readsRule_99 : oP MT mX12_readsRule 99 (0, 1, 0, 2, []) := o_iconst dX12_readsRule_99 (by decide)
theorem oX12_readsRule_100 : oP MT mX12_readsRule 100 (4, 1, 0, 0, []) := o_iadd dX12_readsRule_100
theorem oX12_readsRule_101 : oP MT mX12_readsRule 101 (1, 1, 0, 1, []) := o_aload_n dX12_readsRule_101 rfl
theorem oX12_readsRule_102 : oP MT mX12_readsRule 102 (12, 3, 13, 12, []) := o_getI (M := mX12_readsRule) (C := RX12) (T := TX12) (ci := 12) (j := 13) (z := 12) dX12_readsRule_102 rfl lq_RX12_158 rfl rfl
theorem oX12_readsRule_105 : oP MT mX12_readsRule 105 (18, 1, 0, 0, []) := o_iastore dX12_readsRule_105
theorem oX12_readsRule_106 : oP MT mX12_readsRule 106 (1, 1, 0, 1, []) := o_aload_n dX12_readsRule_106 rfl
theorem oX12_readsRule_107 : oP MT mX12_readsRule 107 (26, 3, 0, 0, [(12, 131)]) := o_callO ((vA.cons (v_callV dX12_readsRule_107 (ci := 12) rfl rfl (mj := mX12_next) mt_X12_next cmq_X12_next wq_487 wq_489 wq_490 (by decide) (by decide)) vA.nil))
theorem oX12_readsRule_110 : oP MT mX12_readsRule 110 (1, 1, 0, 1, []) := o_aload_n dX12_readsRule_110 rfl
theorem oX12_readsRule_111 : oP MT mX12_readsRule 111 (0, 3, 0, 259, []) := o_sipush dX12_readsRule_111 (by decide)
theorem oX12_readsRule_114 : oP MT mX12_readsRule 114 (26, 3, 0, 1, [(12, 134)]) := o_callO ((vA.cons (v_callV dX12_readsRule_114 (ci := 12) rfl rfl (mj := mX12_takes) mt_X12_takes cmq_X12_takes wq_495 wq_497 wq_498 (by decide) (by decide)) vA.nil))
theorem oX12_readsRule_117 : oP MT mX12_readsRule 117 (22, 1, 0, 0, []) := o_zret dX12_readsRule_117 rfl
def ops_X12_readsRule : List (Nat × aO) := [(0, (1, 1, 1, 0, [])), (1, (0, 2, 0, 8, [])), (3, (11, 3, 0, 18, [])), (6, (1, 1, 0, 1, [])), (7, (12, 3, 10, 12, [])), (10, (0, 1, 0, 0, [])), (11, (0, 1, 0, 5, [])), (12, (25, 3, 127, 3, [])), (15, (10, 3, 1, 20, [])), (18, (0, 1, 0, 0, [])), (19, (22, 1, 0, 0, [])), (20, (1, 1, 0, 1, [])), (21, (13, 3, 15, 12, [])), (24, (0, 1, 0, 3, [])), (25, (1, 1, 1, 0, [])), (26, (4, 1, 2, 0, [])), (27, (1, 1, 0, 1, [])), (28, (12, 3, 10, 12, [])), (31, (18, 1, 0, 0, [])), (32, (1, 1, 0, 1, [])), (33, (26, 3, 0, 0, [(12, 131)])), (36, (1, 1, 0, 1, [])), (37, (0, 1, 0, 0, [])), (38, (14, 3, 12, 12, [])), (41, (1, 1, 0, 1, [])), (42, (0, 2, 0, 9, [])), (44, (26, 3, 0, 1, [(12, 134)])), (47, (10, 3, 0, 59, [])), (50, (1, 1, 0, 1, [])), (51, (26, 3, 0, 0, [(12, 135)])), (54, (10, 3, 1, 59, [])), (57, (0, 1, 0, 0, [])), (58, (22, 1, 0, 0, [])), (59, (1, 1, 0, 1, [])), (60, (12, 3, 10, 12, [])), (63, (0, 2, 0, 6, [])), (65, (0, 2, 0, 8, [])), (67, (25, 3, 127, 3, [])), (70, (10, 3, 1, 75, [])), (73, (0, 1, 0, 0, [])), (74, (22, 1, 0, 0, [])), (75, (1, 1, 0, 1, [])), (76, (13, 3, 15, 12, [])), (79, (0, 1, 0, 3, [])), (80, (1, 1, 1, 0, [])), (81, (4, 1, 2, 0, [])), (82, (0, 1, 0, 1, [])), (83, (4, 1, 0, 0, [])), (84, (1, 1, 0, 1, [])), (85, (12, 3, 10, 12, [])), (88, (0, 2, 0, 6, [])), (90, (4, 1, 1, 0, [])), (91, (18, 1, 0, 0, [])), (92, (1, 1, 0, 1, [])), (93, (13, 3, 15, 12, [])), (96, (0, 1, 0, 3, [])), (97, (1, 1, 1, 0, [])), (98, (4, 1, 2, 0, [])), (99, (0, 1, 0, 2, [])), (100, (4, 1, 0, 0, [])), (101, (1, 1, 0, 1, [])), (102, (12, 3, 13, 12, [])), (105, (18, 1, 0, 0, [])), (106, (1, 1, 0, 1, [])), (107, (26, 3, 0, 0, [(12, 131)])), (110, (1, 1, 0, 1, [])), (111, (0, 3, 0, 259, [])), (114, (26, 3, 0, 1, [(12, 134)])), (117, (22, 1, 0, 0, []))]
theorem os_X12_readsRule : oA MT mX12_readsRule ops_X12_readsRule := (oA.cons oX12_readsRule_0 (oA.cons oX12_readsRule_1 (oA.cons oX12_readsRule_3 (oA.cons oX12_readsRule_6 (oA.cons oX12_readsRule_7 (oA.cons oX12_readsRule_10 (oA.cons oX12_readsRule_11 (oA.cons oX12_readsRule_12 (oA.cons oX12_readsRule_15 (oA.cons oX12_readsRule_18 (oA.cons oX12_readsRule_19 (oA.cons oX12_readsRule_20 (oA.cons oX12_readsRule_21 (oA.cons oX12_readsRule_24 (oA.cons oX12_readsRule_25 (oA.cons oX12_readsRule_26 (oA.cons oX12_readsRule_27 (oA.cons oX12_readsRule_28 (oA.cons oX12_readsRule_31 (oA.cons oX12_readsRule_32 (oA.cons oX12_readsRule_33 (oA.cons oX12_readsRule_36 (oA.cons oX12_readsRule_37 (oA.cons oX12_readsRule_38 (oA.cons oX12_readsRule_41 (oA.cons oX12_readsRule_42 (oA.cons oX12_readsRule_44 (oA.cons oX12_readsRule_47 (oA.cons oX12_readsRule_50 (oA.cons oX12_readsRule_51 (oA.cons oX12_readsRule_54 (oA.cons oX12_readsRule_57 (oA.cons oX12_readsRule_58 (oA.cons oX12_readsRule_59 (oA.cons oX12_readsRule_60 (oA.cons oX12_readsRule_63 (oA.cons oX12_readsRule_65 (oA.cons oX12_readsRule_67 (oA.cons oX12_readsRule_70 (oA.cons oX12_readsRule_73 (oA.cons oX12_readsRule_74 (oA.cons oX12_readsRule_75 (oA.cons oX12_readsRule_76 (oA.cons oX12_readsRule_79 (oA.cons oX12_readsRule_80 (oA.cons oX12_readsRule_81 (oA.cons oX12_readsRule_82 (oA.cons oX12_readsRule_83 (oA.cons oX12_readsRule_84 (oA.cons oX12_readsRule_85 (oA.cons oX12_readsRule_88 (oA.cons oX12_readsRule_90 (oA.cons oX12_readsRule_91 (oA.cons oX12_readsRule_92 (oA.cons oX12_readsRule_93 (oA.cons oX12_readsRule_96 (oA.cons oX12_readsRule_97 (oA.cons oX12_readsRule_98 (oA.cons oX12_readsRule_99 (oA.cons oX12_readsRule_100 (oA.cons oX12_readsRule_101 (oA.cons oX12_readsRule_102 (oA.cons oX12_readsRule_105 (oA.cons oX12_readsRule_106 (oA.cons oX12_readsRule_107 (oA.cons oX12_readsRule_110 (oA.cons oX12_readsRule_111 (oA.cons oX12_readsRule_114 (oA.cons oX12_readsRule_117 oA.nil)))))))))))))))))))))))))))))))))))))))))))))))))))))))))))))))))))))
theorem dX12_puts_0 : decode cX12_puts 0 = .ok (.aload_n 0, 1) := by decide +kernel
theorem dX12_puts_1 : decode cX12_puts 1 = .ok (.getfield 9, 3) := by decide +kernel
theorem dX12_puts_4 : decode cX12_puts 4 = .ok (.bipush 35, 2) := by decide +kernel
theorem dX12_puts_6 : decode cX12_puts 6 = .ok (.iconst 5, 1) := by decide +kernel
theorem dX12_puts_7 : decode cX12_puts 7 = .ok (.iload_n 1, 1) := by decide +kernel
theorem dX12_puts_8 : decode cX12_puts 8 = .ok (.imul, 1) := by decide +kernel
theorem dX12_puts_9 : decode cX12_puts 9 = .ok (.iadd, 1) := by decide +kernel
theorem dX12_puts_10 : decode cX12_puts 10 = .ok (.iload_n 2, 1) := by decide +kernel
theorem dX12_puts_11 : decode cX12_puts 11 = .ok (.iadd, 1) := by decide +kernel
theorem dX12_puts_12 : decode cX12_puts 12 = .ok (.iload_n 3, 1) := by decide +kernel
theorem dX12_puts_13 : decode cX12_puts 13 = .ok (.iastore, 1) := by decide +kernel
theorem dX12_puts_14 : decode cX12_puts 14 = .ok (.return_, 1) := by decide +kernel
theorem oX12_puts_0 : oP MT mX12_puts 0 (1, 1, 0, 1, []) := o_aload_n dX12_puts_0 rfl
theorem oX12_puts_1 : oP MT mX12_puts 1 (13, 3, 0, 12, []) := o_getR (M := mX12_puts) (C := RX12) (T := TX12) (ci := 12) (j := 0) (z := 12) dX12_puts_1 rfl lq_RX12_9 rfl rfl
theorem oX12_puts_4 : oP MT mX12_puts 4 (0, 2, 0, 35, []) := o_bipush dX12_puts_4 (by decide)
theorem oX12_puts_6 : oP MT mX12_puts 6 (0, 1, 0, 5, []) := o_iconst dX12_puts_6 (by decide)
theorem oX12_puts_7 : oP MT mX12_puts 7 (1, 1, 1, 0, []) := o_iload_n dX12_puts_7 rfl
theorem oX12_puts_8 : oP MT mX12_puts 8 (4, 1, 2, 0, []) := o_imul dX12_puts_8
theorem oX12_puts_9 : oP MT mX12_puts 9 (4, 1, 0, 0, []) := o_iadd dX12_puts_9
theorem oX12_puts_10 : oP MT mX12_puts 10 (1, 1, 2, 0, []) := o_iload_n dX12_puts_10 rfl
theorem oX12_puts_11 : oP MT mX12_puts 11 (4, 1, 0, 0, []) := o_iadd dX12_puts_11
theorem oX12_puts_12 : oP MT mX12_puts 12 (1, 1, 3, 0, []) := o_iload_n dX12_puts_12 rfl
theorem oX12_puts_13 : oP MT mX12_puts 13 (18, 1, 0, 0, []) := o_iastore dX12_puts_13
theorem oX12_puts_14 : oP MT mX12_puts 14 (23, 1, 0, 0, []) := o_vret dX12_puts_14 rfl
def ops_X12_puts : List (Nat × aO) := [(0, (1, 1, 0, 1, [])), (1, (13, 3, 0, 12, [])), (4, (0, 2, 0, 35, [])), (6, (0, 1, 0, 5, [])), (7, (1, 1, 1, 0, [])), (8, (4, 1, 2, 0, [])), (9, (4, 1, 0, 0, [])), (10, (1, 1, 2, 0, [])), (11, (4, 1, 0, 0, [])), (12, (1, 1, 3, 0, [])), (13, (18, 1, 0, 0, [])), (14, (23, 1, 0, 0, []))]
theorem os_X12_puts : oA MT mX12_puts ops_X12_puts := (oA.cons oX12_puts_0 (oA.cons oX12_puts_1 (oA.cons oX12_puts_4 (oA.cons oX12_puts_6 (oA.cons oX12_puts_7 (oA.cons oX12_puts_8 (oA.cons oX12_puts_9 (oA.cons oX12_puts_10 (oA.cons oX12_puts_11 (oA.cons oX12_puts_12 (oA.cons oX12_puts_13 (oA.cons oX12_puts_14 oA.nil))))))))))))
theorem dX12_turnsNow_0 : decode cX12_turnsNow 0 = .ok (.aload_n 0, 1) := by decide +kernel
theorem dX12_turnsNow_1 : decode cX12_turnsNow 1 = .ok (.iload_n 1, 1) := by decide +kernel
theorem dX12_turnsNow_2 : decode cX12_turnsNow 2 = .ok (.invokevirtual 107, 3) := by decide +kernel
theorem dX12_turnsNow_5 : decode cX12_turnsNow 5 = .ok (.istore_n 2, 1) := by decide +kernel
theorem dX12_turnsNow_6 : decode cX12_turnsNow 6 = .ok (.aload_n 0, 1) := by decide +kernel
theorem dX12_turnsNow_7 : decode cX12_turnsNow 7 = .ok (.iload_n 1, 1) := by decide +kernel
theorem dX12_turnsNow_8 : decode cX12_turnsNow 8 = .ok (.iconst 4, 1) := by decide +kernel
theorem dX12_turnsNow_9 : decode cX12_turnsNow 9 = .ok (.iload_n 2, 1) := by decide +kernel
theorem dX12_turnsNow_10 : decode cX12_turnsNow 10 = .ok (.ifCond .le 7, 3) := by decide +kernel
theorem dX12_turnsNow_13 : decode cX12_turnsNow 13 = .ok (.iconst 1, 1) := by decide +kernel
theorem dX12_turnsNow_14 : decode cX12_turnsNow 14 = .ok (.goto 4, 3) := by decide +kernel
theorem dX12_turnsNow_17 : decode cX12_turnsNow 17 = .ok (.iconst 0, 1) := by decide +kernel
theorem dX12_turnsNow_18 : decode cX12_turnsNow 18 = .ok (.invokevirtual 195, 3) := by decide +kernel
theorem dX12_turnsNow_21 : decode cX12_turnsNow 21 = .ok (.iload_n 2, 1) := by decide +kernel
theorem dX12_turnsNow_22 : decode cX12_turnsNow 22 = .ok (.ireturn, 1) := by decide +kernel
theorem oX12_turnsNow_0 : oP MT mX12_turnsNow 0 (1, 1, 0, 1, []) := o_aload_n dX12_turnsNow_0 rfl
theorem oX12_turnsNow_1 : oP MT mX12_turnsNow 1 (1, 1, 1, 0, []) := o_iload_n dX12_turnsNow_1 rfl
theorem oX12_turnsNow_2 : oP MT mX12_turnsNow 2 (26, 3, 0, 1, [(12, 121)]) := o_callO ((vA.cons (v_callV dX12_turnsNow_2 (ci := 12) rfl rfl (mj := mX12_paysOf) mt_X12_paysOf cmq_X12_paysOf wq_519 wq_521 wq_522 (by decide) (by decide)) vA.nil))
theorem oX12_turnsNow_5 : oP MT mX12_turnsNow 5 (2, 1, 2, 0, []) := o_istore_n dX12_turnsNow_5 rfl (by decide)
theorem oX12_turnsNow_6 : oP MT mX12_turnsNow 6 (1, 1, 0, 1, []) := o_aload_n dX12_turnsNow_6 rfl
theorem oX12_turnsNow_7 : oP MT mX12_turnsNow 7 (1, 1, 1, 0, []) := o_iload_n dX12_turnsNow_7 rfl
theorem oX12_turnsNow_8 : oP MT mX12_turnsNow 8 (0, 1, 0, 4, []) := o_iconst dX12_turnsNow_8 (by decide)
theorem oX12_turnsNow_9 : oP MT mX12_turnsNow 9 (1, 1, 2, 0, []) := o_iload_n dX12_turnsNow_9 rfl
theorem oX12_turnsNow_10 : oP MT mX12_turnsNow 10 (10, 3, 5, 17, []) := o_if_le dX12_turnsNow_10 (by decide) (by decide)
theorem oX12_turnsNow_13 : oP MT mX12_turnsNow 13 (0, 1, 0, 1, []) := o_iconst dX12_turnsNow_13 (by decide)
theorem oX12_turnsNow_14 : oP MT mX12_turnsNow 14 (9, 3, 18, 0, []) := o_goto dX12_turnsNow_14 (by decide)
theorem oX12_turnsNow_17 : oP MT mX12_turnsNow 17 (0, 1, 0, 0, []) := o_iconst dX12_turnsNow_17 (by decide)
theorem oX12_turnsNow_18 : oP MT mX12_turnsNow 18 (26, 3, 0, 3, [(12, 141)]) := o_callO ((vA.cons (v_callV dX12_turnsNow_18 (ci := 12) rfl rfl (mj := mX12_puts) mt_X12_puts cmq_X12_puts wq_523 wq_525 wq_526 (by decide) (by decide)) vA.nil))
theorem oX12_turnsNow_21 : oP MT mX12_turnsNow 21 (1, 1, 2, 0, []) := o_iload_n dX12_turnsNow_21 rfl
theorem oX12_turnsNow_22 : oP MT mX12_turnsNow 22 (21, 1, 0, 0, []) := o_iret dX12_turnsNow_22 rfl
def ops_X12_turnsNow : List (Nat × aO) := [(0, (1, 1, 0, 1, [])), (1, (1, 1, 1, 0, [])), (2, (26, 3, 0, 1, [(12, 121)])), (5, (2, 1, 2, 0, [])), (6, (1, 1, 0, 1, [])), (7, (1, 1, 1, 0, [])), (8, (0, 1, 0, 4, [])), (9, (1, 1, 2, 0, [])), (10, (10, 3, 5, 17, [])), (13, (0, 1, 0, 1, [])), (14, (9, 3, 18, 0, [])), (17, (0, 1, 0, 0, [])), (18, (26, 3, 0, 3, [(12, 141)])), (21, (1, 1, 2, 0, [])), (22, (21, 1, 0, 0, []))]
theorem os_X12_turnsNow : oA MT mX12_turnsNow ops_X12_turnsNow := (oA.cons oX12_turnsNow_0 (oA.cons oX12_turnsNow_1 (oA.cons oX12_turnsNow_2 (oA.cons oX12_turnsNow_5 (oA.cons oX12_turnsNow_6 (oA.cons oX12_turnsNow_7 (oA.cons oX12_turnsNow_8 (oA.cons oX12_turnsNow_9 (oA.cons oX12_turnsNow_10 (oA.cons oX12_turnsNow_13 (oA.cons oX12_turnsNow_14 (oA.cons oX12_turnsNow_17 (oA.cons oX12_turnsNow_18 (oA.cons oX12_turnsNow_21 (oA.cons oX12_turnsNow_22 oA.nil)))))))))))))))
theorem dX12_held_0 : decode cX12_held 0 = .ok (.iload_n 0, 1) := by decide +kernel
theorem dX12_held_1 : decode cX12_held 1 = .ok (.ifCond .ge 7, 3) := by decide +kernel
theorem dX12_held_4 : decode cX12_held 4 = .ok (.iconst 0, 1) := by decide +kernel
theorem dX12_held_5 : decode cX12_held 5 = .ok (.goto 13, 3) := by decide +kernel
theorem dX12_held_8 : decode cX12_held 8 = .ok (.iload_n 0, 1) := by decide +kernel
theorem dX12_held_9 : decode cX12_held 9 = .ok (.iload_n 1, 1) := by decide +kernel
theorem dX12_held_10 : decode cX12_held 10 = .ok (.if_icmp .le 7, 3) := by decide +kernel
theorem dX12_held_13 : decode cX12_held 13 = .ok (.iload_n 1, 1) := by decide +kernel
theorem dX12_held_14 : decode cX12_held 14 = .ok (.goto 4, 3) := by decide +kernel
theorem dX12_held_17 : decode cX12_held 17 = .ok (.iload_n 0, 1) := by decide +kernel
theorem dX12_held_18 : decode cX12_held 18 = .ok (.ireturn, 1) := by decide +kernel
theorem oX12_held_0 : oP MT mX12_held 0 (1, 1, 0, 0, []) := o_iload_n dX12_held_0 rfl
theorem oX12_held_1 : oP MT mX12_held 1 (10, 3, 3, 8, []) := o_if_ge dX12_held_1 (by decide) (by decide)
theorem oX12_held_4 : oP MT mX12_held 4 (0, 1, 0, 0, []) := o_iconst dX12_held_4 (by decide)
theorem oX12_held_5 : oP MT mX12_held 5 (9, 3, 18, 0, []) := o_goto dX12_held_5 (by decide)
theorem oX12_held_8 : oP MT mX12_held 8 (1, 1, 0, 0, []) := o_iload_n dX12_held_8 rfl
theorem oX12_held_9 : oP MT mX12_held 9 (1, 1, 1, 0, []) := o_iload_n dX12_held_9 rfl
theorem oX12_held_10 : oP MT mX12_held 10 (11, 3, 5, 17, []) := o_icmp_le dX12_held_10 (by decide) (by decide)
theorem oX12_held_13 : oP MT mX12_held 13 (1, 1, 1, 0, []) := o_iload_n dX12_held_13 rfl
theorem oX12_held_14 : oP MT mX12_held 14 (9, 3, 18, 0, []) := o_goto dX12_held_14 (by decide)
theorem oX12_held_17 : oP MT mX12_held 17 (1, 1, 0, 0, []) := o_iload_n dX12_held_17 rfl
theorem oX12_held_18 : oP MT mX12_held 18 (21, 1, 0, 0, []) := o_iret dX12_held_18 rfl
def ops_X12_held : List (Nat × aO) := [(0, (1, 1, 0, 0, [])), (1, (10, 3, 3, 8, [])), (4, (0, 1, 0, 0, [])), (5, (9, 3, 18, 0, [])), (8, (1, 1, 0, 0, [])), (9, (1, 1, 1, 0, [])), (10, (11, 3, 5, 17, [])), (13, (1, 1, 1, 0, [])), (14, (9, 3, 18, 0, [])), (17, (1, 1, 0, 0, [])), (18, (21, 1, 0, 0, []))]
theorem os_X12_held : oA MT mX12_held ops_X12_held := (oA.cons oX12_held_0 (oA.cons oX12_held_1 (oA.cons oX12_held_4 (oA.cons oX12_held_5 (oA.cons oX12_held_8 (oA.cons oX12_held_9 (oA.cons oX12_held_10 (oA.cons oX12_held_13 (oA.cons oX12_held_14 (oA.cons oX12_held_17 (oA.cons oX12_held_18 oA.nil)))))))))))
theorem dX12_mayTurn_0 : decode cX12_mayTurn 0 = .ok (.aload_n 0, 1) := by decide +kernel
theorem dX12_mayTurn_1 : decode cX12_mayTurn 1 = .ok (.iload_n 1, 1) := by decide +kernel
theorem dX12_mayTurn_2 : decode cX12_mayTurn 2 = .ok (.invokevirtual 104, 3) := by decide +kernel
theorem dX12_mayTurn_5 : decode cX12_mayTurn 5 = .ok (.ifCond .ne 15, 3) := by decide +kernel
theorem dX12_mayTurn_8 : decode cX12_mayTurn 8 = .ok (.aload_n 0, 1) := by decide +kernel
theorem dX12_mayTurn_9 : decode cX12_mayTurn 9 = .ok (.iload_n 1, 1) := by decide +kernel
theorem dX12_mayTurn_10 : decode cX12_mayTurn 10 = .ok (.invokevirtual 107, 3) := by decide +kernel
theorem dX12_mayTurn_13 : decode cX12_mayTurn 13 = .ok (.ifCond .le 7, 3) := by decide +kernel
theorem dX12_mayTurn_16 : decode cX12_mayTurn 16 = .ok (.iconst 1, 1) := by decide +kernel
theorem dX12_mayTurn_17 : decode cX12_mayTurn 17 = .ok (.goto 4, 3) := by decide +kernel
theorem dX12_mayTurn_20 : decode cX12_mayTurn 20 = .ok (.iconst 0, 1) := by decide +kernel
theorem dX12_mayTurn_21 : decode cX12_mayTurn 21 = .ok (.ireturn, 1) := by decide +kernel
theorem oX12_mayTurn_0 : oP MT mX12_mayTurn 0 (1, 1, 0, 1, []) := o_aload_n dX12_mayTurn_0 rfl
theorem oX12_mayTurn_1 : oP MT mX12_mayTurn 1 (1, 1, 1, 0, []) := o_iload_n dX12_mayTurn_1 rfl
theorem oX12_mayTurn_2 : oP MT mX12_mayTurn 2 (26, 3, 0, 1, [(12, 120)]) := o_callO ((vA.cons (v_callV dX12_mayTurn_2 (ci := 12) rfl rfl (mj := mX12_willOf) mt_X12_willOf cmq_X12_willOf wq_527 wq_529 wq_530 (by decide) (by decide)) vA.nil))
theorem oX12_mayTurn_5 : oP MT mX12_mayTurn 5 (10, 3, 1, 20, []) := o_if_ne dX12_mayTurn_5 (by decide) (by decide)
theorem oX12_mayTurn_8 : oP MT mX12_mayTurn 8 (1, 1, 0, 1, []) := o_aload_n dX12_mayTurn_8 rfl
theorem oX12_mayTurn_9 : oP MT mX12_mayTurn 9 (1, 1, 1, 0, []) := o_iload_n dX12_mayTurn_9 rfl
theorem oX12_mayTurn_10 : oP MT mX12_mayTurn 10 (26, 3, 0, 1, [(12, 121)]) := o_callO ((vA.cons (v_callV dX12_mayTurn_10 (ci := 12) rfl rfl (mj := mX12_paysOf) mt_X12_paysOf cmq_X12_paysOf wq_519 wq_521 wq_522 (by decide) (by decide)) vA.nil))
theorem oX12_mayTurn_13 : oP MT mX12_mayTurn 13 (10, 3, 5, 20, []) := o_if_le dX12_mayTurn_13 (by decide) (by decide)
theorem oX12_mayTurn_16 : oP MT mX12_mayTurn 16 (0, 1, 0, 1, []) := o_iconst dX12_mayTurn_16 (by decide)
theorem oX12_mayTurn_17 : oP MT mX12_mayTurn 17 (9, 3, 21, 0, []) := o_goto dX12_mayTurn_17 (by decide)
theorem oX12_mayTurn_20 : oP MT mX12_mayTurn 20 (0, 1, 0, 0, []) := o_iconst dX12_mayTurn_20 (by decide)
theorem oX12_mayTurn_21 : oP MT mX12_mayTurn 21 (22, 1, 0, 0, []) := o_zret dX12_mayTurn_21 rfl
def ops_X12_mayTurn : List (Nat × aO) := [(0, (1, 1, 0, 1, [])), (1, (1, 1, 1, 0, [])), (2, (26, 3, 0, 1, [(12, 120)])), (5, (10, 3, 1, 20, [])), (8, (1, 1, 0, 1, [])), (9, (1, 1, 1, 0, [])), (10, (26, 3, 0, 1, [(12, 121)])), (13, (10, 3, 5, 20, [])), (16, (0, 1, 0, 1, [])), (17, (9, 3, 21, 0, [])), (20, (0, 1, 0, 0, [])), (21, (22, 1, 0, 0, []))]
theorem os_X12_mayTurn : oA MT mX12_mayTurn ops_X12_mayTurn := (oA.cons oX12_mayTurn_0 (oA.cons oX12_mayTurn_1 (oA.cons oX12_mayTurn_2 (oA.cons oX12_mayTurn_5 (oA.cons oX12_mayTurn_8 (oA.cons oX12_mayTurn_9 (oA.cons oX12_mayTurn_10 (oA.cons oX12_mayTurn_13 (oA.cons oX12_mayTurn_16 (oA.cons oX12_mayTurn_17 (oA.cons oX12_mayTurn_20 (oA.cons oX12_mayTurn_21 oA.nil))))))))))))
theorem dX12_restOne_0 : decode cX12_restOne 0 = .ok (.iconst 0, 1) := by decide +kernel
theorem dX12_restOne_1 : decode cX12_restOne 1 = .ok (.istore_n 1, 1) := by decide +kernel
theorem dX12_restOne_2 : decode cX12_restOne 2 = .ok (.iload_n 1, 1) := by decide +kernel
theorem dX12_restOne_3 : decode cX12_restOne 3 = .ok (.aload_n 0, 1) := by decide +kernel
theorem dX12_restOne_4 : decode cX12_restOne 4 = .ok (.getfield 9, 3) := by decide +kernel
theorem dX12_restOne_7 : decode cX12_restOne 7 = .ok (.iconst 4, 1) := by decide +kernel
theorem dX12_restOne_8 : decode cX12_restOne 8 = .ok (.iaload, 1) := by decide +kernel
theorem dX12_restOne_9 : decode cX12_restOne 9 = .ok (.if_icmp .ge 19, 3) := by decide +kernel
theorem dX12_restOne_12 : decode cX12_restOne 12 = .ok (.aload_n 0, 1) := by decide +kernel
theorem dX12_restOne_13 : decode cX12_restOne 13 = .ok (.iload_n 1, 1) := by decide +kernel
theorem dX12_restOne_14 : decode cX12_restOne 14 = .ok (.invokevirtual 205, 3) := by decide +kernel
theorem dX12_restOne_17 : decode cX12_restOne 17 = .ok (.ifCond .eq 5, 3) := by decide +kernel
theorem dX12_restOne_20 : decode cX12_restOne 20 = .ok (.iload_n 1, 1) := by decide +kernel
theorem dX12_restOne_21 : decode cX12_restOne 21 = .ok (.ireturn, 1) := by decide +kernel
theorem dX12_restOne_22 : decode cX12_restOne 22 = .ok (.iinc 1 1, 3) := by decide +kernel
theorem dX12_restOne_25 : decode cX12_restOne 25 = .ok (.goto (-23), 3) := by decide +kernel
theorem dX12_restOne_28 : decode cX12_restOne 28 = .ok (.iconst (-1), 1) := by decide +kernel
theorem dX12_restOne_29 : decode cX12_restOne 29 = .ok (.ireturn, 1) := by decide +kernel
theorem oX12_restOne_0 : oP MT mX12_restOne 0 (0, 1, 0, 0, []) := o_iconst dX12_restOne_0 (by decide)
theorem oX12_restOne_1 : oP MT mX12_restOne 1 (2, 1, 1, 0, []) := o_istore_n dX12_restOne_1 rfl (by decide)
theorem oX12_restOne_2 : oP MT mX12_restOne 2 (1, 1, 1, 0, []) := o_iload_n dX12_restOne_2 rfl
theorem oX12_restOne_3 : oP MT mX12_restOne 3 (1, 1, 0, 1, []) := o_aload_n dX12_restOne_3 rfl
theorem oX12_restOne_4 : oP MT mX12_restOne 4 (13, 3, 0, 12, []) := o_getR (M := mX12_restOne) (C := RX12) (T := TX12) (ci := 12) (j := 0) (z := 12) dX12_restOne_4 rfl lq_RX12_9 rfl rfl
theorem oX12_restOne_7 : oP MT mX12_restOne 7 (0, 1, 0, 4, []) := o_iconst dX12_restOne_7 (by decide)
theorem oX12_restOne_8 : oP MT mX12_restOne 8 (16, 1, 1, 0, []) := o_iaload dX12_restOne_8
theorem oX12_restOne_9 : oP MT mX12_restOne 9 (11, 3, 3, 28, []) := o_icmp_ge dX12_restOne_9 (by decide) (by decide)
theorem oX12_restOne_12 : oP MT mX12_restOne 12 (1, 1, 0, 1, []) := o_aload_n dX12_restOne_12 rfl
theorem oX12_restOne_13 : oP MT mX12_restOne 13 (1, 1, 1, 0, []) := o_iload_n dX12_restOne_13 rfl
theorem oX12_restOne_14 : oP MT mX12_restOne 14 (26, 3, 0, 1, [(12, 144)]) := o_callO ((vA.cons (v_callV dX12_restOne_14 (ci := 12) rfl rfl (mj := mX12_mayTurn) mt_X12_mayTurn cmq_X12_mayTurn wq_531 wq_533 wq_534 (by decide) (by decide)) vA.nil))
theorem oX12_restOne_17 : oP MT mX12_restOne 17 (10, 3, 0, 22, []) := o_if_eq dX12_restOne_17 (by decide) (by decide)
theorem oX12_restOne_20 : oP MT mX12_restOne 20 (1, 1, 1, 0, []) := o_iload_n dX12_restOne_20 rfl
theorem oX12_restOne_21 : oP MT mX12_restOne 21 (21, 1, 0, 0, []) := o_iret dX12_restOne_21 rfl
theorem oX12_restOne_22 : oP MT mX12_restOne 22 (3, 3, 1, 1, []) := o_iinc dX12_restOne_22 (by decide) (by decide)
theorem oX12_restOne_25 : oP MT mX12_restOne 25 (9, 3, 2, 0, []) := o_goto dX12_restOne_25 (by decide)
theorem oX12_restOne_28 : oP MT mX12_restOne 28 (0, 1, 0, (-1), []) := o_iconst dX12_restOne_28 (by decide)
theorem oX12_restOne_29 : oP MT mX12_restOne 29 (21, 1, 0, 0, []) := o_iret dX12_restOne_29 rfl
def ops_X12_restOne : List (Nat × aO) := [(0, (0, 1, 0, 0, [])), (1, (2, 1, 1, 0, [])), (2, (1, 1, 1, 0, [])), (3, (1, 1, 0, 1, [])), (4, (13, 3, 0, 12, [])), (7, (0, 1, 0, 4, [])), (8, (16, 1, 1, 0, [])), (9, (11, 3, 3, 28, [])), (12, (1, 1, 0, 1, [])), (13, (1, 1, 1, 0, [])), (14, (26, 3, 0, 1, [(12, 144)])), (17, (10, 3, 0, 22, [])), (20, (1, 1, 1, 0, [])), (21, (21, 1, 0, 0, [])), (22, (3, 3, 1, 1, [])), (25, (9, 3, 2, 0, [])), (28, (0, 1, 0, (-1), [])), (29, (21, 1, 0, 0, []))]
theorem os_X12_restOne : oA MT mX12_restOne ops_X12_restOne := (oA.cons oX12_restOne_0 (oA.cons oX12_restOne_1 (oA.cons oX12_restOne_2 (oA.cons oX12_restOne_3 (oA.cons oX12_restOne_4 (oA.cons oX12_restOne_7 (oA.cons oX12_restOne_8 (oA.cons oX12_restOne_9 (oA.cons oX12_restOne_12 (oA.cons oX12_restOne_13 (oA.cons oX12_restOne_14 (oA.cons oX12_restOne_17 (oA.cons oX12_restOne_20 (oA.cons oX12_restOne_21 (oA.cons oX12_restOne_22 (oA.cons oX12_restOne_25 (oA.cons oX12_restOne_28 (oA.cons oX12_restOne_29 oA.nil))))))))))))))))))
theorem dX12_meets_0 : decode cX12_meets 0 = .ok (.aload_n 0, 1) := by decide +kernel
theorem dX12_meets_1 : decode cX12_meets 1 = .ok (.iload_n 1, 1) := by decide +kernel
theorem dX12_meets_2 : decode cX12_meets 2 = .ok (.invokevirtual 104, 3) := by decide +kernel
theorem dX12_meets_5 : decode cX12_meets 5 = .ok (.istore_n 2, 1) := by decide +kernel
theorem dX12_meets_6 : decode cX12_meets 6 = .ok (.aload_n 0, 1) := by decide +kernel
theorem dX12_meets_7 : decode cX12_meets 7 = .ok (.iload_n 1, 1) := by decide +kernel
theorem dX12_meets_8 : decode cX12_meets 8 = .ok (.iconst 4, 1) := by decide +kernel
theorem dX12_meets_9 : decode cX12_meets 9 = .ok (.invokevirtual 79, 3) := by decide +kernel
theorem dX12_meets_12 : decode cX12_meets 12 = .ok (.iconst 1, 1) := by decide +kernel
theorem dX12_meets_13 : decode cX12_meets 13 = .ok (.if_icmp .eq 8, 3) := by decide +kernel
theorem dX12_meets_16 : decode cX12_meets 16 = .ok (.iload_n 2, 1) := by decide +kernel
theorem dX12_meets_17 : decode cX12_meets 17 = .ok (.iconst 1, 1) := by decide +kernel
theorem dX12_meets_18 : decode cX12_meets 18 = .ok (.if_icmp .ne 5, 3) := by decide +kernel
theorem dX12_meets_21 : decode cX12_meets 21 = .ok (.iconst 0, 1) := by decide +kernel
theorem dX12_meets_22 : decode cX12_meets 22 = .ok (.ireturn, 1) := by decide +kernel
theorem dX12_meets_23 : decode cX12_meets 23 = .ok (.iload_n 2, 1) := by decide +kernel
theorem dX12_meets_24 : decode cX12_meets 24 = .ok (.ifCond .ne 9, 3) := by decide +kernel
theorem dX12_meets_27 : decode cX12_meets 27 = .ok (.aload_n 0, 1) := by decide +kernel
theorem dX12_meets_28 : decode cX12_meets 28 = .ok (.iload_n 1, 1) := by decide +kernel
theorem dX12_meets_29 : decode cX12_meets 29 = .ok (.invokevirtual 199, 3) := by decide +kernel
theorem dX12_meets_32 : decode cX12_meets 32 = .ok (.ireturn, 1) := by decide +kernel
theorem dX12_meets_33 : decode cX12_meets 33 = .ok (.aload_n 0, 1) := by decide +kernel
theorem dX12_meets_34 : decode cX12_meets 34 = .ok (.iload_n 1, 1) := by decide +kernel
theorem dX12_meets_35 : decode cX12_meets 35 = .ok (.iconst 1, 1) := by decide +kernel
theorem dX12_meets_36 : decode cX12_meets 36 = .ok (.aload_n 0, 1) := by decide +kernel
theorem dX12_meets_37 : decode cX12_meets 37 = .ok (.iload_n 1, 1) := by decide +kernel
theorem dX12_meets_38 : decode cX12_meets 38 = .ok (.iconst 1, 1) := by decide +kernel
theorem dX12_meets_39 : decode cX12_meets 39 = .ok (.invokevirtual 79, 3) := by decide +kernel
theorem dX12_meets_42 : decode cX12_meets 42 = .ok (.bipush 7, 2) := by decide +kernel
theorem dX12_meets_44 : decode cX12_meets 44 = .ok (.iadd, 1) := by decide +kernel
theorem dX12_meets_45 : decode cX12_meets 45 = .ok (.bipush 99, 2) := by decide +kernel
theorem dX12_meets_47 : decode cX12_meets 47 = .ok (.invokestatic 202, 3) := by decide +kernel
theorem dX12_meets_50 : decode cX12_meets 50 = .ok (.invokevirtual 195, 3) := by decide +kernel
theorem dX12_meets_53 : decode cX12_meets 53 = .ok (.aload_n 0, 1) := by decide +kernel
theorem dX12_meets_54 : decode cX12_meets 54 = .ok (.invokevirtual 83, 3) := by decide +kernel
theorem dX12_meets_57 : decode cX12_meets 57 = .ok (.iconst 4, 1) := by decide +kernel
theorem dX12_meets_58 : decode cX12_meets 58 = .ok (.irem, 1) := by decide +kernel
theorem dX12_meets_59 : decode cX12_meets 59 = .ok (.iconst 1, 1) := by decide +kernel
theorem dX12_meets_60 : decode cX12_meets 60 = .ok (.if_icmp .le 7, 3) := by decide +kernel
theorem dX12_meets_63 : decode cX12_meets 63 = .ok (.iconst 1, 1) := by decide +kernel
theorem dX12_meets_64 : decode cX12_meets 64 = .ok (.goto 4, 3) := by decide +kernel
theorem dX12_meets_67 : decode cX12_meets 67 = .ok (.iconst 0, 1) := by decide +kernel
theorem dX12_meets_68 : decode cX12_meets 68 = .ok (.ireturn, 1) := by decide +kernel
theorem oX12_meets_0 : oP MT mX12_meets 0 (1, 1, 0, 1, []) := o_aload_n dX12_meets_0 rfl
theorem oX12_meets_1 : oP MT mX12_meets 1 (1, 1, 1, 0, []) := o_iload_n dX12_meets_1 rfl
theorem oX12_meets_2 : oP MT mX12_meets 2 (26, 3, 0, 1, [(12, 120)]) := o_callO ((vA.cons (v_callV dX12_meets_2 (ci := 12) rfl rfl (mj := mX12_willOf) mt_X12_willOf cmq_X12_willOf wq_527 wq_529 wq_530 (by decide) (by decide)) vA.nil))
theorem oX12_meets_5 : oP MT mX12_meets 5 (2, 1, 2, 0, []) := o_istore_n dX12_meets_5 rfl (by decide)
theorem oX12_meets_6 : oP MT mX12_meets 6 (1, 1, 0, 1, []) := o_aload_n dX12_meets_6 rfl
theorem oX12_meets_7 : oP MT mX12_meets 7 (1, 1, 1, 0, []) := o_iload_n dX12_meets_7 rfl
theorem oX12_meets_8 : oP MT mX12_meets 8 (0, 1, 0, 4, []) := o_iconst dX12_meets_8 (by decide)
theorem oX12_meets_9 : oP MT mX12_meets 9 (26, 3, 0, 2, [(12, 112)]) := o_callO ((vA.cons (v_callV dX12_meets_9 (ci := 12) rfl rfl (mj := mX12_get) mt_X12_get cmq_X12_get wq_435 wq_437 wq_438 (by decide) (by decide)) vA.nil))
theorem oX12_meets_12 : oP MT mX12_meets 12 (0, 1, 0, 1, []) := o_iconst dX12_meets_12 (by decide)
theorem oX12_meets_13 : oP MT mX12_meets 13 (11, 3, 0, 21, []) := o_icmp_eq dX12_meets_13 (by decide) (by decide)
theorem oX12_meets_16 : oP MT mX12_meets 16 (1, 1, 2, 0, []) := o_iload_n dX12_meets_16 rfl
theorem oX12_meets_17 : oP MT mX12_meets 17 (0, 1, 0, 1, []) := o_iconst dX12_meets_17 (by decide)
theorem oX12_meets_18 : oP MT mX12_meets 18 (11, 3, 1, 23, []) := o_icmp_ne dX12_meets_18 (by decide) (by decide)
theorem oX12_meets_21 : oP MT mX12_meets 21 (0, 1, 0, 0, []) := o_iconst dX12_meets_21 (by decide)
theorem oX12_meets_22 : oP MT mX12_meets 22 (21, 1, 0, 0, []) := o_iret dX12_meets_22 rfl
theorem oX12_meets_23 : oP MT mX12_meets 23 (1, 1, 2, 0, []) := o_iload_n dX12_meets_23 rfl
theorem oX12_meets_24 : oP MT mX12_meets 24 (10, 3, 1, 33, []) := o_if_ne dX12_meets_24 (by decide) (by decide)
theorem oX12_meets_27 : oP MT mX12_meets 27 (1, 1, 0, 1, []) := o_aload_n dX12_meets_27 rfl
theorem oX12_meets_28 : oP MT mX12_meets 28 (1, 1, 1, 0, []) := o_iload_n dX12_meets_28 rfl
theorem oX12_meets_29 : oP MT mX12_meets 29 (26, 3, 0, 1, [(12, 142)]) := o_callO ((vA.cons (v_callV dX12_meets_29 (ci := 12) rfl rfl (mj := mX12_turnsNow) mt_X12_turnsNow cmq_X12_turnsNow wq_535 wq_537 wq_538 (by decide) (by decide)) vA.nil))
theorem oX12_meets_32 : oP MT mX12_meets 32 (21, 1, 0, 0, []) := o_iret dX12_meets_32 rfl
theorem oX12_meets_33 : oP MT mX12_meets 33 (1, 1, 0, 1, []) := o_aload_n dX12_meets_33 rfl
theorem oX12_meets_34 : oP MT mX12_meets 34 (1, 1, 1, 0, []) := o_iload_n dX12_meets_34 rfl
theorem oX12_meets_35 : oP MT mX12_meets 35 (0, 1, 0, 1, []) := o_iconst dX12_meets_35 (by decide)
theorem oX12_meets_36 : oP MT mX12_meets 36 (1, 1, 0, 1, []) := o_aload_n dX12_meets_36 rfl
theorem oX12_meets_37 : oP MT mX12_meets 37 (1, 1, 1, 0, []) := o_iload_n dX12_meets_37 rfl
theorem oX12_meets_38 : oP MT mX12_meets 38 (0, 1, 0, 1, []) := o_iconst dX12_meets_38 (by decide)
theorem oX12_meets_39 : oP MT mX12_meets 39 (26, 3, 0, 2, [(12, 112)]) := o_callO ((vA.cons (v_callV dX12_meets_39 (ci := 12) rfl rfl (mj := mX12_get) mt_X12_get cmq_X12_get wq_435 wq_437 wq_438 (by decide) (by decide)) vA.nil))
theorem oX12_meets_42 : oP MT mX12_meets 42 (0, 2, 0, 7, []) := o_bipush dX12_meets_42 (by decide)
theorem oX12_meets_44 : oP MT mX12_meets 44 (4, 1, 0, 0, []) := o_iadd dX12_meets_44
theorem oX12_meets_45 : oP MT mX12_meets 45 (0, 2, 0, 99, []) := o_bipush dX12_meets_45 (by decide)
theorem oX12_meets_47 : oP MT mX12_meets 47 (25, 3, 143, 2, []) := o_callS dX12_meets_47 (mj := mX12_held) mt_X12_held cmq_X12_held wq_539 wq_541 (by decide) (by decide)
theorem oX12_meets_50 : oP MT mX12_meets 50 (26, 3, 0, 3, [(12, 141)]) := o_callO ((vA.cons (v_callV dX12_meets_50 (ci := 12) rfl rfl (mj := mX12_puts) mt_X12_puts cmq_X12_puts wq_523 wq_525 wq_526 (by decide) (by decide)) vA.nil))
theorem oX12_meets_53 : oP MT mX12_meets 53 (1, 1, 0, 1, []) := o_aload_n dX12_meets_53 rfl
theorem oX12_meets_54 : oP MT mX12_meets 54 (26, 3, 0, 0, [(12, 118)]) := o_callO ((vA.cons (v_callV dX12_meets_54 (ci := 12) rfl rfl (mj := mX12_sunNow) mt_X12_sunNow cmq_X12_sunNow wq_439 wq_441 wq_442 (by decide) (by decide)) vA.nil))
theorem oX12_meets_57 : oP MT mX12_meets 57 (0, 1, 0, 4, []) := o_iconst dX12_meets_57 (by decide)
theorem oX12_meets_58 : oP MT mX12_meets 58 (4, 1, 10, 0, []) := o_irem dX12_meets_58
theorem oX12_meets_59 : oP MT mX12_meets 59 (0, 1, 0, 1, []) := o_iconst dX12_meets_59 (by decide)
theorem oX12_meets_60 : oP MT mX12_meets 60 (11, 3, 5, 67, []) := o_icmp_le dX12_meets_60 (by decide) (by decide)
theorem oX12_meets_63 : oP MT mX12_meets 63 (0, 1, 0, 1, []) := o_iconst dX12_meets_63 (by decide)
theorem oX12_meets_64 : oP MT mX12_meets 64 (9, 3, 68, 0, []) := o_goto dX12_meets_64 (by decide)
theorem oX12_meets_67 : oP MT mX12_meets 67 (0, 1, 0, 0, []) := o_iconst dX12_meets_67 (by decide)
theorem oX12_meets_68 : oP MT mX12_meets 68 (21, 1, 0, 0, []) := o_iret dX12_meets_68 rfl
def ops_X12_meets : List (Nat × aO) := [(0, (1, 1, 0, 1, [])), (1, (1, 1, 1, 0, [])), (2, (26, 3, 0, 1, [(12, 120)])), (5, (2, 1, 2, 0, [])), (6, (1, 1, 0, 1, [])), (7, (1, 1, 1, 0, [])), (8, (0, 1, 0, 4, [])), (9, (26, 3, 0, 2, [(12, 112)])), (12, (0, 1, 0, 1, [])), (13, (11, 3, 0, 21, [])), (16, (1, 1, 2, 0, [])), (17, (0, 1, 0, 1, [])), (18, (11, 3, 1, 23, [])), (21, (0, 1, 0, 0, [])), (22, (21, 1, 0, 0, [])), (23, (1, 1, 2, 0, [])), (24, (10, 3, 1, 33, [])), (27, (1, 1, 0, 1, [])), (28, (1, 1, 1, 0, [])), (29, (26, 3, 0, 1, [(12, 142)])), (32, (21, 1, 0, 0, [])), (33, (1, 1, 0, 1, [])), (34, (1, 1, 1, 0, [])), (35, (0, 1, 0, 1, [])), (36, (1, 1, 0, 1, [])), (37, (1, 1, 1, 0, [])), (38, (0, 1, 0, 1, [])), (39, (26, 3, 0, 2, [(12, 112)])), (42, (0, 2, 0, 7, [])), (44, (4, 1, 0, 0, [])), (45, (0, 2, 0, 99, [])), (47, (25, 3, 143, 2, [])), (50, (26, 3, 0, 3, [(12, 141)])), (53, (1, 1, 0, 1, [])), (54, (26, 3, 0, 0, [(12, 118)])), (57, (0, 1, 0, 4, [])), (58, (4, 1, 10, 0, [])), (59, (0, 1, 0, 1, [])), (60, (11, 3, 5, 67, [])), (63, (0, 1, 0, 1, [])), (64, (9, 3, 68, 0, [])), (67, (0, 1, 0, 0, [])), (68, (21, 1, 0, 0, []))]
theorem os_X12_meets : oA MT mX12_meets ops_X12_meets := (oA.cons oX12_meets_0 (oA.cons oX12_meets_1 (oA.cons oX12_meets_2 (oA.cons oX12_meets_5 (oA.cons oX12_meets_6 (oA.cons oX12_meets_7 (oA.cons oX12_meets_8 (oA.cons oX12_meets_9 (oA.cons oX12_meets_12 (oA.cons oX12_meets_13 (oA.cons oX12_meets_16 (oA.cons oX12_meets_17 (oA.cons oX12_meets_18 (oA.cons oX12_meets_21 (oA.cons oX12_meets_22 (oA.cons oX12_meets_23 (oA.cons oX12_meets_24 (oA.cons oX12_meets_27 (oA.cons oX12_meets_28 (oA.cons oX12_meets_29 (oA.cons oX12_meets_32 (oA.cons oX12_meets_33 (oA.cons oX12_meets_34 (oA.cons oX12_meets_35 (oA.cons oX12_meets_36 (oA.cons oX12_meets_37 (oA.cons oX12_meets_38 (oA.cons oX12_meets_39 (oA.cons oX12_meets_42 (oA.cons oX12_meets_44 (oA.cons oX12_meets_45 (oA.cons oX12_meets_47 (oA.cons oX12_meets_50 (oA.cons oX12_meets_53 (oA.cons oX12_meets_54 (oA.cons oX12_meets_57 (oA.cons oX12_meets_58 (oA.cons oX12_meets_59 (oA.cons oX12_meets_60 (oA.cons oX12_meets_63 (oA.cons oX12_meets_64 (oA.cons oX12_meets_67 (oA.cons oX12_meets_68 oA.nil)))))))))))))))))))))))))))))))))))))))))))
theorem dX12_meltsOf_0 : decode cX12_meltsOf 0 = .ok (.aload_n 0, 1) := by decide +kernel
theorem dX12_meltsOf_1 : decode cX12_meltsOf 1 = .ok (.iload_n 1, 1) := by decide +kernel
theorem dX12_meltsOf_2 : decode cX12_meltsOf 2 = .ok (.iconst 0, 1) := by decide +kernel
theorem dX12_meltsOf_3 : decode cX12_meltsOf 3 = .ok (.invokevirtual 79, 3) := by decide +kernel
theorem dX12_meltsOf_6 : decode cX12_meltsOf 6 = .ok (.aload_n 0, 1) := by decide +kernel
theorem dX12_meltsOf_7 : decode cX12_meltsOf 7 = .ok (.invokevirtual 83, 3) := by decide +kernel
theorem dX12_meltsOf_10 : decode cX12_meltsOf 10 = .ok (.iconst 4, 1) := by decide +kernel
theorem dX12_meltsOf_11 : decode cX12_meltsOf 11 = .ok (.idiv, 1) := by decide +kernel
theorem dX12_meltsOf_12 : decode cX12_meltsOf 12 = .ok (.aload_n 0, 1) := by decide +kernel
theorem dX12_meltsOf_13 : decode cX12_meltsOf 13 = .ok (.invokevirtual 83, 3) := by decide +kernel
theorem dX12_meltsOf_16 : decode cX12_meltsOf 16 = .ok (.iconst 4, 1) := by decide +kernel
theorem dX12_meltsOf_17 : decode cX12_meltsOf 17 = .ok (.irem, 1) := by decide +kernel
theorem dX12_meltsOf_18 : decode cX12_meltsOf 18 = .ok (.aload_n 0, 1) := by decide +kernel
theorem dX12_meltsOf_19 : decode cX12_meltsOf 19 = .ok (.getfield 9, 3) := by decide +kernel
theorem dX12_meltsOf_22 : decode cX12_meltsOf 22 = .ok (.iconst 0, 1) := by decide +kernel
theorem dX12_meltsOf_23 : decode cX12_meltsOf 23 = .ok (.iaload, 1) := by decide +kernel
theorem dX12_meltsOf_24 : decode cX12_meltsOf 24 = .ok (.invokestatic 87, 3) := by decide +kernel
theorem dX12_meltsOf_27 : decode cX12_meltsOf 27 = .ok (.aload_n 0, 1) := by decide +kernel
theorem dX12_meltsOf_28 : decode cX12_meltsOf 28 = .ok (.iload_n 1, 1) := by decide +kernel
theorem dX12_meltsOf_29 : decode cX12_meltsOf 29 = .ok (.iconst 2, 1) := by decide +kernel
theorem dX12_meltsOf_30 : decode cX12_meltsOf 30 = .ok (.invokevirtual 79, 3) := by decide +kernel
theorem dX12_meltsOf_33 : decode cX12_meltsOf 33 = .ok (.iconst 3, 1) := by decide +kernel
theorem dX12_meltsOf_34 : decode cX12_meltsOf 34 = .ok (.idiv, 1) := by decide +kernel
theorem dX12_meltsOf_35 : decode cX12_meltsOf 35 = .ok (.isub, 1) := by decide +kernel
theorem dX12_meltsOf_36 : decode cX12_meltsOf 36 = .ok (.istore_n 2, 1) := by decide +kernel
theorem dX12_meltsOf_37 : decode cX12_meltsOf 37 = .ok (.iconst 0, 1) := by decide +kernel
theorem dX12_meltsOf_38 : decode cX12_meltsOf 38 = .ok (.istore_n 3, 1) := by decide +kernel
theorem dX12_meltsOf_39 : decode cX12_meltsOf 39 = .ok (.iload_n 3, 1) := by decide +kernel
theorem dX12_meltsOf_40 : decode cX12_meltsOf 40 = .ok (.aload_n 0, 1) := by decide +kernel
theorem dX12_meltsOf_41 : decode cX12_meltsOf 41 = .ok (.getfield 9, 3) := by decide +kernel
theorem dX12_meltsOf_44 : decode cX12_meltsOf 44 = .ok (.iconst 4, 1) := by decide +kernel
theorem dX12_meltsOf_45 : decode cX12_meltsOf 45 = .ok (.iaload, 1) := by decide +kernel
theorem dX12_meltsOf_46 : decode cX12_meltsOf 46 = .ok (.if_icmp .ge 46, 3) := by decide +kernel
theorem dX12_meltsOf_49 : decode cX12_meltsOf 49 = .ok (.iload_n 2, 1) := by decide +kernel
theorem dX12_meltsOf_50 : decode cX12_meltsOf 50 = .ok (.iload_n 3, 1) := by decide +kernel
theorem dX12_meltsOf_51 : decode cX12_meltsOf 51 = .ok (.iload_n 1, 1) := by decide +kernel
theorem dX12_meltsOf_52 : decode cX12_meltsOf 52 = .ok (.if_icmp .eq 31, 3) := by decide +kernel
theorem dX12_meltsOf_55 : decode cX12_meltsOf 55 = .ok (.aload_n 0, 1) := by decide +kernel
theorem dX12_meltsOf_56 : decode cX12_meltsOf 56 = .ok (.iload_n 3, 1) := by decide +kernel
theorem dX12_meltsOf_57 : decode cX12_meltsOf 57 = .ok (.iconst 4, 1) := by decide +kernel
theorem dX12_meltsOf_58 : decode cX12_meltsOf 58 = .ok (.invokevirtual 79, 3) := by decide +kernel
theorem dX12_meltsOf_61 : decode cX12_meltsOf 61 = .ok (.ifCond .ne 22, 3) := by decide +kernel
theorem dX12_meltsOf_64 : decode cX12_meltsOf 64 = .ok (.aload_n 0, 1) := by decide +kernel
theorem dX12_meltsOf_65 : decode cX12_meltsOf 65 = .ok (.iload_n 3, 1) := by decide +kernel
theorem dX12_meltsOf_66 : decode cX12_meltsOf 66 = .ok (.iconst 3, 1) := by decide +kernel
theorem dX12_meltsOf_67 : decode cX12_meltsOf 67 = .ok (.invokevirtual 79, 3) := by decide +kernel
theorem dX12_meltsOf_70 : decode cX12_meltsOf 70 = .ok (.aload_n 0, 1) := by decide +kernel
theorem dX12_meltsOf_71 : decode cX12_meltsOf 71 = .ok (.iload_n 1, 1) := by decide +kernel
theorem dX12_meltsOf_72 : decode cX12_meltsOf 72 = .ok (.iconst 3, 1) := by decide +kernel
theorem dX12_meltsOf_73 : decode cX12_meltsOf 73 = .ok (.invokevirtual 79, 3) := by decide +kernel
theorem dX12_meltsOf_76 : decode cX12_meltsOf 76 = .ok (.if_icmp .ne 7, 3) := by decide +kernel
theorem dX12_meltsOf_79 : decode cX12_meltsOf 79 = .ok (.iconst 1, 1) := by decide +kernel
theorem dX12_meltsOf_80 : decode cX12_meltsOf 80 = .ok (.goto 4, 3) := by decide +kernel
theorem dX12_meltsOf_83 : decode cX12_meltsOf 83 = .ok (.iconst 0, 1) := by decide +kernel
theorem dX12_meltsOf_84 : decode cX12_meltsOf 84 = .ok (.isub, 1) := by decide +kernel
theorem dX12_meltsOf_85 : decode cX12_meltsOf 85 = .ok (.istore_n 2, 1) := by decide +kernel
theorem dX12_meltsOf_86 : decode cX12_meltsOf 86 = .ok (.iinc 3 1, 3) := by decide +kernel
theorem dX12_meltsOf_89 : decode cX12_meltsOf 89 = .ok (.goto (-50), 3) := by decide +kernel
theorem dX12_meltsOf_92 : decode cX12_meltsOf 92 = .ok (.iload_n 2, 1) := by decide +kernel
theorem dX12_meltsOf_93 : decode cX12_meltsOf 93 = .ok (.ifCond .ge 7, 3) := by decide +kernel
theorem dX12_meltsOf_96 : decode cX12_meltsOf 96 = .ok (.iconst 0, 1) := by decide +kernel
theorem dX12_meltsOf_97 : decode cX12_meltsOf 97 = .ok (.goto 4, 3) := by decide +kernel
theorem dX12_meltsOf_100 : decode cX12_meltsOf 100 = .ok (.iload_n 2, 1) := by decide +kernel
theorem dX12_meltsOf_101 : decode cX12_meltsOf 101 = .ok (.ireturn, 1) := by decide +kernel
theorem oX12_meltsOf_0 : oP MT mX12_meltsOf 0 (1, 1, 0, 1, []) := o_aload_n dX12_meltsOf_0 rfl
theorem oX12_meltsOf_1 : oP MT mX12_meltsOf 1 (1, 1, 1, 0, []) := o_iload_n dX12_meltsOf_1 rfl
theorem oX12_meltsOf_2 : oP MT mX12_meltsOf 2 (0, 1, 0, 0, []) := o_iconst dX12_meltsOf_2 (by decide)
theorem oX12_meltsOf_3 : oP MT mX12_meltsOf 3 (26, 3, 0, 2, [(12, 112)]) := o_callO ((vA.cons (v_callV dX12_meltsOf_3 (ci := 12) rfl rfl (mj := mX12_get) mt_X12_get cmq_X12_get wq_435 wq_437 wq_438 (by decide) (by decide)) vA.nil))
theorem oX12_meltsOf_6 : oP MT mX12_meltsOf 6 (1, 1, 0, 1, []) := o_aload_n dX12_meltsOf_6 rfl
theorem oX12_meltsOf_7 : oP MT mX12_meltsOf 7 (26, 3, 0, 0, [(12, 118)]) := o_callO ((vA.cons (v_callV dX12_meltsOf_7 (ci := 12) rfl rfl (mj := mX12_sunNow) mt_X12_sunNow cmq_X12_sunNow wq_439 wq_441 wq_442 (by decide) (by decide)) vA.nil))
theorem oX12_meltsOf_10 : oP MT mX12_meltsOf 10 (0, 1, 0, 4, []) := o_iconst dX12_meltsOf_10 (by decide)
theorem oX12_meltsOf_11 : oP MT mX12_meltsOf 11 (4, 1, 9, 0, []) := o_idiv dX12_meltsOf_11
theorem oX12_meltsOf_12 : oP MT mX12_meltsOf 12 (1, 1, 0, 1, []) := o_aload_n dX12_meltsOf_12 rfl
theorem oX12_meltsOf_13 : oP MT mX12_meltsOf 13 (26, 3, 0, 0, [(12, 118)]) := o_callO ((vA.cons (v_callV dX12_meltsOf_13 (ci := 12) rfl rfl (mj := mX12_sunNow) mt_X12_sunNow cmq_X12_sunNow wq_439 wq_441 wq_442 (by decide) (by decide)) vA.nil))
theorem oX12_meltsOf_16 : oP MT mX12_meltsOf 16 (0, 1, 0, 4, []) := o_iconst dX12_meltsOf_16 (by decide)
theorem oX12_meltsOf_17 : oP MT mX12_meltsOf 17 (4, 1, 10, 0, []) := o_irem dX12_meltsOf_17
theorem oX12_meltsOf_18 : oP MT mX12_meltsOf 18 (1, 1, 0, 1, []) := o_aload_n dX12_meltsOf_18 rfl
theorem oX12_meltsOf_19 : oP MT mX12_meltsOf 19 (13, 3, 0, 12, []) := o_getR (M := mX12_meltsOf) (C := RX12) (T := TX12) (ci := 12) (j := 0) (z := 12) dX12_meltsOf_19 rfl lq_RX12_9 rfl rfl
theorem oX12_meltsOf_22 : oP MT mX12_meltsOf 22 (0, 1, 0, 0, []) := o_iconst dX12_meltsOf_22 (by decide)
theorem oX12_meltsOf_23 : oP MT mX12_meltsOf 23 (16, 1, 1, 0, []) := o_iaload dX12_meltsOf_23
theorem oX12_meltsOf_24 : oP MT mX12_meltsOf 24 (25, 3, 148, 4, []) := o_callS dX12_meltsOf_24 (mj := mX12_meltsBy) mt_X12_meltsBy cmq_X12_meltsBy wq_542 wq_544 (by decide) (by decide)
theorem oX12_meltsOf_27 : oP MT mX12_meltsOf 27 (1, 1, 0, 1, []) := o_aload_n dX12_meltsOf_27 rfl
theorem oX12_meltsOf_28 : oP MT mX12_meltsOf 28 (1, 1, 1, 0, []) := o_iload_n dX12_meltsOf_28 rfl
theorem oX12_meltsOf_29 : oP MT mX12_meltsOf 29 (0, 1, 0, 2, []) := o_iconst dX12_meltsOf_29 (by decide)
theorem oX12_meltsOf_30 : oP MT mX12_meltsOf 30 (26, 3, 0, 2, [(12, 112)]) := o_callO ((vA.cons (v_callV dX12_meltsOf_30 (ci := 12) rfl rfl (mj := mX12_get) mt_X12_get cmq_X12_get wq_435 wq_437 wq_438 (by decide) (by decide)) vA.nil))
theorem oX12_meltsOf_33 : oP MT mX12_meltsOf 33 (0, 1, 0, 3, []) := o_iconst dX12_meltsOf_33 (by decide)
theorem oX12_meltsOf_34 : oP MT mX12_meltsOf 34 (4, 1, 9, 0, []) := o_idiv dX12_meltsOf_34
theorem oX12_meltsOf_35 : oP MT mX12_meltsOf 35 (4, 1, 1, 0, []) := o_isub dX12_meltsOf_35
theorem oX12_meltsOf_36 : oP MT mX12_meltsOf 36 (2, 1, 2, 0, []) := o_istore_n dX12_meltsOf_36 rfl (by decide)
theorem oX12_meltsOf_37 : oP MT mX12_meltsOf 37 (0, 1, 0, 0, []) := o_iconst dX12_meltsOf_37 (by decide)
theorem oX12_meltsOf_38 : oP MT mX12_meltsOf 38 (2, 1, 3, 0, []) := o_istore_n dX12_meltsOf_38 rfl (by decide)
theorem oX12_meltsOf_39 : oP MT mX12_meltsOf 39 (1, 1, 3, 0, []) := o_iload_n dX12_meltsOf_39 rfl
theorem oX12_meltsOf_40 : oP MT mX12_meltsOf 40 (1, 1, 0, 1, []) := o_aload_n dX12_meltsOf_40 rfl
theorem oX12_meltsOf_41 : oP MT mX12_meltsOf 41 (13, 3, 0, 12, []) := o_getR (M := mX12_meltsOf) (C := RX12) (T := TX12) (ci := 12) (j := 0) (z := 12) dX12_meltsOf_41 rfl lq_RX12_9 rfl rfl
theorem oX12_meltsOf_44 : oP MT mX12_meltsOf 44 (0, 1, 0, 4, []) := o_iconst dX12_meltsOf_44 (by decide)
theorem oX12_meltsOf_45 : oP MT mX12_meltsOf 45 (16, 1, 1, 0, []) := o_iaload dX12_meltsOf_45
theorem oX12_meltsOf_46 : oP MT mX12_meltsOf 46 (11, 3, 3, 92, []) := o_icmp_ge dX12_meltsOf_46 (by decide) (by decide)
theorem oX12_meltsOf_49 : oP MT mX12_meltsOf 49 (1, 1, 2, 0, []) := o_iload_n dX12_meltsOf_49 rfl
theorem oX12_meltsOf_50 : oP MT mX12_meltsOf 50 (1, 1, 3, 0, []) := o_iload_n dX12_meltsOf_50 rfl
theorem oX12_meltsOf_51 : oP MT mX12_meltsOf 51 (1, 1, 1, 0, []) := o_iload_n dX12_meltsOf_51 rfl
theorem oX12_meltsOf_52 : oP MT mX12_meltsOf 52 (11, 3, 0, 83, []) := o_icmp_eq dX12_meltsOf_52 (by decide) (by decide)
theorem oX12_meltsOf_55 : oP MT mX12_meltsOf 55 (1, 1, 0, 1, []) := o_aload_n dX12_meltsOf_55 rfl
theorem oX12_meltsOf_56 : oP MT mX12_meltsOf 56 (1, 1, 3, 0, []) := o_iload_n dX12_meltsOf_56 rfl
theorem oX12_meltsOf_57 : oP MT mX12_meltsOf 57 (0, 1, 0, 4, []) := o_iconst dX12_meltsOf_57 (by decide)
theorem oX12_meltsOf_58 : oP MT mX12_meltsOf 58 (26, 3, 0, 2, [(12, 112)]) := o_callO ((vA.cons (v_callV dX12_meltsOf_58 (ci := 12) rfl rfl (mj := mX12_get) mt_X12_get cmq_X12_get wq_435 wq_437 wq_438 (by decide) (by decide)) vA.nil))
theorem oX12_meltsOf_61 : oP MT mX12_meltsOf 61 (10, 3, 1, 83, []) := o_if_ne dX12_meltsOf_61 (by decide) (by decide)
theorem oX12_meltsOf_64 : oP MT mX12_meltsOf 64 (1, 1, 0, 1, []) := o_aload_n dX12_meltsOf_64 rfl
theorem oX12_meltsOf_65 : oP MT mX12_meltsOf 65 (1, 1, 3, 0, []) := o_iload_n dX12_meltsOf_65 rfl
theorem oX12_meltsOf_66 : oP MT mX12_meltsOf 66 (0, 1, 0, 3, []) := o_iconst dX12_meltsOf_66 (by decide)
theorem oX12_meltsOf_67 : oP MT mX12_meltsOf 67 (26, 3, 0, 2, [(12, 112)]) := o_callO ((vA.cons (v_callV dX12_meltsOf_67 (ci := 12) rfl rfl (mj := mX12_get) mt_X12_get cmq_X12_get wq_435 wq_437 wq_438 (by decide) (by decide)) vA.nil))
theorem oX12_meltsOf_70 : oP MT mX12_meltsOf 70 (1, 1, 0, 1, []) := o_aload_n dX12_meltsOf_70 rfl
theorem oX12_meltsOf_71 : oP MT mX12_meltsOf 71 (1, 1, 1, 0, []) := o_iload_n dX12_meltsOf_71 rfl
theorem oX12_meltsOf_72 : oP MT mX12_meltsOf 72 (0, 1, 0, 3, []) := o_iconst dX12_meltsOf_72 (by decide)
theorem oX12_meltsOf_73 : oP MT mX12_meltsOf 73 (26, 3, 0, 2, [(12, 112)]) := o_callO ((vA.cons (v_callV dX12_meltsOf_73 (ci := 12) rfl rfl (mj := mX12_get) mt_X12_get cmq_X12_get wq_435 wq_437 wq_438 (by decide) (by decide)) vA.nil))
theorem oX12_meltsOf_76 : oP MT mX12_meltsOf 76 (11, 3, 1, 83, []) := o_icmp_ne dX12_meltsOf_76 (by decide) (by decide)
theorem oX12_meltsOf_79 : oP MT mX12_meltsOf 79 (0, 1, 0, 1, []) := o_iconst dX12_meltsOf_79 (by decide)
theorem oX12_meltsOf_80 : oP MT mX12_meltsOf 80 (9, 3, 84, 0, []) := o_goto dX12_meltsOf_80 (by decide)
theorem oX12_meltsOf_83 : oP MT mX12_meltsOf 83 (0, 1, 0, 0, []) := o_iconst dX12_meltsOf_83 (by decide)
theorem oX12_meltsOf_84 : oP MT mX12_meltsOf 84 (4, 1, 1, 0, []) := o_isub dX12_meltsOf_84
theorem oX12_meltsOf_85 : oP MT mX12_meltsOf 85 (2, 1, 2, 0, []) := o_istore_n dX12_meltsOf_85 rfl (by decide)
theorem oX12_meltsOf_86 : oP MT mX12_meltsOf 86 (3, 3, 3, 1, []) := o_iinc dX12_meltsOf_86 (by decide) (by decide)
theorem oX12_meltsOf_89 : oP MT mX12_meltsOf 89 (9, 3, 39, 0, []) := o_goto dX12_meltsOf_89 (by decide)
theorem oX12_meltsOf_92 : oP MT mX12_meltsOf 92 (1, 1, 2, 0, []) := o_iload_n dX12_meltsOf_92 rfl
theorem oX12_meltsOf_93 : oP MT mX12_meltsOf 93 (10, 3, 3, 100, []) := o_if_ge dX12_meltsOf_93 (by decide) (by decide)
theorem oX12_meltsOf_96 : oP MT mX12_meltsOf 96 (0, 1, 0, 0, []) := o_iconst dX12_meltsOf_96 (by decide)
theorem oX12_meltsOf_97 : oP MT mX12_meltsOf 97 (9, 3, 101, 0, []) := o_goto dX12_meltsOf_97 (by decide)
theorem oX12_meltsOf_100 : oP MT mX12_meltsOf 100 (1, 1, 2, 0, []) := o_iload_n dX12_meltsOf_100 rfl
theorem oX12_meltsOf_101 : oP MT mX12_meltsOf 101 (21, 1, 0, 0, []) := o_iret dX12_meltsOf_101 rfl
def ops_X12_meltsOf : List (Nat × aO) := [(0, (1, 1, 0, 1, [])), (1, (1, 1, 1, 0, [])), (2, (0, 1, 0, 0, [])), (3, (26, 3, 0, 2, [(12, 112)])), (6, (1, 1, 0, 1, [])), (7, (26, 3, 0, 0, [(12, 118)])), (10, (0, 1, 0, 4, [])), (11, (4, 1, 9, 0, [])), (12, (1, 1, 0, 1, [])), (13, (26, 3, 0, 0, [(12, 118)])), (16, (0, 1, 0, 4, [])), (17, (4, 1, 10, 0, [])), (18, (1, 1, 0, 1, [])), (19, (13, 3, 0, 12, [])), (22, (0, 1, 0, 0, [])), (23, (16, 1, 1, 0, [])), (24, (25, 3, 148, 4, [])), (27, (1, 1, 0, 1, [])), (28, (1, 1, 1, 0, [])), (29, (0, 1, 0, 2, [])), (30, (26, 3, 0, 2, [(12, 112)])), (33, (0, 1, 0, 3, [])), (34, (4, 1, 9, 0, [])), (35, (4, 1, 1, 0, [])), (36, (2, 1, 2, 0, [])), (37, (0, 1, 0, 0, [])), (38, (2, 1, 3, 0, [])), (39, (1, 1, 3, 0, [])), (40, (1, 1, 0, 1, [])), (41, (13, 3, 0, 12, [])), (44, (0, 1, 0, 4, [])), (45, (16, 1, 1, 0, [])), (46, (11, 3, 3, 92, [])), (49, (1, 1, 2, 0, [])), (50, (1, 1, 3, 0, [])), (51, (1, 1, 1, 0, [])), (52, (11, 3, 0, 83, [])), (55, (1, 1, 0, 1, [])), (56, (1, 1, 3, 0, [])), (57, (0, 1, 0, 4, [])), (58, (26, 3, 0, 2, [(12, 112)])), (61, (10, 3, 1, 83, [])), (64, (1, 1, 0, 1, [])), (65, (1, 1, 3, 0, [])), (66, (0, 1, 0, 3, [])), (67, (26, 3, 0, 2, [(12, 112)])), (70, (1, 1, 0, 1, [])), (71, (1, 1, 1, 0, [])), (72, (0, 1, 0, 3, [])), (73, (26, 3, 0, 2, [(12, 112)])), (76, (11, 3, 1, 83, [])), (79, (0, 1, 0, 1, [])), (80, (9, 3, 84, 0, [])), (83, (0, 1, 0, 0, [])), (84, (4, 1, 1, 0, [])), (85, (2, 1, 2, 0, [])), (86, (3, 3, 3, 1, [])), (89, (9, 3, 39, 0, [])), (92, (1, 1, 2, 0, [])), (93, (10, 3, 3, 100, [])), (96, (0, 1, 0, 0, [])), (97, (9, 3, 101, 0, [])), (100, (1, 1, 2, 0, [])), (101, (21, 1, 0, 0, []))]
theorem os_X12_meltsOf : oA MT mX12_meltsOf ops_X12_meltsOf := (oA.cons oX12_meltsOf_0 (oA.cons oX12_meltsOf_1 (oA.cons oX12_meltsOf_2 (oA.cons oX12_meltsOf_3 (oA.cons oX12_meltsOf_6 (oA.cons oX12_meltsOf_7 (oA.cons oX12_meltsOf_10 (oA.cons oX12_meltsOf_11 (oA.cons oX12_meltsOf_12 (oA.cons oX12_meltsOf_13 (oA.cons oX12_meltsOf_16 (oA.cons oX12_meltsOf_17 (oA.cons oX12_meltsOf_18 (oA.cons oX12_meltsOf_19 (oA.cons oX12_meltsOf_22 (oA.cons oX12_meltsOf_23 (oA.cons oX12_meltsOf_24 (oA.cons oX12_meltsOf_27 (oA.cons oX12_meltsOf_28 (oA.cons oX12_meltsOf_29 (oA.cons oX12_meltsOf_30 (oA.cons oX12_meltsOf_33 (oA.cons oX12_meltsOf_34 (oA.cons oX12_meltsOf_35 (oA.cons oX12_meltsOf_36 (oA.cons oX12_meltsOf_37 (oA.cons oX12_meltsOf_38 (oA.cons oX12_meltsOf_39 (oA.cons oX12_meltsOf_40 (oA.cons oX12_meltsOf_41 (oA.cons oX12_meltsOf_44 (oA.cons oX12_meltsOf_45 (oA.cons oX12_meltsOf_46 (oA.cons oX12_meltsOf_49 (oA.cons oX12_meltsOf_50 (oA.cons oX12_meltsOf_51 (oA.cons oX12_meltsOf_52 (oA.cons oX12_meltsOf_55 (oA.cons oX12_meltsOf_56 (oA.cons oX12_meltsOf_57 (oA.cons oX12_meltsOf_58 (oA.cons oX12_meltsOf_61 (oA.cons oX12_meltsOf_64 (oA.cons oX12_meltsOf_65 (oA.cons oX12_meltsOf_66 (oA.cons oX12_meltsOf_67 (oA.cons oX12_meltsOf_70 (oA.cons oX12_meltsOf_71 (oA.cons oX12_meltsOf_72 (oA.cons oX12_meltsOf_73 (oA.cons oX12_meltsOf_76 (oA.cons oX12_meltsOf_79 (oA.cons oX12_meltsOf_80 (oA.cons oX12_meltsOf_83 (oA.cons oX12_meltsOf_84 (oA.cons oX12_meltsOf_85 (oA.cons oX12_meltsOf_86 (oA.cons oX12_meltsOf_89 (oA.cons oX12_meltsOf_92 (oA.cons oX12_meltsOf_93 (oA.cons oX12_meltsOf_96 (oA.cons oX12_meltsOf_97 (oA.cons oX12_meltsOf_100 (oA.cons oX12_meltsOf_101 oA.nil))))))))))))))))))))))))))))))))))))))))))))))))))))))))))))))))
theorem dX12_meltsBy_0 : decode cX12_meltsBy 0 = .ok (.iconst 3, 1) := by decide +kernel
theorem dX12_meltsBy_1 : decode cX12_meltsBy 1 = .ok (.iconst 2, 1) := by decide +kernel
theorem dX12_meltsBy_2 : decode cX12_meltsBy 2 = .ok (.iload_n 1, 1) := by decide +kernel
theorem dX12_meltsBy_3 : decode cX12_meltsBy 3 = .ok (.imul, 1) := by decide +kernel
theorem dX12_meltsBy_4 : decode cX12_meltsBy 4 = .ok (.iadd, 1) := by decide +kernel
theorem dX12_meltsBy_5 : decode cX12_meltsBy 5 = .ok (.istore 4, 2) := by decide +kernel
theorem dX12_meltsBy_7 : decode cX12_meltsBy 7 = .ok (.iconst 2, 1) := by decide +kernel
theorem dX12_meltsBy_8 : decode cX12_meltsBy 8 = .ok (.iload 4, 2) := by decide +kernel
theorem dX12_meltsBy_10 : decode cX12_meltsBy 10 = .ok (.imul, 1) := by decide +kernel
theorem dX12_meltsBy_11 : decode cX12_meltsBy 11 = .ok (.iload_n 2, 1) := by decide +kernel
theorem dX12_meltsBy_12 : decode cX12_meltsBy 12 = .ok (.isub, 1) := by decide +kernel
theorem dX12_meltsBy_13 : decode cX12_meltsBy 13 = .ok (.istore 5, 2) := by decide +kernel
theorem dX12_meltsBy_15 : decode cX12_meltsBy 15 = .ok (.iload_n 0, 1) := by decide +kernel
theorem dX12_meltsBy_16 : decode cX12_meltsBy 16 = .ok (.tableswitch 76 1 5 #[36, 38, 50, 64, 68], 36) := by decide +kernel
theorem dX12_meltsBy_52 : decode cX12_meltsBy 52 = .ok (.iconst 0, 1) := by decide +kernel
theorem dX12_meltsBy_53 : decode cX12_meltsBy 53 = .ok (.ireturn, 1) := by decide +kernel
theorem dX12_meltsBy_54 : decode cX12_meltsBy 54 = .ok (.iload 5, 2) := by decide +kernel
theorem dX12_meltsBy_56 : decode cX12_meltsBy 56 = .ok (.ifCond .le 8, 3) := by decide +kernel
theorem dX12_meltsBy_59 : decode cX12_meltsBy 59 = .ok (.iload 5, 2) := by decide +kernel
theorem dX12_meltsBy_61 : decode cX12_meltsBy 61 = .ok (.goto 4, 3) := by decide +kernel
theorem dX12_meltsBy_64 : decode cX12_meltsBy 64 = .ok (.iconst 0, 1) := by decide +kernel
theorem dX12_meltsBy_65 : decode cX12_meltsBy 65 = .ok (.ireturn, 1) := by decide +kernel
theorem dX12_meltsBy_66 : decode cX12_meltsBy 66 = .ok (.iload 5, 2) := by decide +kernel
theorem dX12_meltsBy_68 : decode cX12_meltsBy 68 = .ok (.ifCond .le 10, 3) := by decide +kernel
theorem dX12_meltsBy_71 : decode cX12_meltsBy 71 = .ok (.iload 5, 2) := by decide +kernel
theorem dX12_meltsBy_73 : decode cX12_meltsBy 73 = .ok (.iconst 2, 1) := by decide +kernel
theorem dX12_meltsBy_74 : decode cX12_meltsBy 74 = .ok (.idiv, 1) := by decide +kernel
theorem dX12_meltsBy_75 : decode cX12_meltsBy 75 = .ok (.goto 4, 3) := by decide +kernel
theorem dX12_meltsBy_78 : decode cX12_meltsBy 78 = .ok (.iconst 0, 1) := by decide +kernel
theorem dX12_meltsBy_79 : decode cX12_meltsBy 79 = .ok (.ireturn, 1) := by decide +kernel
theorem dX12_meltsBy_80 : decode cX12_meltsBy 80 = .ok (.iload_n 1, 1) := by decide +kernel
theorem dX12_meltsBy_81 : decode cX12_meltsBy 81 = .ok (.iload_n 1, 1) := by decide +kernel
theorem dX12_meltsBy_82 : decode cX12_meltsBy 82 = .ok (.imul, 1) := by decide +kernel
theorem dX12_meltsBy_83 : decode cX12_meltsBy 83 = .ok (.ireturn, 1) := by decide +kernel
theorem dX12_meltsBy_84 : decode cX12_meltsBy 84 = .ok (.iload_n 1, 1) := by decide +kernel
theorem dX12_meltsBy_85 : decode cX12_meltsBy 85 = .ok (.iload_n 1, 1) := by decide +kernel
theorem dX12_meltsBy_86 : decode cX12_meltsBy 86 = .ok (.imul, 1) := by decide +kernel
theorem dX12_meltsBy_87 : decode cX12_meltsBy 87 = .ok (.iload_n 3, 1) := by decide +kernel
theorem dX12_meltsBy_88 : decode cX12_meltsBy 88 = .ok (.iconst 3, 1) := by decide +kernel
theorem dX12_meltsBy_89 : decode cX12_meltsBy 89 = .ok (.idiv, 1) := by decide +kernel
theorem dX12_meltsBy_90 : decode cX12_meltsBy 90 = .ok (.iadd, 1) := by decide +kernel
theorem dX12_meltsBy_91 : decode cX12_meltsBy 91 = .ok (.ireturn, 1) := by decide +kernel
theorem dX12_meltsBy_92 : decode cX12_meltsBy 92 = .ok (.iload 4, 2) := by decide +kernel
theorem dX12_meltsBy_94 : decode cX12_meltsBy 94 = .ok (.ireturn, 1) := by decide +kernel
theorem oX12_meltsBy_0 : oP MT mX12_meltsBy 0 (0, 1, 0, 3, []) := o_iconst dX12_meltsBy_0 (by decide)
theorem oX12_meltsBy_1 : oP MT mX12_meltsBy 1 (0, 1, 0, 2, []) := o_iconst dX12_meltsBy_1 (by decide)
theorem oX12_meltsBy_2 : oP MT mX12_meltsBy 2 (1, 1, 1, 0, []) := o_iload_n dX12_meltsBy_2 rfl
theorem oX12_meltsBy_3 : oP MT mX12_meltsBy 3 (4, 1, 2, 0, []) := o_imul dX12_meltsBy_3
theorem oX12_meltsBy_4 : oP MT mX12_meltsBy 4 (4, 1, 0, 0, []) := o_iadd dX12_meltsBy_4
theorem oX12_meltsBy_5 : oP MT mX12_meltsBy 5 (2, 2, 4, 0, []) := o_istore dX12_meltsBy_5 (by decide)
theorem oX12_meltsBy_7 : oP MT mX12_meltsBy 7 (0, 1, 0, 2, []) := o_iconst dX12_meltsBy_7 (by decide)
theorem oX12_meltsBy_8 : oP MT mX12_meltsBy 8 (1, 2, 4, 0, []) := o_iload dX12_meltsBy_8
theorem oX12_meltsBy_10 : oP MT mX12_meltsBy 10 (4, 1, 2, 0, []) := o_imul dX12_meltsBy_10
theorem oX12_meltsBy_11 : oP MT mX12_meltsBy 11 (1, 1, 2, 0, []) := o_iload_n dX12_meltsBy_11 rfl
theorem oX12_meltsBy_12 : oP MT mX12_meltsBy 12 (4, 1, 1, 0, []) := o_isub dX12_meltsBy_12
theorem oX12_meltsBy_13 : oP MT mX12_meltsBy 13 (2, 2, 5, 0, []) := o_istore dX12_meltsBy_13 (by decide)
theorem oX12_meltsBy_15 : oP MT mX12_meltsBy 15 (1, 1, 0, 0, []) := o_iload_n dX12_meltsBy_15 rfl
theorem oX12_meltsBy_16 : oP MT mX12_meltsBy 16 (24, 36, 92, 0, [(1, 52), (2, 54), (3, 66), (4, 80), (5, 84)]) := o_table dX12_meltsBy_16 rfl (by decide) (by decide) (by decide)
theorem oX12_meltsBy_52 : oP MT mX12_meltsBy 52 (0, 1, 0, 0, []) := o_iconst dX12_meltsBy_52 (by decide)
theorem oX12_meltsBy_53 : oP MT mX12_meltsBy 53 (21, 1, 0, 0, []) := o_iret dX12_meltsBy_53 rfl
theorem oX12_meltsBy_54 : oP MT mX12_meltsBy 54 (1, 2, 5, 0, []) := o_iload dX12_meltsBy_54
theorem oX12_meltsBy_56 : oP MT mX12_meltsBy 56 (10, 3, 5, 64, []) := o_if_le dX12_meltsBy_56 (by decide) (by decide)
theorem oX12_meltsBy_59 : oP MT mX12_meltsBy 59 (1, 2, 5, 0, []) := o_iload dX12_meltsBy_59
theorem oX12_meltsBy_61 : oP MT mX12_meltsBy 61 (9, 3, 65, 0, []) := o_goto dX12_meltsBy_61 (by decide)
theorem oX12_meltsBy_64 : oP MT mX12_meltsBy 64 (0, 1, 0, 0, []) := o_iconst dX12_meltsBy_64 (by decide)
theorem oX12_meltsBy_65 : oP MT mX12_meltsBy 65 (21, 1, 0, 0, []) := o_iret dX12_meltsBy_65 rfl
theorem oX12_meltsBy_66 : oP MT mX12_meltsBy 66 (1, 2, 5, 0, []) := o_iload dX12_meltsBy_66
theorem oX12_meltsBy_68 : oP MT mX12_meltsBy 68 (10, 3, 5, 78, []) := o_if_le dX12_meltsBy_68 (by decide) (by decide)
theorem oX12_meltsBy_71 : oP MT mX12_meltsBy 71 (1, 2, 5, 0, []) := o_iload dX12_meltsBy_71
theorem oX12_meltsBy_73 : oP MT mX12_meltsBy 73 (0, 1, 0, 2, []) := o_iconst dX12_meltsBy_73 (by decide)
theorem oX12_meltsBy_74 : oP MT mX12_meltsBy 74 (4, 1, 9, 0, []) := o_idiv dX12_meltsBy_74
theorem oX12_meltsBy_75 : oP MT mX12_meltsBy 75 (9, 3, 79, 0, []) := o_goto dX12_meltsBy_75 (by decide)
theorem oX12_meltsBy_78 : oP MT mX12_meltsBy 78 (0, 1, 0, 0, []) := o_iconst dX12_meltsBy_78 (by decide)
theorem oX12_meltsBy_79 : oP MT mX12_meltsBy 79 (21, 1, 0, 0, []) := o_iret dX12_meltsBy_79 rfl
theorem oX12_meltsBy_80 : oP MT mX12_meltsBy 80 (1, 1, 1, 0, []) := o_iload_n dX12_meltsBy_80 rfl
theorem oX12_meltsBy_81 : oP MT mX12_meltsBy 81 (1, 1, 1, 0, []) := o_iload_n dX12_meltsBy_81 rfl
theorem oX12_meltsBy_82 : oP MT mX12_meltsBy 82 (4, 1, 2, 0, []) := o_imul dX12_meltsBy_82
theorem oX12_meltsBy_83 : oP MT mX12_meltsBy 83 (21, 1, 0, 0, []) := o_iret dX12_meltsBy_83 rfl
theorem oX12_meltsBy_84 : oP MT mX12_meltsBy 84 (1, 1, 1, 0, []) := o_iload_n dX12_meltsBy_84 rfl
theorem oX12_meltsBy_85 : oP MT mX12_meltsBy 85 (1, 1, 1, 0, []) := o_iload_n dX12_meltsBy_85 rfl
theorem oX12_meltsBy_86 : oP MT mX12_meltsBy 86 (4, 1, 2, 0, []) := o_imul dX12_meltsBy_86
theorem oX12_meltsBy_87 : oP MT mX12_meltsBy 87 (1, 1, 3, 0, []) := o_iload_n dX12_meltsBy_87 rfl
theorem oX12_meltsBy_88 : oP MT mX12_meltsBy 88 (0, 1, 0, 3, []) := o_iconst dX12_meltsBy_88 (by decide)
theorem oX12_meltsBy_89 : oP MT mX12_meltsBy 89 (4, 1, 9, 0, []) := o_idiv dX12_meltsBy_89
theorem oX12_meltsBy_90 : oP MT mX12_meltsBy 90 (4, 1, 0, 0, []) := o_iadd dX12_meltsBy_90
theorem oX12_meltsBy_91 : oP MT mX12_meltsBy 91 (21, 1, 0, 0, []) := o_iret dX12_meltsBy_91 rfl
theorem oX12_meltsBy_92 : oP MT mX12_meltsBy 92 (1, 2, 4, 0, []) := o_iload dX12_meltsBy_92
theorem oX12_meltsBy_94 : oP MT mX12_meltsBy 94 (21, 1, 0, 0, []) := o_iret dX12_meltsBy_94 rfl
def ops_X12_meltsBy : List (Nat × aO) := [(0, (0, 1, 0, 3, [])), (1, (0, 1, 0, 2, [])), (2, (1, 1, 1, 0, [])), (3, (4, 1, 2, 0, [])), (4, (4, 1, 0, 0, [])), (5, (2, 2, 4, 0, [])), (7, (0, 1, 0, 2, [])), (8, (1, 2, 4, 0, [])), (10, (4, 1, 2, 0, [])), (11, (1, 1, 2, 0, [])), (12, (4, 1, 1, 0, [])), (13, (2, 2, 5, 0, [])), (15, (1, 1, 0, 0, [])), (16, (24, 36, 92, 0, [(1, 52), (2, 54), (3, 66), (4, 80), (5, 84)])), (52, (0, 1, 0, 0, [])), (53, (21, 1, 0, 0, [])), (54, (1, 2, 5, 0, [])), (56, (10, 3, 5, 64, [])), (59, (1, 2, 5, 0, [])), (61, (9, 3, 65, 0, [])), (64, (0, 1, 0, 0, [])), (65, (21, 1, 0, 0, [])), (66, (1, 2, 5, 0, [])), (68, (10, 3, 5, 78, [])), (71, (1, 2, 5, 0, [])), (73, (0, 1, 0, 2, [])), (74, (4, 1, 9, 0, [])), (75, (9, 3, 79, 0, [])), (78, (0, 1, 0, 0, [])), (79, (21, 1, 0, 0, [])), (80, (1, 1, 1, 0, [])), (81, (1, 1, 1, 0, [])), (82, (4, 1, 2, 0, [])), (83, (21, 1, 0, 0, [])), (84, (1, 1, 1, 0, [])), (85, (1, 1, 1, 0, [])), (86, (4, 1, 2, 0, [])), (87, (1, 1, 3, 0, [])), (88, (0, 1, 0, 3, [])), (89, (4, 1, 9, 0, [])), (90, (4, 1, 0, 0, [])), (91, (21, 1, 0, 0, [])), (92, (1, 2, 4, 0, [])), (94, (21, 1, 0, 0, []))]
theorem os_X12_meltsBy : oA MT mX12_meltsBy ops_X12_meltsBy := (oA.cons oX12_meltsBy_0 (oA.cons oX12_meltsBy_1 (oA.cons oX12_meltsBy_2 (oA.cons oX12_meltsBy_3 (oA.cons oX12_meltsBy_4 (oA.cons oX12_meltsBy_5 (oA.cons oX12_meltsBy_7 (oA.cons oX12_meltsBy_8 (oA.cons oX12_meltsBy_10 (oA.cons oX12_meltsBy_11 (oA.cons oX12_meltsBy_12 (oA.cons oX12_meltsBy_13 (oA.cons oX12_meltsBy_15 (oA.cons oX12_meltsBy_16 (oA.cons oX12_meltsBy_52 (oA.cons oX12_meltsBy_53 (oA.cons oX12_meltsBy_54 (oA.cons oX12_meltsBy_56 (oA.cons oX12_meltsBy_59 (oA.cons oX12_meltsBy_61 (oA.cons oX12_meltsBy_64 (oA.cons oX12_meltsBy_65 (oA.cons oX12_meltsBy_66 (oA.cons oX12_meltsBy_68 (oA.cons oX12_meltsBy_71 (oA.cons oX12_meltsBy_73 (oA.cons oX12_meltsBy_74 (oA.cons oX12_meltsBy_75 (oA.cons oX12_meltsBy_78 (oA.cons oX12_meltsBy_79 (oA.cons oX12_meltsBy_80 (oA.cons oX12_meltsBy_81 (oA.cons oX12_meltsBy_82 (oA.cons oX12_meltsBy_83 (oA.cons oX12_meltsBy_84 (oA.cons oX12_meltsBy_85 (oA.cons oX12_meltsBy_86 (oA.cons oX12_meltsBy_87 (oA.cons oX12_meltsBy_88 (oA.cons oX12_meltsBy_89 (oA.cons oX12_meltsBy_90 (oA.cons oX12_meltsBy_91 (oA.cons oX12_meltsBy_92 (oA.cons oX12_meltsBy_94 oA.nil))))))))))))))))))))))))))))))))))))))))))))
theorem dX12_isKey_0 : decode cX12_isKey 0 = .ok (.iload_n 1, 1) := by decide +kernel
theorem dX12_isKey_1 : decode cX12_isKey 1 = .ok (.iconst 0, 1) := by decide +kernel
theorem dX12_isKey_2 : decode cX12_isKey 2 = .ok (.aload_n 0, 1) := by decide +kernel
theorem dX12_isKey_3 : decode cX12_isKey 3 = .ok (.getfield 9, 3) := by decide +kernel
theorem dX12_isKey_6 : decode cX12_isKey 6 = .ok (.iconst 4, 1) := by decide +kernel
theorem dX12_isKey_7 : decode cX12_isKey 7 = .ok (.iaload, 1) := by decide +kernel
theorem dX12_isKey_8 : decode cX12_isKey 8 = .ok (.iconst 1, 1) := by decide +kernel
theorem dX12_isKey_9 : decode cX12_isKey 9 = .ok (.isub, 1) := by decide +kernel
theorem dX12_isKey_10 : decode cX12_isKey 10 = .ok (.invokestatic 71, 3) := by decide +kernel
theorem dX12_isKey_13 : decode cX12_isKey 13 = .ok (.ireturn, 1) := by decide +kernel
theorem oX12_isKey_0 : oP MT mX12_isKey 0 (1, 1, 1, 0, []) := o_iload_n dX12_isKey_0 rfl
theorem oX12_isKey_1 : oP MT mX12_isKey 1 (0, 1, 0, 0, []) := o_iconst dX12_isKey_1 (by decide)
theorem oX12_isKey_2 : oP MT mX12_isKey 2 (1, 1, 0, 1, []) := o_aload_n dX12_isKey_2 rfl
theorem oX12_isKey_3 : oP MT mX12_isKey 3 (13, 3, 0, 12, []) := o_getR (M := mX12_isKey) (C := RX12) (T := TX12) (ci := 12) (j := 0) (z := 12) dX12_isKey_3 rfl lq_RX12_9 rfl rfl
theorem oX12_isKey_6 : oP MT mX12_isKey 6 (0, 1, 0, 4, []) := o_iconst dX12_isKey_6 (by decide)
theorem oX12_isKey_7 : oP MT mX12_isKey 7 (16, 1, 1, 0, []) := o_iaload dX12_isKey_7
theorem oX12_isKey_8 : oP MT mX12_isKey 8 (0, 1, 0, 1, []) := o_iconst dX12_isKey_8 (by decide)
theorem oX12_isKey_9 : oP MT mX12_isKey 9 (4, 1, 1, 0, []) := o_isub dX12_isKey_9
theorem oX12_isKey_10 : oP MT mX12_isKey 10 (25, 3, 127, 3, []) := o_callS dX12_isKey_10 (mj := mX12_in1) mt_X12_in1 cmq_X12_in1 wq_468 wq_470 (by decide) (by decide)
theorem oX12_isKey_13 : oP MT mX12_isKey 13 (22, 1, 0, 0, []) := o_zret dX12_isKey_13 rfl
def ops_X12_isKey : List (Nat × aO) := [(0, (1, 1, 1, 0, [])), (1, (0, 1, 0, 0, [])), (2, (1, 1, 0, 1, [])), (3, (13, 3, 0, 12, [])), (6, (0, 1, 0, 4, [])), (7, (16, 1, 1, 0, [])), (8, (0, 1, 0, 1, [])), (9, (4, 1, 1, 0, [])), (10, (25, 3, 127, 3, [])), (13, (22, 1, 0, 0, []))]
theorem os_X12_isKey : oA MT mX12_isKey ops_X12_isKey := (oA.cons oX12_isKey_0 (oA.cons oX12_isKey_1 (oA.cons oX12_isKey_2 (oA.cons oX12_isKey_3 (oA.cons oX12_isKey_6 (oA.cons oX12_isKey_7 (oA.cons oX12_isKey_8 (oA.cons oX12_isKey_9 (oA.cons oX12_isKey_10 (oA.cons oX12_isKey_13 oA.nil))))))))))
theorem dX12_isOver_0 : decode cX12_isOver 0 = .ok (.aload_n 0, 1) := by decide +kernel
theorem dX12_isOver_1 : decode cX12_isOver 1 = .ok (.getfield 9, 3) := by decide +kernel
theorem dX12_isOver_4 : decode cX12_isOver 4 = .ok (.iconst 0, 1) := by decide +kernel
theorem dX12_isOver_5 : decode cX12_isOver 5 = .ok (.iaload, 1) := by decide +kernel
theorem dX12_isOver_6 : decode cX12_isOver 6 = .ok (.aload_n 0, 1) := by decide +kernel
theorem dX12_isOver_7 : decode cX12_isOver 7 = .ok (.getfield 9, 3) := by decide +kernel
theorem dX12_isOver_10 : decode cX12_isOver 10 = .ok (.iconst 1, 1) := by decide +kernel
theorem dX12_isOver_11 : decode cX12_isOver 11 = .ok (.iaload, 1) := by decide +kernel
theorem dX12_isOver_12 : decode cX12_isOver 12 = .ok (.if_icmp .lt 7, 3) := by decide +kernel
theorem dX12_isOver_15 : decode cX12_isOver 15 = .ok (.iconst 1, 1) := by decide +kernel
theorem dX12_isOver_16 : decode cX12_isOver 16 = .ok (.goto 4, 3) := by decide +kernel
theorem dX12_isOver_19 : decode cX12_isOver 19 = .ok (.iconst 0, 1) := by decide +kernel
theorem dX12_isOver_20 : decode cX12_isOver 20 = .ok (.ireturn, 1) := by decide +kernel
theorem oX12_isOver_0 : oP MT mX12_isOver 0 (1, 1, 0, 1, []) := o_aload_n dX12_isOver_0 rfl
theorem oX12_isOver_1 : oP MT mX12_isOver 1 (13, 3, 0, 12, []) := o_getR (M := mX12_isOver) (C := RX12) (T := TX12) (ci := 12) (j := 0) (z := 12) dX12_isOver_1 rfl lq_RX12_9 rfl rfl
theorem oX12_isOver_4 : oP MT mX12_isOver 4 (0, 1, 0, 0, []) := o_iconst dX12_isOver_4 (by decide)
theorem oX12_isOver_5 : oP MT mX12_isOver 5 (16, 1, 1, 0, []) := o_iaload dX12_isOver_5
theorem oX12_isOver_6 : oP MT mX12_isOver 6 (1, 1, 0, 1, []) := o_aload_n dX12_isOver_6 rfl
theorem oX12_isOver_7 : oP MT mX12_isOver 7 (13, 3, 0, 12, []) := o_getR (M := mX12_isOver) (C := RX12) (T := TX12) (ci := 12) (j := 0) (z := 12) dX12_isOver_7 rfl lq_RX12_9 rfl rfl
theorem oX12_isOver_10 : oP MT mX12_isOver 10 (0, 1, 0, 1, []) := o_iconst dX12_isOver_10 (by decide)
theorem oX12_isOver_11 : oP MT mX12_isOver 11 (16, 1, 1, 0, []) := o_iaload dX12_isOver_11
theorem oX12_isOver_12 : oP MT mX12_isOver 12 (11, 3, 2, 19, []) := o_icmp_lt dX12_isOver_12 (by decide) (by decide)
theorem oX12_isOver_15 : oP MT mX12_isOver 15 (0, 1, 0, 1, []) := o_iconst dX12_isOver_15 (by decide)
theorem oX12_isOver_16 : oP MT mX12_isOver 16 (9, 3, 20, 0, []) := o_goto dX12_isOver_16 (by decide)
theorem oX12_isOver_19 : oP MT mX12_isOver 19 (0, 1, 0, 0, []) := o_iconst dX12_isOver_19 (by decide)
theorem oX12_isOver_20 : oP MT mX12_isOver 20 (22, 1, 0, 0, []) := o_zret dX12_isOver_20 rfl
def ops_X12_isOver : List (Nat × aO) := [(0, (1, 1, 0, 1, [])), (1, (13, 3, 0, 12, [])), (4, (0, 1, 0, 0, [])), (5, (16, 1, 1, 0, [])), (6, (1, 1, 0, 1, [])), (7, (13, 3, 0, 12, [])), (10, (0, 1, 0, 1, [])), (11, (16, 1, 1, 0, [])), (12, (11, 3, 2, 19, [])), (15, (0, 1, 0, 1, [])), (16, (9, 3, 20, 0, [])), (19, (0, 1, 0, 0, [])), (20, (22, 1, 0, 0, []))]
theorem os_X12_isOver : oA MT mX12_isOver ops_X12_isOver := (oA.cons oX12_isOver_0 (oA.cons oX12_isOver_1 (oA.cons oX12_isOver_4 (oA.cons oX12_isOver_5 (oA.cons oX12_isOver_6 (oA.cons oX12_isOver_7 (oA.cons oX12_isOver_10 (oA.cons oX12_isOver_11 (oA.cons oX12_isOver_12 (oA.cons oX12_isOver_15 (oA.cons oX12_isOver_16 (oA.cons oX12_isOver_19 (oA.cons oX12_isOver_20 oA.nil)))))))))))))
theorem dX12_goesBy_0 : decode cX12_goesBy 0 = .ok (.iload_n 1, 1) := by decide +kernel
theorem dX12_goesBy_1 : decode cX12_goesBy 1 = .ok (.ifCond .ge 10, 3) := by decide +kernel
theorem dX12_goesBy_4 : decode cX12_goesBy 4 = .ok (.aload_n 0, 1) := by decide +kernel
theorem dX12_goesBy_5 : decode cX12_goesBy 5 = .ok (.invokevirtual 208, 3) := by decide +kernel
theorem dX12_goesBy_8 : decode cX12_goesBy 8 = .ok (.goto 6, 3) := by decide +kernel
theorem dX12_goesBy_11 : decode cX12_goesBy 11 = .ok (.iload_n 1, 1) := by decide +kernel
theorem dX12_goesBy_12 : decode cX12_goesBy 12 = .ok (.iconst 1, 1) := by decide +kernel
theorem dX12_goesBy_13 : decode cX12_goesBy 13 = .ok (.isub, 1) := by decide +kernel
theorem dX12_goesBy_14 : decode cX12_goesBy 14 = .ok (.istore_n 2, 1) := by decide +kernel
theorem dX12_goesBy_15 : decode cX12_goesBy 15 = .ok (.iload_n 2, 1) := by decide +kernel
theorem dX12_goesBy_16 : decode cX12_goesBy 16 = .ok (.ifCond .lt 11, 3) := by decide +kernel
theorem dX12_goesBy_19 : decode cX12_goesBy 19 = .ok (.aload_n 0, 1) := by decide +kernel
theorem dX12_goesBy_20 : decode cX12_goesBy 20 = .ok (.iload_n 2, 1) := by decide +kernel
theorem dX12_goesBy_21 : decode cX12_goesBy 21 = .ok (.invokevirtual 211, 3) := by decide +kernel
theorem dX12_goesBy_24 : decode cX12_goesBy 24 = .ok (.goto 4, 3) := by decide +kernel
theorem dX12_goesBy_27 : decode cX12_goesBy 27 = .ok (.iconst 0, 1) := by decide +kernel
theorem dX12_goesBy_28 : decode cX12_goesBy 28 = .ok (.istore_n 3, 1) := by decide +kernel
theorem dX12_goesBy_29 : decode cX12_goesBy 29 = .ok (.iconst 0, 1) := by decide +kernel
theorem dX12_goesBy_30 : decode cX12_goesBy 30 = .ok (.istore 4, 2) := by decide +kernel
theorem dX12_goesBy_32 : decode cX12_goesBy 32 = .ok (.iload 4, 2) := by decide +kernel
theorem dX12_goesBy_34 : decode cX12_goesBy 34 = .ok (.aload_n 0, 1) := by decide +kernel
theorem dX12_goesBy_35 : decode cX12_goesBy 35 = .ok (.getfield 9, 3) := by decide +kernel
theorem dX12_goesBy_38 : decode cX12_goesBy 38 = .ok (.iconst 4, 1) := by decide +kernel
theorem dX12_goesBy_39 : decode cX12_goesBy 39 = .ok (.iaload, 1) := by decide +kernel
theorem dX12_goesBy_40 : decode cX12_goesBy 40 = .ok (.if_icmp .ge 64, 3) := by decide +kernel
theorem dX12_goesBy_43 : decode cX12_goesBy 43 = .ok (.aload_n 0, 1) := by decide +kernel
theorem dX12_goesBy_44 : decode cX12_goesBy 44 = .ok (.iload 4, 2) := by decide +kernel
theorem dX12_goesBy_46 : decode cX12_goesBy 46 = .ok (.iconst 1, 1) := by decide +kernel
theorem dX12_goesBy_47 : decode cX12_goesBy 47 = .ok (.aload_n 0, 1) := by decide +kernel
theorem dX12_goesBy_48 : decode cX12_goesBy 48 = .ok (.iload 4, 2) := by decide +kernel
theorem dX12_goesBy_50 : decode cX12_goesBy 50 = .ok (.iconst 1, 1) := by decide +kernel
theorem dX12_goesBy_51 : decode cX12_goesBy 51 = .ok (.invokevirtual 79, 3) := by decide +kernel
theorem dX12_goesBy_54 : decode cX12_goesBy 54 = .ok (.aload_n 0, 1) := by decide +kernel
theorem dX12_goesBy_55 : decode cX12_goesBy 55 = .ok (.iload 4, 2) := by decide +kernel
theorem dX12_goesBy_57 : decode cX12_goesBy 57 = .ok (.invokevirtual 214, 3) := by decide +kernel
theorem dX12_goesBy_60 : decode cX12_goesBy 60 = .ok (.isub, 1) := by decide +kernel
theorem dX12_goesBy_61 : decode cX12_goesBy 61 = .ok (.bipush 99, 2) := by decide +kernel
theorem dX12_goesBy_63 : decode cX12_goesBy 63 = .ok (.invokestatic 202, 3) := by decide +kernel
theorem dX12_goesBy_66 : decode cX12_goesBy 66 = .ok (.invokevirtual 195, 3) := by decide +kernel
theorem dX12_goesBy_69 : decode cX12_goesBy 69 = .ok (.iload_n 3, 1) := by decide +kernel
theorem dX12_goesBy_70 : decode cX12_goesBy 70 = .ok (.aload_n 0, 1) := by decide +kernel
theorem dX12_goesBy_71 : decode cX12_goesBy 71 = .ok (.iload 4, 2) := by decide +kernel
theorem dX12_goesBy_73 : decode cX12_goesBy 73 = .ok (.iconst 4, 1) := by decide +kernel
theorem dX12_goesBy_74 : decode cX12_goesBy 74 = .ok (.invokevirtual 79, 3) := by decide +kernel
theorem dX12_goesBy_77 : decode cX12_goesBy 77 = .ok (.iconst 1, 1) := by decide +kernel
theorem dX12_goesBy_78 : decode cX12_goesBy 78 = .ok (.if_icmp .ne 17, 3) := by decide +kernel
theorem dX12_goesBy_81 : decode cX12_goesBy 81 = .ok (.aload_n 0, 1) := by decide +kernel
theorem dX12_goesBy_82 : decode cX12_goesBy 82 = .ok (.iload 4, 2) := by decide +kernel
theorem dX12_goesBy_84 : decode cX12_goesBy 84 = .ok (.iconst 1, 1) := by decide +kernel
theorem dX12_goesBy_85 : decode cX12_goesBy 85 = .ok (.invokevirtual 79, 3) := by decide +kernel
theorem dX12_goesBy_88 : decode cX12_goesBy 88 = .ok (.ifCond .le 7, 3) := by decide +kernel
theorem dX12_goesBy_91 : decode cX12_goesBy 91 = .ok (.iconst 1, 1) := by decide +kernel
theorem dX12_goesBy_92 : decode cX12_goesBy 92 = .ok (.goto 4, 3) := by decide +kernel
theorem dX12_goesBy_95 : decode cX12_goesBy 95 = .ok (.iconst 0, 1) := by decide +kernel
theorem dX12_goesBy_96 : decode cX12_goesBy 96 = .ok (.iadd, 1) := by decide +kernel
theorem dX12_goesBy_97 : decode cX12_goesBy 97 = .ok (.istore_n 3, 1) := by decide +kernel
theorem dX12_goesBy_98 : decode cX12_goesBy 98 = .ok (.iinc 4 1, 3) := by decide +kernel
theorem dX12_goesBy_101 : decode cX12_goesBy 101 = .ok (.goto (-69), 3) := by decide +kernel
theorem dX12_goesBy_104 : decode cX12_goesBy 104 = .ok (.aload_n 0, 1) := by decide +kernel
theorem dX12_goesBy_105 : decode cX12_goesBy 105 = .ok (.getfield 9, 3) := by decide +kernel
theorem dX12_goesBy_108 : decode cX12_goesBy 108 = .ok (.iconst 0, 1) := by decide +kernel
theorem dX12_goesBy_109 : decode cX12_goesBy 109 = .ok (.dup2, 1) := by decide +kernel
theorem dX12_goesBy_110 : decode cX12_goesBy 110 = .ok (.iaload, 1) := by decide +kernel
theorem dX12_goesBy_111 : decode cX12_goesBy 111 = .ok (.iconst 1, 1) := by decide +kernel
theorem dX12_goesBy_112 : decode cX12_goesBy 112 = .ok (.iadd, 1) := by decide +kernel
theorem dX12_goesBy_113 : decode cX12_goesBy 113 = .ok (.iastore, 1) := by decide +kernel
theorem dX12_goesBy_114 : decode cX12_goesBy 114 = .ok (.aload_n 0, 1) := by decide +kernel
theorem dX12_goesBy_115 : decode cX12_goesBy 115 = .ok (.getfield 9, 3) := by decide +kernel
theorem dX12_goesBy_118 : decode cX12_goesBy 118 = .ok (.iconst 2, 1) := by decide +kernel
theorem dX12_goesBy_119 : decode cX12_goesBy 119 = .ok (.dup2, 1) := by decide +kernel
theorem dX12_goesBy_120 : decode cX12_goesBy 120 = .ok (.iaload, 1) := by decide +kernel
theorem dX12_goesBy_121 : decode cX12_goesBy 121 = .ok (.iload_n 3, 1) := by decide +kernel
theorem dX12_goesBy_122 : decode cX12_goesBy 122 = .ok (.iadd, 1) := by decide +kernel
theorem dX12_goesBy_123 : decode cX12_goesBy 123 = .ok (.iastore, 1) := by decide +kernel
theorem dX12_goesBy_124 : decode cX12_goesBy 124 = .ok (.iload_n 3, 1) := by decide +kernel
theorem dX12_goesBy_125 : decode cX12_goesBy 125 = .ok (.ireturn, 1) := by decide +kernel
theorem oX12_goesBy_0 : oP MT mX12_goesBy 0 (1, 1, 1, 0, []) := o_iload_n dX12_goesBy_0 rfl
theorem oX12_goesBy_1 : oP MT mX12_goesBy 1 (10, 3, 3, 11, []) := o_if_ge dX12_goesBy_1 (by decide) (by decide)
theorem oX12_goesBy_4 : oP MT mX12_goesBy 4 (1, 1, 0, 1, []) := o_aload_n dX12_goesBy_4 rfl
theorem oX12_goesBy_5 : oP MT mX12_goesBy 5 (26, 3, 0, 0, [(12, 145)]) := o_callO ((vA.cons (v_callV dX12_goesBy_5 (ci := 12) rfl rfl (mj := mX12_restOne) mt_X12_restOne cmq_X12_restOne wq_545 wq_547 wq_548 (by decide) (by decide)) vA.nil))
theorem oX12_goesBy_8 : oP MT mX12_goesBy 8 (9, 3, 14, 0, []) := o_goto dX12_goesBy_8 (by decide)
theorem oX12_goesBy_11 : oP MT mX12_goesBy 11 (1, 1, 1, 0, []) := o_iload_n dX12_goesBy_11 rfl
theorem oX12_goesBy_12 : oP MT mX12_goesBy 12 (0, 1, 0, 1, []) := o_iconst dX12_goesBy_12 (by decide)
theorem oX12_goesBy_13 : oP MT mX12_goesBy 13 (4, 1, 1, 0, []) := o_isub dX12_goesBy_13
theorem oX12_goesBy_14 : oP MT mX12_goesBy 14 (2, 1, 2, 0, []) := o_istore_n dX12_goesBy_14 rfl (by decide)
theorem oX12_goesBy_15 : oP MT mX12_goesBy 15 (1, 1, 2, 0, []) := o_iload_n dX12_goesBy_15 rfl
theorem oX12_goesBy_16 : oP MT mX12_goesBy 16 (10, 3, 2, 27, []) := o_if_lt dX12_goesBy_16 (by decide) (by decide)
theorem oX12_goesBy_19 : oP MT mX12_goesBy 19 (1, 1, 0, 1, []) := o_aload_n dX12_goesBy_19 rfl
theorem oX12_goesBy_20 : oP MT mX12_goesBy 20 (1, 1, 2, 0, []) := o_iload_n dX12_goesBy_20 rfl
theorem oX12_goesBy_21 : oP MT mX12_goesBy 21 (26, 3, 0, 1, [(12, 146)]) := o_callO ((vA.cons (v_callV dX12_goesBy_21 (ci := 12) rfl rfl (mj := mX12_meets) mt_X12_meets cmq_X12_meets wq_549 wq_551 wq_552 (by decide) (by decide)) vA.nil))
theorem oX12_goesBy_24 : oP MT mX12_goesBy 24 (9, 3, 28, 0, []) := o_goto dX12_goesBy_24 (by decide)
theorem oX12_goesBy_27 : oP MT mX12_goesBy 27 (0, 1, 0, 0, []) := o_iconst dX12_goesBy_27 (by decide)
theorem oX12_goesBy_28 : oP MT mX12_goesBy 28 (2, 1, 3, 0, []) := o_istore_n dX12_goesBy_28 rfl (by decide)
theorem oX12_goesBy_29 : oP MT mX12_goesBy 29 (0, 1, 0, 0, []) := o_iconst dX12_goesBy_29 (by decide)
theorem oX12_goesBy_30 : oP MT mX12_goesBy 30 (2, 2, 4, 0, []) := o_istore dX12_goesBy_30 (by decide)
theorem oX12_goesBy_32 : oP MT mX12_goesBy 32 (1, 2, 4, 0, []) := o_iload dX12_goesBy_32
theorem oX12_goesBy_34 : oP MT mX12_goesBy 34 (1, 1, 0, 1, []) := o_aload_n dX12_goesBy_34 rfl
theorem oX12_goesBy_35 : oP MT mX12_goesBy 35 (13, 3, 0, 12, []) := o_getR (M := mX12_goesBy) (C := RX12) (T := TX12) (ci := 12) (j := 0) (z := 12) dX12_goesBy_35 rfl lq_RX12_9 rfl rfl
theorem oX12_goesBy_38 : oP MT mX12_goesBy 38 (0, 1, 0, 4, []) := o_iconst dX12_goesBy_38 (by decide)
theorem oX12_goesBy_39 : oP MT mX12_goesBy 39 (16, 1, 1, 0, []) := o_iaload dX12_goesBy_39
theorem oX12_goesBy_40 : oP MT mX12_goesBy 40 (11, 3, 3, 104, []) := o_icmp_ge dX12_goesBy_40 (by decide) (by decide)
theorem oX12_goesBy_43 : oP MT mX12_goesBy 43 (1, 1, 0, 1, []) := o_aload_n dX12_goesBy_43 rfl
theorem oX12_goesBy_44 : oP MT mX12_goesBy 44 (1, 2, 4, 0, []) := o_iload dX12_goesBy_44
theorem oX12_goesBy_46 : oP MT mX12_goesBy 46 (0, 1, 0, 1, []) := o_iconst dX12_goesBy_46 (by decide)
theorem oX12_goesBy_47 : oP MT mX12_goesBy 47 (1, 1, 0, 1, []) := o_aload_n dX12_goesBy_47 rfl
theorem oX12_goesBy_48 : oP MT mX12_goesBy 48 (1, 2, 4, 0, []) := o_iload dX12_goesBy_48
theorem oX12_goesBy_50 : oP MT mX12_goesBy 50 (0, 1, 0, 1, []) := o_iconst dX12_goesBy_50 (by decide)
theorem oX12_goesBy_51 : oP MT mX12_goesBy 51 (26, 3, 0, 2, [(12, 112)]) := o_callO ((vA.cons (v_callV dX12_goesBy_51 (ci := 12) rfl rfl (mj := mX12_get) mt_X12_get cmq_X12_get wq_435 wq_437 wq_438 (by decide) (by decide)) vA.nil))
theorem oX12_goesBy_54 : oP MT mX12_goesBy 54 (1, 1, 0, 1, []) := o_aload_n dX12_goesBy_54 rfl
theorem oX12_goesBy_55 : oP MT mX12_goesBy 55 (1, 2, 4, 0, []) := o_iload dX12_goesBy_55
theorem oX12_goesBy_57 : oP MT mX12_goesBy 57 (26, 3, 0, 1, [(12, 147)]) := o_callO ((vA.cons (v_callV dX12_goesBy_57 (ci := 12) rfl rfl (mj := mX12_meltsOf) mt_X12_meltsOf cmq_X12_meltsOf wq_553 wq_555 wq_556 (by decide) (by decide)) vA.nil))
theorem oX12_goesBy_60 : oP MT mX12_goesBy 60 (4, 1, 1, 0, []) := o_isub dX12_goesBy_60
theorem oX12_goesBy_61 : oP MT mX12_goesBy 61 (0, 2, 0, 99, []) := o_bipush dX12_goesBy_61 (by decide)
theorem oX12_goesBy_63 : oP MT mX12_goesBy 63 (25, 3, 143, 2, []) := o_callS dX12_goesBy_63 (mj := mX12_held) mt_X12_held cmq_X12_held wq_539 wq_541 (by decide) (by decide)
theorem oX12_goesBy_66 : oP MT mX12_goesBy 66 (26, 3, 0, 3, [(12, 141)]) := o_callO ((vA.cons (v_callV dX12_goesBy_66 (ci := 12) rfl rfl (mj := mX12_puts) mt_X12_puts cmq_X12_puts wq_523 wq_525 wq_526 (by decide) (by decide)) vA.nil))
theorem oX12_goesBy_69 : oP MT mX12_goesBy 69 (1, 1, 3, 0, []) := o_iload_n dX12_goesBy_69 rfl
theorem oX12_goesBy_70 : oP MT mX12_goesBy 70 (1, 1, 0, 1, []) := o_aload_n dX12_goesBy_70 rfl
theorem oX12_goesBy_71 : oP MT mX12_goesBy 71 (1, 2, 4, 0, []) := o_iload dX12_goesBy_71
theorem oX12_goesBy_73 : oP MT mX12_goesBy 73 (0, 1, 0, 4, []) := o_iconst dX12_goesBy_73 (by decide)
theorem oX12_goesBy_74 : oP MT mX12_goesBy 74 (26, 3, 0, 2, [(12, 112)]) := o_callO ((vA.cons (v_callV dX12_goesBy_74 (ci := 12) rfl rfl (mj := mX12_get) mt_X12_get cmq_X12_get wq_435 wq_437 wq_438 (by decide) (by decide)) vA.nil))
theorem oX12_goesBy_77 : oP MT mX12_goesBy 77 (0, 1, 0, 1, []) := o_iconst dX12_goesBy_77 (by decide)
theorem oX12_goesBy_78 : oP MT mX12_goesBy 78 (11, 3, 1, 95, []) := o_icmp_ne dX12_goesBy_78 (by decide) (by decide)
theorem oX12_goesBy_81 : oP MT mX12_goesBy 81 (1, 1, 0, 1, []) := o_aload_n dX12_goesBy_81 rfl
theorem oX12_goesBy_82 : oP MT mX12_goesBy 82 (1, 2, 4, 0, []) := o_iload dX12_goesBy_82
theorem oX12_goesBy_84 : oP MT mX12_goesBy 84 (0, 1, 0, 1, []) := o_iconst dX12_goesBy_84 (by decide)
theorem oX12_goesBy_85 : oP MT mX12_goesBy 85 (26, 3, 0, 2, [(12, 112)]) := o_callO ((vA.cons (v_callV dX12_goesBy_85 (ci := 12) rfl rfl (mj := mX12_get) mt_X12_get cmq_X12_get wq_435 wq_437 wq_438 (by decide) (by decide)) vA.nil))
theorem oX12_goesBy_88 : oP MT mX12_goesBy 88 (10, 3, 5, 95, []) := o_if_le dX12_goesBy_88 (by decide) (by decide)
theorem oX12_goesBy_91 : oP MT mX12_goesBy 91 (0, 1, 0, 1, []) := o_iconst dX12_goesBy_91 (by decide)
theorem oX12_goesBy_92 : oP MT mX12_goesBy 92 (9, 3, 96, 0, []) := o_goto dX12_goesBy_92 (by decide)
theorem oX12_goesBy_95 : oP MT mX12_goesBy 95 (0, 1, 0, 0, []) := o_iconst dX12_goesBy_95 (by decide)
theorem oX12_goesBy_96 : oP MT mX12_goesBy 96 (4, 1, 0, 0, []) := o_iadd dX12_goesBy_96
theorem oX12_goesBy_97 : oP MT mX12_goesBy 97 (2, 1, 3, 0, []) := o_istore_n dX12_goesBy_97 rfl (by decide)
theorem oX12_goesBy_98 : oP MT mX12_goesBy 98 (3, 3, 4, 1, []) := o_iinc dX12_goesBy_98 (by decide) (by decide)
theorem oX12_goesBy_101 : oP MT mX12_goesBy 101 (9, 3, 32, 0, []) := o_goto dX12_goesBy_101 (by decide)
theorem oX12_goesBy_104 : oP MT mX12_goesBy 104 (1, 1, 0, 1, []) := o_aload_n dX12_goesBy_104 rfl
theorem oX12_goesBy_105 : oP MT mX12_goesBy 105 (13, 3, 0, 12, []) := o_getR (M := mX12_goesBy) (C := RX12) (T := TX12) (ci := 12) (j := 0) (z := 12) dX12_goesBy_105 rfl lq_RX12_9 rfl rfl
theorem oX12_goesBy_108 : oP MT mX12_goesBy 108 (0, 1, 0, 0, []) := o_iconst dX12_goesBy_108 (by decide)
theorem oX12_goesBy_109 : oP MT mX12_goesBy 109 (7, 1, 0, 0, []) := o_dup2 dX12_goesBy_109
theorem oX12_goesBy_110 : oP MT mX12_goesBy 110 (16, 1, 1, 0, []) := o_iaload dX12_goesBy_110
theorem oX12_goesBy_111 : oP MT mX12_goesBy 111 (0, 1, 0, 1, []) := o_iconst dX12_goesBy_111 (by decide)
theorem oX12_goesBy_112 : oP MT mX12_goesBy 112 (4, 1, 0, 0, []) := o_iadd dX12_goesBy_112
theorem oX12_goesBy_113 : oP MT mX12_goesBy 113 (18, 1, 0, 0, []) := o_iastore dX12_goesBy_113
theorem oX12_goesBy_114 : oP MT mX12_goesBy 114 (1, 1, 0, 1, []) := o_aload_n dX12_goesBy_114 rfl
theorem oX12_goesBy_115 : oP MT mX12_goesBy 115 (13, 3, 0, 12, []) := o_getR (M := mX12_goesBy) (C := RX12) (T := TX12) (ci := 12) (j := 0) (z := 12) dX12_goesBy_115 rfl lq_RX12_9 rfl rfl
theorem oX12_goesBy_118 : oP MT mX12_goesBy 118 (0, 1, 0, 2, []) := o_iconst dX12_goesBy_118 (by decide)
theorem oX12_goesBy_119 : oP MT mX12_goesBy 119 (7, 1, 0, 0, []) := o_dup2 dX12_goesBy_119
theorem oX12_goesBy_120 : oP MT mX12_goesBy 120 (16, 1, 1, 0, []) := o_iaload dX12_goesBy_120
theorem oX12_goesBy_121 : oP MT mX12_goesBy 121 (1, 1, 3, 0, []) := o_iload_n dX12_goesBy_121 rfl
theorem oX12_goesBy_122 : oP MT mX12_goesBy 122 (4, 1, 0, 0, []) := o_iadd dX12_goesBy_122
theorem oX12_goesBy_123 : oP MT mX12_goesBy 123 (18, 1, 0, 0, []) := o_iastore dX12_goesBy_123
theorem oX12_goesBy_124 : oP MT mX12_goesBy 124 (1, 1, 3, 0, []) := o_iload_n dX12_goesBy_124 rfl
theorem oX12_goesBy_125 : oP MT mX12_goesBy 125 (21, 1, 0, 0, []) := o_iret dX12_goesBy_125 rfl
def ops_X12_goesBy : List (Nat × aO) := [(0, (1, 1, 1, 0, [])), (1, (10, 3, 3, 11, [])), (4, (1, 1, 0, 1, [])), (5, (26, 3, 0, 0, [(12, 145)])), (8, (9, 3, 14, 0, [])), (11, (1, 1, 1, 0, [])), (12, (0, 1, 0, 1, [])), (13, (4, 1, 1, 0, [])), (14, (2, 1, 2, 0, [])), (15, (1, 1, 2, 0, [])), (16, (10, 3, 2, 27, [])), (19, (1, 1, 0, 1, [])), (20, (1, 1, 2, 0, [])), (21, (26, 3, 0, 1, [(12, 146)])), (24, (9, 3, 28, 0, [])), (27, (0, 1, 0, 0, [])), (28, (2, 1, 3, 0, [])), (29, (0, 1, 0, 0, [])), (30, (2, 2, 4, 0, [])), (32, (1, 2, 4, 0, [])), (34, (1, 1, 0, 1, [])), (35, (13, 3, 0, 12, [])), (38, (0, 1, 0, 4, [])), (39, (16, 1, 1, 0, [])), (40, (11, 3, 3, 104, [])), (43, (1, 1, 0, 1, [])), (44, (1, 2, 4, 0, [])), (46, (0, 1, 0, 1, [])), (47, (1, 1, 0, 1, [])), (48, (1, 2, 4, 0, [])), (50, (0, 1, 0, 1, [])), (51, (26, 3, 0, 2, [(12, 112)])), (54, (1, 1, 0, 1, [])), (55, (1, 2, 4, 0, [])), (57, (26, 3, 0, 1, [(12, 147)])), (60, (4, 1, 1, 0, [])), (61, (0, 2, 0, 99, [])), (63, (25, 3, 143, 2, [])), (66, (26, 3, 0, 3, [(12, 141)])), (69, (1, 1, 3, 0, [])), (70, (1, 1, 0, 1, [])), (71, (1, 2, 4, 0, [])), (73, (0, 1, 0, 4, [])), (74, (26, 3, 0, 2, [(12, 112)])), (77, (0, 1, 0, 1, [])), (78, (11, 3, 1, 95, [])), (81, (1, 1, 0, 1, [])), (82, (1, 2, 4, 0, [])), (84, (0, 1, 0, 1, [])), (85, (26, 3, 0, 2, [(12, 112)])), (88, (10, 3, 5, 95, [])), (91, (0, 1, 0, 1, [])), (92, (9, 3, 96, 0, [])), (95, (0, 1, 0, 0, [])), (96, (4, 1, 0, 0, [])), (97, (2, 1, 3, 0, [])), (98, (3, 3, 4, 1, [])), (101, (9, 3, 32, 0, [])), (104, (1, 1, 0, 1, [])), (105, (13, 3, 0, 12, [])), (108, (0, 1, 0, 0, [])), (109, (7, 1, 0, 0, [])), (110, (16, 1, 1, 0, [])), (111, (0, 1, 0, 1, [])), (112, (4, 1, 0, 0, [])), (113, (18, 1, 0, 0, [])), (114, (1, 1, 0, 1, [])), (115, (13, 3, 0, 12, [])), (118, (0, 1, 0, 2, [])), (119, (7, 1, 0, 0, [])), (120, (16, 1, 1, 0, [])), (121, (1, 1, 3, 0, [])), (122, (4, 1, 0, 0, [])), (123, (18, 1, 0, 0, [])), (124, (1, 1, 3, 0, [])), (125, (21, 1, 0, 0, []))]
theorem os_X12_goesBy : oA MT mX12_goesBy ops_X12_goesBy := (oA.cons oX12_goesBy_0 (oA.cons oX12_goesBy_1 (oA.cons oX12_goesBy_4 (oA.cons oX12_goesBy_5 (oA.cons oX12_goesBy_8 (oA.cons oX12_goesBy_11 (oA.cons oX12_goesBy_12 (oA.cons oX12_goesBy_13 (oA.cons oX12_goesBy_14 (oA.cons oX12_goesBy_15 (oA.cons oX12_goesBy_16 (oA.cons oX12_goesBy_19 (oA.cons oX12_goesBy_20 (oA.cons oX12_goesBy_21 (oA.cons oX12_goesBy_24 (oA.cons oX12_goesBy_27 (oA.cons oX12_goesBy_28 (oA.cons oX12_goesBy_29 (oA.cons oX12_goesBy_30 (oA.cons oX12_goesBy_32 (oA.cons oX12_goesBy_34 (oA.cons oX12_goesBy_35 (oA.cons oX12_goesBy_38 (oA.cons oX12_goesBy_39 (oA.cons oX12_goesBy_40 (oA.cons oX12_goesBy_43 (oA.cons oX12_goesBy_44 (oA.cons oX12_goesBy_46 (oA.cons oX12_goesBy_47 (oA.cons oX12_goesBy_48 (oA.cons oX12_goesBy_50 (oA.cons oX12_goesBy_51 (oA.cons oX12_goesBy_54 (oA.cons oX12_goesBy_55 (oA.cons oX12_goesBy_57 (oA.cons oX12_goesBy_60 (oA.cons oX12_goesBy_61 (oA.cons oX12_goesBy_63 (oA.cons oX12_goesBy_66 (oA.cons oX12_goesBy_69 (oA.cons oX12_goesBy_70 (oA.cons oX12_goesBy_71 (oA.cons oX12_goesBy_73 (oA.cons oX12_goesBy_74 (oA.cons oX12_goesBy_77 (oA.cons oX12_goesBy_78 (oA.cons oX12_goesBy_81 (oA.cons oX12_goesBy_82 (oA.cons oX12_goesBy_84 (oA.cons oX12_goesBy_85 (oA.cons oX12_goesBy_88 (oA.cons oX12_goesBy_91 (oA.cons oX12_goesBy_92 (oA.cons oX12_goesBy_95 (oA.cons oX12_goesBy_96 (oA.cons oX12_goesBy_97 (oA.cons oX12_goesBy_98 (oA.cons oX12_goesBy_101 (oA.cons oX12_goesBy_104 (oA.cons oX12_goesBy_105 (oA.cons oX12_goesBy_108 (oA.cons oX12_goesBy_109 (oA.cons oX12_goesBy_110 (oA.cons oX12_goesBy_111 (oA.cons oX12_goesBy_112 (oA.cons oX12_goesBy_113 (oA.cons oX12_goesBy_114 (oA.cons oX12_goesBy_115 (oA.cons oX12_goesBy_118 (oA.cons oX12_goesBy_119 (oA.cons oX12_goesBy_120 (oA.cons oX12_goesBy_121 (oA.cons oX12_goesBy_122 (oA.cons oX12_goesBy_123 (oA.cons oX12_goesBy_124 (oA.cons oX12_goesBy_125 oA.nil))))))))))))))))))))))))))))))))))))))))))))))))))))))))))))))))))))))))))))
