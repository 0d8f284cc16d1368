theorem dX12_rules_0 : decode cX12_rules 0 = .ok (.aload_n 0, 1) := by decide +kernel
theorem dX12_rules_1 : decode cX12_rules 1 = .ok (.iconst 0, 1) := by decide +kernel
theorem dX12_rules_2 : decode cX12_rules 2 = .ok (.putfield 130, 3) := by decide +kernel
theorem dX12_rules_5 : decode cX12_rules 5 = .ok (.aload_n 0, 1) := by decide +kernel
theorem dX12_rules_6 : decode cX12_rules 6 = .ok (.iconst 0, 1) := by decide +kernel
theorem dX12_rules_7 : decode cX12_rules 7 = .ok (.putfield 158, 3) := by decide +kernel
theorem dX12_rules_10 : decode cX12_rules 10 = .ok (.iconst 0, 1) := by decide +kernel
theorem dX12_rules_11 : decode cX12_rules 11 = .ok (.istore_n 1, 1) := by decide +kernel
theorem dX12_rules_12 : decode cX12_rules 12 = .ok (.aload_n 0, 1) := by decide +kernel
theorem dX12_rules_13 : decode cX12_rules 13 = .ok (.invokevirtual 155, 3) := by decide +kernel
theorem dX12_rules_16 : decode cX12_rules 16 = .ok (.iconst 1, 1) := by decide +kernel
theorem dX12_rules_17 : decode cX12_rules 17 = .ok (.istore_n 2, 1) := by decide +kernel
theorem dX12_rules_18 : decode cX12_rules 18 = .ok (.iload_n 2, 1) := by decide +kernel
theorem dX12_rules_19 : decode cX12_rules 19 = .ok (.ifCond .eq 23, 3) := by decide +kernel
theorem dX12_rules_22 : decode cX12_rules 22 = .ok (.aload_n 0, 1) := by decide +kernel
theorem dX12_rules_23 : decode cX12_rules 23 = .ok (.getfield 139, 3) := by decide +kernel
theorem dX12_rules_26 : decode cX12_rules 26 = .ok (.iconst (-1), 1) := by decide +kernel
theorem dX12_rules_27 : decode cX12_rules 27 = .ok (.if_icmp .eq 15, 3) := by decide +kernel
theorem dX12_rules_30 : decode cX12_rules 30 = .ok (.aload_n 0, 1) := by decide +kernel
theorem dX12_rules_31 : decode cX12_rules 31 = .ok (.iload_n 1, 1) := by decide +kernel
theorem dX12_rules_32 : decode cX12_rules 32 = .ok (.invokevirtual 192, 3) := by decide +kernel
theorem dX12_rules_35 : decode cX12_rules 35 = .ok (.istore_n 2, 1) := by decide +kernel
theorem dX12_rules_36 : decode cX12_rules 36 = .ok (.iinc 1 1, 3) := by decide +kernel
theorem dX12_rules_39 : decode cX12_rules 39 = .ok (.goto (-21), 3) := by decide +kernel
theorem dX12_rules_42 : decode cX12_rules 42 = .ok (.aload_n 0, 1) := by decide +kernel
theorem dX12_rules_43 : decode cX12_rules 43 = .ok (.iconst 0, 1) := by decide +kernel
theorem dX12_rules_44 : decode cX12_rules 44 = .ok (.putfield 126, 3) := by decide +kernel
theorem dX12_rules_47 : decode cX12_rules 47 = .ok (.iload_n 2, 1) := by decide +kernel
theorem dX12_rules_48 : decode cX12_rules 48 = .ok (.ifCond .ne 11, 3) := by decide +kernel
theorem dX12_rules_51 : decode cX12_rules 51 = .ok (.bipush (-100), 2) := by decide +kernel
theorem dX12_rules_53 : decode cX12_rules 53 = .ok (.aload_n 0, 1) := by decide +kernel
theorem dX12_rules_54 : decode cX12_rules 54 = .ok (.getfield 133, 3) := by decide +kernel
theorem dX12_rules_57 : decode cX12_rules 57 = .ok (.isub, 1) := by decide +kernel
theorem dX12_rules_58 : decode cX12_rules 58 = .ok (.ireturn, 1) := by decide +kernel
theorem dX12_rules_59 : decode cX12_rules 59 = .ok (.aload_n 0, 1) := by decide +kernel
theorem dX12_rules_60 : decode cX12_rules 60 = .ok (.getfield 9, 3) := by decide +kernel
theorem dX12_rules_63 : decode cX12_rules 63 = .ok (.iconst 5, 1) := by decide +kernel
theorem dX12_rules_64 : decode cX12_rules 64 = .ok (.iload_n 1, 1) := by decide +kernel
theorem dX12_rules_65 : decode cX12_rules 65 = .ok (.iastore, 1) := by decide +kernel
theorem dX12_rules_66 : decode cX12_rules 66 = .ok (.iconst 0, 1) := by decide +kernel
theorem dX12_rules_67 : decode cX12_rules 67 = .ok (.istore_n 3, 1) := by decide +kernel
theorem dX12_rules_68 : decode cX12_rules 68 = .ok (.iload_n 3, 1) := by decide +kernel
theorem dX12_rules_69 : decode cX12_rules 69 = .ok (.iconst 3, 1) := by decide +kernel
theorem dX12_rules_70 : decode cX12_rules 70 = .ok (.iload_n 1, 1) := by decide +kernel
theorem dX12_rules_71 : decode cX12_rules 71 = .ok (.imul, 1) := by decide +kernel
theorem dX12_rules_72 : decode cX12_rules 72 = .ok (.if_icmp .ge 24, 3) := by decide +kernel
theorem dX12_rules_75 : decode cX12_rules 75 = .ok (.aload_n 0, 1) := by decide +kernel
theorem dX12_rules_76 : decode cX12_rules 76 = .ok (.getfield 9, 3) := by decide +kernel
theorem dX12_rules_79 : decode cX12_rules 79 = .ok (.bipush 89, 2) := by decide +kernel
theorem dX12_rules_81 : decode cX12_rules 81 = .ok (.iload_n 3, 1) := by decide +kernel
theorem dX12_rules_82 : decode cX12_rules 82 = .ok (.iadd, 1) := by decide +kernel
theorem dX12_rules_83 : decode cX12_rules 83 = .ok (.aload_n 0, 1) := by decide +kernel
theorem dX12_rules_84 : decode cX12_rules 84 = .ok (.getfield 32, 3) := by decide +kernel
theorem dX12_rules_87 : decode cX12_rules 87 = .ok (.iload_n 3, 1) := by decide +kernel
theorem dX12_rules_88 : decode cX12_rules 88 = .ok (.iaload, 1) := by decide +kernel
theorem dX12_rules_89 : decode cX12_rules 89 = .ok (.iastore, 1) := by decide +kernel
theorem dX12_rules_90 : decode cX12_rules 90 = .ok (.iinc 3 1, 3) := by decide +kernel
theorem dX12_rules_93 : decode cX12_rules 93 = .ok (.goto (-25), 3) := by decide +kernel
theorem dX12_rules_96 : decode cX12_rules 96 = .ok (.iconst 0, 1) := by decide +kernel
theorem dX12_rules_97 : decode cX12_rules 97 = .ok (.istore_n 3, 1) := by decide +kernel
theorem dX12_rules_98 : decode cX12_rules 98 = .ok (.iload_n 3, 1) := by decide +kernel
theorem dX12_rules_99 : decode cX12_rules 99 = .ok (.aload_n 0, 1) := by decide +kernel
theorem dX12_rules_100 : decode cX12_rules 100 = .ok (.getfield 158, 3) := by decide +kernel
theorem dX12_rules_103 : decode cX12_rules 103 = .ok (.if_icmp .ge 24, 3) := by decide +kernel
theorem dX12_rules_106 : decode cX12_rules 106 = .ok (.aload_n 0, 1) := by decide +kernel
theorem dX12_rules_107 : decode cX12_rules 107 = .ok (.getfield 9, 3) := by decide +kernel
theorem dX12_rules_110 : decode cX12_rules 110 = .ok (.bipush 113, 2) := by decide +kernel
theorem dX12_rules_112 : decode cX12_rules 112 = .ok (.iload_n 3, 1) := by decide +kernel
theorem dX12_rules_113 : decode cX12_rules 113 = .ok (.iadd, 1) := by decide +kernel
theorem dX12_rules_114 : decode cX12_rules 114 = .ok (.aload_n 0, 1) := by decide +kernel
theorem dX12_rules_115 : decode cX12_rules 115 = .ok (.getfield 29, 3) := by decide +kernel
theorem dX12_rules_118 : decode cX12_rules 118 = .ok (.iload_n 3, 1) := by decide +kernel
theorem dX12_rules_119 : decode cX12_rules 119 = .ok (.iaload, 1) := by decide +kernel
theorem dX12_rules_120 : decode cX12_rules 120 = .ok (.iastore, 1) := by decide +kernel
theorem dX12_rules_121 : decode cX12_rules 121 = .ok (.iinc 3 1, 3) := by decide +kernel
theorem dX12_rules_124 : decode cX12_rules 124 = .ok (.goto (-26), 3) := by decide +kernel
theorem dX12_rules_127 : decode cX12_rules 127 = .ok (.iload_n 1, 1) := by decide +kernel
theorem dX12_rules_128 : decode cX12_rules 128 = .ok (.ireturn, 1) := by decide +kernel
theorem oX12_rules_0 : oP MT mX12_rules 0 (1, 1, 0, 1, []) := o_aload_n dX12_rules_0 rfl
theorem oX12_rules_1 : oP MT mX12_rules 1 (0, 1, 0, 0, []) := o_iconst dX12_rules_1 (by decide)
theorem oX12_rules_2 : oP MT mX12_rules 2 (14, 3, 8, 12, []) := o_putI (M := mX12_rules) (C := RX12) (T := TX12) (ci := 12) (j := 8) (z := 12) dX12_rules_2 rfl lq_RX12_130 rfl rfl rfl rfl
theorem oX12_rules_5 : oP MT mX12_rules 5 (1, 1, 0, 1, []) := o_aload_n dX12_rules_5 rfl
theorem oX12_rules_6 : oP MT mX12_rules 6 (0, 1, 0, 0, []) := o_iconst dX12_rules_6 (by decide)
theorem oX12_rules_7 : oP MT mX12_rules 7 (14, 3, 13, 12, []) := o_putI (M := mX12_rules) (C := RX12) (T := TX12) (ci := 12) (j := 13) (z := 12) dX12_rules_7 rfl lq_RX12_158 rfl rfl rfl rfl
theorem oX12_rules_10 : oP MT mX12_rules 10 (0, 1, 0, 0, []) := o_iconst dX12_rules_10 (by decide)
theorem oX12_rules_11 : oP MT mX12_rules 11 (2, 1, 1, 0, []) := o_istore_n dX12_rules_11 rfl (by decide)
theorem oX12_rules_12 : oP MT mX12_rules 12 (1, 1, 0, 1, []) := o_aload_n dX12_rules_12 rfl
theorem oX12_rules_13 : oP MT mX12_rules 13 (26, 3, 0, 0, [(12, 131)]) := o_callO ((vA.cons (v_callV dX12_rules_13 (ci := 12) rfl rfl (mj := mX12_next) mt_X12_next cmq_X12_next wq_487 wq_489 wq_490 (by decide) (by decide)) vA.nil))
theorem oX12_rules_16 : oP MT mX12_rules 16 (0, 1, 0, 1, []) := o_iconst dX12_rules_16 (by decide)
theorem oX12_rules_17 : oP MT mX12_rules 17 (2, 1, 2, 0, []) := o_istore_n dX12_rules_17 rfl (by decide)
theorem oX12_rules_18 : oP MT mX12_rules 18 (1, 1, 2, 0, []) := o_iload_n dX12_rules_18 rfl
theorem oX12_rules_19 : oP MT mX12_rules 19 (10, 3, 0, 42, []) := o_if_eq dX12_rules_19 (by decide) (by decide)
theorem oX12_rules_22 : oP MT mX12_rules 22 (1, 1, 0, 1, []) := o_aload_n dX12_rules_22 rfl
theorem oX12_rules_23 : oP MT mX12_rules 23 (12, 3, 10, 12, []) := o_getI (M := mX12_rules) (C := RX12) (T := TX12) (ci := 12) (j := 10) (z := 12) dX12_rules_23 rfl lq_RX12_139 rfl rfl
theorem oX12_rules_26 : oP MT mX12_rules 26 (0, 1, 0, (-1), []) := o_iconst dX12_rules_26 (by decide)
theorem oX12_rules_27 : oP MT mX12_rules 27 (11, 3, 0, 42, []) := o_icmp_eq dX12_rules_27 (by decide) (by decide)
theorem oX12_rules_30 : oP MT mX12_rules 30 (1, 1, 0, 1, []) := o_aload_n dX12_rules_30 rfl
theorem oX12_rules_31 : oP MT mX12_rules 31 (1, 1, 1, 0, []) := o_iload_n dX12_rules_31 rfl
theorem oX12_rules_32 : oP MT mX12_rules 32 (26, 3, 0, 1, [(12, 140)]) := o_callO ((vA.cons (v_callV dX12_rules_32 (ci := 12) rfl rfl (mj := mX12_readsRule) mt_X12_readsRule cmq_X12_readsRule wq_690 wq_692 wq_693 (by decide) (by decide)) vA.nil))
theorem oX12_rules_35 : oP MT mX12_rules 35 (2, 1, 2, 0, []) := o_istore_n dX12_rules_35 rfl (by decide)
theorem oX12_rules_36 : oP MT mX12_rules 36 (3, 3, 1, 1, []) := o_iinc dX12_rules_36 (by decide) (by decide)
theorem oX12_rules_39 : oP MT mX12_rules 39 (9, 3, 18, 0, []) := o_goto dX12_rules_39 (by decide)
theorem oX12_rules_42 : oP MT mX12_rules 42 (1, 1, 0, 1, []) := o_aload_n dX12_rules_42 rfl
theorem oX12_rules_43 : oP MT mX12_rules 43 (0, 1, 0, 0, []) := o_iconst dX12_rules_43 (by decide)
theorem oX12_rules_44 : oP MT mX12_rules 44 (14, 3, 6, 12, []) := o_putI (M := mX12_rules) (C := RX12) (T := TX12) (ci := 12) (j := 6) (z := 12) dX12_rules_44 rfl lq_RX12_126 rfl rfl rfl rfl
theorem oX12_rules_47 : oP MT mX12_rules 47 (1, 1, 2, 0, []) := o_iload_n dX12_rules_47 rfl
theorem oX12_rules_48 : oP MT mX12_rules 48 (10, 3, 1, 59, []) := o_if_ne dX12_rules_48 (by decide) (by decide)
theorem oX12_rules_51 : oP MT mX12_rules 51 (0, 2, 0, (-100), []) := o_bipush dX12_rules_51 (by decide)
theorem oX12_rules_53 : oP MT mX12_rules 53 (1, 1, 0, 1, []) := o_aload_n dX12_rules_53 rfl
theorem oX12_rules_54 : oP MT mX12_rules 54 (12, 3, 9, 12, []) := o_getI (M := mX12_rules) (C := RX12) (T := TX12) (ci := 12) (j := 9) (z := 12) dX12_rules_54 rfl lq_RX12_133 rfl rfl
theorem oX12_rules_57 : oP MT mX12_rules 57 (4, 1, 1, 0, []) := o_isub dX12_rules_57
theorem oX12_rules_58 : oP MT mX12_rules 58 (21, 1, 0, 0, []) := o_iret dX12_rules_58 rfl
theorem oX12_rules_59 : oP MT mX12_rules 59 (1, 1, 0, 1, []) := o_aload_n dX12_rules_59 rfl
theorem oX12_rules_60 : oP MT mX12_rules 60 (13, 3, 0, 12, []) := o_getR (M := mX12_rules) (C := RX12) (T := TX12) (ci := 12) (j := 0) (z := 12) dX12_rules_60 rfl lq_RX12_9 rfl rfl
theorem oX12_rules_63 : oP MT mX12_rules 63 (0, 1, 0, 5, []) := o_iconst dX12_rules_63 (by decide)
theorem oX12_rules_64 : oP MT mX12_rules 64 (1, 1, 1, 0, []) := o_iload_n dX12_rules_64 rfl
theorem oX12_rules_65 : oP MT mX12_rules 65 (18, 1, 0, 0, []) := o_iastore dX12_rules_65
theorem oX12_rules_66 : oP MT mX12_rules 66 (0, 1, 0, 0, []) := o_iconst dX12_rules_66 (by decide)
theorem oX12_rules_67 : oP MT mX12_rules 67 (2, 1, 3, 0, []) := o_istore_n dX12_rules_67 rfl (by decide)
theorem oX12_rules_68 : oP MT mX12_rules 68 (1, 1, 3, 0, []) := o_iload_n dX12_rules_68 rfl
theorem oX12_rules_69 : oP MT mX12_rules 69 (0, 1, 0, 3, []) := o_iconst dX12_rules_69 (by decide)
theorem oX12_rules_70 : oP MT mX12_rules 70 (1, 1, 1, 0, []) := o_iload_n dX12_rules_70 rfl
theorem oX12_rules_71 : oP MT mX12_rules 71 (4, 1, 2, 0, []) := o_imul dX12_rules_71
theorem oX12_rules_72 : oP MT mX12_rules 72 (11, 3, 3, 96, []) := o_icmp_ge dX12_rules_72 (by decide) (by decide)
theorem oX12_rules_75 : oP MT mX12_rules 75 (1, 1, 0, 1, []) := o_aload_n dX12_rules_75 rfl
theorem oX12_rules_76 : oP MT mX12_rules 76 (13, 3, 0, 12, []) := o_getR (M := mX12_rules) (C := RX12) (T := TX12) (ci := 12) (j := 0) (z := 12) dX12_rules_76 rfl lq_RX12_9 rfl rfl
theorem oX12_rules_79 : oP MT mX12_rules 79 (0, 2, 0, 89, []) := o_bipush dX12_rules_79 (by decide)
theorem oX12_rules_81 : oP MT mX12_rules 81 (1, 1, 3, 0, []) := o_iload_n dX12_rules_81 rfl
theorem oX12_rules_82 : oP MT mX12_rules 82 (4, 1, 0, 0, []) := o_iadd dX12_rules_82
theorem oX12_rules_83 : oP MT mX12_rules 83 (1, 1, 0, 1, []) := o_aload_n dX12_rules_83 rfl
theorem oX12_rules_84 : oP MT mX12_rules 84 (13, 3, 15, 12, []) := o_getR (M := mX12_rules) (C := RX12) (T := TX12) (ci := 12) (j := 15) (z := 12) dX12_rules_84 rfl lq_RX12_32 rfl rfl
theorem oX12_rules_87 : oP MT mX12_rules 87 (1, 1, 3, 0, []) := o_iload_n dX12_rules_87 rfl
theorem oX12_rules_88 : oP MT mX12_rules 88 (16, 1, 1, 0, []) := o_iaload dX12_rules_88
theorem oX12_rules_89 : oP MT mX12_rules 89 (18, 1, 0, 0, []) := o_iastore dX12_rules_89
theorem oX12_rules_90 : oP MT mX12_rules 90 (3, 3, 3, 1, []) := o_iinc dX12_rules_90 (by decide) (by decide)
theorem oX12_rules_93 : oP MT mX12_rules 93 (9, 3, 68, 0, []) := o_goto dX12_rules_93 (by decide)
theorem oX12_rules_96 : oP MT mX12_rules 96 (0, 1, 0, 0, []) := o_iconst dX12_rules_96 (by decide)
theorem oX12_rules_97 : oP MT mX12_rules 97 (2, 1, 3, 0, []) := o_istore_n dX12_rules_97 rfl (by decide)
theorem oX12_rules_98 : oP MT mX12_rules 98 (1, 1, 3, 0, []) := o_iload_n dX12_rules_98 rfl
theorem oX12_rules_99 : oP MT mX12_rules 99 (1, 1, 0, 1, []) := o_aload_n dX12_rules_99 rfl
theorem oX12_rules_100 : oP MT mX12_rules 100 (12, 3, 13, 12, []) := o_getI (M := mX12_rules) (C := RX12) (T := TX12) (ci := 12) (j := 13) (z := 12) dX12_rules_100 rfl lq_RX12_158 rfl rfl
theorem oX12_rules_103 : oP MT mX12_rules 103 (11, 3, 3, 127, []) := o_icmp_ge dX12_rules_103 (by decide) (by decide)
theorem oX12_rules_106 : oP MT mX12_rules 106 (1, 1, 0, 1, []) := o_aload_n dX12_rules_106 rfl
theorem oX12_rules_107 : oP MT mX12_rules 107 (13, 3, 0, 12, []) := o_getR (M := mX12_rules) (C := RX12) (T := TX12) (ci := 12) (j := 0) (z := 12) dX12_rules_107 rfl lq_RX12_9 rfl rfl
theorem oX12_rules_110 : oP MT mX12_rules 110 (0, 2, 0, 113, []) := o_bipush dX12_rules_110 (by decide)
theorem oX12_rules_112 : oP MT mX12_rules 112 (1, 1, 3, 0, []) := o_iload_n dX12_rules_112 rfl
theorem oX12_rules_113 : oP MT mX12_rules 113 (4, 1, 0, 0, []) := o_iadd dX12_rules_113
theorem oX12_rules_114 : oP MT mX12_rules 114 (1, 1, 0, 1, []) := o_aload_n dX12_rules_114 rfl
theorem oX12_rules_115 : oP MT mX12_rules 115 (13, 3, 14, 12, []) := o_getR (M := mX12_rules) (C := RX12) (T := TX12) (ci := 12) (j := 14) (z := 12) dX12_rules_115 rfl lq_RX12_29 rfl rfl
theorem oX12_rules_118 : oP MT mX12_rules 118 (1, 1, 3, 0, []) := o_iload_n dX12_rules_118 rfl
theorem oX12_rules_119 : oP MT mX12_rules 119 (16, 1, 1, 0, []) := o_iaload dX12_rules_119
theorem oX12_rules_120 : oP MT mX12_rules 120 (18, 1, 0, 0, []) := o_iastore dX12_rules_120
theorem oX12_rules_121 : oP MT mX12_rules 121 (3, 3, 3, 1, []) := o_iinc dX12_rules_121 (by decide) (by decide)
theorem oX12_rules_124 : oP MT mX12_rules 124 (9, 3, 98, 0, []) := o_goto dX12_rules_124 (by decide)
theorem oX12_rules_127 : oP MT mX12_rules 127 (1, 1, 1, 0, []) := o_iload_n dX12_rules_127 rfl
theorem oX12_rules_128 : oP MT mX12_rules 128 (21, 1, 0, 0, []) := o_iret dX12_rules_128 rfl
def ops_X12_rules : List (Nat × aO) := [(0, (1, 1, 0, 1, [])), (1, (0, 1, 0, 0, [])), (2, (14, 3, 8, 12, [])), (5, (1, 1, 0, 1, [])), (6, (0, 1, 0, 0, [])), (7, (14, 3, 13, 12, [])), (10, (0, 1, 0, 0, [])), (11, (2, 1, 1, 0, [])), (12, (1, 1, 0, 1, [])), (13, (26, 3, 0, 0, [(12, 131)])), (16, (0, 1, 0, 1, [])), (17, (2, 1, 2, 0, [])), (18, (1, 1, 2, 0, [])), (19, (10, 3, 0, 42, [])), (22, (1, 1, 0, 1, [])), (23, (12, 3, 10, 12, [])), (26, (0, 1, 0, (-1), [])), (27, (11, 3, 0, 42, [])), (30, (1, 1, 0, 1, [])), (31, (1, 1, 1, 0, [])), (32, (26, 3, 0, 1, [(12, 140)])), (35, (2, 1, 2, 0, [])), (36, (3, 3, 1, 1, [])), (39, (9, 3, 18, 0, [])), (42, (1, 1, 0, 1, [])), (43, (0, 1, 0, 0, [])), (44, (14, 3, 6, 12, [])), (47, (1, 1, 2, 0, [])), (48, (10, 3, 1, 59, [])), (51, (0, 2, 0, (-100), [])), (53, (1, 1, 0, 1, [])), (54, (12, 3, 9, 12, [])), (57, (4, 1, 1, 0, [])), (58, (21, 1, 0, 0, [])), (59, (1, 1, 0, 1, [])), (60, (13, 3, 0, 12, [])), (63, (0, 1, 0, 5, [])), (64, (1, 1, 1, 0, [])), (65, (18, 1, 0, 0, [])), (66, (0, 1, 0, 0, [])), (67, (2, 1, 3, 0, [])), (68, (1, 1, 3, 0, [])), (69, (0, 1, 0, 3, [])), (70, (1, 1, 1, 0, [])), (71, (4, 1, 2, 0, [])), (72, (11, 3, 3, 96, [])), (75, (1, 1, 0, 1, [])), (76, (13, 3, 0, 12, [])), (79, (0, 2, 0, 89, [])), (81, (1, 1, 3, 0, [])), (82, (4, 1, 0, 0, [])), (83, (1, 1, 0, 1, [])), (84, (13, 3, 15, 12, [])), (87, (1, 1, 3, 0, [])), (88, (16, 1, 1, 0, [])), (89, (18, 1, 0, 0, [])), (90, (3, 3, 3, 1, [])), (93, (9, 3, 68, 0, [])), (96, (0, 1, 0, 0, [])), (97, (2, 1, 3, 0, [])), (98, (1, 1, 3, 0, [])), (99, (1, 1, 0, 1, [])), (100, (12, 3, 13, 12, [])), (103, (11, 3, 3, 127, [])), (106, (1, 1, 0, 1, [])), (107, (13, 3, 0, 12, [])), (110, (0, 2, 0, 113, [])), (112, (1, 1, 3, 0, [])), (113, (4, 1, 0, 0, [])), (114, (1, 1, 0, 1, [])), (115, (13, 3, 14, 12, [])), (118, (1, 1, 3, 0, [])), (119, (16, 1, 1, 0, [])), (120, (18, 1, 0, 0, [])), (121, (3, 3, 3, 1, [])), (124, (9, 3, 98, 0, [])), (127, (1, 1, 1, 0, [])), (128, (21, 1, 0, 0, []))]
theorem os_X12_rules : oA MT mX12_rules ops_X12_rules := (oA.cons oX12_rules_0 (oA.cons oX12_rules_1 (oA.cons oX12_rules_2 (oA.cons oX12_rules_5 (oA.cons oX12_rules_6 (oA.cons oX12_rules_7 (oA.cons oX12_rules_10 (oA.cons oX12_rules_11 (oA.cons oX12_rules_12 (oA.cons oX12_rules_13 (oA.cons oX12_rules_16 (oA.cons oX12_rules_17 (oA.cons oX12_rules_18 (oA.cons oX12_rules_19 (oA.cons oX12_rules_22 (oA.cons oX12_rules_23 (oA.cons oX12_rules_26 (oA.cons oX12_rules_27 (oA.cons oX12_rules_30 (oA.cons oX12_rules_31 (oA.cons oX12_rules_32 (oA.cons oX12_rules_35 (oA.cons oX12_rules_36 (oA.cons oX12_rules_39 (oA.cons oX12_rules_42 (oA.cons oX12_rules_43 (oA.cons oX12_rules_44 (oA.cons oX12_rules_47 (oA.cons oX12_rules_48 (oA.cons oX12_rules_51 (oA.cons oX12_rules_53 (oA.cons oX12_rules_54 (oA.cons oX12_rules_57 (oA.cons oX12_rules_58 (oA.cons oX12_rules_59 (oA.cons oX12_rules_60 (oA.cons oX12_rules_63 (oA.cons oX12_rules_64 (oA.cons oX12_rules_65 (oA.cons oX12_rules_66 (oA.cons oX12_rules_67 (oA.cons oX12_rules_68 (oA.cons oX12_rules_69 (oA.cons oX12_rules_70 (oA.cons oX12_rules_71 (oA.cons oX12_rules_72 (oA.cons oX12_rules_75 (oA.cons oX12_rules_76 (oA.cons oX12_rules_79 (oA.cons oX12_rules_81 (oA.cons oX12_rules_82 (oA.cons oX12_rules_83 (oA.cons oX12_rules_84 (oA.cons oX12_rules_87 (oA.cons oX12_rules_88 (oA.cons oX12_rules_89 (oA.cons oX12_rules_90 (oA.cons oX12_rules_93 (oA.cons oX12_rules_96 (oA.cons oX12_rules_97 (oA.cons oX12_rules_98 (oA.cons oX12_rules_99 (oA.cons oX12_rules_100 (oA.cons oX12_rules_103 (oA.cons oX12_rules_106 (oA.cons oX12_rules_107 (oA.cons oX12_rules_110 (oA.cons oX12_rules_112 (oA.cons oX12_rules_113 (oA.cons oX12_rules_114 (oA.cons oX12_rules_115 (oA.cons oX12_rules_118 (oA.cons oX12_rules_119 (oA.cons oX12_rules_120 (oA.cons oX12_rules_121 (oA.cons oX12_rules_124 (oA.cons oX12_rules_127 (oA.cons oX12_rules_128 oA.nil))))))))))))))))))))))))))))))))))))))))))))))))))))))))))))))))))))))))))))))
theorem dX12_halt_0 : decode cX12_halt 0 = .ok (.aload_n 0, 1) := by decide +kernel
theorem dX12_halt_1 : decode cX12_halt 1 = .ok (.invokevirtual 229, 3) := by decide +kernel
theorem dX12_halt_4 : decode cX12_halt 4 = .ok (.ifCond .eq 8, 3) := by decide +kernel
theorem dX12_halt_7 : decode cX12_halt 7 = .ok (.bipush (-4), 2) := by decide +kernel
theorem dX12_halt_9 : decode cX12_halt 9 = .ok (.goto 8, 3) := by decide +kernel
theorem dX12_halt_12 : decode cX12_halt 12 = .ok (.aload_n 0, 1) := by decide +kernel
theorem dX12_halt_13 : decode cX12_halt 13 = .ok (.iconst (-1), 1) := by decide +kernel
theorem dX12_halt_14 : decode cX12_halt 14 = .ok (.invokevirtual 238, 3) := by decide +kernel
theorem dX12_halt_17 : decode cX12_halt 17 = .ok (.ireturn, 1) := by decide +kernel
theorem oX12_halt_0 : oP MT mX12_halt 0 (1, 1, 0, 1, []) := o_aload_n dX12_halt_0 rfl
theorem oX12_halt_1 : oP MT mX12_halt 1 (26, 3, 0, 0, [(12, 150)]) := o_callO ((vA.cons (v_callV dX12_halt_1 (ci := 12) rfl rfl (mj := mX12_isOver) mt_X12_isOver cmq_X12_isOver wq_557 wq_559 wq_560 (by decide) (by decide)) vA.nil))
theorem oX12_halt_4 : oP MT mX12_halt 4 (10, 3, 0, 12, []) := o_if_eq dX12_halt_4 (by decide) (by decide)
theorem oX12_halt_7 : oP MT mX12_halt 7 (0, 2, 0, (-4), []) := o_bipush dX12_halt_7 (by decide)
theorem oX12_halt_9 : oP MT mX12_halt 9 (9, 3, 17, 0, []) := o_goto dX12_halt_9 (by decide)
theorem oX12_halt_12 : oP MT mX12_halt 12 (1, 1, 0, 1, []) := o_aload_n dX12_halt_12 rfl
theorem oX12_halt_13 : oP MT mX12_halt 13 (0, 1, 0, (-1), []) := o_iconst dX12_halt_13 (by decide)
theorem oX12_halt_14 : oP MT mX12_halt 14 (26, 3, 0, 1, [(12, 151)]) := o_callO ((vA.cons (v_callV dX12_halt_14 (ci := 12) rfl rfl (mj := mX12_goesBy) mt_X12_goesBy cmq_X12_goesBy wq_561 wq_563 wq_564 (by decide) (by decide)) vA.nil))
theorem oX12_halt_17 : oP MT mX12_halt 17 (21, 1, 0, 0, []) := o_iret dX12_halt_17 rfl
def ops_X12_halt : List (Nat × aO) := [(0, (1, 1, 0, 1, [])), (1, (26, 3, 0, 0, [(12, 150)])), (4, (10, 3, 0, 12, [])), (7, (0, 2, 0, (-4), [])), (9, (9, 3, 17, 0, [])), (12, (1, 1, 0, 1, [])), (13, (0, 1, 0, (-1), [])), (14, (26, 3, 0, 1, [(12, 151)])), (17, (21, 1, 0, 0, []))]
theorem os_X12_halt : oA MT mX12_halt ops_X12_halt := (oA.cons oX12_halt_0 (oA.cons oX12_halt_1 (oA.cons oX12_halt_4 (oA.cons oX12_halt_7 (oA.cons oX12_halt_9 (oA.cons oX12_halt_12 (oA.cons oX12_halt_13 (oA.cons oX12_halt_14 (oA.cons oX12_halt_17 oA.nil)))))))))
theorem dX12_on_0 : decode cX12_on 0 = .ok (.iload_n 1, 1) := by decide +kernel
theorem dX12_on_1 : decode cX12_on 1 = .ok (.iconst 0, 1) := by decide +kernel
theorem dX12_on_2 : decode cX12_on 2 = .ok (.bipush 16, 2) := by decide +kernel
theorem dX12_on_4 : decode cX12_on 4 = .ok (.invokestatic 71, 3) := by decide +kernel
theorem dX12_on_7 : decode cX12_on 7 = .ok (.ifCond .ne 5, 3) := by decide +kernel
theorem dX12_on_10 : decode cX12_on 10 = .ok (.iconst (-1), 1) := by decide +kernel
theorem dX12_on_11 : decode cX12_on 11 = .ok (.ireturn, 1) := by decide +kernel
theorem dX12_on_12 : decode cX12_on 12 = .ok (.aload_n 0, 1) := by decide +kernel
theorem dX12_on_13 : decode cX12_on 13 = .ok (.invokevirtual 241, 3) := by decide +kernel
theorem dX12_on_16 : decode cX12_on 16 = .ok (.aload_n 0, 1) := by decide +kernel
theorem dX12_on_17 : decode cX12_on 17 = .ok (.iload_n 1, 1) := by decide +kernel
theorem dX12_on_18 : decode cX12_on 18 = .ok (.invokevirtual 244, 3) := by decide +kernel
theorem dX12_on_21 : decode cX12_on 21 = .ok (.istore_n 2, 1) := by decide +kernel
theorem dX12_on_22 : decode cX12_on 22 = .ok (.aload_n 0, 1) := by decide +kernel
theorem dX12_on_23 : decode cX12_on 23 = .ok (.invokevirtual 247, 3) := by decide +kernel
theorem dX12_on_26 : decode cX12_on 26 = .ok (.iload_n 2, 1) := by decide +kernel
theorem dX12_on_27 : decode cX12_on 27 = .ok (.ireturn, 1) := by decide +kernel
theorem oX12_on_0 : oP MT mX12_on 0 (1, 1, 1, 0, []) := o_iload_n dX12_on_0 rfl
theorem oX12_on_1 : oP MT mX12_on 1 (0, 1, 0, 0, []) := o_iconst dX12_on_1 (by decide)
theorem oX12_on_2 : oP MT mX12_on 2 (0, 2, 0, 16, []) := o_bipush dX12_on_2 (by decide)
theorem oX12_on_4 : oP MT mX12_on 4 (25, 3, 127, 3, []) := o_callS dX12_on_4 (mj := mX12_in1) mt_X12_in1 cmq_X12_in1 wq_468 wq_470 (by decide) (by decide)
theorem oX12_on_7 : oP MT mX12_on 7 (10, 3, 1, 12, []) := o_if_ne dX12_on_7 (by decide) (by decide)
theorem oX12_on_10 : oP MT mX12_on 10 (0, 1, 0, (-1), []) := o_iconst dX12_on_10 (by decide)
theorem oX12_on_11 : oP MT mX12_on 11 (21, 1, 0, 0, []) := o_iret dX12_on_11 rfl
theorem oX12_on_12 : oP MT mX12_on 12 (1, 1, 0, 1, []) := o_aload_n dX12_on_12 rfl
theorem oX12_on_13 : oP MT mX12_on 13 (26, 3, 0, 0, [(12, 152)]) := o_callO ((vA.cons (v_callV dX12_on_13 (ci := 12) rfl rfl (mj := mX12_layDown) mt_X12_layDown cmq_X12_layDown wq_569 wq_571 wq_572 (by decide) (by decide)) vA.nil))
theorem oX12_on_16 : oP MT mX12_on 16 (1, 1, 0, 1, []) := o_aload_n dX12_on_16 rfl
theorem oX12_on_17 : oP MT mX12_on 17 (1, 1, 1, 0, []) := o_iload_n dX12_on_17 rfl
theorem oX12_on_18 : oP MT mX12_on 18 (26, 3, 0, 1, [(12, 153)]) := o_callO ((vA.cons (v_callV dX12_on_18 (ci := 12) rfl rfl (mj := mX12_restOf) mt_X12_restOf cmq_X12_restOf wq_573 wq_575 wq_576 (by decide) (by decide)) vA.nil))
theorem oX12_on_21 : oP MT mX12_on 21 (2, 1, 2, 0, []) := o_istore_n dX12_on_21 rfl (by decide)
theorem oX12_on_22 : oP MT mX12_on 22 (1, 1, 0, 1, []) := o_aload_n dX12_on_22 rfl
theorem oX12_on_23 : oP MT mX12_on 23 (26, 3, 0, 0, [(12, 154)]) := o_callO ((vA.cons (v_callV dX12_on_23 (ci := 12) rfl rfl (mj := mX12_layBack) mt_X12_layBack cmq_X12_layBack wq_577 wq_579 wq_580 (by decide) (by decide)) vA.nil))
theorem oX12_on_26 : oP MT mX12_on 26 (1, 1, 2, 0, []) := o_iload_n dX12_on_26 rfl
theorem oX12_on_27 : oP MT mX12_on 27 (21, 1, 0, 0, []) := o_iret dX12_on_27 rfl
def ops_X12_on : List (Nat × aO) := [(0, (1, 1, 1, 0, [])), (1, (0, 1, 0, 0, [])), (2, (0, 2, 0, 16, [])), (4, (25, 3, 127, 3, [])), (7, (10, 3, 1, 12, [])), (10, (0, 1, 0, (-1), [])), (11, (21, 1, 0, 0, [])), (12, (1, 1, 0, 1, [])), (13, (26, 3, 0, 0, [(12, 152)])), (16, (1, 1, 0, 1, [])), (17, (1, 1, 1, 0, [])), (18, (26, 3, 0, 1, [(12, 153)])), (21, (2, 1, 2, 0, [])), (22, (1, 1, 0, 1, [])), (23, (26, 3, 0, 0, [(12, 154)])), (26, (1, 1, 2, 0, [])), (27, (21, 1, 0, 0, []))]
theorem os_X12_on : oA MT mX12_on ops_X12_on := (oA.cons oX12_on_0 (oA.cons oX12_on_1 (oA.cons oX12_on_2 (oA.cons oX12_on_4 (oA.cons oX12_on_7 (oA.cons oX12_on_10 (oA.cons oX12_on_11 (oA.cons oX12_on_12 (oA.cons oX12_on_13 (oA.cons oX12_on_16 (oA.cons oX12_on_17 (oA.cons oX12_on_18 (oA.cons oX12_on_21 (oA.cons oX12_on_22 (oA.cons oX12_on_23 (oA.cons oX12_on_26 (oA.cons oX12_on_27 oA.nil)))))))))))))))))
theorem dX12_when_0 : decode cX12_when 0 = .ok (.aload_n 0, 1) := by decide +kernel
theorem dX12_when_1 : decode cX12_when 1 = .ok (.iload_n 1, 1) := by decide +kernel
theorem dX12_when_2 : decode cX12_when 2 = .ok (.invokevirtual 223, 3) := by decide +kernel
theorem dX12_when_5 : decode cX12_when 5 = .ok (.ifCond .ne 5, 3) := by decide +kernel
theorem dX12_when_8 : decode cX12_when 8 = .ok (.iconst (-1), 1) := by decide +kernel
theorem dX12_when_9 : decode cX12_when 9 = .ok (.ireturn, 1) := by decide +kernel
theorem dX12_when_10 : decode cX12_when 10 = .ok (.aload_n 0, 1) := by decide +kernel
theorem dX12_when_11 : decode cX12_when 11 = .ok (.invokevirtual 241, 3) := by decide +kernel
theorem dX12_when_14 : decode cX12_when 14 = .ok (.bipush (-3), 2) := by decide +kernel
theorem dX12_when_16 : decode cX12_when 16 = .ok (.istore_n 2, 1) := by decide +kernel
theorem dX12_when_17 : decode cX12_when 17 = .ok (.aload_n 0, 1) := by decide +kernel
theorem dX12_when_18 : decode cX12_when 18 = .ok (.iload_n 1, 1) := by decide +kernel
theorem dX12_when_19 : decode cX12_when 19 = .ok (.iconst 4, 1) := by decide +kernel
theorem dX12_when_20 : decode cX12_when 20 = .ok (.invokevirtual 79, 3) := by decide +kernel
theorem dX12_when_23 : decode cX12_when 23 = .ok (.ifCond .ne 7, 3) := by decide +kernel
theorem dX12_when_26 : decode cX12_when 26 = .ok (.iconst 1, 1) := by decide +kernel
theorem dX12_when_27 : decode cX12_when 27 = .ok (.goto 4, 3) := by decide +kernel
theorem dX12_when_30 : decode cX12_when 30 = .ok (.iconst 0, 1) := by decide +kernel
theorem dX12_when_31 : decode cX12_when 31 = .ok (.istore_n 3, 1) := by decide +kernel
theorem dX12_when_32 : decode cX12_when 32 = .ok (.iload_n 3, 1) := by decide +kernel
theorem dX12_when_33 : decode cX12_when 33 = .ok (.ifCond .eq 58, 3) := by decide +kernel
theorem dX12_when_36 : decode cX12_when 36 = .ok (.aload_n 0, 1) := by decide +kernel
theorem dX12_when_37 : decode cX12_when 37 = .ok (.invokevirtual 229, 3) := by decide +kernel
theorem dX12_when_40 : decode cX12_when 40 = .ok (.ifCond .ne 51, 3) := by decide +kernel
theorem dX12_when_43 : decode cX12_when 43 = .ok (.aload_n 0, 1) := by decide +kernel
theorem dX12_when_44 : decode cX12_when 44 = .ok (.iconst (-1), 1) := by decide +kernel
theorem dX12_when_45 : decode cX12_when 45 = .ok (.invokevirtual 238, 3) := by decide +kernel
theorem dX12_when_48 : decode cX12_when 48 = .ok (.istore 4, 2) := by decide +kernel
theorem dX12_when_50 : decode cX12_when 50 = .ok (.aload_n 0, 1) := by decide +kernel
theorem dX12_when_51 : decode cX12_when 51 = .ok (.iload_n 1, 1) := by decide +kernel
theorem dX12_when_52 : decode cX12_when 52 = .ok (.iconst 4, 1) := by decide +kernel
theorem dX12_when_53 : decode cX12_when 53 = .ok (.invokevirtual 79, 3) := by decide +kernel
theorem dX12_when_56 : decode cX12_when 56 = .ok (.ifCond .ne 7, 3) := by decide +kernel
theorem dX12_when_59 : decode cX12_when 59 = .ok (.iconst 1, 1) := by decide +kernel
theorem dX12_when_60 : decode cX12_when 60 = .ok (.goto 4, 3) := by decide +kernel
theorem dX12_when_63 : decode cX12_when 63 = .ok (.iconst 0, 1) := by decide +kernel
theorem dX12_when_64 : decode cX12_when 64 = .ok (.istore_n 3, 1) := by decide +kernel
theorem dX12_when_65 : decode cX12_when 65 = .ok (.iload_n 3, 1) := by decide +kernel
theorem dX12_when_66 : decode cX12_when 66 = .ok (.ifCond .ne 8, 3) := by decide +kernel
theorem dX12_when_69 : decode cX12_when 69 = .ok (.iload 4, 2) := by decide +kernel
theorem dX12_when_71 : decode cX12_when 71 = .ok (.ifCond .ge 8, 3) := by decide +kernel
theorem dX12_when_74 : decode cX12_when 74 = .ok (.bipush (-3), 2) := by decide +kernel
theorem dX12_when_76 : decode cX12_when 76 = .ok (.goto 11, 3) := by decide +kernel
theorem dX12_when_79 : decode cX12_when 79 = .ok (.aload_n 0, 1) := by decide +kernel
theorem dX12_when_80 : decode cX12_when 80 = .ok (.getfield 9, 3) := by decide +kernel
theorem dX12_when_83 : decode cX12_when 83 = .ok (.iconst 0, 1) := by decide +kernel
theorem dX12_when_84 : decode cX12_when 84 = .ok (.iaload, 1) := by decide +kernel
theorem dX12_when_85 : decode cX12_when 85 = .ok (.iconst 1, 1) := by decide +kernel
theorem dX12_when_86 : decode cX12_when 86 = .ok (.isub, 1) := by decide +kernel
theorem dX12_when_87 : decode cX12_when 87 = .ok (.istore_n 2, 1) := by decide +kernel
theorem dX12_when_88 : decode cX12_when 88 = .ok (.goto (-56), 3) := by decide +kernel
theorem dX12_when_91 : decode cX12_when 91 = .ok (.aload_n 0, 1) := by decide +kernel
theorem dX12_when_92 : decode cX12_when 92 = .ok (.invokevirtual 247, 3) := by decide +kernel
theorem dX12_when_95 : decode cX12_when 95 = .ok (.iload_n 2, 1) := by decide +kernel
theorem dX12_when_96 : decode cX12_when 96 = .ok (.ireturn, 1) := by decide +kernel
theorem oX12_when_0 : oP MT mX12_when 0 (1, 1, 0, 1, []) := o_aload_n dX12_when_0 rfl
theorem oX12_when_1 : oP MT mX12_when 1 (1, 1, 1, 0, []) := o_iload_n dX12_when_1 rfl
theorem oX12_when_2 : oP MT mX12_when 2 (26, 3, 0, 1, [(12, 149)]) := o_callO ((vA.cons (v_callV dX12_when_2 (ci := 12) rfl rfl (mj := mX12_isKey) mt_X12_isKey cmq_X12_isKey wq_565 wq_567 wq_568 (by decide) (by decide)) vA.nil))
theorem oX12_when_5 : oP MT mX12_when 5 (10, 3, 1, 10, []) := o_if_ne dX12_when_5 (by decide) (by decide)
theorem oX12_when_8 : oP MT mX12_when 8 (0, 1, 0, (-1), []) := o_iconst dX12_when_8 (by decide)
theorem oX12_when_9 : oP MT mX12_when 9 (21, 1, 0, 0, []) := o_iret dX12_when_9 rfl
theorem oX12_when_10 : oP MT mX12_when 10 (1, 1, 0, 1, []) := o_aload_n dX12_when_10 rfl
theorem oX12_when_11 : oP MT mX12_when 11 (26, 3, 0, 0, [(12, 152)]) := o_callO ((vA.cons (v_callV dX12_when_11 (ci := 12) rfl rfl (mj := mX12_layDown) mt_X12_layDown cmq_X12_layDown wq_569 wq_571 wq_572 (by decide) (by decide)) vA.nil))
theorem oX12_when_14 : oP MT mX12_when 14 (0, 2, 0, (-3), []) := o_bipush dX12_when_14 (by decide)
theorem oX12_when_16 : oP MT mX12_when 16 (2, 1, 2, 0, []) := o_istore_n dX12_when_16 rfl (by decide)
theorem oX12_when_17 : oP MT mX12_when 17 (1, 1, 0, 1, []) := o_aload_n dX12_when_17 rfl
theorem oX12_when_18 : oP MT mX12_when 18 (1, 1, 1, 0, []) := o_iload_n dX12_when_18 rfl
theorem oX12_when_19 : oP MT mX12_when 19 (0, 1, 0, 4, []) := o_iconst dX12_when_19 (by decide)
theorem oX12_when_20 : oP MT mX12_when 20 (26, 3, 0, 2, [(12, 112)]) := o_callO ((vA.cons (v_callV dX12_when_20 (ci := 12) rfl rfl (mj := mX12_get) mt_X12_get cmq_X12_get wq_435 wq_437 wq_438 (by decide) (by decide)) vA.nil))
theorem oX12_when_23 : oP MT mX12_when 23 (10, 3, 1, 30, []) := o_if_ne dX12_when_23 (by decide) (by decide)
theorem oX12_when_26 : oP MT mX12_when 26 (0, 1, 0, 1, []) := o_iconst dX12_when_26 (by decide)
theorem oX12_when_27 : oP MT mX12_when 27 (9, 3, 31, 0, []) := o_goto dX12_when_27 (by decide)
theorem oX12_when_30 : oP MT mX12_when 30 (0, 1, 0, 0, []) := o_iconst dX12_when_30 (by decide)
theorem oX12_when_31 : oP MT mX12_when 31 (2, 1, 3, 0, []) := o_istore_n dX12_when_31 rfl (by decide)
theorem oX12_when_32 : oP MT mX12_when 32 (1, 1, 3, 0, []) := o_iload_n dX12_when_32 rfl
theorem oX12_when_33 : oP MT mX12_when 33 (10, 3, 0, 91, []) := o_if_eq dX12_when_33 (by decide) (by decide)
theorem oX12_when_36 : oP MT mX12_when 36 (1, 1, 0, 1, []) := o_aload_n dX12_when_36 rfl
theorem oX12_when_37 : oP MT mX12_when 37 (26, 3, 0, 0, [(12, 150)]) := o_callO ((vA.cons (v_callV dX12_when_37 (ci := 12) rfl rfl (mj := mX12_isOver) mt_X12_isOver cmq_X12_isOver wq_557 wq_559 wq_560 (by decide) (by decide)) vA.nil))
theorem oX12_when_40 : oP MT mX12_when 40 (10, 3, 1, 91, []) := o_if_ne dX12_when_40 (by decide) (by decide)
theorem oX12_when_43 : oP MT mX12_when 43 (1, 1, 0, 1, []) := o_aload_n dX12_when_43 rfl
theorem oX12_when_44 : oP MT mX12_when 44 (0, 1, 0, (-1), []) := o_iconst dX12_when_44 (by decide)
theorem oX12_when_45 : oP MT mX12_when 45 (26, 3, 0, 1, [(12, 151)]) := o_callO ((vA.cons (v_callV dX12_when_45 (ci := 12) rfl rfl (mj := mX12_goesBy) mt_X12_goesBy cmq_X12_goesBy wq_561 wq_563 wq_564 (by decide) (by decide)) vA.nil))
theorem oX12_when_48 : oP MT mX12_when 48 (2, 2, 4, 0, []) := o_istore dX12_when_48 (by decide)
theorem oX12_when_50 : oP MT mX12_when 50 (1, 1, 0, 1, []) := o_aload_n dX12_when_50 rfl
theorem oX12_when_51 : oP MT mX12_when 51 (1, 1, 1, 0, []) := o_iload_n dX12_when_51 rfl
theorem oX12_when_52 : oP MT mX12_when 52 (0, 1, 0, 4, []) := o_iconst dX12_when_52 (by decide)
theorem oX12_when_53 : oP MT mX12_when 53 (26, 3, 0, 2, [(12, 112)]) := o_callO ((vA.cons (v_callV dX12_when_53 (ci := 12) rfl rfl (mj := mX12_get) mt_X12_get cmq_X12_get wq_435 wq_437 wq_438 (by decide) (by decide)) vA.nil))
theorem oX12_when_56 : oP MT mX12_when 56 (10, 3, 1, 63, []) := o_if_ne dX12_when_56 (by decide) (by decide)
theorem oX12_when_59 : oP MT mX12_when 59 (0, 1, 0, 1, []) := o_iconst dX12_when_59 (by decide)
theorem oX12_when_60 : oP MT mX12_when 60 (9, 3, 64, 0, []) := o_goto dX12_when_60 (by decide)
theorem oX12_when_63 : oP MT mX12_when 63 (0, 1, 0, 0, []) := o_iconst dX12_when_63 (by decide)
theorem oX12_when_64 : oP MT mX12_when 64 (2, 1, 3, 0, []) := o_istore_n dX12_when_64 rfl (by decide)
theorem oX12_when_65 : oP MT mX12_when 65 (1, 1, 3, 0, []) := o_iload_n dX12_when_65 rfl
theorem oX12_when_66 : oP MT mX12_when 66 (10, 3, 1, 74, []) := o_if_ne dX12_when_66 (by decide) (by decide)
theorem oX12_when_69 : oP MT mX12_when 69 (1, 2, 4, 0, []) := o_iload dX12_when_69
theorem oX12_when_71 : oP MT mX12_when 71 (10, 3, 3, 79, []) := o_if_ge dX12_when_71 (by decide) (by decide)
theorem oX12_when_74 : oP MT mX12_when 74 (0, 2, 0, (-3), []) := o_bipush dX12_when_74 (by decide)
theorem oX12_when_76 : oP MT mX12_when 76 (9, 3, 87, 0, []) := o_goto dX12_when_76 (by decide)
theorem oX12_when_79 : oP MT mX12_when 79 (1, 1, 0, 1, []) := o_aload_n dX12_when_79 rfl
theorem oX12_when_80 : oP MT mX12_when 80 (13, 3, 0, 12, []) := o_getR (M := mX12_when) (C := RX12) (T := TX12) (ci := 12) (j := 0) (z := 12) dX12_when_80 rfl lq_RX12_9 rfl rfl
theorem oX12_when_83 : oP MT mX12_when 83 (0, 1, 0, 0, []) := o_iconst dX12_when_83 (by decide)
theorem oX12_when_84 : oP MT mX12_when 84 (16, 1, 1, 0, []) := o_iaload dX12_when_84
theorem oX12_when_85 : oP MT mX12_when 85 (0, 1, 0, 1, []) := o_iconst dX12_when_85 (by decide)
theorem oX12_when_86 : oP MT mX12_when 86 (4, 1, 1, 0, []) := o_isub dX12_when_86
theorem oX12_when_87 : oP MT mX12_when 87 (2, 1, 2, 0, []) := o_istore_n dX12_when_87 rfl (by decide)
theorem oX12_when_88 : oP MT mX12_when 88 (9, 3, 32, 0, []) := o_goto dX12_when_88 (by decide)
theorem oX12_when_91 : oP MT mX12_when 91 (1, 1, 0, 1, []) := o_aload_n dX12_when_91 rfl
theorem oX12_when_92 : oP MT mX12_when 92 (26, 3, 0, 0, [(12, 154)]) := o_callO ((vA.cons (v_callV dX12_when_92 (ci := 12) rfl rfl (mj := mX12_layBack) mt_X12_layBack cmq_X12_layBack wq_577 wq_579 wq_580 (by decide) (by decide)) vA.nil))
theorem oX12_when_95 : oP MT mX12_when 95 (1, 1, 2, 0, []) := o_iload_n dX12_when_95 rfl
theorem oX12_when_96 : oP MT mX12_when 96 (21, 1, 0, 0, []) := o_iret dX12_when_96 rfl
def ops_X12_when : List (Nat × aO) := [(0, (1, 1, 0, 1, [])), (1, (1, 1, 1, 0, [])), (2, (26, 3, 0, 1, [(12, 149)])), (5, (10, 3, 1, 10, [])), (8, (0, 1, 0, (-1), [])), (9, (21, 1, 0, 0, [])), (10, (1, 1, 0, 1, [])), (11, (26, 3, 0, 0, [(12, 152)])), (14, (0, 2, 0, (-3), [])), (16, (2, 1, 2, 0, [])), (17, (1, 1, 0, 1, [])), (18, (1, 1, 1, 0, [])), (19, (0, 1, 0, 4, [])), (20, (26, 3, 0, 2, [(12, 112)])), (23, (10, 3, 1, 30, [])), (26, (0, 1, 0, 1, [])), (27, (9, 3, 31, 0, [])), (30, (0, 1, 0, 0, [])), (31, (2, 1, 3, 0, [])), (32, (1, 1, 3, 0, [])), (33, (10, 3, 0, 91, [])), (36, (1, 1, 0, 1, [])), (37, (26, 3, 0, 0, [(12, 150)])), (40, (10, 3, 1, 91, [])), (43, (1, 1, 0, 1, [])), (44, (0, 1, 0, (-1), [])), (45, (26, 3, 0, 1, [(12, 151)])), (48, (2, 2, 4, 0, [])), (50, (1, 1, 0, 1, [])), (51, (1, 1, 1, 0, [])), (52, (0, 1, 0, 4, [])), (53, (26, 3, 0, 2, [(12, 112)])), (56, (10, 3, 1, 63, [])), (59, (0, 1, 0, 1, [])), (60, (9, 3, 64, 0, [])), (63, (0, 1, 0, 0, [])), (64, (2, 1, 3, 0, [])), (65, (1, 1, 3, 0, [])), (66, (10, 3, 1, 74, [])), (69, (1, 2, 4, 0, [])), (71, (10, 3, 3, 79, [])), (74, (0, 2, 0, (-3), [])), (76, (9, 3, 87, 0, [])), (79, (1, 1, 0, 1, [])), (80, (13, 3, 0, 12, [])), (83, (0, 1, 0, 0, [])), (84, (16, 1, 1, 0, [])), (85, (0, 1, 0, 1, [])), (86, (4, 1, 1, 0, [])), (87, (2, 1, 2, 0, [])), (88, (9, 3, 32, 0, [])), (91, (1, 1, 0, 1, [])), (92, (26, 3, 0, 0, [(12, 154)])), (95, (1, 1, 2, 0, [])), (96, (21, 1, 0, 0, []))]
theorem os_X12_when : oA MT mX12_when ops_X12_when := (oA.cons oX12_when_0 (oA.cons oX12_when_1 (oA.cons oX12_when_2 (oA.cons oX12_when_5 (oA.cons oX12_when_8 (oA.cons oX12_when_9 (oA.cons oX12_when_10 (oA.cons oX12_when_11 (oA.cons oX12_when_14 (oA.cons oX12_when_16 (oA.cons oX12_when_17 (oA.cons oX12_when_18 (oA.cons oX12_when_19 (oA.cons oX12_when_20 (oA.cons oX12_when_23 (oA.cons oX12_when_26 (oA.cons oX12_when_27 (oA.cons oX12_when_30 (oA.cons oX12_when_31 (oA.cons oX12_when_32 (oA.cons oX12_when_33 (oA.cons oX12_when_36 (oA.cons oX12_when_37 (oA.cons oX12_when_40 (oA.cons oX12_when_43 (oA.cons oX12_when_44 (oA.cons oX12_when_45 (oA.cons oX12_when_48 (oA.cons oX12_when_50 (oA.cons oX12_when_51 (oA.cons oX12_when_52 (oA.cons oX12_when_53 (oA.cons oX12_when_56 (oA.cons oX12_when_59 (oA.cons oX12_when_60 (oA.cons oX12_when_63 (oA.cons oX12_when_64 (oA.cons oX12_when_65 (oA.cons oX12_when_66 (oA.cons oX12_when_69 (oA.cons oX12_when_71 (oA.cons oX12_when_74 (oA.cons oX12_when_76 (oA.cons oX12_when_79 (oA.cons oX12_when_80 (oA.cons oX12_when_83 (oA.cons oX12_when_84 (oA.cons oX12_when_85 (oA.cons oX12_when_86 (oA.cons oX12_when_87 (oA.cons oX12_when_88 (oA.cons oX12_when_91 (oA.cons oX12_when_92 (oA.cons oX12_when_95 (oA.cons oX12_when_96 oA.nil)))))))))))))))))))))))))))))))))))))))))))))))))))))))
theorem dX12_strawFor_0 : decode cX12_strawFor 0 = .ok (.aload_n 0, 1) := by decide +kernel
theorem dX12_strawFor_1 : decode cX12_strawFor 1 = .ok (.iload_n 1, 1) := by decide +kernel
theorem dX12_strawFor_2 : decode cX12_strawFor 2 = .ok (.iconst 2, 1) := by decide +kernel
theorem dX12_strawFor_3 : decode cX12_strawFor 3 = .ok (.bipush 9, 2) := by decide +kernel
theorem dX12_strawFor_5 : decode cX12_strawFor 5 = .ok (.invokevirtual 250, 3) := by decide +kernel
theorem dX12_strawFor_8 : decode cX12_strawFor 8 = .ok (.ireturn, 1) := by decide +kernel
theorem oX12_strawFor_0 : oP MT mX12_strawFor 0 (1, 1, 0, 1, []) := o_aload_n dX12_strawFor_0 rfl
theorem oX12_strawFor_1 : oP MT mX12_strawFor 1 (1, 1, 1, 0, []) := o_iload_n dX12_strawFor_1 rfl
theorem oX12_strawFor_2 : oP MT mX12_strawFor 2 (0, 1, 0, 2, []) := o_iconst dX12_strawFor_2 (by decide)
theorem oX12_strawFor_3 : oP MT mX12_strawFor 3 (0, 2, 0, 9, []) := o_bipush dX12_strawFor_3 (by decide)
theorem oX12_strawFor_5 : oP MT mX12_strawFor 5 (26, 3, 0, 3, [(12, 155)]) := o_callO ((vA.cons (v_callV dX12_strawFor_5 (ci := 12) rfl rfl (mj := mX12_bestFor) mt_X12_bestFor cmq_X12_bestFor wq_703 wq_705 wq_706 (by decide) (by decide)) vA.nil))
theorem oX12_strawFor_8 : oP MT mX12_strawFor 8 (21, 1, 0, 0, []) := o_iret dX12_strawFor_8 rfl
def ops_X12_strawFor : List (Nat × aO) := [(0, (1, 1, 0, 1, [])), (1, (1, 1, 1, 0, [])), (2, (0, 1, 0, 2, [])), (3, (0, 2, 0, 9, [])), (5, (26, 3, 0, 3, [(12, 155)])), (8, (21, 1, 0, 0, []))]
theorem os_X12_strawFor : oA MT mX12_strawFor ops_X12_strawFor := (oA.cons oX12_strawFor_0 (oA.cons oX12_strawFor_1 (oA.cons oX12_strawFor_2 (oA.cons oX12_strawFor_3 (oA.cons oX12_strawFor_5 (oA.cons oX12_strawFor_8 oA.nil))))))
theorem dX12_gateFor_0 : decode cX12_gateFor 0 = .ok (.aload_n 0, 1) := by decide +kernel
theorem dX12_gateFor_1 : decode cX12_gateFor 1 = .ok (.iload_n 1, 1) := by decide +kernel
theorem dX12_gateFor_2 : decode cX12_gateFor 2 = .ok (.iconst 3, 1) := by decide +kernel
theorem dX12_gateFor_3 : decode cX12_gateFor 3 = .ok (.iconst 5, 1) := by decide +kernel
theorem dX12_gateFor_4 : decode cX12_gateFor 4 = .ok (.invokevirtual 250, 3) := by decide +kernel
theorem dX12_gateFor_7 : decode cX12_gateFor 7 = .ok (.ireturn, 1) := by decide +kernel
theorem oX12_gateFor_0 : oP MT mX12_gateFor 0 (1, 1, 0, 1, []) := o_aload_n dX12_gateFor_0 rfl
theorem oX12_gateFor_1 : oP MT mX12_gateFor 1 (1, 1, 1, 0, []) := o_iload_n dX12_gateFor_1 rfl
theorem oX12_gateFor_2 : oP MT mX12_gateFor 2 (0, 1, 0, 3, []) := o_iconst dX12_gateFor_2 (by decide)
theorem oX12_gateFor_3 : oP MT mX12_gateFor 3 (0, 1, 0, 5, []) := o_iconst dX12_gateFor_3 (by decide)
theorem oX12_gateFor_4 : oP MT mX12_gateFor 4 (26, 3, 0, 3, [(12, 155)]) := o_callO ((vA.cons (v_callV dX12_gateFor_4 (ci := 12) rfl rfl (mj := mX12_bestFor) mt_X12_bestFor cmq_X12_bestFor wq_703 wq_705 wq_706 (by decide) (by decide)) vA.nil))
theorem oX12_gateFor_7 : oP MT mX12_gateFor 7 (21, 1, 0, 0, []) := o_iret dX12_gateFor_7 rfl
def ops_X12_gateFor : List (Nat × aO) := [(0, (1, 1, 0, 1, [])), (1, (1, 1, 1, 0, [])), (2, (0, 1, 0, 3, [])), (3, (0, 1, 0, 5, [])), (4, (26, 3, 0, 3, [(12, 155)])), (7, (21, 1, 0, 0, []))]
theorem os_X12_gateFor : oA MT mX12_gateFor ops_X12_gateFor := (oA.cons oX12_gateFor_0 (oA.cons oX12_gateFor_1 (oA.cons oX12_gateFor_2 (oA.cons oX12_gateFor_3 (oA.cons oX12_gateFor_4 (oA.cons oX12_gateFor_7 oA.nil))))))
theorem dX12_gone_0 : decode cX12_gone 0 = .ok (.aload_n 0, 1) := by decide +kernel
theorem dX12_gone_1 : decode cX12_gone 1 = .ok (.iload_n 1, 1) := by decide +kernel
theorem dX12_gone_2 : decode cX12_gone 2 = .ok (.invokevirtual 223, 3) := by decide +kernel
theorem dX12_gone_5 : decode cX12_gone 5 = .ok (.ifCond .ne 5, 3) := by decide +kernel
theorem dX12_gone_8 : decode cX12_gone 8 = .ok (.iconst (-1), 1) := by decide +kernel
theorem dX12_gone_9 : decode cX12_gone 9 = .ok (.ireturn, 1) := by decide +kernel
theorem dX12_gone_10 : decode cX12_gone 10 = .ok (.aload_n 0, 1) := by decide +kernel
theorem dX12_gone_11 : decode cX12_gone 11 = .ok (.invokevirtual 241, 3) := by decide +kernel
theorem dX12_gone_14 : decode cX12_gone 14 = .ok (.iconst 0, 1) := by decide +kernel
theorem dX12_gone_15 : decode cX12_gone 15 = .ok (.istore_n 2, 1) := by decide +kernel
theorem dX12_gone_16 : decode cX12_gone 16 = .ok (.aload_n 0, 1) := by decide +kernel
theorem dX12_gone_17 : decode cX12_gone 17 = .ok (.iload_n 1, 1) := by decide +kernel
theorem dX12_gone_18 : decode cX12_gone 18 = .ok (.iconst 1, 1) := by decide +kernel
theorem dX12_gone_19 : decode cX12_gone 19 = .ok (.invokevirtual 79, 3) := by decide +kernel
theorem dX12_gone_22 : decode cX12_gone 22 = .ok (.ifCond .le 21, 3) := by decide +kernel
theorem dX12_gone_25 : decode cX12_gone 25 = .ok (.aload_n 0, 1) := by decide +kernel
theorem dX12_gone_26 : decode cX12_gone 26 = .ok (.invokevirtual 229, 3) := by decide +kernel
theorem dX12_gone_29 : decode cX12_gone 29 = .ok (.ifCond .ne 14, 3) := by decide +kernel
theorem dX12_gone_32 : decode cX12_gone 32 = .ok (.iload_n 2, 1) := by decide +kernel
theorem dX12_gone_33 : decode cX12_gone 33 = .ok (.aload_n 0, 1) := by decide +kernel
theorem dX12_gone_34 : decode cX12_gone 34 = .ok (.iconst (-1), 1) := by decide +kernel
theorem dX12_gone_35 : decode cX12_gone 35 = .ok (.invokevirtual 238, 3) := by decide +kernel
theorem dX12_gone_38 : decode cX12_gone 38 = .ok (.iadd, 1) := by decide +kernel
theorem dX12_gone_39 : decode cX12_gone 39 = .ok (.istore_n 2, 1) := by decide +kernel
theorem dX12_gone_40 : decode cX12_gone 40 = .ok (.goto (-24), 3) := by decide +kernel
theorem dX12_gone_43 : decode cX12_gone 43 = .ok (.aload_n 0, 1) := by decide +kernel
theorem dX12_gone_44 : decode cX12_gone 44 = .ok (.iload_n 1, 1) := by decide +kernel
theorem dX12_gone_45 : decode cX12_gone 45 = .ok (.iconst 1, 1) := by decide +kernel
theorem dX12_gone_46 : decode cX12_gone 46 = .ok (.invokevirtual 79, 3) := by decide +kernel
theorem dX12_gone_49 : decode cX12_gone 49 = .ok (.ifCond .ne 16, 3) := by decide +kernel
theorem dX12_gone_52 : decode cX12_gone 52 = .ok (.iload_n 2, 1) := by decide +kernel
theorem dX12_gone_53 : decode cX12_gone 53 = .ok (.ifCond .lt 12, 3) := by decide +kernel
theorem dX12_gone_56 : decode cX12_gone 56 = .ok (.aload_n 0, 1) := by decide +kernel
theorem dX12_gone_57 : decode cX12_gone 57 = .ok (.getfield 9, 3) := by decide +kernel
theorem dX12_gone_60 : decode cX12_gone 60 = .ok (.iconst 0, 1) := by decide +kernel
theorem dX12_gone_61 : decode cX12_gone 61 = .ok (.iaload, 1) := by decide +kernel
theorem dX12_gone_62 : decode cX12_gone 62 = .ok (.goto 5, 3) := by decide +kernel
theorem dX12_gone_65 : decode cX12_gone 65 = .ok (.bipush (-3), 2) := by decide +kernel
theorem dX12_gone_67 : decode cX12_gone 67 = .ok (.istore_n 3, 1) := by decide +kernel
theorem dX12_gone_68 : decode cX12_gone 68 = .ok (.aload_n 0, 1) := by decide +kernel
theorem dX12_gone_69 : decode cX12_gone 69 = .ok (.invokevirtual 247, 3) := by decide +kernel
theorem dX12_gone_72 : decode cX12_gone 72 = .ok (.iload_n 3, 1) := by decide +kernel
theorem dX12_gone_73 : decode cX12_gone 73 = .ok (.ireturn, 1) := by decide +kernel
theorem oX12_gone_0 : oP MT mX12_gone 0 (1, 1, 0, 1, []) := o_aload_n dX12_gone_0 rfl
theorem oX12_gone_1 : oP MT mX12_gone 1 (1, 1, 1, 0, []) := o_iload_n dX12_gone_1 rfl
theorem oX12_gone_2 : oP MT mX12_gone 2 (26, 3, 0, 1, [(12, 149)]) := o_callO ((vA.cons (v_callV dX12_gone_2 (ci := 12) rfl rfl (mj := mX12_isKey) mt_X12_isKey cmq_X12_isKey wq_565 wq_567 wq_568 (by decide) (by decide)) vA.nil))
theorem oX12_gone_5 : oP MT mX12_gone 5 (10, 3, 1, 10, []) := o_if_ne dX12_gone_5 (by decide) (by decide)
theorem oX12_gone_8 : oP MT mX12_gone 8 (0, 1, 0, (-1), []) := o_iconst dX12_gone_8 (by decide)
theorem oX12_gone_9 : oP MT mX12_gone 9 (21, 1, 0, 0, []) := o_iret dX12_gone_9 rfl
theorem oX12_gone_10 : oP MT mX12_gone 10 (1, 1, 0, 1, []) := o_aload_n dX12_gone_10 rfl
theorem oX12_gone_11 : oP MT mX12_gone 11 (26, 3, 0, 0, [(12, 152)]) := o_callO ((vA.cons (v_callV dX12_gone_11 (ci := 12) rfl rfl (mj := mX12_layDown) mt_X12_layDown cmq_X12_layDown wq_569 wq_571 wq_572 (by decide) (by decide)) vA.nil))
theorem oX12_gone_14 : oP MT mX12_gone 14 (0, 1, 0, 0, []) := o_iconst dX12_gone_14 (by decide)
theorem oX12_gone_15 : oP MT mX12_gone 15 (2, 1, 2, 0, []) := o_istore_n dX12_gone_15 rfl (by decide)
theorem oX12_gone_16 : oP MT mX12_gone 16 (1, 1, 0, 1, []) := o_aload_n dX12_gone_16 rfl
theorem oX12_gone_17 : oP MT mX12_gone 17 (1, 1, 1, 0, []) := o_iload_n dX12_gone_17 rfl
theorem oX12_gone_18 : oP MT mX12_gone 18 (0, 1, 0, 1, []) := o_iconst dX12_gone_18 (by decide)
theorem oX12_gone_19 : oP MT mX12_gone 19 (26, 3, 0, 2, [(12, 112)]) := o_callO ((vA.cons (v_callV dX12_gone_19 (ci := 12) rfl rfl (mj := mX12_get) mt_X12_get cmq_X12_get wq_435 wq_437 wq_438 (by decide) (by decide)) vA.nil))
theorem oX12_gone_22 : oP MT mX12_gone 22 (10, 3, 5, 43, []) := o_if_le dX12_gone_22 (by decide) (by decide)
theorem oX12_gone_25 : oP MT mX12_gone 25 (1, 1, 0, 1, []) := o_aload_n dX12_gone_25 rfl
theorem oX12_gone_26 : oP MT mX12_gone 26 (26, 3, 0, 0, [(12, 150)]) := o_callO ((vA.cons (v_callV dX12_gone_26 (ci := 12) rfl rfl (mj := mX12_isOver) mt_X12_isOver cmq_X12_isOver wq_557 wq_559 wq_560 (by decide) (by decide)) vA.nil))
theorem oX12_gone_29 : oP MT mX12_gone 29 (10, 3, 1, 43, []) := o_if_ne dX12_gone_29 (by decide) (by decide)
theorem oX12_gone_32 : oP MT mX12_gone 32 (1, 1, 2, 0, []) := o_iload_n dX12_gone_32 rfl
theorem oX12_gone_33 : oP MT mX12_gone 33 (1, 1, 0, 1, []) := o_aload_n dX12_gone_33 rfl
theorem oX12_gone_34 : oP MT mX12_gone 34 (0, 1, 0, (-1), []) := o_iconst dX12_gone_34 (by decide)
theorem oX12_gone_35 : oP MT mX12_gone 35 (26, 3, 0, 1, [(12, 151)]) := o_callO ((vA.cons (v_callV dX12_gone_35 (ci := 12) rfl rfl (mj := mX12_goesBy) mt_X12_goesBy cmq_X12_goesBy wq_561 wq_563 wq_564 (by decide) (by decide)) vA.nil))
theorem oX12_gone_38 : oP MT mX12_gone 38 (4, 1, 0, 0, []) := o_iadd dX12_gone_38
theorem oX12_gone_39 : oP MT mX12_gone 39 (2, 1, 2, 0, []) := o_istore_n dX12_gone_39 rfl (by decide)
theorem oX12_gone_40 : oP MT mX12_gone 40 (9, 3, 16, 0, []) := o_goto dX12_gone_40 (by decide)
theorem oX12_gone_43 : oP MT mX12_gone 43 (1, 1, 0, 1, []) := o_aload_n dX12_gone_43 rfl
theorem oX12_gone_44 : oP MT mX12_gone 44 (1, 1, 1, 0, []) := o_iload_n dX12_gone_44 rfl
theorem oX12_gone_45 : oP MT mX12_gone 45 (0, 1, 0, 1, []) := o_iconst dX12_gone_45 (by decide)
theorem oX12_gone_46 : oP MT mX12_gone 46 (26, 3, 0, 2, [(12, 112)]) := o_callO ((vA.cons (v_callV dX12_gone_46 (ci := 12) rfl rfl (mj := mX12_get) mt_X12_get cmq_X12_get wq_435 wq_437 wq_438 (by decide) (by decide)) vA.nil))
theorem oX12_gone_49 : oP MT mX12_gone 49 (10, 3, 1, 65, []) := o_if_ne dX12_gone_49 (by decide) (by decide)
theorem oX12_gone_52 : oP MT mX12_gone 52 (1, 1, 2, 0, []) := o_iload_n dX12_gone_52 rfl
theorem oX12_gone_53 : oP MT mX12_gone 53 (10, 3, 2, 65, []) := o_if_lt dX12_gone_53 (by decide) (by decide)
theorem oX12_gone_56 : oP MT mX12_gone 56 (1, 1, 0, 1, []) := o_aload_n dX12_gone_56 rfl
theorem oX12_gone_57 : oP MT mX12_gone 57 (13, 3, 0, 12, []) := o_getR (M := mX12_gone) (C := RX12) (T := TX12) (ci := 12) (j := 0) (z := 12) dX12_gone_57 rfl lq_RX12_9 rfl rfl
theorem oX12_gone_60 : oP MT mX12_gone 60 (0, 1, 0, 0, []) := o_iconst dX12_gone_60 (by decide)
theorem oX12_gone_61 : oP MT mX12_gone 61 (16, 1, 1, 0, []) := o_iaload dX12_gone_61
theorem oX12_gone_62 : oP MT mX12_gone 62 (9, 3, 67, 0, []) := o_goto dX12_gone_62 (by decide)
theorem oX12_gone_65 : oP MT mX12_gone 65 (0, 2, 0, (-3), []) := o_bipush dX12_gone_65 (by decide)
theorem oX12_gone_67 : oP MT mX12_gone 67 (2, 1, 3, 0, []) := o_istore_n dX12_gone_67 rfl (by decide)
theorem oX12_gone_68 : oP MT mX12_gone 68 (1, 1, 0, 1, []) := o_aload_n dX12_gone_68 rfl
theorem oX12_gone_69 : oP MT mX12_gone 69 (26, 3, 0, 0, [(12, 154)]) := o_callO ((vA.cons (v_callV dX12_gone_69 (ci := 12) rfl rfl (mj := mX12_layBack) mt_X12_layBack cmq_X12_layBack wq_577 wq_579 wq_580 (by decide) (by decide)) vA.nil))
theorem oX12_gone_72 : oP MT mX12_gone 72 (1, 1, 3, 0, []) := o_iload_n dX12_gone_72 rfl
theorem oX12_gone_73 : oP MT mX12_gone 73 (21, 1, 0, 0, []) := o_iret dX12_gone_73 rfl
def ops_X12_gone : List (Nat × aO) := [(0, (1, 1, 0, 1, [])), (1, (1, 1, 1, 0, [])), (2, (26, 3, 0, 1, [(12, 149)])), (5, (10, 3, 1, 10, [])), (8, (0, 1, 0, (-1), [])), (9, (21, 1, 0, 0, [])), (10, (1, 1, 0, 1, [])), (11, (26, 3, 0, 0, [(12, 152)])), (14, (0, 1, 0, 0, [])), (15, (2, 1, 2, 0, [])), (16, (1, 1, 0, 1, [])), (17, (1, 1, 1, 0, [])), (18, (0, 1, 0, 1, [])), (19, (26, 3, 0, 2, [(12, 112)])), (22, (10, 3, 5, 43, [])), (25, (1, 1, 0, 1, [])), (26, (26, 3, 0, 0, [(12, 150)])), (29, (10, 3, 1, 43, [])), (32, (1, 1, 2, 0, [])), (33, (1, 1, 0, 1, [])), (34, (0, 1, 0, (-1), [])), (35, (26, 3, 0, 1, [(12, 151)])), (38, (4, 1, 0, 0, [])), (39, (2, 1, 2, 0, [])), (40, (9, 3, 16, 0, [])), (43, (1, 1, 0, 1, [])), (44, (1, 1, 1, 0, [])), (45, (0, 1, 0, 1, [])), (46, (26, 3, 0, 2, [(12, 112)])), (49, (10, 3, 1, 65, [])), (52, (1, 1, 2, 0, [])), (53, (10, 3, 2, 65, [])), (56, (1, 1, 0, 1, [])), (57, (13, 3, 0, 12, [])), (60, (0, 1, 0, 0, [])), (61, (16, 1, 1, 0, [])), (62, (9, 3, 67, 0, [])), (65, (0, 2, 0, (-3), [])), (67, (2, 1, 3, 0, [])), (68, (1, 1, 0, 1, [])), (69, (26, 3, 0, 0, [(12, 154)])), (72, (1, 1, 3, 0, [])), (73, (21, 1, 0, 0, []))]
theorem os_X12_gone : oA MT mX12_gone ops_X12_gone := (oA.cons oX12_gone_0 (oA.cons oX12_gone_1 (oA.cons oX12_gone_2 (oA.cons oX12_gone_5 (oA.cons oX12_gone_8 (oA.cons oX12_gone_9 (oA.cons oX12_gone_10 (oA.cons oX12_gone_11 (oA.cons oX12_gone_14 (oA.cons oX12_gone_15 (oA.cons oX12_gone_16 (oA.cons oX12_gone_17 (oA.cons oX12_gone_18 (oA.cons oX12_gone_19 (oA.cons oX12_gone_22 (oA.cons oX12_gone_25 (oA.cons oX12_gone_26 (oA.cons oX12_gone_29 (oA.cons oX12_gone_32 (oA.cons oX12_gone_33 (oA.cons oX12_gone_34 (oA.cons oX12_gone_35 (oA.cons oX12_gone_38 (oA.cons oX12_gone_39 (oA.cons oX12_gone_40 (oA.cons oX12_gone_43 (oA.cons oX12_gone_44 (oA.cons oX12_gone_45 (oA.cons oX12_gone_46 (oA.cons oX12_gone_49 (oA.cons oX12_gone_52 (oA.cons oX12_gone_53 (oA.cons oX12_gone_56 (oA.cons oX12_gone_57 (oA.cons oX12_gone_60 (oA.cons oX12_gone_61 (oA.cons oX12_gone_62 (oA.cons oX12_gone_65 (oA.cons oX12_gone_67 (oA.cons oX12_gone_68 (oA.cons oX12_gone_69 (oA.cons oX12_gone_72 (oA.cons oX12_gone_73 oA.nil)))))))))))))))))))))))))))))))))))))))))))
theorem dX12_opens_0 : decode cX12_opens 0 = .ok (.aload_n 0, 1) := by decide +kernel
theorem dX12_opens_1 : decode cX12_opens 1 = .ok (.iload_n 1, 1) := by decide +kernel
theorem dX12_opens_2 : decode cX12_opens 2 = .ok (.invokevirtual 223, 3) := by decide +kernel
theorem dX12_opens_5 : decode cX12_opens 5 = .ok (.ifCond .ne 5, 3) := by decide +kernel
theorem dX12_opens_8 : decode cX12_opens 8 = .ok (.iconst (-1), 1) := by decide +kernel
theorem dX12_opens_9 : decode cX12_opens 9 = .ok (.ireturn, 1) := by decide +kernel
theorem dX12_opens_10 : decode cX12_opens 10 = .ok (.iconst 0, 1) := by decide +kernel
theorem dX12_opens_11 : decode cX12_opens 11 = .ok (.istore_n 2, 1) := by decide +kernel
theorem dX12_opens_12 : decode cX12_opens 12 = .ok (.iconst 0, 1) := by decide +kernel
theorem dX12_opens_13 : decode cX12_opens 13 = .ok (.istore_n 3, 1) := by decide +kernel
theorem dX12_opens_14 : decode cX12_opens 14 = .ok (.iload_n 3, 1) := by decide +kernel
theorem dX12_opens_15 : decode cX12_opens 15 = .ok (.bipush 9, 2) := by decide +kernel
theorem dX12_opens_17 : decode cX12_opens 17 = .ok (.if_icmp .gt 28, 3) := by decide +kernel
theorem dX12_opens_20 : decode cX12_opens 20 = .ok (.iload_n 2, 1) := by decide +kernel
theorem dX12_opens_21 : decode cX12_opens 21 = .ok (.aload_n 0, 1) := by decide +kernel
theorem dX12_opens_22 : decode cX12_opens 22 = .ok (.iload_n 1, 1) := by decide +kernel
theorem dX12_opens_23 : decode cX12_opens 23 = .ok (.iload_n 3, 1) := by decide +kernel
theorem dX12_opens_24 : decode cX12_opens 24 = .ok (.invokevirtual 100, 3) := by decide +kernel
theorem dX12_opens_27 : decode cX12_opens 27 = .ok (.ifCond .eq 9, 3) := by decide +kernel
theorem dX12_opens_30 : decode cX12_opens 30 = .ok (.iconst 1, 1) := by decide +kernel
theorem dX12_opens_31 : decode cX12_opens 31 = .ok (.iload_n 3, 1) := by decide +kernel
theorem dX12_opens_32 : decode cX12_opens 32 = .ok (.ishl, 1) := by decide +kernel
theorem dX12_opens_33 : decode cX12_opens 33 = .ok (.goto 4, 3) := by decide +kernel
theorem dX12_opens_36 : decode cX12_opens 36 = .ok (.iconst 0, 1) := by decide +kernel
theorem dX12_opens_37 : decode cX12_opens 37 = .ok (.ior, 1) := by decide +kernel
theorem dX12_opens_38 : decode cX12_opens 38 = .ok (.istore_n 2, 1) := by decide +kernel
theorem dX12_opens_39 : decode cX12_opens 39 = .ok (.iinc 3 1, 3) := by decide +kernel
theorem dX12_opens_42 : decode cX12_opens 42 = .ok (.goto (-28), 3) := by decide +kernel
theorem dX12_opens_45 : decode cX12_opens 45 = .ok (.iload_n 2, 1) := by decide +kernel
theorem dX12_opens_46 : decode cX12_opens 46 = .ok (.ireturn, 1) := by decide +kernel
theorem oX12_opens_0 : oP MT mX12_opens 0 (1, 1, 0, 1, []) := o_aload_n dX12_opens_0 rfl
theorem oX12_opens_1 : oP MT mX12_opens 1 (1, 1, 1, 0, []) := o_iload_n dX12_opens_1 rfl
theorem oX12_opens_2 : oP MT mX12_opens 2 (26, 3, 0, 1, [(12, 149)]) := o_callO ((vA.cons (v_callV dX12_opens_2 (ci := 12) rfl rfl (mj := mX12_isKey) mt_X12_isKey cmq_X12_isKey wq_565 wq_567 wq_568 (by decide) (by decide)) vA.nil))
theorem oX12_opens_5 : oP MT mX12_opens 5 (10, 3, 1, 10, []) := o_if_ne dX12_opens_5 (by decide) (by decide)
theorem oX12_opens_8 : oP MT mX12_opens 8 (0, 1, 0, (-1), []) := o_iconst dX12_opens_8 (by decide)
theorem oX12_opens_9 : oP MT mX12_opens 9 (21, 1, 0, 0, []) := o_iret dX12_opens_9 rfl
theorem oX12_opens_10 : oP MT mX12_opens 10 (0, 1, 0, 0, []) := o_iconst dX12_opens_10 (by decide)
theorem oX12_opens_11 : oP MT mX12_opens 11 (2, 1, 2, 0, []) := o_istore_n dX12_opens_11 rfl (by decide)
theorem oX12_opens_12 : oP MT mX12_opens 12 (0, 1, 0, 0, []) := o_iconst dX12_opens_12 (by decide)
theorem oX12_opens_13 : oP MT mX12_opens 13 (2, 1, 3, 0, []) := o_istore_n dX12_opens_13 rfl (by decide)
theorem oX12_opens_14 : oP MT mX12_opens 14 (1, 1, 3, 0, []) := o_iload_n dX12_opens_14 rfl
theorem oX12_opens_15 : oP MT mX12_opens 15 (0, 2, 0, 9, []) := o_bipush dX12_opens_15 (by decide)
theorem oX12_opens_17 : oP MT mX12_opens 17 (11, 3, 4, 45, []) := o_icmp_gt dX12_opens_17 (by decide) (by decide)
theorem oX12_opens_20 : oP MT mX12_opens 20 (1, 1, 2, 0, []) := o_iload_n dX12_opens_20 rfl
theorem oX12_opens_21 : oP MT mX12_opens 21 (1, 1, 0, 1, []) := o_aload_n dX12_opens_21 rfl
theorem oX12_opens_22 : oP MT mX12_opens 22 (1, 1, 1, 0, []) := o_iload_n dX12_opens_22 rfl
theorem oX12_opens_23 : oP MT mX12_opens 23 (1, 1, 3, 0, []) := o_iload_n dX12_opens_23 rfl
theorem oX12_opens_24 : oP MT mX12_opens 24 (26, 3, 0, 2, [(12, 122)]) := o_callO ((vA.cons (v_callV dX12_opens_24 (ci := 12) rfl rfl (mj := mX12_doesFit) mt_X12_doesFit cmq_X12_doesFit wq_450 wq_452 wq_453 (by decide) (by decide)) vA.nil))
theorem oX12_opens_27 : oP MT mX12_opens 27 (10, 3, 0, 36, []) := o_if_eq dX12_opens_27 (by decide) (by decide)
theorem oX12_opens_30 : oP MT mX12_opens 30 (0, 1, 0, 1, []) := o_iconst dX12_opens_30 (by decide)
theorem oX12_opens_31 : oP MT mX12_opens 31 (1, 1, 3, 0, []) := o_iload_n dX12_opens_31 rfl
theorem oX12_opens_32 : oP MT mX12_opens 32 (4, 1, 6, 0, []) := o_ishl dX12_opens_32
theorem oX12_opens_33 : oP MT mX12_opens 33 (9, 3, 37, 0, []) := o_goto dX12_opens_33 (by decide)
theorem oX12_opens_36 : oP MT mX12_opens 36 (0, 1, 0, 0, []) := o_iconst dX12_opens_36 (by decide)
theorem oX12_opens_37 : oP MT mX12_opens 37 (4, 1, 4, 0, []) := o_ior dX12_opens_37
theorem oX12_opens_38 : oP MT mX12_opens 38 (2, 1, 2, 0, []) := o_istore_n dX12_opens_38 rfl (by decide)
theorem oX12_opens_39 : oP MT mX12_opens 39 (3, 3, 3, 1, []) := o_iinc dX12_opens_39 (by decide) (by decide)
theorem oX12_opens_42 : oP MT mX12_opens 42 (9, 3, 14, 0, []) := o_goto dX12_opens_42 (by decide)
theorem oX12_opens_45 : oP MT mX12_opens 45 (1, 1, 2, 0, []) := o_iload_n dX12_opens_45 rfl
theorem oX12_opens_46 : oP MT mX12_opens 46 (21, 1, 0, 0, []) := o_iret dX12_opens_46 rfl
def ops_X12_opens : List (Nat × aO) := [(0, (1, 1, 0, 1, [])), (1, (1, 1, 1, 0, [])), (2, (26, 3, 0, 1, [(12, 149)])), (5, (10, 3, 1, 10, [])), (8, (0, 1, 0, (-1), [])), (9, (21, 1, 0, 0, [])), (10, (0, 1, 0, 0, [])), (11, (2, 1, 2, 0, [])), (12, (0, 1, 0, 0, [])), (13, (2, 1, 3, 0, [])), (14, (1, 1, 3, 0, [])), (15, (0, 2, 0, 9, [])), (17, (11, 3, 4, 45, [])), (20, (1, 1, 2, 0, [])), (21, (1, 1, 0, 1, [])), (22, (1, 1, 1, 0, [])), (23, (1, 1, 3, 0, [])), (24, (26, 3, 0, 2, [(12, 122)])), (27, (10, 3, 0, 36, [])), (30, (0, 1, 0, 1, [])), (31, (1, 1, 3, 0, [])), (32, (4, 1, 6, 0, [])), (33, (9, 3, 37, 0, [])), (36, (0, 1, 0, 0, [])), (37, (4, 1, 4, 0, [])), (38, (2, 1, 2, 0, [])), (39, (3, 3, 3, 1, [])), (42, (9, 3, 14, 0, [])), (45, (1, 1, 2, 0, [])), (46, (21, 1, 0, 0, []))]
theorem os_X12_opens : oA MT mX12_opens ops_X12_opens := (oA.cons oX12_opens_0 (oA.cons oX12_opens_1 (oA.cons oX12_opens_2 (oA.cons oX12_opens_5 (oA.cons oX12_opens_8 (oA.cons oX12_opens_9 (oA.cons oX12_opens_10 (oA.cons oX12_opens_11 (oA.cons oX12_opens_12 (oA.cons oX12_opens_13 (oA.cons oX12_opens_14 (oA.cons oX12_opens_15 (oA.cons oX12_opens_17 (oA.cons oX12_opens_20 (oA.cons oX12_opens_21 (oA.cons oX12_opens_22 (oA.cons oX12_opens_23 (oA.cons oX12_opens_24 (oA.cons oX12_opens_27 (oA.cons oX12_opens_30 (oA.cons oX12_opens_31 (oA.cons oX12_opens_32 (oA.cons oX12_opens_33 (oA.cons oX12_opens_36 (oA.cons oX12_opens_37 (oA.cons oX12_opens_38 (oA.cons oX12_opens_39 (oA.cons oX12_opens_42 (oA.cons oX12_opens_45 (oA.cons oX12_opens_46 oA.nil))))))))))))))))))))))))))))))
theorem dX12_left_0 : decode cX12_left 0 = .ok (.iload_n 1, 1) := by decide +kernel
theorem dX12_left_1 : decode cX12_left 1 = .ok (.iconst 0, 1) := by decide +kernel
theorem dX12_left_2 : decode cX12_left 2 = .ok (.bipush 16, 2) := by decide +kernel
theorem dX12_left_4 : decode cX12_left 4 = .ok (.invokestatic 71, 3) := by decide +kernel
theorem dX12_left_7 : decode cX12_left 7 = .ok (.ifCond .eq 12, 3) := by decide +kernel
theorem dX12_left_10 : decode cX12_left 10 = .ok (.iload_n 2, 1) := by decide +kernel
theorem dX12_left_11 : decode cX12_left 11 = .ok (.iconst 0, 1) := by decide +kernel
theorem dX12_left_12 : decode cX12_left 12 = .ok (.iconst 1, 1) := by decide +kernel
theorem dX12_left_13 : decode cX12_left 13 = .ok (.invokestatic 71, 3) := by decide +kernel
theorem dX12_left_16 : decode cX12_left 16 = .ok (.ifCond .ne 5, 3) := by decide +kernel
theorem dX12_left_19 : decode cX12_left 19 = .ok (.iconst (-1), 1) := by decide +kernel
theorem dX12_left_20 : decode cX12_left 20 = .ok (.ireturn, 1) := by decide +kernel
theorem dX12_left_21 : decode cX12_left 21 = .ok (.aload_n 0, 1) := by decide +kernel
theorem dX12_left_22 : decode cX12_left 22 = .ok (.invokevirtual 241, 3) := by decide +kernel
theorem dX12_left_25 : decode cX12_left 25 = .ok (.iconst 0, 1) := by decide +kernel
theorem dX12_left_26 : decode cX12_left 26 = .ok (.istore_n 3, 1) := by decide +kernel
theorem dX12_left_27 : decode cX12_left 27 = .ok (.iconst 0, 1) := by decide +kernel
theorem dX12_left_28 : decode cX12_left 28 = .ok (.istore 4, 2) := by decide +kernel
theorem dX12_left_30 : decode cX12_left 30 = .ok (.iload 4, 2) := by decide +kernel
theorem dX12_left_32 : decode cX12_left 32 = .ok (.iload_n 1, 1) := by decide +kernel
theorem dX12_left_33 : decode cX12_left 33 = .ok (.if_icmp .ge 24, 3) := by decide +kernel
theorem dX12_left_36 : decode cX12_left 36 = .ok (.aload_n 0, 1) := by decide +kernel
theorem dX12_left_37 : decode cX12_left 37 = .ok (.invokevirtual 229, 3) := by decide +kernel
theorem dX12_left_40 : decode cX12_left 40 = .ok (.ifCond .ne 17, 3) := by decide +kernel
theorem dX12_left_43 : decode cX12_left 43 = .ok (.iload_n 3, 1) := by decide +kernel
theorem dX12_left_44 : decode cX12_left 44 = .ok (.aload_n 0, 1) := by decide +kernel
theorem dX12_left_45 : decode cX12_left 45 = .ok (.iconst (-1), 1) := by decide +kernel
theorem dX12_left_46 : decode cX12_left 46 = .ok (.invokevirtual 238, 3) := by decide +kernel
theorem dX12_left_49 : decode cX12_left 49 = .ok (.iadd, 1) := by decide +kernel
theorem dX12_left_50 : decode cX12_left 50 = .ok (.istore_n 3, 1) := by decide +kernel
theorem dX12_left_51 : decode cX12_left 51 = .ok (.iinc 4 1, 3) := by decide +kernel
theorem dX12_left_54 : decode cX12_left 54 = .ok (.goto (-24), 3) := by decide +kernel
theorem dX12_left_57 : decode cX12_left 57 = .ok (.iload_n 3, 1) := by decide +kernel
theorem dX12_left_58 : decode cX12_left 58 = .ok (.ifCond .ge 7, 3) := by decide +kernel
theorem dX12_left_61 : decode cX12_left 61 = .ok (.iconst (-1), 1) := by decide +kernel
theorem dX12_left_62 : decode cX12_left 62 = .ok (.goto 19, 3) := by decide +kernel
theorem dX12_left_65 : decode cX12_left 65 = .ok (.iload_n 2, 1) := by decide +kernel
theorem dX12_left_66 : decode cX12_left 66 = .ok (.ifCond .ne 10, 3) := by decide +kernel
theorem dX12_left_69 : decode cX12_left 69 = .ok (.aload_n 0, 1) := by decide +kernel
theorem dX12_left_70 : decode cX12_left 70 = .ok (.invokevirtual 235, 3) := by decide +kernel
theorem dX12_left_73 : decode cX12_left 73 = .ok (.goto 8, 3) := by decide +kernel
theorem dX12_left_76 : decode cX12_left 76 = .ok (.aload_n 0, 1) := by decide +kernel
theorem dX12_left_77 : decode cX12_left 77 = .ok (.iconst 4, 1) := by decide +kernel
theorem dX12_left_78 : decode cX12_left 78 = .ok (.invokevirtual 232, 3) := by decide +kernel
theorem dX12_left_81 : decode cX12_left 81 = .ok (.istore 4, 2) := by decide +kernel
theorem dX12_left_83 : decode cX12_left 83 = .ok (.aload_n 0, 1) := by decide +kernel
theorem dX12_left_84 : decode cX12_left 84 = .ok (.invokevirtual 247, 3) := by decide +kernel
theorem dX12_left_87 : decode cX12_left 87 = .ok (.iload 4, 2) := by decide +kernel
theorem dX12_left_89 : decode cX12_left 89 = .ok (.ireturn, 1) := by decide +kernel
theorem oX12_left_0 : oP MT mX12_left 0 (1, 1, 1, 0, []) := o_iload_n dX12_left_0 rfl
theorem oX12_left_1 : oP MT mX12_left 1 (0, 1, 0, 0, []) := o_iconst dX12_left_1 (by decide)
theorem oX12_left_2 : oP MT mX12_left 2 (0, 2, 0, 16, []) := o_bipush dX12_left_2 (by decide)
theorem oX12_left_4 : oP MT mX12_left 4 (25, 3, 127, 3, []) := o_callS dX12_left_4 (mj := mX12_in1) mt_X12_in1 cmq_X12_in1 wq_468 wq_470 (by decide) (by decide)
theorem oX12_left_7 : oP MT mX12_left 7 (10, 3, 0, 19, []) := o_if_eq dX12_left_7 (by decide) (by decide)
theorem oX12_left_10 : oP MT mX12_left 10 (1, 1, 2, 0, []) := o_iload_n dX12_left_10 rfl
theorem oX12_left_11 : oP MT mX12_left 11 (0, 1, 0, 0, []) := o_iconst dX12_left_11 (by decide)
theorem oX12_left_12 : oP MT mX12_left 12 (0, 1, 0, 1, []) := o_iconst dX12_left_12 (by decide)
theorem oX12_left_13 : oP MT mX12_left 13 (25, 3, 127, 3, []) := o_callS dX12_left_13 (mj := mX12_in1) mt_X12_in1 cmq_X12_in1 wq_468 wq_470 (by decide) (by decide)
theorem oX12_left_16 : oP MT mX12_left 16 (10, 3, 1, 21, []) := o_if_ne dX12_left_16 (by decide) (by decide)
theorem oX12_left_19 : oP MT mX12_left 19 (0, 1, 0, (-1), []) := o_iconst dX12_left_19 (by decide)
theorem oX12_left_20 : oP MT mX12_left 20 (21, 1, 0, 0, []) := o_iret dX12_left_20 rfl
theorem oX12_left_21 : oP MT mX12_left 21 (1, 1, 0, 1, []) := o_aload_n dX12_left_21 rfl
theorem oX12_left_22 : oP MT mX12_left 22 (26, 3, 0, 0, [(12, 152)]) := o_callO ((vA.cons (v_callV dX12_left_22 (ci := 12) rfl rfl (mj := mX12_layDown) mt_X12_layDown cmq_X12_layDown wq_569 wq_571 wq_572 (by decide) (by decide)) vA.nil))
theorem oX12_left_25 : oP MT mX12_left 25 (0, 1, 0, 0, []) := o_iconst dX12_left_25 (by decide)
theorem oX12_left_26 : oP MT mX12_left 26 (2, 1, 3, 0, []) := o_istore_n dX12_left_26 rfl (by decide)
theorem oX12_left_27 : oP MT mX12_left 27 (0, 1, 0, 0, []) := o_iconst dX12_left_27 (by decide)
theorem oX12_left_28 : oP MT mX12_left 28 (2, 2, 4, 0, []) := o_istore dX12_left_28 (by decide)
theorem oX12_left_30 : oP MT mX12_left 30 (1, 2, 4, 0, []) := o_iload dX12_left_30
theorem oX12_left_32 : oP MT mX12_left 32 (1, 1, 1, 0, []) := o_iload_n dX12_left_32 rfl
theorem oX12_left_33 : oP MT mX12_left 33 (11, 3, 3, 57, []) := o_icmp_ge dX12_left_33 (by decide) (by decide)
theorem oX12_left_36 : oP MT mX12_left 36 (1, 1, 0, 1, []) := o_aload_n dX12_left_36 rfl
theorem oX12_left_37 : oP MT mX12_left 37 (26, 3, 0, 0, [(12, 150)]) := o_callO ((vA.cons (v_callV dX12_left_37 (ci := 12) rfl rfl (mj := mX12_isOver) mt_X12_isOver cmq_X12_isOver wq_557 wq_559 wq_560 (by decide) (by decide)) vA.nil))
theorem oX12_left_40 : oP MT mX12_left 40 (10, 3, 1, 57, []) := o_if_ne dX12_left_40 (by decide) (by decide)
theorem oX12_left_43 : oP MT mX12_left 43 (1, 1, 3, 0, []) := o_iload_n dX12_left_43 rfl
theorem oX12_left_44 : oP MT mX12_left 44 (1, 1, 0, 1, []) := o_aload_n dX12_left_44 rfl
theorem oX12_left_45 : oP MT mX12_left 45 (0, 1, 0, (-1), []) := o_iconst dX12_left_45 (by decide)
theorem oX12_left_46 : oP MT mX12_left 46 (26, 3, 0, 1, [(12, 151)]) := o_callO ((vA.cons (v_callV dX12_left_46 (ci := 12) rfl rfl (mj := mX12_goesBy) mt_X12_goesBy cmq_X12_goesBy wq_561 wq_563 wq_564 (by decide) (by decide)) vA.nil))
theorem oX12_left_49 : oP MT mX12_left 49 (4, 1, 0, 0, []) := o_iadd dX12_left_49
theorem oX12_left_50 : oP MT mX12_left 50 (2, 1, 3, 0, []) := o_istore_n dX12_left_50 rfl (by decide)
theorem oX12_left_51 : oP MT mX12_left 51 (3, 3, 4, 1, []) := o_iinc dX12_left_51 (by decide) (by decide)
theorem oX12_left_54 : oP MT mX12_left 54 (9, 3, 30, 0, []) := o_goto dX12_left_54 (by decide)
theorem oX12_left_57 : oP MT mX12_left 57 (1, 1, 3, 0, []) := o_iload_n dX12_left_57 rfl
theorem oX12_left_58 : oP MT mX12_left 58 (10, 3, 3, 65, []) := o_if_ge dX12_left_58 (by decide) (by decide)
theorem oX12_left_61 : oP MT mX12_left 61 (0, 1, 0, (-1), []) := o_iconst dX12_left_61 (by decide)
theorem oX12_left_62 : oP MT mX12_left 62 (9, 3, 81, 0, []) := o_goto dX12_left_62 (by decide)
theorem oX12_left_65 : oP MT mX12_left 65 (1, 1, 2, 0, []) := o_iload_n dX12_left_65 rfl
theorem oX12_left_66 : oP MT mX12_left 66 (10, 3, 1, 76, []) := o_if_ne dX12_left_66 (by decide) (by decide)
theorem oX12_left_69 : oP MT mX12_left 69 (1, 1, 0, 1, []) := o_aload_n dX12_left_69 rfl
theorem oX12_left_70 : oP MT mX12_left 70 (26, 3, 0, 0, [(12, 156)]) := o_callO ((vA.cons (v_callV dX12_left_70 (ci := 12) rfl rfl (mj := mX12_teethAll) mt_X12_teethAll cmq_X12_teethAll wq_677 wq_679 wq_680 (by decide) (by decide)) vA.nil))
theorem oX12_left_73 : oP MT mX12_left 73 (9, 3, 81, 0, []) := o_goto dX12_left_73 (by decide)
theorem oX12_left_76 : oP MT mX12_left 76 (1, 1, 0, 1, []) := o_aload_n dX12_left_76 rfl
theorem oX12_left_77 : oP MT mX12_left 77 (0, 1, 0, 4, []) := o_iconst dX12_left_77 (by decide)
theorem oX12_left_78 : oP MT mX12_left 78 (26, 3, 0, 1, [(12, 157)]) := o_callO ((vA.cons (v_callV dX12_left_78 (ci := 12) rfl rfl (mj := mX12_those) mt_X12_those cmq_X12_those wq_585 wq_587 wq_588 (by decide) (by decide)) vA.nil))
theorem oX12_left_81 : oP MT mX12_left 81 (2, 2, 4, 0, []) := o_istore dX12_left_81 (by decide)
theorem oX12_left_83 : oP MT mX12_left 83 (1, 1, 0, 1, []) := o_aload_n dX12_left_83 rfl
theorem oX12_left_84 : oP MT mX12_left 84 (26, 3, 0, 0, [(12, 154)]) := o_callO ((vA.cons (v_callV dX12_left_84 (ci := 12) rfl rfl (mj := mX12_layBack) mt_X12_layBack cmq_X12_layBack wq_577 wq_579 wq_580 (by decide) (by decide)) vA.nil))
theorem oX12_left_87 : oP MT mX12_left 87 (1, 2, 4, 0, []) := o_iload dX12_left_87
theorem oX12_left_89 : oP MT mX12_left 89 (21, 1, 0, 0, []) := o_iret dX12_left_89 rfl
def ops_X12_left : List (Nat × aO) := [(0, (1, 1, 1, 0, [])), (1, (0, 1, 0, 0, [])), (2, (0, 2, 0, 16, [])), (4, (25, 3, 127, 3, [])), (7, (10, 3, 0, 19, [])), (10, (1, 1, 2, 0, [])), (11, (0, 1, 0, 0, [])), (12, (0, 1, 0, 1, [])), (13, (25, 3, 127, 3, [])), (16, (10, 3, 1, 21, [])), (19, (0, 1, 0, (-1), [])), (20, (21, 1, 0, 0, [])), (21, (1, 1, 0, 1, [])), (22, (26, 3, 0, 0, [(12, 152)])), (25, (0, 1, 0, 0, [])), (26, (2, 1, 3, 0, [])), (27, (0, 1, 0, 0, [])), (28, (2, 2, 4, 0, [])), (30, (1, 2, 4, 0, [])), (32, (1, 1, 1, 0, [])), (33, (11, 3, 3, 57, [])), (36, (1, 1, 0, 1, [])), (37, (26, 3, 0, 0, [(12, 150)])), (40, (10, 3, 1, 57, [])), (43, (1, 1, 3, 0, [])), (44, (1, 1, 0, 1, [])), (45, (0, 1, 0, (-1), [])), (46, (26, 3, 0, 1, [(12, 151)])), (49, (4, 1, 0, 0, [])), (50, (2, 1, 3, 0, [])), (51, (3, 3, 4, 1, [])), (54, (9, 3, 30, 0, [])), (57, (1, 1, 3, 0, [])), (58, (10, 3, 3, 65, [])), (61, (0, 1, 0, (-1), [])), (62, (9, 3, 81, 0, [])), (65, (1, 1, 2, 0, [])), (66, (10, 3, 1, 76, [])), (69, (1, 1, 0, 1, [])), (70, (26, 3, 0, 0, [(12, 156)])), (73, (9, 3, 81, 0, [])), (76, (1, 1, 0, 1, [])), (77, (0, 1, 0, 4, [])), (78, (26, 3, 0, 1, [(12, 157)])), (81, (2, 2, 4, 0, [])), (83, (1, 1, 0, 1, [])), (84, (26, 3, 0, 0, [(12, 154)])), (87, (1, 2, 4, 0, [])), (89, (21, 1, 0, 0, []))]
theorem os_X12_left : oA MT mX12_left ops_X12_left := (oA.cons oX12_left_0 (oA.cons oX12_left_1 (oA.cons oX12_left_2 (oA.cons oX12_left_4 (oA.cons oX12_left_7 (oA.cons oX12_left_10 (oA.cons oX12_left_11 (oA.cons oX12_left_12 (oA.cons oX12_left_13 (oA.cons oX12_left_16 (oA.cons oX12_left_19 (oA.cons oX12_left_20 (oA.cons oX12_left_21 (oA.cons oX12_left_22 (oA.cons oX12_left_25 (oA.cons oX12_left_26 (oA.cons oX12_left_27 (oA.cons oX12_left_28 (oA.cons oX12_left_30 (oA.cons oX12_left_32 (oA.cons oX12_left_33 (oA.cons oX12_left_36 (oA.cons oX12_left_37 (oA.cons oX12_left_40 (oA.cons oX12_left_43 (oA.cons oX12_left_44 (oA.cons oX12_left_45 (oA.cons oX12_left_46 (oA.cons oX12_left_49 (oA.cons oX12_left_50 (oA.cons oX12_left_51 (oA.cons oX12_left_54 (oA.cons oX12_left_57 (oA.cons oX12_left_58 (oA.cons oX12_left_61 (oA.cons oX12_left_62 (oA.cons oX12_left_65 (oA.cons oX12_left_66 (oA.cons oX12_left_69 (oA.cons oX12_left_70 (oA.cons oX12_left_73 (oA.cons oX12_left_76 (oA.cons oX12_left_77 (oA.cons oX12_left_78 (oA.cons oX12_left_81 (oA.cons oX12_left_83 (oA.cons oX12_left_84 (oA.cons oX12_left_87 (oA.cons oX12_left_89 oA.nil)))))))))))))))))))))))))))))))))))))))))))))))))
theorem dX12_bunches_0 : decode cX12_bunches 0 = .ok (.iload_n 1, 1) := by decide +kernel
theorem dX12_bunches_1 : decode cX12_bunches 1 = .ok (.iconst (-1), 1) := by decide +kernel
theorem dX12_bunches_2 : decode cX12_bunches 2 = .ok (.if_icmp .eq 13, 3) := by decide +kernel
theorem dX12_bunches_5 : decode cX12_bunches 5 = .ok (.aload_n 0, 1) := by decide +kernel
theorem dX12_bunches_6 : decode cX12_bunches 6 = .ok (.iload_n 1, 1) := by decide +kernel
theorem dX12_bunches_7 : decode cX12_bunches 7 = .ok (.invokevirtual 223, 3) := by decide +kernel
theorem dX12_bunches_10 : decode cX12_bunches 10 = .ok (.ifCond .ne 5, 3) := by decide +kernel
theorem dX12_bunches_13 : decode cX12_bunches 13 = .ok (.iconst (-1), 1) := by decide +kernel
theorem dX12_bunches_14 : decode cX12_bunches 14 = .ok (.ireturn, 1) := by decide +kernel
theorem dX12_bunches_15 : decode cX12_bunches 15 = .ok (.iload_n 1, 1) := by decide +kernel
theorem dX12_bunches_16 : decode cX12_bunches 16 = .ok (.ifCond .lt 9, 3) := by decide +kernel
theorem dX12_bunches_19 : decode cX12_bunches 19 = .ok (.aload_n 0, 1) := by decide +kernel
theorem dX12_bunches_20 : decode cX12_bunches 20 = .ok (.iload_n 1, 1) := by decide +kernel
theorem dX12_bunches_21 : decode cX12_bunches 21 = .ok (.invokevirtual 256, 3) := by decide +kernel
theorem dX12_bunches_24 : decode cX12_bunches 24 = .ok (.ireturn, 1) := by decide +kernel
theorem dX12_bunches_25 : decode cX12_bunches 25 = .ok (.iconst 0, 1) := by decide +kernel
theorem dX12_bunches_26 : decode cX12_bunches 26 = .ok (.istore_n 2, 1) := by decide +kernel
theorem dX12_bunches_27 : decode cX12_bunches 27 = .ok (.iconst 0, 1) := by decide +kernel
theorem dX12_bunches_28 : decode cX12_bunches 28 = .ok (.istore_n 3, 1) := by decide +kernel
theorem dX12_bunches_29 : decode cX12_bunches 29 = .ok (.iload_n 3, 1) := by decide +kernel
theorem dX12_bunches_30 : decode cX12_bunches 30 = .ok (.aload_n 0, 1) := by decide +kernel
theorem dX12_bunches_31 : decode cX12_bunches 31 = .ok (.getfield 9, 3) := by decide +kernel
theorem dX12_bunches_34 : decode cX12_bunches 34 = .ok (.iconst 4, 1) := by decide +kernel
theorem dX12_bunches_35 : decode cX12_bunches 35 = .ok (.iaload, 1) := by decide +kernel
theorem dX12_bunches_36 : decode cX12_bunches 36 = .ok (.if_icmp .ge 38, 3) := by decide +kernel
theorem dX12_bunches_39 : decode cX12_bunches 39 = .ok (.aload_n 0, 1) := by decide +kernel
theorem dX12_bunches_40 : decode cX12_bunches 40 = .ok (.iload_n 3, 1) := by decide +kernel
theorem dX12_bunches_41 : decode cX12_bunches 41 = .ok (.invokevirtual 256, 3) := by decide +kernel
theorem dX12_bunches_44 : decode cX12_bunches 44 = .ok (.istore 4, 2) := by decide +kernel
theorem dX12_bunches_46 : decode cX12_bunches 46 = .ok (.iload_n 2, 1) := by decide +kernel
theorem dX12_bunches_47 : decode cX12_bunches 47 = .ok (.iload 4, 2) := by decide +kernel
theorem dX12_bunches_49 : decode cX12_bunches 49 = .ok (.ifCond .eq 16, 3) := by decide +kernel
theorem dX12_bunches_52 : decode cX12_bunches 52 = .ok (.iload 4, 2) := by decide +kernel
theorem dX12_bunches_54 : decode cX12_bunches 54 = .ok (.iconst 1, 1) := by decide +kernel
theorem dX12_bunches_55 : decode cX12_bunches 55 = .ok (.iload_n 3, 1) := by decide +kernel
theorem dX12_bunches_56 : decode cX12_bunches 56 = .ok (.ishl, 1) := by decide +kernel
theorem dX12_bunches_57 : decode cX12_bunches 57 = .ok (.irem, 1) := by decide +kernel
theorem dX12_bunches_58 : decode cX12_bunches 58 = .ok (.ifCond .ne 7, 3) := by decide +kernel
theorem dX12_bunches_61 : decode cX12_bunches 61 = .ok (.iconst 1, 1) := by decide +kernel
theorem dX12_bunches_62 : decode cX12_bunches 62 = .ok (.goto 4, 3) := by decide +kernel
theorem dX12_bunches_65 : decode cX12_bunches 65 = .ok (.iconst 0, 1) := by decide +kernel
theorem dX12_bunches_66 : decode cX12_bunches 66 = .ok (.iadd, 1) := by decide +kernel
theorem dX12_bunches_67 : decode cX12_bunches 67 = .ok (.istore_n 2, 1) := by decide +kernel
theorem dX12_bunches_68 : decode cX12_bunches 68 = .ok (.iinc 3 1, 3) := by decide +kernel
theorem dX12_bunches_71 : decode cX12_bunches 71 = .ok (.goto (-42), 3) := by decide +kernel
theorem dX12_bunches_74 : decode cX12_bunches 74 = .ok (.iload_n 2, 1) := by decide +kernel
theorem dX12_bunches_75 : decode cX12_bunches 75 = .ok (.ireturn, 1) := by decide +kernel
theorem oX12_bunches_0 : oP MT mX12_bunches 0 (1, 1, 1, 0, []) := o_iload_n dX12_bunches_0 rfl
theorem oX12_bunches_1 : oP MT mX12_bunches 1 (0, 1, 0, (-1), []) := o_iconst dX12_bunches_1 (by decide)
theorem oX12_bunches_2 : oP MT mX12_bunches 2 (11, 3, 0, 15, []) := o_icmp_eq dX12_bunches_2 (by decide) (by decide)
theorem oX12_bunches_5 : oP MT mX12_bunches 5 (1, 1, 0, 1, []) := o_aload_n dX12_bunches_5 rfl
theorem oX12_bunches_6 : oP MT mX12_bunches 6 (1, 1, 1, 0, []) := o_iload_n dX12_bunches_6 rfl
theorem oX12_bunches_7 : oP MT mX12_bunches 7 (26, 3, 0, 1, [(12, 149)]) := o_callO ((vA.cons (v_callV dX12_bunches_7 (ci := 12) rfl rfl (mj := mX12_isKey) mt_X12_isKey cmq_X12_isKey wq_565 wq_567 wq_568 (by decide) (by decide)) vA.nil))
theorem oX12_bunches_10 : oP MT mX12_bunches 10 (10, 3, 1, 15, []) := o_if_ne dX12_bunches_10 (by decide) (by decide)
theorem oX12_bunches_13 : oP MT mX12_bunches 13 (0, 1, 0, (-1), []) := o_iconst dX12_bunches_13 (by decide)
theorem oX12_bunches_14 : oP MT mX12_bunches 14 (21, 1, 0, 0, []) := o_iret dX12_bunches_14 rfl
theorem oX12_bunches_15 : oP MT mX12_bunches 15 (1, 1, 1, 0, []) := o_iload_n dX12_bunches_15 rfl
theorem oX12_bunches_16 : oP MT mX12_bunches 16 (10, 3, 2, 25, []) := o_if_lt dX12_bunches_16 (by decide) (by decide)
theorem oX12_bunches_19 : oP MT mX12_bunches 19 (1, 1, 0, 1, []) := o_aload_n dX12_bunches_19 rfl
theorem oX12_bunches_20 : oP MT mX12_bunches 20 (1, 1, 1, 0, []) := o_iload_n dX12_bunches_20 rfl
theorem oX12_bunches_21 : oP MT mX12_bunches 21 (26, 3, 0, 1, [(12, 158)]) := o_callO ((vA.cons (v_callV dX12_bunches_21 (ci := 12) rfl rfl (mj := mX12_bunchOf) mt_X12_bunchOf cmq_X12_bunchOf wq_712 wq_714 wq_715 (by decide) (by decide)) vA.nil))
theorem oX12_bunches_24 : oP MT mX12_bunches 24 (21, 1, 0, 0, []) := o_iret dX12_bunches_24 rfl
theorem oX12_bunches_25 : oP MT mX12_bunches 25 (0, 1, 0, 0, []) := o_iconst dX12_bunches_25 (by decide)
theorem oX12_bunches_26 : oP MT mX12_bunches 26 (2, 1, 2, 0, []) := o_istore_n dX12_bunches_26 rfl (by decide)
theorem oX12_bunches_27 : oP MT mX12_bunches 27 (0, 1, 0, 0, []) := o_iconst dX12_bunches_27 (by decide)
theorem oX12_bunches_28 : oP MT mX12_bunches 28 (2, 1, 3, 0, []) := o_istore_n dX12_bunches_28 rfl (by decide)
theorem oX12_bunches_29 : oP MT mX12_bunches 29 (1, 1, 3, 0, []) := o_iload_n dX12_bunches_29 rfl
theorem oX12_bunches_30 : oP MT mX12_bunches 30 (1, 1, 0, 1, []) := o_aload_n dX12_bunches_30 rfl
theorem oX12_bunches_31 : oP MT mX12_bunches 31 (13, 3, 0, 12, []) := o_getR (M := mX12_bunches) (C := RX12) (T := TX12) (ci := 12) (j := 0) (z := 12) dX12_bunches_31 rfl lq_RX12_9 rfl rfl
theorem oX12_bunches_34 : oP MT mX12_bunches 34 (0, 1, 0, 4, []) := o_iconst dX12_bunches_34 (by decide)
theorem oX12_bunches_35 : oP MT mX12_bunches 35 (16, 1, 1, 0, []) := o_iaload dX12_bunches_35
theorem oX12_bunches_36 : oP MT mX12_bunches 36 (11, 3, 3, 74, []) := o_icmp_ge dX12_bunches_36 (by decide) (by decide)
theorem oX12_bunches_39 : oP MT mX12_bunches 39 (1, 1, 0, 1, []) := o_aload_n dX12_bunches_39 rfl
theorem oX12_bunches_40 : oP MT mX12_bunches 40 (1, 1, 3, 0, []) := o_iload_n dX12_bunches_40 rfl
theorem oX12_bunches_41 : oP MT mX12_bunches 41 (26, 3, 0, 1, [(12, 158)]) := o_callO ((vA.cons (v_callV dX12_bunches_41 (ci := 12) rfl rfl (mj := mX12_bunchOf) mt_X12_bunchOf cmq_X12_bunchOf wq_712 wq_714 wq_715 (by decide) (by decide)) vA.nil))
theorem oX12_bunches_44 : oP MT mX12_bunches 44 (2, 2, 4, 0, []) := o_istore dX12_bunches_44 (by decide)
theorem oX12_bunches_46 : oP MT mX12_bunches 46 (1, 1, 2, 0, []) := o_iload_n dX12_bunches_46 rfl
theorem oX12_bunches_47 : oP MT mX12_bunches 47 (1, 2, 4, 0, []) := o_iload dX12_bunches_47
theorem oX12_bunches_49 : oP MT mX12_bunches 49 (10, 3, 0, 65, []) := o_if_eq dX12_bunches_49 (by decide) (by decide)
theorem oX12_bunches_52 : oP MT mX12_bunches 52 (1, 2, 4, 0, []) := o_iload dX12_bunches_52
theorem oX12_bunches_54 : oP MT mX12_bunches 54 (0, 1, 0, 1, []) := o_iconst dX12_bunches_54 (by decide)
theorem oX12_bunches_55 : oP MT mX12_bunches 55 (1, 1, 3, 0, []) := o_iload_n dX12_bunches_55 rfl
theorem oX12_bunches_56 : oP MT mX12_bunches 56 (4, 1, 6, 0, []) := o_ishl dX12_bunches_56
theorem oX12_bunches_57 : oP MT mX12_bunches 57 (4, 1, 10, 0, []) := o_irem dX12_bunches_57
theorem oX12_bunches_58 : oP MT mX12_bunches 58 (10, 3, 1, 65, []) := o_if_ne dX12_bunches_58 (by decide) (by decide)
theorem oX12_bunches_61 : oP MT mX12_bunches 61 (0, 1, 0, 1, []) := o_iconst dX12_bunches_61 (by decide)
theorem oX12_bunches_62 : oP MT mX12_bunches 62 (9, 3, 66, 0, []) := o_goto dX12_bunches_62 (by decide)
theorem oX12_bunches_65 : oP MT mX12_bunches 65 (0, 1, 0, 0, []) := o_iconst dX12_bunches_65 (by decide)
theorem oX12_bunches_66 : oP MT mX12_bunches 66 (4, 1, 0, 0, []) := o_iadd dX12_bunches_66
theorem oX12_bunches_67 : oP MT mX12_bunches 67 (2, 1, 2, 0, []) := o_istore_n dX12_bunches_67 rfl (by decide)
theorem oX12_bunches_68 : oP MT mX12_bunches 68 (3, 3, 3, 1, []) := o_iinc dX12_bunches_68 (by decide) (by decide)
theorem oX12_bunches_71 : oP MT mX12_bunches 71 (9, 3, 29, 0, []) := o_goto dX12_bunches_71 (by decide)
theorem oX12_bunches_74 : oP MT mX12_bunches 74 (1, 1, 2, 0, []) := o_iload_n dX12_bunches_74 rfl
theorem oX12_bunches_75 : oP MT mX12_bunches 75 (21, 1, 0, 0, []) := o_iret dX12_bunches_75 rfl
def ops_X12_bunches : List (Nat × aO) := [(0, (1, 1, 1, 0, [])), (1, (0, 1, 0, (-1), [])), (2, (11, 3, 0, 15, [])), (5, (1, 1, 0, 1, [])), (6, (1, 1, 1, 0, [])), (7, (26, 3, 0, 1, [(12, 149)])), (10, (10, 3, 1, 15, [])), (13, (0, 1, 0, (-1), [])), (14, (21, 1, 0, 0, [])), (15, (1, 1, 1, 0, [])), (16, (10, 3, 2, 25, [])), (19, (1, 1, 0, 1, [])), (20, (1, 1, 1, 0, [])), (21, (26, 3, 0, 1, [(12, 158)])), (24, (21, 1, 0, 0, [])), (25, (0, 1, 0, 0, [])), (26, (2, 1, 2, 0, [])), (27, (0, 1, 0, 0, [])), (28, (2, 1, 3, 0, [])), (29, (1, 1, 3, 0, [])), (30, (1, 1, 0, 1, [])), (31, (13, 3, 0, 12, [])), (34, (0, 1, 0, 4, [])), (35, (16, 1, 1, 0, [])), (36, (11, 3, 3, 74, [])), (39, (1, 1, 0, 1, [])), (40, (1, 1, 3, 0, [])), (41, (26, 3, 0, 1, [(12, 158)])), (44, (2, 2, 4, 0, [])), (46, (1, 1, 2, 0, [])), (47, (1, 2, 4, 0, [])), (49, (10, 3, 0, 65, [])), (52, (1, 2, 4, 0, [])), (54, (0, 1, 0, 1, [])), (55, (1, 1, 3, 0, [])), (56, (4, 1, 6, 0, [])), (57, (4, 1, 10, 0, [])), (58, (10, 3, 1, 65, [])), (61, (0, 1, 0, 1, [])), (62, (9, 3, 66, 0, [])), (65, (0, 1, 0, 0, [])), (66, (4, 1, 0, 0, [])), (67, (2, 1, 2, 0, [])), (68, (3, 3, 3, 1, [])), (71, (9, 3, 29, 0, [])), (74, (1, 1, 2, 0, [])), (75, (21, 1, 0, 0, []))]
theorem os_X12_bunches : oA MT mX12_bunches ops_X12_bunches := (oA.cons oX12_bunches_0 (oA.cons oX12_bunches_1 (oA.cons oX12_bunches_2 (oA.cons oX12_bunches_5 (oA.cons oX12_bunches_6 (oA.cons oX12_bunches_7 (oA.cons oX12_bunches_10 (oA.cons oX12_bunches_13 (oA.cons oX12_bunches_14 (oA.cons oX12_bunches_15 (oA.cons oX12_bunches_16 (oA.cons oX12_bunches_19 (oA.cons oX12_bunches_20 (oA.cons oX12_bunches_21 (oA.cons oX12_bunches_24 (oA.cons oX12_bunches_25 (oA.cons oX12_bunches_26 (oA.cons oX12_bunches_27 (oA.cons oX12_bunches_28 (oA.cons oX12_bunches_29 (oA.cons oX12_bunches_30 (oA.cons oX12_bunches_31 (oA.cons oX12_bunches_34 (oA.cons oX12_bunches_35 (oA.cons oX12_bunches_36 (oA.cons oX12_bunches_39 (oA.cons oX12_bunches_40 (oA.cons oX12_bunches_41 (oA.cons oX12_bunches_44 (oA.cons oX12_bunches_46 (oA.cons oX12_bunches_47 (oA.cons oX12_bunches_49 (oA.cons oX12_bunches_52 (oA.cons oX12_bunches_54 (oA.cons oX12_bunches_55 (oA.cons oX12_bunches_56 (oA.cons oX12_bunches_57 (oA.cons oX12_bunches_58 (oA.cons oX12_bunches_61 (oA.cons oX12_bunches_62 (oA.cons oX12_bunches_65 (oA.cons oX12_bunches_66 (oA.cons oX12_bunches_67 (oA.cons oX12_bunches_68 (oA.cons oX12_bunches_71 (oA.cons oX12_bunches_74 (oA.cons oX12_bunches_75 oA.nil)))))))))))))))))))))))))))))))))))))))))))))))
theorem dX12_best_0 : decode cX12_best 0 = .ok (.iload_n 1, 1) := by decide +kernel
theorem dX12_best_1 : decode cX12_best 1 = .ok (.invokestatic 288, 3) := by decide +kernel
theorem dX12_best_4 : decode cX12_best 4 = .ok (.ifCond .ne 5, 3) := by decide +kernel
theorem dX12_best_7 : decode cX12_best 7 = .ok (.iconst (-1), 1) := by decide +kernel
theorem dX12_best_8 : decode cX12_best 8 = .ok (.ireturn, 1) := by decide +kernel
theorem dX12_best_9 : decode cX12_best 9 = .ok (.aload_n 0, 1) := by decide +kernel
theorem dX12_best_10 : decode cX12_best 10 = .ok (.iload_n 1, 1) := by decide +kernel
theorem dX12_best_11 : decode cX12_best 11 = .ok (.iconst 0, 1) := by decide +kernel
theorem dX12_best_12 : decode cX12_best 12 = .ok (.invokevirtual 291, 3) := by decide +kernel
theorem dX12_best_15 : decode cX12_best 15 = .ok (.aload_n 0, 1) := by decide +kernel
theorem dX12_best_16 : decode cX12_best 16 = .ok (.getfield 259, 3) := by decide +kernel
theorem dX12_best_19 : decode cX12_best 19 = .ok (.ireturn, 1) := by decide +kernel
theorem oX12_best_0 : oP MT mX12_best 0 (1, 1, 1, 0, []) := o_iload_n dX12_best_0 rfl
theorem oX12_best_1 : oP MT mX12_best 1 (25, 3, 165, 1, []) := o_callS dX12_best_1 (mj := mX12_isPlan) mt_X12_isPlan cmq_X12_isPlan wq_719 wq_721 (by decide) (by decide)
theorem oX12_best_4 : oP MT mX12_best 4 (10, 3, 1, 9, []) := o_if_ne dX12_best_4 (by decide) (by decide)
theorem oX12_best_7 : oP MT mX12_best 7 (0, 1, 0, (-1), []) := o_iconst dX12_best_7 (by decide)
theorem oX12_best_8 : oP MT mX12_best 8 (21, 1, 0, 0, []) := o_iret dX12_best_8 rfl
theorem oX12_best_9 : oP MT mX12_best 9 (1, 1, 0, 1, []) := o_aload_n dX12_best_9 rfl
theorem oX12_best_10 : oP MT mX12_best 10 (1, 1, 1, 0, []) := o_iload_n dX12_best_10 rfl
theorem oX12_best_11 : oP MT mX12_best 11 (0, 1, 0, 0, []) := o_iconst dX12_best_11 (by decide)
theorem oX12_best_12 : oP MT mX12_best 12 (26, 3, 0, 2, [(12, 166)]) := o_callO ((vA.cons (v_callV dX12_best_12 (ci := 12) rfl rfl (mj := mX12_triesAll) mt_X12_triesAll cmq_X12_triesAll wq_722 wq_724 wq_725 (by decide) (by decide)) vA.nil))
theorem oX12_best_15 : oP MT mX12_best 15 (1, 1, 0, 1, []) := o_aload_n dX12_best_15 rfl
theorem oX12_best_16 : oP MT mX12_best 16 (12, 3, 19, 12, []) := o_getI (M := mX12_best) (C := RX12) (T := TX12) (ci := 12) (j := 19) (z := 12) dX12_best_16 rfl lq_RX12_259 rfl rfl
theorem oX12_best_19 : oP MT mX12_best 19 (21, 1, 0, 0, []) := o_iret dX12_best_19 rfl
def ops_X12_best : List (Nat × aO) := [(0, (1, 1, 1, 0, [])), (1, (25, 3, 165, 1, [])), (4, (10, 3, 1, 9, [])), (7, (0, 1, 0, (-1), [])), (8, (21, 1, 0, 0, [])), (9, (1, 1, 0, 1, [])), (10, (1, 1, 1, 0, [])), (11, (0, 1, 0, 0, [])), (12, (26, 3, 0, 2, [(12, 166)])), (15, (1, 1, 0, 1, [])), (16, (12, 3, 19, 12, [])), (19, (21, 1, 0, 0, []))]
theorem os_X12_best : oA MT mX12_best ops_X12_best := (oA.cons oX12_best_0 (oA.cons oX12_best_1 (oA.cons oX12_best_4 (oA.cons oX12_best_7 (oA.cons oX12_best_8 (oA.cons oX12_best_9 (oA.cons oX12_best_10 (oA.cons oX12_best_11 (oA.cons oX12_best_12 (oA.cons oX12_best_15 (oA.cons oX12_best_16 (oA.cons oX12_best_19 oA.nil))))))))))))
theorem dX12_ith_0 : decode cX12_ith 0 = .ok (.iload_n 1, 1) := by decide +kernel
theorem dX12_ith_1 : decode cX12_ith 1 = .ok (.invokestatic 288, 3) := by decide +kernel
theorem dX12_ith_4 : decode cX12_ith 4 = .ok (.ifCond .eq 12, 3) := by decide +kernel
theorem dX12_ith_7 : decode cX12_ith 7 = .ok (.iload_n 2, 1) := by decide +kernel
theorem dX12_ith_8 : decode cX12_ith 8 = .ok (.iconst 0, 1) := by decide +kernel
theorem dX12_ith_9 : decode cX12_ith 9 = .ok (.iconst 3, 1) := by decide +kernel
theorem dX12_ith_10 : decode cX12_ith 10 = .ok (.invokestatic 71, 3) := by decide +kernel
theorem dX12_ith_13 : decode cX12_ith 13 = .ok (.ifCond .ne 5, 3) := by decide +kernel
theorem dX12_ith_16 : decode cX12_ith 16 = .ok (.iconst (-1), 1) := by decide +kernel
theorem dX12_ith_17 : decode cX12_ith 17 = .ok (.ireturn, 1) := by decide +kernel
theorem dX12_ith_18 : decode cX12_ith 18 = .ok (.aload_n 0, 1) := by decide +kernel
theorem dX12_ith_19 : decode cX12_ith 19 = .ok (.iload_n 1, 1) := by decide +kernel
theorem dX12_ith_20 : decode cX12_ith 20 = .ok (.iconst 0, 1) := by decide +kernel
theorem dX12_ith_21 : decode cX12_ith 21 = .ok (.invokevirtual 291, 3) := by decide +kernel
theorem dX12_ith_24 : decode cX12_ith 24 = .ok (.iload_n 2, 1) := by decide +kernel
theorem dX12_ith_25 : decode cX12_ith 25 = .ok (.aload_n 0, 1) := by decide +kernel
theorem dX12_ith_26 : decode cX12_ith 26 = .ok (.iload_n 1, 1) := by decide +kernel
theorem dX12_ith_27 : decode cX12_ith 27 = .ok (.invokevirtual 285, 3) := by decide +kernel
theorem dX12_ith_30 : decode cX12_ith 30 = .ok (.if_icmp .ge 12, 3) := by decide +kernel
theorem dX12_ith_33 : decode cX12_ith 33 = .ok (.aload_n 0, 1) := by decide +kernel
theorem dX12_ith_34 : decode cX12_ith 34 = .ok (.getfield 41, 3) := by decide +kernel
theorem dX12_ith_37 : decode cX12_ith 37 = .ok (.iload_n 2, 1) := by decide +kernel
theorem dX12_ith_38 : decode cX12_ith 38 = .ok (.iaload, 1) := by decide +kernel
theorem dX12_ith_39 : decode cX12_ith 39 = .ok (.goto 5, 3) := by decide +kernel
theorem dX12_ith_42 : decode cX12_ith 42 = .ok (.bipush (-3), 2) := by decide +kernel
theorem dX12_ith_44 : decode cX12_ith 44 = .ok (.ireturn, 1) := by decide +kernel
theorem oX12_ith_0 : oP MT mX12_ith 0 (1, 1, 1, 0, []) := o_iload_n dX12_ith_0 rfl
theorem oX12_ith_1 : oP MT mX12_ith 1 (25, 3, 165, 1, []) := o_callS dX12_ith_1 (mj := mX12_isPlan) mt_X12_isPlan cmq_X12_isPlan wq_719 wq_721 (by decide) (by decide)
theorem oX12_ith_4 : oP MT mX12_ith 4 (10, 3, 0, 16, []) := o_if_eq dX12_ith_4 (by decide) (by decide)
theorem oX12_ith_7 : oP MT mX12_ith 7 (1, 1, 2, 0, []) := o_iload_n dX12_ith_7 rfl
theorem oX12_ith_8 : oP MT mX12_ith 8 (0, 1, 0, 0, []) := o_iconst dX12_ith_8 (by decide)
theorem oX12_ith_9 : oP MT mX12_ith 9 (0, 1, 0, 3, []) := o_iconst dX12_ith_9 (by decide)
theorem oX12_ith_10 : oP MT mX12_ith 10 (25, 3, 127, 3, []) := o_callS dX12_ith_10 (mj := mX12_in1) mt_X12_in1 cmq_X12_in1 wq_468 wq_470 (by decide) (by decide)
theorem oX12_ith_13 : oP MT mX12_ith 13 (10, 3, 1, 18, []) := o_if_ne dX12_ith_13 (by decide) (by decide)
theorem oX12_ith_16 : oP MT mX12_ith 16 (0, 1, 0, (-1), []) := o_iconst dX12_ith_16 (by decide)
theorem oX12_ith_17 : oP MT mX12_ith 17 (21, 1, 0, 0, []) := o_iret dX12_ith_17 rfl
theorem oX12_ith_18 : oP MT mX12_ith 18 (1, 1, 0, 1, []) := o_aload_n dX12_ith_18 rfl
theorem oX12_ith_19 : oP MT mX12_ith 19 (1, 1, 1, 0, []) := o_iload_n dX12_ith_19 rfl
theorem oX12_ith_20 : oP MT mX12_ith 20 (0, 1, 0, 0, []) := o_iconst dX12_ith_20 (by decide)
theorem oX12_ith_21 : oP MT mX12_ith 21 (26, 3, 0, 2, [(12, 166)]) := o_callO ((vA.cons (v_callV dX12_ith_21 (ci := 12) rfl rfl (mj := mX12_triesAll) mt_X12_triesAll cmq_X12_triesAll wq_722 wq_724 wq_725 (by decide) (by decide)) vA.nil))
theorem oX12_ith_24 : oP MT mX12_ith 24 (1, 1, 2, 0, []) := o_iload_n dX12_ith_24 rfl
theorem oX12_ith_25 : oP MT mX12_ith 25 (1, 1, 0, 1, []) := o_aload_n dX12_ith_25 rfl
theorem oX12_ith_26 : oP MT mX12_ith 26 (1, 1, 1, 0, []) := o_iload_n dX12_ith_26 rfl
theorem oX12_ith_27 : oP MT mX12_ith 27 (26, 3, 0, 1, [(12, 163)]) := o_callO ((vA.cons (v_callV dX12_ith_27 (ci := 12) rfl rfl (mj := mX12_daysOf) mt_X12_daysOf cmq_X12_daysOf wq_605 wq_607 wq_608 (by decide) (by decide)) vA.nil))
theorem oX12_ith_30 : oP MT mX12_ith 30 (11, 3, 3, 42, []) := o_icmp_ge dX12_ith_30 (by decide) (by decide)
theorem oX12_ith_33 : oP MT mX12_ith 33 (1, 1, 0, 1, []) := o_aload_n dX12_ith_33 rfl
theorem oX12_ith_34 : oP MT mX12_ith 34 (13, 3, 18, 12, []) := o_getR (M := mX12_ith) (C := RX12) (T := TX12) (ci := 12) (j := 18) (z := 12) dX12_ith_34 rfl lq_RX12_41 rfl rfl
theorem oX12_ith_37 : oP MT mX12_ith 37 (1, 1, 2, 0, []) := o_iload_n dX12_ith_37 rfl
theorem oX12_ith_38 : oP MT mX12_ith 38 (16, 1, 1, 0, []) := o_iaload dX12_ith_38
theorem oX12_ith_39 : oP MT mX12_ith 39 (9, 3, 44, 0, []) := o_goto dX12_ith_39 (by decide)
theorem oX12_ith_42 : oP MT mX12_ith 42 (0, 2, 0, (-3), []) := o_bipush dX12_ith_42 (by decide)
theorem oX12_ith_44 : oP MT mX12_ith 44 (21, 1, 0, 0, []) := o_iret dX12_ith_44 rfl
def ops_X12_ith : List (Nat × aO) := [(0, (1, 1, 1, 0, [])), (1, (25, 3, 165, 1, [])), (4, (10, 3, 0, 16, [])), (7, (1, 1, 2, 0, [])), (8, (0, 1, 0, 0, [])), (9, (0, 1, 0, 3, [])), (10, (25, 3, 127, 3, [])), (13, (10, 3, 1, 18, [])), (16, (0, 1, 0, (-1), [])), (17, (21, 1, 0, 0, [])), (18, (1, 1, 0, 1, [])), (19, (1, 1, 1, 0, [])), (20, (0, 1, 0, 0, [])), (21, (26, 3, 0, 2, [(12, 166)])), (24, (1, 1, 2, 0, [])), (25, (1, 1, 0, 1, [])), (26, (1, 1, 1, 0, [])), (27, (26, 3, 0, 1, [(12, 163)])), (30, (11, 3, 3, 42, [])), (33, (1, 1, 0, 1, [])), (34, (13, 3, 18, 12, [])), (37, (1, 1, 2, 0, [])), (38, (16, 1, 1, 0, [])), (39, (9, 3, 44, 0, [])), (42, (0, 2, 0, (-3), [])), (44, (21, 1, 0, 0, []))]
theorem os_X12_ith : oA MT mX12_ith ops_X12_ith := (oA.cons oX12_ith_0 (oA.cons oX12_ith_1 (oA.cons oX12_ith_4 (oA.cons oX12_ith_7 (oA.cons oX12_ith_8 (oA.cons oX12_ith_9 (oA.cons oX12_ith_10 (oA.cons oX12_ith_13 (oA.cons oX12_ith_16 (oA.cons oX12_ith_17 (oA.cons oX12_ith_18 (oA.cons oX12_ith_19 (oA.cons oX12_ith_20 (oA.cons oX12_ith_21 (oA.cons oX12_ith_24 (oA.cons oX12_ith_25 (oA.cons oX12_ith_26 (oA.cons oX12_ith_27 (oA.cons oX12_ith_30 (oA.cons oX12_ith_33 (oA.cons oX12_ith_34 (oA.cons oX12_ith_37 (oA.cons oX12_ith_38 (oA.cons oX12_ith_39 (oA.cons oX12_ith_42 (oA.cons oX12_ith_44 oA.nil))))))))))))))))))))))))))
theorem dX12_ways_0 : decode cX12_ways 0 = .ok (.iload_n 1, 1) := by decide +kernel
theorem dX12_ways_1 : decode cX12_ways 1 = .ok (.invokestatic 288, 3) := by decide +kernel
theorem dX12_ways_4 : decode cX12_ways 4 = .ok (.ifCond .ne 5, 3) := by decide +kernel
theorem dX12_ways_7 : decode cX12_ways 7 = .ok (.iconst (-1), 1) := by decide +kernel
theorem dX12_ways_8 : decode cX12_ways 8 = .ok (.ireturn, 1) := by decide +kernel
theorem dX12_ways_9 : decode cX12_ways 9 = .ok (.aload_n 0, 1) := by decide +kernel
theorem dX12_ways_10 : decode cX12_ways 10 = .ok (.iload_n 1, 1) := by decide +kernel
theorem dX12_ways_11 : decode cX12_ways 11 = .ok (.iconst 0, 1) := by decide +kernel
theorem dX12_ways_12 : decode cX12_ways 12 = .ok (.invokevirtual 291, 3) := by decide +kernel
theorem dX12_ways_15 : decode cX12_ways 15 = .ok (.aload_n 0, 1) := by decide +kernel
theorem dX12_ways_16 : decode cX12_ways 16 = .ok (.getfield 262, 3) := by decide +kernel
theorem dX12_ways_19 : decode cX12_ways 19 = .ok (.ireturn, 1) := by decide +kernel
theorem oX12_ways_0 : oP MT mX12_ways 0 (1, 1, 1, 0, []) := o_iload_n dX12_ways_0 rfl
theorem oX12_ways_1 : oP MT mX12_ways 1 (25, 3, 165, 1, []) := o_callS dX12_ways_1 (mj := mX12_isPlan) mt_X12_isPlan cmq_X12_isPlan wq_719 wq_721 (by decide) (by decide)
theorem oX12_ways_4 : oP MT mX12_ways 4 (10, 3, 1, 9, []) := o_if_ne dX12_ways_4 (by decide) (by decide)
theorem oX12_ways_7 : oP MT mX12_ways 7 (0, 1, 0, (-1), []) := o_iconst dX12_ways_7 (by decide)
theorem oX12_ways_8 : oP MT mX12_ways 8 (21, 1, 0, 0, []) := o_iret dX12_ways_8 rfl
theorem oX12_ways_9 : oP MT mX12_ways 9 (1, 1, 0, 1, []) := o_aload_n dX12_ways_9 rfl
theorem oX12_ways_10 : oP MT mX12_ways 10 (1, 1, 1, 0, []) := o_iload_n dX12_ways_10 rfl
theorem oX12_ways_11 : oP MT mX12_ways 11 (0, 1, 0, 0, []) := o_iconst dX12_ways_11 (by decide)
theorem oX12_ways_12 : oP MT mX12_ways 12 (26, 3, 0, 2, [(12, 166)]) := o_callO ((vA.cons (v_callV dX12_ways_12 (ci := 12) rfl rfl (mj := mX12_triesAll) mt_X12_triesAll cmq_X12_triesAll wq_722 wq_724 wq_725 (by decide) (by decide)) vA.nil))
theorem oX12_ways_15 : oP MT mX12_ways 15 (1, 1, 0, 1, []) := o_aload_n dX12_ways_15 rfl
theorem oX12_ways_16 : oP MT mX12_ways 16 (12, 3, 20, 12, []) := o_getI (M := mX12_ways) (C := RX12) (T := TX12) (ci := 12) (j := 20) (z := 12) dX12_ways_16 rfl lq_RX12_262 rfl rfl
theorem oX12_ways_19 : oP MT mX12_ways 19 (21, 1, 0, 0, []) := o_iret dX12_ways_19 rfl
def ops_X12_ways : List (Nat × aO) := [(0, (1, 1, 1, 0, [])), (1, (25, 3, 165, 1, [])), (4, (10, 3, 1, 9, [])), (7, (0, 1, 0, (-1), [])), (8, (21, 1, 0, 0, [])), (9, (1, 1, 0, 1, [])), (10, (1, 1, 1, 0, [])), (11, (0, 1, 0, 0, [])), (12, (26, 3, 0, 2, [(12, 166)])), (15, (1, 1, 0, 1, [])), (16, (12, 3, 20, 12, [])), (19, (21, 1, 0, 0, []))]
theorem os_X12_ways : oA MT mX12_ways ops_X12_ways := (oA.cons oX12_ways_0 (oA.cons oX12_ways_1 (oA.cons oX12_ways_4 (oA.cons oX12_ways_7 (oA.cons oX12_ways_8 (oA.cons oX12_ways_9 (oA.cons oX12_ways_10 (oA.cons oX12_ways_11 (oA.cons oX12_ways_12 (oA.cons oX12_ways_15 (oA.cons oX12_ways_16 (oA.cons oX12_ways_19 oA.nil))))))))))))
theorem dX12_order_0 : decode cX12_order 0 = .ok (.iload_n 1, 1) := by decide +kernel
theorem dX12_order_1 : decode cX12_order 1 = .ok (.invokestatic 288, 3) := by decide +kernel
theorem dX12_order_4 : decode cX12_order 4 = .ok (.ifCond .eq 11, 3) := by decide +kernel
theorem dX12_order_7 : decode cX12_order 7 = .ok (.aload_n 0, 1) := by decide +kernel
theorem dX12_order_8 : decode cX12_order 8 = .ok (.iload_n 2, 1) := by decide +kernel
theorem dX12_order_9 : decode cX12_order 9 = .ok (.invokevirtual 295, 3) := by decide +kernel
theorem dX12_order_12 : decode cX12_order 12 = .ok (.ifCond .ne 5, 3) := by decide +kernel
theorem dX12_order_15 : decode cX12_order 15 = .ok (.iconst (-1), 1) := by decide +kernel
theorem dX12_order_16 : decode cX12_order 16 = .ok (.ireturn, 1) := by decide +kernel
theorem dX12_order_17 : decode cX12_order 17 = .ok (.aload_n 0, 1) := by decide +kernel
theorem dX12_order_18 : decode cX12_order 18 = .ok (.iload_n 1, 1) := by decide +kernel
theorem dX12_order_19 : decode cX12_order 19 = .ok (.iload_n 2, 1) := by decide +kernel
theorem dX12_order_20 : decode cX12_order 20 = .ok (.invokevirtual 291, 3) := by decide +kernel
theorem dX12_order_23 : decode cX12_order 23 = .ok (.aload_n 0, 1) := by decide +kernel
theorem dX12_order_24 : decode cX12_order 24 = .ok (.getfield 265, 3) := by decide +kernel
theorem dX12_order_27 : decode cX12_order 27 = .ok (.iconst 4, 1) := by decide +kernel
theorem dX12_order_28 : decode cX12_order 28 = .ok (.if_icmp .le 8, 3) := by decide +kernel
theorem dX12_order_31 : decode cX12_order 31 = .ok (.bipush (-3), 2) := by decide +kernel
theorem dX12_order_33 : decode cX12_order 33 = .ok (.goto 7, 3) := by decide +kernel
theorem dX12_order_36 : decode cX12_order 36 = .ok (.aload_n 0, 1) := by decide +kernel
theorem dX12_order_37 : decode cX12_order 37 = .ok (.getfield 265, 3) := by decide +kernel
theorem dX12_order_40 : decode cX12_order 40 = .ok (.ireturn, 1) := by decide +kernel
theorem oX12_order_0 : oP MT mX12_order 0 (1, 1, 1, 0, []) := o_iload_n dX12_order_0 rfl
theorem oX12_order_1 : oP MT mX12_order 1 (25, 3, 165, 1, []) := o_callS dX12_order_1 (mj := mX12_isPlan) mt_X12_isPlan cmq_X12_isPlan wq_719 wq_721 (by decide) (by decide)
theorem oX12_order_4 : oP MT mX12_order 4 (10, 3, 0, 15, []) := o_if_eq dX12_order_4 (by decide) (by decide)
theorem oX12_order_7 : oP MT mX12_order 7 (1, 1, 0, 1, []) := o_aload_n dX12_order_7 rfl
theorem oX12_order_8 : oP MT mX12_order 8 (1, 1, 2, 0, []) := o_iload_n dX12_order_8 rfl
theorem oX12_order_9 : oP MT mX12_order 9 (26, 3, 0, 1, [(12, 167)]) := o_callO ((vA.cons (v_callV dX12_order_9 (ci := 12) rfl rfl (mj := mX12_isSet) mt_X12_isSet cmq_X12_isSet wq_734 wq_736 wq_737 (by decide) (by decide)) vA.nil))
theorem oX12_order_12 : oP MT mX12_order 12 (10, 3, 1, 17, []) := o_if_ne dX12_order_12 (by decide) (by decide)
theorem oX12_order_15 : oP MT mX12_order 15 (0, 1, 0, (-1), []) := o_iconst dX12_order_15 (by decide)
theorem oX12_order_16 : oP MT mX12_order 16 (21, 1, 0, 0, []) := o_iret dX12_order_16 rfl
theorem oX12_order_17 : oP MT mX12_order 17 (1, 1, 0, 1, []) := o_aload_n dX12_order_17 rfl
theorem oX12_order_18 : oP MT mX12_order 18 (1, 1, 1, 0, []) := o_iload_n dX12_order_18 rfl
theorem oX12_order_19 : oP MT mX12_order 19 (1, 1, 2, 0, []) := o_iload_n dX12_order_19 rfl
theorem oX12_order_20 : oP MT mX12_order 20 (26, 3, 0, 2, [(12, 166)]) := o_callO ((vA.cons (v_callV dX12_order_20 (ci := 12) rfl rfl (mj := mX12_triesAll) mt_X12_triesAll cmq_X12_triesAll wq_722 wq_724 wq_725 (by decide) (by decide)) vA.nil))
theorem oX12_order_23 : oP MT mX12_order 23 (1, 1, 0, 1, []) := o_aload_n dX12_order_23 rfl
theorem oX12_order_24 : oP MT mX12_order 24 (12, 3, 21, 12, []) := o_getI (M := mX12_order) (C := RX12) (T := TX12) (ci := 12) (j := 21) (z := 12) dX12_order_24 rfl lq_RX12_265 rfl rfl
theorem oX12_order_27 : oP MT mX12_order 27 (0, 1, 0, 4, []) := o_iconst dX12_order_27 (by decide)
theorem oX12_order_28 : oP MT mX12_order 28 (11, 3, 5, 36, []) := o_icmp_le dX12_order_28 (by decide) (by decide)
theorem oX12_order_31 : oP MT mX12_order 31 (0, 2, 0, (-3), []) := o_bipush dX12_order_31 (by decide)
theorem oX12_order_33 : oP MT mX12_order 33 (9, 3, 40, 0, []) := o_goto dX12_order_33 (by decide)
theorem oX12_order_36 : oP MT mX12_order 36 (1, 1, 0, 1, []) := o_aload_n dX12_order_36 rfl
theorem oX12_order_37 : oP MT mX12_order 37 (12, 3, 21, 12, []) := o_getI (M := mX12_order) (C := RX12) (T := TX12) (ci := 12) (j := 21) (z := 12) dX12_order_37 rfl lq_RX12_265 rfl rfl
theorem oX12_order_40 : oP MT mX12_order 40 (21, 1, 0, 0, []) := o_iret dX12_order_40 rfl
def ops_X12_order : List (Nat × aO) := [(0, (1, 1, 1, 0, [])), (1, (25, 3, 165, 1, [])), (4, (10, 3, 0, 15, [])), (7, (1, 1, 0, 1, [])), (8, (1, 1, 2, 0, [])), (9, (26, 3, 0, 1, [(12, 167)])), (12, (10, 3, 1, 17, [])), (15, (0, 1, 0, (-1), [])), (16, (21, 1, 0, 0, [])), (17, (1, 1, 0, 1, [])), (18, (1, 1, 1, 0, [])), (19, (1, 1, 2, 0, [])), (20, (26, 3, 0, 2, [(12, 166)])), (23, (1, 1, 0, 1, [])), (24, (12, 3, 21, 12, [])), (27, (0, 1, 0, 4, [])), (28, (11, 3, 5, 36, [])), (31, (0, 2, 0, (-3), [])), (33, (9, 3, 40, 0, [])), (36, (1, 1, 0, 1, [])), (37, (12, 3, 21, 12, [])), (40, (21, 1, 0, 0, []))]
theorem os_X12_order : oA MT mX12_order ops_X12_order := (oA.cons oX12_order_0 (oA.cons oX12_order_1 (oA.cons oX12_order_4 (oA.cons oX12_order_7 (oA.cons oX12_order_8 (oA.cons oX12_order_9 (oA.cons oX12_order_12 (oA.cons oX12_order_15 (oA.cons oX12_order_16 (oA.cons oX12_order_17 (oA.cons oX12_order_18 (oA.cons oX12_order_19 (oA.cons oX12_order_20 (oA.cons oX12_order_23 (oA.cons oX12_order_24 (oA.cons oX12_order_27 (oA.cons oX12_order_28 (oA.cons oX12_order_31 (oA.cons oX12_order_33 (oA.cons oX12_order_36 (oA.cons oX12_order_37 (oA.cons oX12_order_40 oA.nil))))))))))))))))))))))
theorem dX12_bars_0 : decode cX12_bars 0 = .ok (.iload_n 1, 1) := by decide +kernel
theorem dX12_bars_1 : decode cX12_bars 1 = .ok (.invokestatic 288, 3) := by decide +kernel
theorem dX12_bars_4 : decode cX12_bars 4 = .ok (.ifCond .eq 11, 3) := by decide +kernel
theorem dX12_bars_7 : decode cX12_bars 7 = .ok (.aload_n 0, 1) := by decide +kernel
theorem dX12_bars_8 : decode cX12_bars 8 = .ok (.iload_n 2, 1) := by decide +kernel
theorem dX12_bars_9 : decode cX12_bars 9 = .ok (.invokevirtual 295, 3) := by decide +kernel
theorem dX12_bars_12 : decode cX12_bars 12 = .ok (.ifCond .ne 5, 3) := by decide +kernel
theorem dX12_bars_15 : decode cX12_bars 15 = .ok (.iconst (-1), 1) := by decide +kernel
theorem dX12_bars_16 : decode cX12_bars 16 = .ok (.ireturn, 1) := by decide +kernel
theorem dX12_bars_17 : decode cX12_bars 17 = .ok (.aload_n 0, 1) := by decide +kernel
theorem dX12_bars_18 : decode cX12_bars 18 = .ok (.iload_n 1, 1) := by decide +kernel
theorem dX12_bars_19 : decode cX12_bars 19 = .ok (.iload_n 2, 1) := by decide +kernel
theorem dX12_bars_20 : decode cX12_bars 20 = .ok (.invokevirtual 291, 3) := by decide +kernel
theorem dX12_bars_23 : decode cX12_bars 23 = .ok (.iload_n 2, 1) := by decide +kernel
theorem dX12_bars_24 : decode cX12_bars 24 = .ok (.aload_n 0, 1) := by decide +kernel
theorem dX12_bars_25 : decode cX12_bars 25 = .ok (.getfield 268, 3) := by decide +kernel
theorem dX12_bars_28 : decode cX12_bars 28 = .ok (.iconst (-1), 1) := by decide +kernel
theorem dX12_bars_29 : decode cX12_bars 29 = .ok (.ixor, 1) := by decide +kernel
theorem dX12_bars_30 : decode cX12_bars 30 = .ok (.iand, 1) := by decide +kernel
theorem dX12_bars_31 : decode cX12_bars 31 = .ok (.istore_n 3, 1) := by decide +kernel
theorem dX12_bars_32 : decode cX12_bars 32 = .ok (.iconst 0, 1) := by decide +kernel
theorem dX12_bars_33 : decode cX12_bars 33 = .ok (.istore 4, 2) := by decide +kernel
theorem dX12_bars_35 : decode cX12_bars 35 = .ok (.iload 4, 2) := by decide +kernel
theorem dX12_bars_37 : decode cX12_bars 37 = .ok (.aload_n 0, 1) := by decide +kernel
theorem dX12_bars_38 : decode cX12_bars 38 = .ok (.getfield 9, 3) := by decide +kernel
theorem dX12_bars_41 : decode cX12_bars 41 = .ok (.iconst 4, 1) := by decide +kernel
theorem dX12_bars_42 : decode cX12_bars 42 = .ok (.iaload, 1) := by decide +kernel
theorem dX12_bars_43 : decode cX12_bars 43 = .ok (.if_icmp .ge 18, 3) := by decide +kernel
theorem dX12_bars_46 : decode cX12_bars 46 = .ok (.iload_n 3, 1) := by decide +kernel
theorem dX12_bars_47 : decode cX12_bars 47 = .ok (.iload 4, 2) := by decide +kernel
theorem dX12_bars_49 : decode cX12_bars 49 = .ok (.ishr, 1) := by decide +kernel
theorem dX12_bars_50 : decode cX12_bars 50 = .ok (.iconst 1, 1) := by decide +kernel
theorem dX12_bars_51 : decode cX12_bars 51 = .ok (.iand, 1) := by decide +kernel
theorem dX12_bars_52 : decode cX12_bars 52 = .ok (.ifCond .ne 9, 3) := by decide +kernel
theorem dX12_bars_55 : decode cX12_bars 55 = .ok (.iinc 4 1, 3) := by decide +kernel
theorem dX12_bars_58 : decode cX12_bars 58 = .ok (.goto (-23), 3) := by decide +kernel
theorem dX12_bars_61 : decode cX12_bars 61 = .ok (.iload 4, 2) := by decide +kernel
theorem dX12_bars_63 : decode cX12_bars 63 = .ok (.aload_n 0, 1) := by decide +kernel
theorem dX12_bars_64 : decode cX12_bars 64 = .ok (.getfield 9, 3) := by decide +kernel
theorem dX12_bars_67 : decode cX12_bars 67 = .ok (.iconst 4, 1) := by decide +kernel
theorem dX12_bars_68 : decode cX12_bars 68 = .ok (.iaload, 1) := by decide +kernel
theorem dX12_bars_69 : decode cX12_bars 69 = .ok (.if_icmp .ge 8, 3) := by decide +kernel
theorem dX12_bars_72 : decode cX12_bars 72 = .ok (.iload 4, 2) := by decide +kernel
theorem dX12_bars_74 : decode cX12_bars 74 = .ok (.goto 5, 3) := by decide +kernel
theorem dX12_bars_77 : decode cX12_bars 77 = .ok (.bipush (-3), 2) := by decide +kernel
theorem dX12_bars_79 : decode cX12_bars 79 = .ok (.ireturn, 1) := by decide +kernel
theorem oX12_bars_0 : oP MT mX12_bars 0 (1, 1, 1, 0, []) := o_iload_n dX12_bars_0 rfl
theorem oX12_bars_1 : oP MT mX12_bars 1 (25, 3, 165, 1, []) := o_callS dX12_bars_1 (mj := mX12_isPlan) mt_X12_isPlan cmq_X12_isPlan wq_719 wq_721 (by decide) (by decide)
theorem oX12_bars_4 : oP MT mX12_bars 4 (10, 3, 0, 15, []) := o_if_eq dX12_bars_4 (by decide) (by decide)
theorem oX12_bars_7 : oP MT mX12_bars 7 (1, 1, 0, 1, []) := o_aload_n dX12_bars_7 rfl
theorem oX12_bars_8 : oP MT mX12_bars 8 (1, 1, 2, 0, []) := o_iload_n dX12_bars_8 rfl
theorem oX12_bars_9 : oP MT mX12_bars 9 (26, 3, 0, 1, [(12, 167)]) := o_callO ((vA.cons (v_callV dX12_bars_9 (ci := 12) rfl rfl (mj := mX12_isSet) mt_X12_isSet cmq_X12_isSet wq_734 wq_736 wq_737 (by decide) (by decide)) vA.nil))
theorem oX12_bars_12 : oP MT mX12_bars 12 (10, 3, 1, 17, []) := o_if_ne dX12_bars_12 (by decide) (by decide)
theorem oX12_bars_15 : oP MT mX12_bars 15 (0, 1, 0, (-1), []) := o_iconst dX12_bars_15 (by decide)
theorem oX12_bars_16 : oP MT mX12_bars 16 (21, 1, 0, 0, []) := o_iret dX12_bars_16 rfl
theorem oX12_bars_17 : oP MT mX12_bars 17 (1, 1, 0, 1, []) := o_aload_n dX12_bars_17 rfl
theorem oX12_bars_18 : oP MT mX12_bars 18 (1, 1, 1, 0, []) := o_iload_n dX12_bars_18 rfl
theorem oX12_bars_19 : oP MT mX12_bars 19 (1, 1, 2, 0, []) := o_iload_n dX12_bars_19 rfl
theorem oX12_bars_20 : oP MT mX12_bars 20 (26, 3, 0, 2, [(12, 166)]) := o_callO ((vA.cons (v_callV dX12_bars_20 (ci := 12) rfl rfl (mj := mX12_triesAll) mt_X12_triesAll cmq_X12_triesAll wq_722 wq_724 wq_725 (by decide) (by decide)) vA.nil))
theorem oX12_bars_23 : oP MT mX12_bars 23 (1, 1, 2, 0, []) := o_iload_n dX12_bars_23 rfl
theorem oX12_bars_24 : oP MT mX12_bars 24 (1, 1, 0, 1, []) := o_aload_n dX12_bars_24 rfl
theorem oX12_bars_25 : oP MT mX12_bars 25 (12, 3, 22, 12, []) := o_getI (M := mX12_bars) (C := RX12) (T := TX12) (ci := 12) (j := 22) (z := 12) dX12_bars_25 rfl lq_RX12_268 rfl rfl
theorem oX12_bars_28 : oP MT mX12_bars 28 (0, 1, 0, (-1), []) := o_iconst dX12_bars_28 (by decide)
theorem oX12_bars_29 : oP MT mX12_bars 29 (4, 1, 5, 0, []) := o_ixor dX12_bars_29
theorem oX12_bars_30 : oP MT mX12_bars 30 (4, 1, 3, 0, []) := o_iand dX12_bars_30
theorem oX12_bars_31 : oP MT mX12_bars 31 (2, 1, 3, 0, []) := o_istore_n dX12_bars_31 rfl (by decide)
theorem oX12_bars_32 : oP MT mX12_bars 32 (0, 1, 0, 0, []) := o_iconst dX12_bars_32 (by decide)
theorem oX12_bars_33 : oP MT mX12_bars 33 (2, 2, 4, 0, []) := o_istore dX12_bars_33 (by decide)
theorem oX12_bars_35 : oP MT mX12_bars 35 (1, 2, 4, 0, []) := o_iload dX12_bars_35
theorem oX12_bars_37 : oP MT mX12_bars 37 (1, 1, 0, 1, []) := o_aload_n dX12_bars_37 rfl
theorem oX12_bars_38 : oP MT mX12_bars 38 (13, 3, 0, 12, []) := o_getR (M := mX12_bars) (C := RX12) (T := TX12) (ci := 12) (j := 0) (z := 12) dX12_bars_38 rfl lq_RX12_9 rfl rfl
theorem oX12_bars_41 : oP MT mX12_bars 41 (0, 1, 0, 4, []) := o_iconst dX12_bars_41 (by decide)
theorem oX12_bars_42 : oP MT mX12_bars 42 (16, 1, 1, 0, []) := o_iaload dX12_bars_42
theorem oX12_bars_43 : oP MT mX12_bars 43 (11, 3, 3, 61, []) := o_icmp_ge dX12_bars_43 (by decide) (by decide)
theorem oX12_bars_46 : oP MT mX12_bars 46 (1, 1, 3, 0, []) := o_iload_n dX12_bars_46 rfl
theorem oX12_bars_47 : oP MT mX12_bars 47 (1, 2, 4, 0, []) := o_iload dX12_bars_47
theorem oX12_bars_49 : oP MT mX12_bars 49 (4, 1, 7, 0, []) := o_ishr dX12_bars_49
theorem oX12_bars_50 : oP MT mX12_bars 50 (0, 1, 0, 1, []) := o_iconst dX12_bars_50 (by decide)
theorem oX12_bars_51 : oP MT mX12_bars 51 (4, 1, 3, 0, []) := o_iand dX12_bars_51
theorem oX12_bars_52 : oP MT mX12_bars 52 (10, 3, 1, 61, []) := o_if_ne dX12_bars_52 (by decide) (by decide)
theorem oX12_bars_55 : oP MT mX12_bars 55 (3, 3, 4, 1, []) := o_iinc dX12_bars_55 (by decide) (by decide)
theorem oX12_bars_58 : oP MT mX12_bars 58 (9, 3, 35, 0, []) := o_goto dX12_bars_58 (by decide)
theorem oX12_bars_61 : oP MT mX12_bars 61 (1, 2, 4, 0, []) := o_iload dX12_bars_61
theorem oX12_bars_63 : oP MT mX12_bars 63 (1, 1, 0, 1, []) := o_aload_n dX12_bars_63 rfl
theorem oX12_bars_64 : oP MT mX12_bars 64 (13, 3, 0, 12, []) := o_getR (M := mX12_bars) (C := RX12) (T := TX12) (ci := 12) (j := 0) (z := 12) dX12_bars_64 rfl lq_RX12_9 rfl rfl
theorem oX12_bars_67 : oP MT mX12_bars 67 (0, 1, 0, 4, []) := o_iconst dX12_bars_67 (by decide)
theorem oX12_bars_68 : oP MT mX12_bars 68 (16, 1, 1, 0, []) := o_iaload dX12_bars_68
theorem oX12_bars_69 : oP MT mX12_bars 69 (11, 3, 3, 77, []) := o_icmp_ge dX12_bars_69 (by decide) (by decide)
theorem oX12_bars_72 : oP MT mX12_bars 72 (1, 2, 4, 0, []) := o_iload dX12_bars_72
theorem oX12_bars_74 : oP MT mX12_bars 74 (9, 3, 79, 0, []) := o_goto dX12_bars_74 (by decide)
theorem oX12_bars_77 : oP MT mX12_bars 77 (0, 2, 0, (-3), []) := o_bipush dX12_bars_77 (by decide)
theorem oX12_bars_79 : oP MT mX12_bars 79 (21, 1, 0, 0, []) := o_iret dX12_bars_79 rfl
def ops_X12_bars : List (Nat × aO) := [(0, (1, 1, 1, 0, [])), (1, (25, 3, 165, 1, [])), (4, (10, 3, 0, 15, [])), (7, (1, 1, 0, 1, [])), (8, (1, 1, 2, 0, [])), (9, (26, 3, 0, 1, [(12, 167)])), (12, (10, 3, 1, 17, [])), (15, (0, 1, 0, (-1), [])), (16, (21, 1, 0, 0, [])), (17, (1, 1, 0, 1, [])), (18, (1, 1, 1, 0, [])), (19, (1, 1, 2, 0, [])), (20, (26, 3, 0, 2, [(12, 166)])), (23, (1, 1, 2, 0, [])), (24, (1, 1, 0, 1, [])), (25, (12, 3, 22, 12, [])), (28, (0, 1, 0, (-1), [])), (29, (4, 1, 5, 0, [])), (30, (4, 1, 3, 0, [])), (31, (2, 1, 3, 0, [])), (32, (0, 1, 0, 0, [])), (33, (2, 2, 4, 0, [])), (35, (1, 2, 4, 0, [])), (37, (1, 1, 0, 1, [])), (38, (13, 3, 0, 12, [])), (41, (0, 1, 0, 4, [])), (42, (16, 1, 1, 0, [])), (43, (11, 3, 3, 61, [])), (46, (1, 1, 3, 0, [])), (47, (1, 2, 4, 0, [])), (49, (4, 1, 7, 0, [])), (50, (0, 1, 0, 1, [])), (51, (4, 1, 3, 0, [])), (52, (10, 3, 1, 61, [])), (55, (3, 3, 4, 1, [])), (58, (9, 3, 35, 0, [])), (61, (1, 2, 4, 0, [])), (63, (1, 1, 0, 1, [])), (64, (13, 3, 0, 12, [])), (67, (0, 1, 0, 4, [])), (68, (16, 1, 1, 0, [])), (69, (11, 3, 3, 77, [])), (72, (1, 2, 4, 0, [])), (74, (9, 3, 79, 0, [])), (77, (0, 2, 0, (-3), [])), (79, (21, 1, 0, 0, []))]
theorem os_X12_bars : oA MT mX12_bars ops_X12_bars := (oA.cons oX12_bars_0 (oA.cons oX12_bars_1 (oA.cons oX12_bars_4 (oA.cons oX12_bars_7 (oA.cons oX12_bars_8 (oA.cons oX12_bars_9 (oA.cons oX12_bars_12 (oA.cons oX12_bars_15 (oA.cons oX12_bars_16 (oA.cons oX12_bars_17 (oA.cons oX12_bars_18 (oA.cons oX12_bars_19 (oA.cons oX12_bars_20 (oA.cons oX12_bars_23 (oA.cons oX12_bars_24 (oA.cons oX12_bars_25 (oA.cons oX12_bars_28 (oA.cons oX12_bars_29 (oA.cons oX12_bars_30 (oA.cons oX12_bars_31 (oA.cons oX12_bars_32 (oA.cons oX12_bars_33 (oA.cons oX12_bars_35 (oA.cons oX12_bars_37 (oA.cons oX12_bars_38 (oA.cons oX12_bars_41 (oA.cons oX12_bars_42 (oA.cons oX12_bars_43 (oA.cons oX12_bars_46 (oA.cons oX12_bars_47 (oA.cons oX12_bars_49 (oA.cons oX12_bars_50 (oA.cons oX12_bars_51 (oA.cons oX12_bars_52 (oA.cons oX12_bars_55 (oA.cons oX12_bars_58 (oA.cons oX12_bars_61 (oA.cons oX12_bars_63 (oA.cons oX12_bars_64 (oA.cons oX12_bars_67 (oA.cons oX12_bars_68 (oA.cons oX12_bars_69 (oA.cons oX12_bars_72 (oA.cons oX12_bars_74 (oA.cons oX12_bars_77 (oA.cons oX12_bars_79 oA.nil))))))))))))))))))))))))))))))))))))))))))))))
theorem dX12_game_0 : decode cX12_game 0 = .ok (.iload_n 1, 1) := by decide +kernel
theorem dX12_game_1 : decode cX12_game 1 = .ok (.iconst 1, 1) := by decide +kernel
theorem dX12_game_2 : decode cX12_game 2 = .ok (.iconst 4, 1) := by decide +kernel
theorem dX12_game_3 : decode cX12_game 3 = .ok (.invokestatic 71, 3) := by decide +kernel
theorem dX12_game_6 : decode cX12_game 6 = .ok (.ifCond .eq 16, 3) := by decide +kernel
theorem dX12_game_9 : decode cX12_game 9 = .ok (.aload_n 0, 1) := by decide +kernel
theorem dX12_game_10 : decode cX12_game 10 = .ok (.iconst 0, 1) := by decide +kernel
theorem dX12_game_11 : decode cX12_game 11 = .ok (.aload_n 0, 1) := by decide +kernel
theorem dX12_game_12 : decode cX12_game 12 = .ok (.iload_n 1, 1) := by decide +kernel
theorem dX12_game_13 : decode cX12_game 13 = .ok (.invokevirtual 285, 3) := by decide +kernel
theorem dX12_game_16 : decode cX12_game 16 = .ok (.invokevirtual 298, 3) := by decide +kernel
theorem dX12_game_19 : decode cX12_game 19 = .ok (.goto 4, 3) := by decide +kernel
theorem dX12_game_22 : decode cX12_game 22 = .ok (.iconst (-1), 1) := by decide +kernel
theorem dX12_game_23 : decode cX12_game 23 = .ok (.ireturn, 1) := by decide +kernel
theorem oX12_game_0 : oP MT mX12_game 0 (1, 1, 1, 0, []) := o_iload_n dX12_game_0 rfl
theorem oX12_game_1 : oP MT mX12_game 1 (0, 1, 0, 1, []) := o_iconst dX12_game_1 (by decide)
theorem oX12_game_2 : oP MT mX12_game 2 (0, 1, 0, 4, []) := o_iconst dX12_game_2 (by decide)
theorem oX12_game_3 : oP MT mX12_game 3 (25, 3, 127, 3, []) := o_callS dX12_game_3 (mj := mX12_in1) mt_X12_in1 cmq_X12_in1 wq_468 wq_470 (by decide) (by decide)
theorem oX12_game_6 : oP MT mX12_game 6 (10, 3, 0, 22, []) := o_if_eq dX12_game_6 (by decide) (by decide)
theorem oX12_game_9 : oP MT mX12_game 9 (1, 1, 0, 1, []) := o_aload_n dX12_game_9 rfl
theorem oX12_game_10 : oP MT mX12_game 10 (0, 1, 0, 0, []) := o_iconst dX12_game_10 (by decide)
theorem oX12_game_11 : oP MT mX12_game 11 (1, 1, 0, 1, []) := o_aload_n dX12_game_11 rfl
theorem oX12_game_12 : oP MT mX12_game 12 (1, 1, 1, 0, []) := o_iload_n dX12_game_12 rfl
theorem oX12_game_13 : oP MT mX12_game 13 (26, 3, 0, 1, [(12, 163)]) := o_callO ((vA.cons (v_callV dX12_game_13 (ci := 12) rfl rfl (mj := mX12_daysOf) mt_X12_daysOf cmq_X12_daysOf wq_605 wq_607 wq_608 (by decide) (by decide)) vA.nil))
theorem oX12_game_16 : oP MT mX12_game 16 (26, 3, 0, 2, [(12, 168)]) := o_callO ((vA.cons (v_callV dX12_game_16 (ci := 12) rfl rfl (mj := mX12_playedFrom) mt_X12_playedFrom cmq_X12_playedFrom wq_609 wq_611 wq_612 (by decide) (by decide)) vA.nil))
theorem oX12_game_19 : oP MT mX12_game 19 (9, 3, 23, 0, []) := o_goto dX12_game_19 (by decide)
theorem oX12_game_22 : oP MT mX12_game 22 (0, 1, 0, (-1), []) := o_iconst dX12_game_22 (by decide)
theorem oX12_game_23 : oP MT mX12_game 23 (21, 1, 0, 0, []) := o_iret dX12_game_23 rfl
def ops_X12_game : List (Nat × aO) := [(0, (1, 1, 1, 0, [])), (1, (0, 1, 0, 1, [])), (2, (0, 1, 0, 4, [])), (3, (25, 3, 127, 3, [])), (6, (10, 3, 0, 22, [])), (9, (1, 1, 0, 1, [])), (10, (0, 1, 0, 0, [])), (11, (1, 1, 0, 1, [])), (12, (1, 1, 1, 0, [])), (13, (26, 3, 0, 1, [(12, 163)])), (16, (26, 3, 0, 2, [(12, 168)])), (19, (9, 3, 23, 0, [])), (22, (0, 1, 0, (-1), [])), (23, (21, 1, 0, 0, []))]
theorem os_X12_game : oA MT mX12_game ops_X12_game := (oA.cons oX12_game_0 (oA.cons oX12_game_1 (oA.cons oX12_game_2 (oA.cons oX12_game_3 (oA.cons oX12_game_6 (oA.cons oX12_game_9 (oA.cons oX12_game_10 (oA.cons oX12_game_11 (oA.cons oX12_game_12 (oA.cons oX12_game_13 (oA.cons oX12_game_16 (oA.cons oX12_game_19 (oA.cons oX12_game_22 (oA.cons oX12_game_23 oA.nil))))))))))))))
theorem dX12_play_0 : decode cX12_play 0 = .ok (.iload_n 1, 1) := by decide +kernel
theorem dX12_play_1 : decode cX12_play 1 = .ok (.iconst 1, 1) := by decide +kernel
theorem dX12_play_2 : decode cX12_play 2 = .ok (.iconst 4, 1) := by decide +kernel
theorem dX12_play_3 : decode cX12_play 3 = .ok (.invokestatic 71, 3) := by decide +kernel
theorem dX12_play_6 : decode cX12_play 6 = .ok (.ifCond .ne 5, 3) := by decide +kernel
theorem dX12_play_9 : decode cX12_play 9 = .ok (.iconst (-1), 1) := by decide +kernel
theorem dX12_play_10 : decode cX12_play 10 = .ok (.ireturn, 1) := by decide +kernel
theorem dX12_play_11 : decode cX12_play 11 = .ok (.aload_n 0, 1) := by decide +kernel
theorem dX12_play_12 : decode cX12_play 12 = .ok (.invokevirtual 229, 3) := by decide +kernel
theorem dX12_play_15 : decode cX12_play 15 = .ok (.ifCond .eq 6, 3) := by decide +kernel
theorem dX12_play_18 : decode cX12_play 18 = .ok (.bipush (-3), 2) := by decide +kernel
theorem dX12_play_20 : decode cX12_play 20 = .ok (.ireturn, 1) := by decide +kernel
theorem dX12_play_21 : decode cX12_play 21 = .ok (.aload_n 0, 1) := by decide +kernel
theorem dX12_play_22 : decode cX12_play 22 = .ok (.iconst 0, 1) := by decide +kernel
theorem dX12_play_23 : decode cX12_play 23 = .ok (.aload_n 0, 1) := by decide +kernel
theorem dX12_play_24 : decode cX12_play 24 = .ok (.iload_n 1, 1) := by decide +kernel
theorem dX12_play_25 : decode cX12_play 25 = .ok (.invokevirtual 285, 3) := by decide +kernel
theorem dX12_play_28 : decode cX12_play 28 = .ok (.invokevirtual 298, 3) := by decide +kernel
theorem dX12_play_31 : decode cX12_play 31 = .ok (.istore_n 2, 1) := by decide +kernel
theorem dX12_play_32 : decode cX12_play 32 = .ok (.iload_n 2, 1) := by decide +kernel
theorem dX12_play_33 : decode cX12_play 33 = .ok (.ifCond .ge 8, 3) := by decide +kernel
theorem dX12_play_36 : decode cX12_play 36 = .ok (.bipush (-3), 2) := by decide +kernel
theorem dX12_play_38 : decode cX12_play 38 = .ok (.goto 9, 3) := by decide +kernel
theorem dX12_play_41 : decode cX12_play 41 = .ok (.aload_n 0, 1) := by decide +kernel
theorem dX12_play_42 : decode cX12_play 42 = .ok (.getfield 38, 3) := by decide +kernel
theorem dX12_play_45 : decode cX12_play 45 = .ok (.iconst 0, 1) := by decide +kernel
theorem dX12_play_46 : decode cX12_play 46 = .ok (.iaload, 1) := by decide +kernel
theorem dX12_play_47 : decode cX12_play 47 = .ok (.ireturn, 1) := by decide +kernel
theorem oX12_play_0 : oP MT mX12_play 0 (1, 1, 1, 0, []) := o_iload_n dX12_play_0 rfl
theorem oX12_play_1 : oP MT mX12_play 1 (0, 1, 0, 1, []) := o_iconst dX12_play_1 (by decide)
theorem oX12_play_2 : oP MT mX12_play 2 (0, 1, 0, 4, []) := o_iconst dX12_play_2 (by decide)
theorem oX12_play_3 : oP MT mX12_play 3 (25, 3, 127, 3, []) := o_callS dX12_play_3 (mj := mX12_in1) mt_X12_in1 cmq_X12_in1 wq_468 wq_470 (by decide) (by decide)
theorem oX12_play_6 : oP MT mX12_play 6 (10, 3, 1, 11, []) := o_if_ne dX12_play_6 (by decide) (by decide)
theorem oX12_play_9 : oP MT mX12_play 9 (0, 1, 0, (-1), []) := o_iconst dX12_play_9 (by decide)
theorem oX12_play_10 : oP MT mX12_play 10 (21, 1, 0, 0, []) := o_iret dX12_play_10 rfl
theorem oX12_play_11 : oP MT mX12_play 11 (1, 1, 0, 1, []) := o_aload_n dX12_play_11 rfl
theorem oX12_play_12 : oP MT mX12_play 12 (26, 3, 0, 0, [(12, 150)]) := o_callO ((vA.cons (v_callV dX12_play_12 (ci := 12) rfl rfl (mj := mX12_isOver) mt_X12_isOver cmq_X12_isOver wq_557 wq_559 wq_560 (by decide) (by decide)) vA.nil))
theorem oX12_play_15 : oP MT mX12_play 15 (10, 3, 0, 21, []) := o_if_eq dX12_play_15 (by decide) (by decide)
theorem oX12_play_18 : oP MT mX12_play 18 (0, 2, 0, (-3), []) := o_bipush dX12_play_18 (by decide)
theorem oX12_play_20 : oP MT mX12_play 20 (21, 1, 0, 0, []) := o_iret dX12_play_20 rfl
theorem oX12_play_21 : oP MT mX12_play 21 (1, 1, 0, 1, []) := o_aload_n dX12_play_21 rfl
theorem oX12_play_22 : oP MT mX12_play 22 (0, 1, 0, 0, []) := o_iconst dX12_play_22 (by decide)
theorem oX12_play_23 : oP MT mX12_play 23 (1, 1, 0, 1, []) := o_aload_n dX12_play_23 rfl
theorem oX12_play_24 : oP MT mX12_play 24 (1, 1, 1, 0, []) := o_iload_n dX12_play_24 rfl
theorem oX12_play_25 : oP MT mX12_play 25 (26, 3, 0, 1, [(12, 163)]) := o_callO ((vA.cons (v_callV dX12_play_25 (ci := 12) rfl rfl (mj := mX12_daysOf) mt_X12_daysOf cmq_X12_daysOf wq_605 wq_607 wq_608 (by decide) (by decide)) vA.nil))
theorem oX12_play_28 : oP MT mX12_play 28 (26, 3, 0, 2, [(12, 168)]) := o_callO ((vA.cons (v_callV dX12_play_28 (ci := 12) rfl rfl (mj := mX12_playedFrom) mt_X12_playedFrom cmq_X12_playedFrom wq_609 wq_611 wq_612 (by decide) (by decide)) vA.nil))
theorem oX12_play_31 : oP MT mX12_play 31 (2, 1, 2, 0, []) := o_istore_n dX12_play_31 rfl (by decide)
theorem oX12_play_32 : oP MT mX12_play 32 (1, 1, 2, 0, []) := o_iload_n dX12_play_32 rfl
theorem oX12_play_33 : oP MT mX12_play 33 (10, 3, 3, 41, []) := o_if_ge dX12_play_33 (by decide) (by decide)
theorem oX12_play_36 : oP MT mX12_play 36 (0, 2, 0, (-3), []) := o_bipush dX12_play_36 (by decide)
theorem oX12_play_38 : oP MT mX12_play 38 (9, 3, 47, 0, []) := o_goto dX12_play_38 (by decide)
theorem oX12_play_41 : oP MT mX12_play 41 (1, 1, 0, 1, []) := o_aload_n dX12_play_41 rfl
theorem oX12_play_42 : oP MT mX12_play 42 (13, 3, 17, 12, []) := o_getR (M := mX12_play) (C := RX12) (T := TX12) (ci := 12) (j := 17) (z := 12) dX12_play_42 rfl lq_RX12_38 rfl rfl
theorem oX12_play_45 : oP MT mX12_play 45 (0, 1, 0, 0, []) := o_iconst dX12_play_45 (by decide)
theorem oX12_play_46 : oP MT mX12_play 46 (16, 1, 1, 0, []) := o_iaload dX12_play_46
theorem oX12_play_47 : oP MT mX12_play 47 (21, 1, 0, 0, []) := o_iret dX12_play_47 rfl
def ops_X12_play : List (Nat × aO) := [(0, (1, 1, 1, 0, [])), (1, (0, 1, 0, 1, [])), (2, (0, 1, 0, 4, [])), (3, (25, 3, 127, 3, [])), (6, (10, 3, 1, 11, [])), (9, (0, 1, 0, (-1), [])), (10, (21, 1, 0, 0, [])), (11, (1, 1, 0, 1, [])), (12, (26, 3, 0, 0, [(12, 150)])), (15, (10, 3, 0, 21, [])), (18, (0, 2, 0, (-3), [])), (20, (21, 1, 0, 0, [])), (21, (1, 1, 0, 1, [])), (22, (0, 1, 0, 0, [])), (23, (1, 1, 0, 1, [])), (24, (1, 1, 1, 0, [])), (25, (26, 3, 0, 1, [(12, 163)])), (28, (26, 3, 0, 2, [(12, 168)])), (31, (2, 1, 2, 0, [])), (32, (1, 1, 2, 0, [])), (33, (10, 3, 3, 41, [])), (36, (0, 2, 0, (-3), [])), (38, (9, 3, 47, 0, [])), (41, (1, 1, 0, 1, [])), (42, (13, 3, 17, 12, [])), (45, (0, 1, 0, 0, [])), (46, (16, 1, 1, 0, [])), (47, (21, 1, 0, 0, []))]
theorem os_X12_play : oA MT mX12_play ops_X12_play := (oA.cons oX12_play_0 (oA.cons oX12_play_1 (oA.cons oX12_play_2 (oA.cons oX12_play_3 (oA.cons oX12_play_6 (oA.cons oX12_play_9 (oA.cons oX12_play_10 (oA.cons oX12_play_11 (oA.cons oX12_play_12 (oA.cons oX12_play_15 (oA.cons oX12_play_18 (oA.cons oX12_play_20 (oA.cons oX12_play_21 (oA.cons oX12_play_22 (oA.cons oX12_play_23 (oA.cons oX12_play_24 (oA.cons oX12_play_25 (oA.cons oX12_play_28 (oA.cons oX12_play_31 (oA.cons oX12_play_32 (oA.cons oX12_play_33 (oA.cons oX12_play_36 (oA.cons oX12_play_38 (oA.cons oX12_play_41 (oA.cons oX12_play_42 (oA.cons oX12_play_45 (oA.cons oX12_play_46 (oA.cons oX12_play_47 oA.nil))))))))))))))))))))))))))))
theorem dX12_report_0 : decode cX12_report 0 = .ok (.iload_n 2, 1) := by decide +kernel
theorem dX12_report_1 : decode cX12_report 1 = .ok (.ifCond .ne 8, 3) := by decide +kernel
theorem dX12_report_4 : decode cX12_report 4 = .ok (.bipush 99, 2) := by decide +kernel
theorem dX12_report_6 : decode cX12_report 6 = .ok (.goto 5, 3) := by decide +kernel
theorem dX12_report_9 : decode cX12_report 9 = .ok (.bipush 9, 2) := by decide +kernel
theorem dX12_report_11 : decode cX12_report 11 = .ok (.istore 5, 2) := by decide +kernel
theorem dX12_report_13 : decode cX12_report 13 = .ok (.iload_n 1, 1) := by decide +kernel
theorem dX12_report_14 : decode cX12_report 14 = .ok (.iconst 0, 1) := by decide +kernel
theorem dX12_report_15 : decode cX12_report 15 = .ok (.bipush 15, 2) := by decide +kernel
theorem dX12_report_17 : decode cX12_report 17 = .ok (.invokestatic 71, 3) := by decide +kernel
theorem dX12_report_20 : decode cX12_report 20 = .ok (.ifCond .eq 33, 3) := by decide +kernel
theorem dX12_report_23 : decode cX12_report 23 = .ok (.iload_n 2, 1) := by decide +kernel
theorem dX12_report_24 : decode cX12_report 24 = .ok (.iconst 0, 1) := by decide +kernel
theorem dX12_report_25 : decode cX12_report 25 = .ok (.iconst 1, 1) := by decide +kernel
theorem dX12_report_26 : decode cX12_report 26 = .ok (.invokestatic 71, 3) := by decide +kernel
theorem dX12_report_29 : decode cX12_report 29 = .ok (.ifCond .eq 24, 3) := by decide +kernel
theorem dX12_report_32 : decode cX12_report 32 = .ok (.iload_n 3, 1) := by decide +kernel
theorem dX12_report_33 : decode cX12_report 33 = .ok (.iconst 0, 1) := by decide +kernel
theorem dX12_report_34 : decode cX12_report 34 = .ok (.iload 5, 2) := by decide +kernel
theorem dX12_report_36 : decode cX12_report 36 = .ok (.invokestatic 71, 3) := by decide +kernel
theorem dX12_report_39 : decode cX12_report 39 = .ok (.ifCond .eq 14, 3) := by decide +kernel
theorem dX12_report_42 : decode cX12_report 42 = .ok (.iload 4, 2) := by decide +kernel
theorem dX12_report_44 : decode cX12_report 44 = .ok (.iload_n 3, 1) := by decide +kernel
theorem dX12_report_45 : decode cX12_report 45 = .ok (.iload 5, 2) := by decide +kernel
theorem dX12_report_47 : decode cX12_report 47 = .ok (.invokestatic 71, 3) := by decide +kernel
theorem dX12_report_50 : decode cX12_report 50 = .ok (.ifCond .ne 5, 3) := by decide +kernel
theorem dX12_report_53 : decode cX12_report 53 = .ok (.iconst (-1), 1) := by decide +kernel
theorem dX12_report_54 : decode cX12_report 54 = .ok (.ireturn, 1) := by decide +kernel
theorem dX12_report_55 : decode cX12_report 55 = .ok (.aload_n 0, 1) := by decide +kernel
theorem dX12_report_56 : decode cX12_report 56 = .ok (.getfield 9, 3) := by decide +kernel
theorem dX12_report_59 : decode cX12_report 59 = .ok (.bipush 6, 2) := by decide +kernel
theorem dX12_report_61 : decode cX12_report 61 = .ok (.iaload, 1) := by decide +kernel
theorem dX12_report_62 : decode cX12_report 62 = .ok (.bipush 6, 2) := by decide +kernel
theorem dX12_report_64 : decode cX12_report 64 = .ok (.if_icmp .ne 6, 3) := by decide +kernel
theorem dX12_report_67 : decode cX12_report 67 = .ok (.bipush (-2), 2) := by decide +kernel
theorem dX12_report_69 : decode cX12_report 69 = .ok (.ireturn, 1) := by decide +kernel
theorem dX12_report_70 : decode cX12_report 70 = .ok (.bipush 65, 2) := by decide +kernel
theorem dX12_report_72 : decode cX12_report 72 = .ok (.iconst 4, 1) := by decide +kernel
theorem dX12_report_73 : decode cX12_report 73 = .ok (.aload_n 0, 1) := by decide +kernel
theorem dX12_report_74 : decode cX12_report 74 = .ok (.getfield 9, 3) := by decide +kernel
theorem dX12_report_77 : decode cX12_report 77 = .ok (.bipush 6, 2) := by decide +kernel
theorem dX12_report_79 : decode cX12_report 79 = .ok (.iaload, 1) := by decide +kernel
theorem dX12_report_80 : decode cX12_report 80 = .ok (.imul, 1) := by decide +kernel
theorem dX12_report_81 : decode cX12_report 81 = .ok (.iadd, 1) := by decide +kernel
theorem dX12_report_82 : decode cX12_report 82 = .ok (.istore 6, 2) := by decide +kernel
theorem dX12_report_84 : decode cX12_report 84 = .ok (.aload_n 0, 1) := by decide +kernel
theorem dX12_report_85 : decode cX12_report 85 = .ok (.getfield 9, 3) := by decide +kernel
theorem dX12_report_88 : decode cX12_report 88 = .ok (.iload 6, 2) := by decide +kernel
theorem dX12_report_90 : decode cX12_report 90 = .ok (.iload_n 1, 1) := by decide +kernel
theorem dX12_report_91 : decode cX12_report 91 = .ok (.iastore, 1) := by decide +kernel
theorem dX12_report_92 : decode cX12_report 92 = .ok (.aload_n 0, 1) := by decide +kernel
theorem dX12_report_93 : decode cX12_report 93 = .ok (.getfield 9, 3) := by decide +kernel
theorem dX12_report_96 : decode cX12_report 96 = .ok (.iload 6, 2) := by decide +kernel
theorem dX12_report_98 : decode cX12_report 98 = .ok (.iconst 1, 1) := by decide +kernel
theorem dX12_report_99 : decode cX12_report 99 = .ok (.iadd, 1) := by decide +kernel
theorem dX12_report_100 : decode cX12_report 100 = .ok (.iload_n 2, 1) := by decide +kernel
theorem dX12_report_101 : decode cX12_report 101 = .ok (.iastore, 1) := by decide +kernel
theorem dX12_report_102 : decode cX12_report 102 = .ok (.aload_n 0, 1) := by decide +kernel
theorem dX12_report_103 : decode cX12_report 103 = .ok (.getfield 9, 3) := by decide +kernel
theorem dX12_report_106 : decode cX12_report 106 = .ok (.iload 6, 2) := by decide +kernel
theorem dX12_report_108 : decode cX12_report 108 = .ok (.iconst 2, 1) := by decide +kernel
theorem dX12_report_109 : decode cX12_report 109 = .ok (.iadd, 1) := by decide +kernel
theorem dX12_report_110 : decode cX12_report 110 = .ok (.iload_n 3, 1) := by decide +kernel
theorem dX12_report_111 : decode cX12_report 111 = .ok (.iastore, 1) := by decide +kernel
theorem dX12_report_112 : decode cX12_report 112 = .ok (.aload_n 0, 1) := by decide +kernel
theorem dX12_report_113 : decode cX12_report 113 = .ok (.getfield 9, 3) := by decide +kernel
theorem dX12_report_116 : decode cX12_report 116 = .ok (.iload 6, 2) := by decide +kernel
theorem dX12_report_118 : decode cX12_report 118 = .ok (.iconst 3, 1) := by decide +kernel
theorem dX12_report_119 : decode cX12_report 119 = .ok (.iadd, 1) := by decide +kernel
theorem dX12_report_120 : decode cX12_report 120 = .ok (.iload 4, 2) := by decide +kernel
theorem dX12_report_122 : decode cX12_report 122 = .ok (.iastore, 1) := by decide +kernel
theorem dX12_report_123 : decode cX12_report 123 = .ok (.aload_n 0, 1) := by decide +kernel
theorem dX12_report_124 : decode cX12_report 124 = .ok (.getfield 9, 3) := by decide +kernel
theorem dX12_report_127 : decode cX12_report 127 = .ok (.bipush 6, 2) := by decide +kernel
theorem dX12_report_129 : decode cX12_report 129 = .ok (.dup2, 1) := by decide +kernel
theorem dX12_report_130 : decode cX12_report 130 = .ok (.iaload, 1) := by decide +kernel
theorem dX12_report_131 : decode cX12_report 131 = .ok (.iconst 1, 1) := by decide +kernel
theorem dX12_report_132 : decode cX12_report 132 = .ok (.iadd, 1) := by decide +kernel
theorem dX12_report_133 : decode cX12_report 133 = .ok (.iastore, 1) := by decide +kernel
theorem dX12_report_134 : decode cX12_report 134 = .ok (.aload_n 0, 1) := by decide +kernel
theorem dX12_report_135 : decode cX12_report 135 = .ok (.getfield 9, 3) := by decide +kernel
theorem dX12_report_138 : decode cX12_report 138 = .ok (.bipush 6, 2) := by decide +kernel
theorem dX12_report_140 : decode cX12_report 140 = .ok (.iaload, 1) := by decide +kernel
theorem dX12_report_141 : decode cX12_report 141 = .ok (.iconst 1, 1) := by decide +kernel
theorem dX12_report_142 : decode cX12_report 142 = .ok (.isub, 1) := by decide +kernel
theorem dX12_report_143 : decode cX12_report 143 = .ok (.ireturn, 1) := by decide +kernel
theorem oX12_report_0 : oP MT mX12_report 0 (1, 1, 2, 0, []) := o_iload_n dX12_report_0 rfl
theorem oX12_report_1 : oP MT mX12_report 1 (10, 3, 1, 9, []) := o_if_ne dX12_report_1 (by decide) (by decide)
theorem oX12_report_4 : oP MT mX12_report 4 (0, 2, 0, 99, []) := o_bipush dX12_report_4 (by decide)
theorem oX12_report_6 : oP MT mX12_report 6 (9, 3, 11, 0, []) := o_goto dX12_report_6 (by decide)
theorem oX12_report_9 : oP MT mX12_report 9 (0, 2, 0, 9, []) := o_bipush dX12_report_9 (by decide)
theorem oX12_report_11 : oP MT mX12_report 11 (2, 2, 5, 0, []) := o_istore dX12_report_11 (by decide)
theorem oX12_report_13 : oP MT mX12_report 13 (1, 1, 1, 0, []) := o_iload_n dX12_report_13 rfl
theorem oX12_report_14 : oP MT mX12_report 14 (0, 1, 0, 0, []) := o_iconst dX12_report_14 (by decide)
theorem oX12_report_15 : oP MT mX12_report 15 (0, 2, 0, 15, []) := o_bipush dX12_report_15 (by decide)
theorem oX12_report_17 : oP MT mX12_report 17 (25, 3, 127, 3, []) := o_callS dX12_report_17 (mj := mX12_in1) mt_X12_in1 cmq_X12_in1 wq_468 wq_470 (by decide) (by decide)
theorem oX12_report_20 : oP MT mX12_report 20 (10, 3, 0, 53, []) := o_if_eq dX12_report_20 (by decide) (by decide)
theorem oX12_report_23 : oP MT mX12_report 23 (1, 1, 2, 0, []) := o_iload_n dX12_report_23 rfl
theorem oX12_report_24 : oP MT mX12_report 24 (0, 1, 0, 0, []) := o_iconst dX12_report_24 (by decide)
theorem oX12_report_25 : oP MT mX12_report 25 (0, 1, 0, 1, []) := o_iconst dX12_report_25 (by decide)
theorem oX12_report_26 : oP MT mX12_report 26 (25, 3, 127, 3, []) := o_callS dX12_report_26 (mj := mX12_in1) mt_X12_in1 cmq_X12_in1 wq_468 wq_470 (by decide) (by decide)
theorem oX12_report_29 : oP MT mX12_report 29 (10, 3, 0, 53, []) := o_if_eq dX12_report_29 (by decide) (by decide)
theorem oX12_report_32 : oP MT mX12_report 32 (1, 1, 3, 0, []) := o_iload_n dX12_report_32 rfl
theorem oX12_report_33 : oP MT mX12_report 33 (0, 1, 0, 0, []) := o_iconst dX12_report_33 (by decide)
theorem oX12_report_34 : oP MT mX12_report 34 (1, 2, 5, 0, []) := o_iload dX12_report_34
theorem oX12_report_36 : oP MT mX12_report 36 (25, 3, 127, 3, []) := o_callS dX12_report_36 (mj := mX12_in1) mt_X12_in1 cmq_X12_in1 wq_468 wq_470 (by decide) (by decide)
theorem oX12_report_39 : oP MT mX12_report 39 (10, 3, 0, 53, []) := o_if_eq dX12_report_39 (by decide) (by decide)
theorem oX12_report_42 : oP MT mX12_report 42 (1, 2, 4, 0, []) := o_iload dX12_report_42
theorem oX12_report_44 : oP MT mX12_report 44 (1, 1, 3, 0, []) := o_iload_n dX12_report_44 rfl
theorem oX12_report_45 : oP MT mX12_report 45 (1, 2, 5, 0, []) := o_iload dX12_report_45
theorem oX12_report_47 : oP MT mX12_report 47 (25, 3, 127, 3, []) := o_callS dX12_report_47 (mj := mX12_in1) mt_X12_in1 cmq_X12_in1 wq_468 wq_470 (by decide) (by decide)
theorem oX12_report_50 : oP MT mX12_report 50 (10, 3, 1, 55, []) := o_if_ne dX12_report_50 (by decide) (by decide)
theorem oX12_report_53 : oP MT mX12_report 53 (0, 1, 0, (-1), []) := o_iconst dX12_report_53 (by decide)
theorem oX12_report_54 : oP MT mX12_report 54 (21, 1, 0, 0, []) := o_iret dX12_report_54 rfl
theorem oX12_report_55 : oP MT mX12_report 55 (1, 1, 0, 1, []) := o_aload_n dX12_report_55 rfl
theorem oX12_report_56 : oP MT mX12_report 56 (13, 3, 0, 12, []) := o_getR (M := mX12_report) (C := RX12) (T := TX12) (ci := 12) (j := 0) (z := 12) dX12_report_56 rfl lq_RX12_9 rfl rfl
theorem oX12_report_59 : oP MT mX12_report 59 (0, 2, 0, 6, []) := o_bipush dX12_report_59 (by decide)
theorem oX12_report_61 : oP MT mX12_report 61 (16, 1, 1, 0, []) := o_iaload dX12_report_61
theorem oX12_report_62 : oP MT mX12_report 62 (0, 2, 0, 6, []) := o_bipush dX12_report_62 (by decide)
theorem oX12_report_64 : oP MT mX12_report 64 (11, 3, 1, 70, []) := o_icmp_ne dX12_report_64 (by decide) (by decide)
theorem oX12_report_67 : oP MT mX12_report 67 (0, 2, 0, (-2), []) := o_bipush dX12_report_67 (by decide)
theorem oX12_report_69 : oP MT mX12_report 69 (21, 1, 0, 0, []) := o_iret dX12_report_69 rfl
theorem oX12_report_70 : oP MT mX12_report 70 (0, 2, 0, 65, []) := o_bipush dX12_report_70 (by decide)
theorem oX12_report_72 : oP MT mX12_report 72 (0, 1, 0, 4, []) := o_iconst dX12_report_72 (by decide)
theorem oX12_report_73 : oP MT mX12_report 73 (1, 1, 0, 1, []) := o_aload_n dX12_report_73 rfl
theorem oX12_report_74 : oP MT mX12_report 74 (13, 3, 0, 12, []) := o_getR (M := mX12_report) (C := RX12) (T := TX12) (ci := 12) (j := 0) (z := 12) dX12_report_74 rfl lq_RX12_9 rfl rfl
theorem oX12_report_77 : oP MT mX12_report 77 (0, 2, 0, 6, []) := o_bipush dX12_report_77 (by decide)
theorem oX12_report_79 : oP MT mX12_report 79 (16, 1, 1, 0, []) := o_iaload dX12_report_79
theorem oX12_report_80 : oP MT mX12_report 80 (4, 1, 2, 0, []) := o_imul dX12_report_80
theorem oX12_report_81 : oP MT mX12_report 81 (4, 1, 0, 0, []) := o_iadd dX12_report_81
theorem oX12_report_82 : oP MT mX12_report 82 (2, 2, 6, 0, []) := o_istore dX12_report_82 (by decide)
theorem oX12_report_84 : oP MT mX12_report 84 (1, 1, 0, 1, []) := o_aload_n dX12_report_84 rfl
theorem oX12_report_85 : oP MT mX12_report 85 (13, 3, 0, 12, []) := o_getR (M := mX12_report) (C := RX12) (T := TX12) (ci := 12) (j := 0) (z := 12) dX12_report_85 rfl lq_RX12_9 rfl rfl
theorem oX12_report_88 : oP MT mX12_report 88 (1, 2, 6, 0, []) := o_iload dX12_report_88
theorem oX12_report_90 : oP MT mX12_report 90 (1, 1, 1, 0, []) := o_iload_n dX12_report_90 rfl
theorem oX12_report_91 : oP MT mX12_report 91 (18, 1, 0, 0, []) := o_iastore dX12_report_91
theorem oX12_report_92 : oP MT mX12_report 92 (1, 1, 0, 1, []) := o_aload_n dX12_report_92 rfl
theorem oX12_report_93 : oP MT mX12_report 93 (13, 3, 0, 12, []) := o_getR (M := mX12_report) (C := RX12) (T := TX12) (ci := 12) (j := 0) (z := 12) dX12_report_93 rfl lq_RX12_9 rfl rfl
theorem oX12_report_96 : oP MT mX12_report 96 (1, 2, 6, 0, []) := o_iload dX12_report_96
theorem oX12_report_98 : oP MT mX12_report 98 (0, 1, 0, 1, []) := o_iconst dX12_report_98 (by decide)
theorem oX12_report_99 : oP MT mX12_report 99 (4, 1, 0, 0, []) := o_iadd dX12_report_99
theorem oX12_report_100 : oP MT mX12_report 100 (1, 1, 2, 0, []) := o_iload_n dX12_report_100 rfl
theorem oX12_report_101 : oP MT mX12_report 101 (18, 1, 0, 0, []) := o_iastore dX12_report_101
theorem oX12_report_102 : oP MT mX12_report 102 (1, 1, 0, 1, []) := o_aload_n dX12_report_102 rfl
theorem oX12_report_103 : oP MT mX12_report 103 (13, 3, 0, 12, []) := o_getR (M := mX12_report) (C := RX12) (T := TX12) (ci := 12) (j := 0) (z := 12) dX12_report_103 rfl lq_RX12_9 rfl rfl
theorem oX12_report_106 : oP MT mX12_report 106 (1, 2, 6, 0, []) := o_iload dX12_report_106
theorem oX12_report_108 : oP MT mX12_report 108 (0, 1, 0, 2, []) := o_iconst dX12_report_108 (by decide)
theorem oX12_report_109 : oP MT mX12_report 109 (4, 1, 0, 0, []) := o_iadd dX12_report_109
theorem oX12_report_110 : oP MT mX12_report 110 (1, 1, 3, 0, []) := o_iload_n dX12_report_110 rfl
theorem oX12_report_111 : oP MT mX12_report 111 (18, 1, 0, 0, []) := o_iastore dX12_report_111
theorem oX12_report_112 : oP MT mX12_report 112 (1, 1, 0, 1, []) := o_aload_n dX12_report_112 rfl
theorem oX12_report_113 : oP MT mX12_report 113 (13, 3, 0, 12, []) := o_getR (M := mX12_report) (C := RX12) (T := TX12) (ci := 12) (j := 0) (z := 12) dX12_report_113 rfl lq_RX12_9 rfl rfl
theorem oX12_report_116 : oP MT mX12_report 116 (1, 2, 6, 0, []) := o_iload dX12_report_116
theorem oX12_report_118 : oP MT mX12_report 118 (0, 1, 0, 3, []) := o_iconst dX12_report_118 (by decide)
theorem oX12_report_119 : oP MT mX12_report 119 (4, 1, 0, 0, []) := o_iadd dX12_report_119
theorem oX12_report_120 : oP MT mX12_report 120 (1, 2, 4, 0, []) := o_iload dX12_report_120
theorem oX12_report_122 : oP MT mX12_report 122 (18, 1, 0, 0, []) := o_iastore dX12_report_122
theorem oX12_report_123 : oP MT mX12_report 123 (1, 1, 0, 1, []) := o_aload_n dX12_report_123 rfl
theorem oX12_report_124 : oP MT mX12_report 124 (13, 3, 0, 12, []) := o_getR (M := mX12_report) (C := RX12) (T := TX12) (ci := 12) (j := 0) (z := 12) dX12_report_124 rfl lq_RX12_9 rfl rfl
theorem oX12_report_127 : oP MT mX12_report 127 (0, 2, 0, 6, []) := o_bipush dX12_report_127 (by decide)
theorem oX12_report_129 : oP MT mX12_report 129 (7, 1, 0, 0, []) := o_dup2 dX12_report_129
theorem oX12_report_130 : oP MT mX12_report 130 (16, 1, 1, 0, []) := o_iaload dX12_report_130
theorem oX12_report_131 : oP MT mX12_report 131 (0, 1, 0, 1, []) := o_iconst dX12_report_131 (by decide)
theorem oX12_report_132 : oP MT mX12_report 132 (4, 1, 0, 0, []) := o_iadd dX12_report_132
theorem oX12_report_133 : oP MT mX12_report 133 (18, 1, 0, 0, []) := o_iastore dX12_report_133
theorem oX12_report_134 : oP MT mX12_report 134 (1, 1, 0, 1, []) := o_aload_n dX12_report_134 rfl
theorem oX12_report_135 : oP MT mX12_report 135 (13, 3, 0, 12, []) := o_getR (M := mX12_report) (C := RX12) (T := TX12) (ci := 12) (j := 0) (z := 12) dX12_report_135 rfl lq_RX12_9 rfl rfl
theorem oX12_report_138 : oP MT mX12_report 138 (0, 2, 0, 6, []) := o_bipush dX12_report_138 (by decide)
theorem oX12_report_140 : oP MT mX12_report 140 (16, 1, 1, 0, []) := o_iaload dX12_report_140
theorem oX12_report_141 : oP MT mX12_report 141 (0, 1, 0, 1, []) := o_iconst dX12_report_141 (by decide)
theorem oX12_report_142 : oP MT mX12_report 142 (4, 1, 1, 0, []) := o_isub dX12_report_142
theorem oX12_report_143 : oP MT mX12_report 143 (21, 1, 0, 0, []) := o_iret dX12_report_143 rfl
def ops_X12_report : List (Nat × aO) := [(0, (1, 1, 2, 0, [])), (1, (10, 3, 1, 9, [])), (4, (0, 2, 0, 99, [])), (6, (9, 3, 11, 0, [])), (9, (0, 2, 0, 9, [])), (11, (2, 2, 5, 0, [])), (13, (1, 1, 1, 0, [])), (14, (0, 1, 0, 0, [])), (15, (0, 2, 0, 15, [])), (17, (25, 3, 127, 3, [])), (20, (10, 3, 0, 53, [])), (23, (1, 1, 2, 0, [])), (24, (0, 1, 0, 0, [])), (25, (0, 1, 0, 1, [])), (26, (25, 3, 127, 3, [])), (29, (10, 3, 0, 53, [])), (32, (1, 1, 3, 0, [])), (33, (0, 1, 0, 0, [])), (34, (1, 2, 5, 0, [])), (36, (25, 3, 127, 3, [])), (39, (10, 3, 0, 53, [])), (42, (1, 2, 4, 0, [])), (44, (1, 1, 3, 0, [])), (45, (1, 2, 5, 0, [])), (47, (25, 3, 127, 3, [])), (50, (10, 3, 1, 55, [])), (53, (0, 1, 0, (-1), [])), (54, (21, 1, 0, 0, [])), (55, (1, 1, 0, 1, [])), (56, (13, 3, 0, 12, [])), (59, (0, 2, 0, 6, [])), (61, (16, 1, 1, 0, [])), (62, (0, 2, 0, 6, [])), (64, (11, 3, 1, 70, [])), (67, (0, 2, 0, (-2), [])), (69, (21, 1, 0, 0, [])), (70, (0, 2, 0, 65, [])), (72, (0, 1, 0, 4, [])), (73, (1, 1, 0, 1, [])), (74, (13, 3, 0, 12, [])), (77, (0, 2, 0, 6, [])), (79, (16, 1, 1, 0, [])), (80, (4, 1, 2, 0, [])), (81, (4, 1, 0, 0, [])), (82, (2, 2, 6, 0, [])), (84, (1, 1, 0, 1, [])), (85, (13, 3, 0, 12, [])), (88, (1, 2, 6, 0, [])), (90, (1, 1, 1, 0, [])), (91, (18, 1, 0, 0, [])), (92, (1, 1, 0, 1, [])), (93, (13, 3, 0, 12, [])), (96, (1, 2, 6, 0, [])), (98, (0, 1, 0, 1, [])), (99, (4, 1, 0, 0, [])), (100, (1, 1, 2, 0, [])), (101, (18, 1, 0, 0, [])), (102, (1, 1, 0, 1, [])), (103, (13, 3, 0, 12, [])), (106, (1, 2, 6, 0, [])), (108, (0, 1, 0, 2, [])), (109, (4, 1, 0, 0, [])), (110, (1, 1, 3, 0, [])), (111, (18, 1, 0, 0, [])), (112, (1, 1, 0, 1, [])), (113, (13, 3, 0, 12, [])), (116, (1, 2, 6, 0, [])), (118, (0, 1, 0, 3, [])), (119, (4, 1, 0, 0, [])), (120, (1, 2, 4, 0, [])), (122, (18, 1, 0, 0, [])), (123, (1, 1, 0, 1, [])), (124, (13, 3, 0, 12, [])), (127, (0, 2, 0, 6, [])), (129, (7, 1, 0, 0, [])), (130, (16, 1, 1, 0, [])), (131, (0, 1, 0, 1, [])), (132, (4, 1, 0, 0, [])), (133, (18, 1, 0, 0, [])), (134, (1, 1, 0, 1, [])), (135, (13, 3, 0, 12, [])), (138, (0, 2, 0, 6, [])), (140, (16, 1, 1, 0, [])), (141, (0, 1, 0, 1, [])), (142, (4, 1, 1, 0, [])), (143, (21, 1, 0, 0, []))]
theorem os_X12_report : oA MT mX12_report ops_X12_report := (oA.cons oX12_report_0 (oA.cons oX12_report_1 (oA.cons oX12_report_4 (oA.cons oX12_report_6 (oA.cons oX12_report_9 (oA.cons oX12_report_11 (oA.cons oX12_report_13 (oA.cons oX12_report_14 (oA.cons oX12_report_15 (oA.cons oX12_report_17 (oA.cons oX12_report_20 (oA.cons oX12_report_23 (oA.cons oX12_report_24 (oA.cons oX12_report_25 (oA.cons oX12_report_26 (oA.cons oX12_report_29 (oA.cons oX12_report_32 (oA.cons oX12_report_33 (oA.cons oX12_report_34 (oA.cons oX12_report_36 (oA.cons oX12_report_39 (oA.cons oX12_report_42 (oA.cons oX12_report_44 (oA.cons oX12_report_45 (oA.cons oX12_report_47 (oA.cons oX12_report_50 (oA.cons oX12_report_53 (oA.cons oX12_report_54 (oA.cons oX12_report_55 (oA.cons oX12_report_56 (oA.cons oX12_report_59 (oA.cons oX12_report_61 (oA.cons oX12_report_62 (oA.cons oX12_report_64 (oA.cons oX12_report_67 (oA.cons oX12_report_69 (oA.cons oX12_report_70 (oA.cons oX12_report_72 (oA.cons oX12_report_73 (oA.cons oX12_report_74 (oA.cons oX12_report_77 (oA.cons oX12_report_79 (oA.cons oX12_report_80 (oA.cons oX12_report_81 (oA.cons oX12_report_82 (oA.cons oX12_report_84 (oA.cons oX12_report_85 (oA.cons oX12_report_88 (oA.cons oX12_report_90 (oA.cons oX12_report_91 (oA.cons oX12_report_92 (oA.cons oX12_report_93 (oA.cons oX12_report_96 (oA.cons oX12_report_98 (oA.cons oX12_report_99 (oA.cons oX12_report_100 (oA.cons oX12_report_101 (oA.cons oX12_report_102 (oA.cons oX12_report_103 (oA.cons oX12_report_106 (oA.cons oX12_report_108 (oA.cons oX12_report_109 (oA.cons oX12_report_110 (oA.cons oX12_report_111 (oA.cons oX12_report_112 (oA.cons oX12_report_113 (oA.cons oX12_report_116 (oA.cons oX12_report_118 (oA.cons oX12_report_119 (oA.cons oX12_report_120 (oA.cons oX12_report_122 (oA.cons oX12_report_123 (oA.cons oX12_report_124 (oA.cons oX12_report_127 (oA.cons oX12_report_129 (oA.cons oX12_report_130 (oA.cons oX12_report_131 (oA.cons oX12_report_132 (oA.cons oX12_report_133 (oA.cons oX12_report_134 (oA.cons oX12_report_135 (oA.cons oX12_report_138 (oA.cons oX12_report_140 (oA.cons oX12_report_141 (oA.cons oX12_report_142 (oA.cons oX12_report_143 oA.nil))))))))))))))))))))))))))))))))))))))))))))))))))))))))))))))))))))))))))))))))))))))
theorem dX12_forget_0 : decode cX12_forget 0 = .ok (.aload_n 0, 1) := by decide +kernel
theorem dX12_forget_1 : decode cX12_forget 1 = .ok (.bipush 6, 2) := by decide +kernel
theorem dX12_forget_3 : decode cX12_forget 3 = .ok (.iconst 0, 1) := by decide +kernel
theorem dX12_forget_4 : decode cX12_forget 4 = .ok (.invokevirtual 226, 3) := by decide +kernel
theorem dX12_forget_7 : decode cX12_forget 7 = .ok (.ireturn, 1) := by decide +kernel
theorem oX12_forget_0 : oP MT mX12_forget 0 (1, 1, 0, 1, []) := o_aload_n dX12_forget_0 rfl
theorem oX12_forget_1 : oP MT mX12_forget 1 (0, 2, 0, 6, []) := o_bipush dX12_forget_1 (by decide)
theorem oX12_forget_3 : oP MT mX12_forget 3 (0, 1, 0, 0, []) := o_iconst dX12_forget_3 (by decide)
theorem oX12_forget_4 : oP MT mX12_forget 4 (26, 3, 0, 2, [(12, 193)]) := o_callO ((vA.cons (v_callV dX12_forget_4 (ci := 12) rfl rfl (mj := mX12_becomes) mt_X12_becomes cmq_X12_becomes wq_668 wq_670 wq_671 (by decide) (by decide)) vA.nil))
theorem oX12_forget_7 : oP MT mX12_forget 7 (21, 1, 0, 0, []) := o_iret dX12_forget_7 rfl
def ops_X12_forget : List (Nat × aO) := [(0, (1, 1, 0, 1, [])), (1, (0, 2, 0, 6, [])), (3, (0, 1, 0, 0, [])), (4, (26, 3, 0, 2, [(12, 193)])), (7, (21, 1, 0, 0, []))]
theorem os_X12_forget : oA MT mX12_forget ops_X12_forget := (oA.cons oX12_forget_0 (oA.cons oX12_forget_1 (oA.cons oX12_forget_3 (oA.cons oX12_forget_4 (oA.cons oX12_forget_7 oA.nil)))))
theorem dX12_lone_0 : decode cX12_lone 0 = .ok (.iload_n 1, 1) := by decide +kernel
theorem dX12_lone_1 : decode cX12_lone 1 = .ok (.iconst 0, 1) := by decide +kernel
theorem dX12_lone_2 : decode cX12_lone 2 = .ok (.iconst 3, 1) := by decide +kernel
theorem dX12_lone_3 : decode cX12_lone 3 = .ok (.invokestatic 71, 3) := by decide +kernel
theorem dX12_lone_6 : decode cX12_lone 6 = .ok (.ifCond .ne 5, 3) := by decide +kernel
theorem dX12_lone_9 : decode cX12_lone 9 = .ok (.iconst (-1), 1) := by decide +kernel
theorem dX12_lone_10 : decode cX12_lone 10 = .ok (.ireturn, 1) := by decide +kernel
theorem dX12_lone_11 : decode cX12_lone 11 = .ok (.aload_n 0, 1) := by decide +kernel
theorem dX12_lone_12 : decode cX12_lone 12 = .ok (.iconst (-1), 1) := by decide +kernel
theorem dX12_lone_13 : decode cX12_lone 13 = .ok (.invokevirtual 310, 3) := by decide +kernel
theorem dX12_lone_16 : decode cX12_lone 16 = .ok (.istore_n 2, 1) := by decide +kernel
theorem dX12_lone_17 : decode cX12_lone 17 = .ok (.iload_n 1, 1) := by decide +kernel
theorem dX12_lone_18 : decode cX12_lone 18 = .ok (.ifCond .le 10, 3) := by decide +kernel
theorem dX12_lone_21 : decode cX12_lone 21 = .ok (.iload_n 2, 1) := by decide +kernel
theorem dX12_lone_22 : decode cX12_lone 22 = .ok (.ifCond .ne 6, 3) := by decide +kernel
theorem dX12_lone_25 : decode cX12_lone 25 = .ok (.bipush (-3), 2) := by decide +kernel
theorem dX12_lone_27 : decode cX12_lone 27 = .ok (.ireturn, 1) := by decide +kernel
theorem dX12_lone_28 : decode cX12_lone 28 = .ok (.iload_n 1, 1) := by decide +kernel
theorem dX12_lone_29 : decode cX12_lone 29 = .ok (.ifCond .ne 7, 3) := by decide +kernel
theorem dX12_lone_32 : decode cX12_lone 32 = .ok (.iload_n 2, 1) := by decide +kernel
theorem dX12_lone_33 : decode cX12_lone 33 = .ok (.goto 51, 3) := by decide +kernel
theorem dX12_lone_36 : decode cX12_lone 36 = .ok (.iload_n 1, 1) := by decide +kernel
theorem dX12_lone_37 : decode cX12_lone 37 = .ok (.iconst 1, 1) := by decide +kernel
theorem dX12_lone_38 : decode cX12_lone 38 = .ok (.if_icmp .ne 15, 3) := by decide +kernel
theorem dX12_lone_41 : decode cX12_lone 41 = .ok (.iconst 1, 1) := by decide +kernel
theorem dX12_lone_42 : decode cX12_lone 42 = .ok (.aload_n 0, 1) := by decide +kernel
theorem dX12_lone_43 : decode cX12_lone 43 = .ok (.getfield 301, 3) := by decide +kernel
theorem dX12_lone_46 : decode cX12_lone 46 = .ok (.bipush 100, 2) := by decide +kernel
theorem dX12_lone_48 : decode cX12_lone 48 = .ok (.idiv, 1) := by decide +kernel
theorem dX12_lone_49 : decode cX12_lone 49 = .ok (.iadd, 1) := by decide +kernel
theorem dX12_lone_50 : decode cX12_lone 50 = .ok (.goto 34, 3) := by decide +kernel
theorem dX12_lone_53 : decode cX12_lone 53 = .ok (.iload_n 1, 1) := by decide +kernel
theorem dX12_lone_54 : decode cX12_lone 54 = .ok (.iconst 2, 1) := by decide +kernel
theorem dX12_lone_55 : decode cX12_lone 55 = .ok (.if_icmp .ne 16, 3) := by decide +kernel
theorem dX12_lone_58 : decode cX12_lone 58 = .ok (.aload_n 0, 1) := by decide +kernel
theorem dX12_lone_59 : decode cX12_lone 59 = .ok (.getfield 301, 3) := by decide +kernel
theorem dX12_lone_62 : decode cX12_lone 62 = .ok (.bipush 10, 2) := by decide +kernel
theorem dX12_lone_64 : decode cX12_lone 64 = .ok (.idiv, 1) := by decide +kernel
theorem dX12_lone_65 : decode cX12_lone 65 = .ok (.bipush 10, 2) := by decide +kernel
theorem dX12_lone_67 : decode cX12_lone 67 = .ok (.irem, 1) := by decide +kernel
theorem dX12_lone_68 : decode cX12_lone 68 = .ok (.goto 16, 3) := by decide +kernel
theorem dX12_lone_71 : decode cX12_lone 71 = .ok (.bipush 10, 2) := by decide +kernel
theorem dX12_lone_73 : decode cX12_lone 73 = .ok (.aload_n 0, 1) := by decide +kernel
theorem dX12_lone_74 : decode cX12_lone 74 = .ok (.getfield 301, 3) := by decide +kernel
theorem dX12_lone_77 : decode cX12_lone 77 = .ok (.bipush 10, 2) := by decide +kernel
theorem dX12_lone_79 : decode cX12_lone 79 = .ok (.irem, 1) := by decide +kernel
theorem dX12_lone_80 : decode cX12_lone 80 = .ok (.imul, 1) := by decide +kernel
theorem dX12_lone_81 : decode cX12_lone 81 = .ok (.bipush 9, 2) := by decide +kernel
theorem dX12_lone_83 : decode cX12_lone 83 = .ok (.iadd, 1) := by decide +kernel
theorem dX12_lone_84 : decode cX12_lone 84 = .ok (.ireturn, 1) := by decide +kernel
theorem oX12_lone_0 : oP MT mX12_lone 0 (1, 1, 1, 0, []) := o_iload_n dX12_lone_0 rfl
theorem oX12_lone_1 : oP MT mX12_lone 1 (0, 1, 0, 0, []) := o_iconst dX12_lone_1 (by decide)
theorem oX12_lone_2 : oP MT mX12_lone 2 (0, 1, 0, 3, []) := o_iconst dX12_lone_2 (by decide)
theorem oX12_lone_3 : oP MT mX12_lone 3 (25, 3, 127, 3, []) := o_callS dX12_lone_3 (mj := mX12_in1) mt_X12_in1 cmq_X12_in1 wq_468 wq_470 (by decide) (by decide)
theorem oX12_lone_6 : oP MT mX12_lone 6 (10, 3, 1, 11, []) := o_if_ne dX12_lone_6 (by decide) (by decide)
theorem oX12_lone_9 : oP MT mX12_lone 9 (0, 1, 0, (-1), []) := o_iconst dX12_lone_9 (by decide)
theorem oX12_lone_10 : oP MT mX12_lone 10 (21, 1, 0, 0, []) := o_iret dX12_lone_10 rfl
theorem oX12_lone_11 : oP MT mX12_lone 11 (1, 1, 0, 1, []) := o_aload_n dX12_lone_11 rfl
theorem oX12_lone_12 : oP MT mX12_lone 12 (0, 1, 0, (-1), []) := o_iconst dX12_lone_12 (by decide)
theorem oX12_lone_13 : oP MT mX12_lone 13 (26, 3, 0, 1, [(12, 171)]) := o_callO ((vA.cons (v_callV dX12_lone_13 (ci := 12) rfl rfl (mj := mX12_fitting) mt_X12_fitting cmq_X12_fitting wq_751 wq_753 wq_754 (by decide) (by decide)) vA.nil))
theorem oX12_lone_16 : oP MT mX12_lone 16 (2, 1, 2, 0, []) := o_istore_n dX12_lone_16 rfl (by decide)
theorem oX12_lone_17 : oP MT mX12_lone 17 (1, 1, 1, 0, []) := o_iload_n dX12_lone_17 rfl
theorem oX12_lone_18 : oP MT mX12_lone 18 (10, 3, 5, 28, []) := o_if_le dX12_lone_18 (by decide) (by decide)
theorem oX12_lone_21 : oP MT mX12_lone 21 (1, 1, 2, 0, []) := o_iload_n dX12_lone_21 rfl
theorem oX12_lone_22 : oP MT mX12_lone 22 (10, 3, 1, 28, []) := o_if_ne dX12_lone_22 (by decide) (by decide)
theorem oX12_lone_25 : oP MT mX12_lone 25 (0, 2, 0, (-3), []) := o_bipush dX12_lone_25 (by decide)
theorem oX12_lone_27 : oP MT mX12_lone 27 (21, 1, 0, 0, []) := o_iret dX12_lone_27 rfl
theorem oX12_lone_28 : oP MT mX12_lone 28 (1, 1, 1, 0, []) := o_iload_n dX12_lone_28 rfl
theorem oX12_lone_29 : oP MT mX12_lone 29 (10, 3, 1, 36, []) := o_if_ne dX12_lone_29 (by decide) (by decide)
theorem oX12_lone_32 : oP MT mX12_lone 32 (1, 1, 2, 0, []) := o_iload_n dX12_lone_32 rfl
theorem oX12_lone_33 : oP MT mX12_lone 33 (9, 3, 84, 0, []) := o_goto dX12_lone_33 (by decide)
theorem oX12_lone_36 : oP MT mX12_lone 36 (1, 1, 1, 0, []) := o_iload_n dX12_lone_36 rfl
theorem oX12_lone_37 : oP MT mX12_lone 37 (0, 1, 0, 1, []) := o_iconst dX12_lone_37 (by decide)
theorem oX12_lone_38 : oP MT mX12_lone 38 (11, 3, 1, 53, []) := o_icmp_ne dX12_lone_38 (by decide) (by decide)
theorem oX12_lone_41 : oP MT mX12_lone 41 (0, 1, 0, 1, []) := o_iconst dX12_lone_41 (by decide)
theorem oX12_lone_42 : oP MT mX12_lone 42 (1, 1, 0, 1, []) := o_aload_n dX12_lone_42 rfl
theorem oX12_lone_43 : oP MT mX12_lone 43 (12, 3, 25, 12, []) := o_getI (M := mX12_lone) (C := RX12) (T := TX12) (ci := 12) (j := 25) (z := 12) dX12_lone_43 rfl lq_RX12_301 rfl rfl
theorem oX12_lone_46 : oP MT mX12_lone 46 (0, 2, 0, 100, []) := o_bipush dX12_lone_46 (by decide)
theorem oX12_lone_48 : oP MT mX12_lone 48 (4, 1, 9, 0, []) := o_idiv dX12_lone_48
theorem oX12_lone_49 : oP MT mX12_lone 49 (4, 1, 0, 0, []) := o_iadd dX12_lone_49
theorem oX12_lone_50 : oP MT mX12_lone 50 (9, 3, 84, 0, []) := o_goto dX12_lone_50 (by decide)
theorem oX12_lone_53 : oP MT mX12_lone 53 (1, 1, 1, 0, []) := o_iload_n dX12_lone_53 rfl
theorem oX12_lone_54 : oP MT mX12_lone 54 (0, 1, 0, 2, []) := o_iconst dX12_lone_54 (by decide)
theorem oX12_lone_55 : oP MT mX12_lone 55 (11, 3, 1, 71, []) := o_icmp_ne dX12_lone_55 (by decide) (by decide)
theorem oX12_lone_58 : oP MT mX12_lone 58 (1, 1, 0, 1, []) := o_aload_n dX12_lone_58 rfl
theorem oX12_lone_59 : oP MT mX12_lone 59 (12, 3, 25, 12, []) := o_getI (M := mX12_lone) (C := RX12) (T := TX12) (ci := 12) (j := 25) (z := 12) dX12_lone_59 rfl lq_RX12_301 rfl rfl
theorem oX12_lone_62 : oP MT mX12_lone 62 (0, 2, 0, 10, []) := o_bipush dX12_lone_62 (by decide)
theorem oX12_lone_64 : oP MT mX12_lone 64 (4, 1, 9, 0, []) := o_idiv dX12_lone_64
theorem oX12_lone_65 : oP MT mX12_lone 65 (0, 2, 0, 10, []) := o_bipush dX12_lone_65 (by decide)
theorem oX12_lone_67 : oP MT mX12_lone 67 (4, 1, 10, 0, []) := o_irem dX12_lone_67
theorem oX12_lone_68 : oP MT mX12_lone 68 (9, 3, 84, 0, []) := o_goto dX12_lone_68 (by decide)
theorem oX12_lone_71 : oP MT mX12_lone 71 (0, 2, 0, 10, []) := o_bipush dX12_lone_71 (by decide)
theorem oX12_lone_73 : oP MT mX12_lone 73 (1, 1, 0, 1, []) := o_aload_n dX12_lone_73 rfl
theorem oX12_lone_74 : oP MT mX12_lone 74 (12, 3, 25, 12, []) := o_getI (M := mX12_lone) (C := RX12) (T := TX12) (ci := 12) (j := 25) (z := 12) dX12_lone_74 rfl lq_RX12_301 rfl rfl
theorem oX12_lone_77 : oP MT mX12_lone 77 (0, 2, 0, 10, []) := o_bipush dX12_lone_77 (by decide)
theorem oX12_lone_79 : oP MT mX12_lone 79 (4, 1, 10, 0, []) := o_irem dX12_lone_79
theorem oX12_lone_80 : oP MT mX12_lone 80 (4, 1, 2, 0, []) := o_imul dX12_lone_80
theorem oX12_lone_81 : oP MT mX12_lone 81 (0, 2, 0, 9, []) := o_bipush dX12_lone_81 (by decide)
theorem oX12_lone_83 : oP MT mX12_lone 83 (4, 1, 0, 0, []) := o_iadd dX12_lone_83
theorem oX12_lone_84 : oP MT mX12_lone 84 (21, 1, 0, 0, []) := o_iret dX12_lone_84 rfl
def ops_X12_lone : List (Nat × aO) := [(0, (1, 1, 1, 0, [])), (1, (0, 1, 0, 0, [])), (2, (0, 1, 0, 3, [])), (3, (25, 3, 127, 3, [])), (6, (10, 3, 1, 11, [])), (9, (0, 1, 0, (-1), [])), (10, (21, 1, 0, 0, [])), (11, (1, 1, 0, 1, [])), (12, (0, 1, 0, (-1), [])), (13, (26, 3, 0, 1, [(12, 171)])), (16, (2, 1, 2, 0, [])), (17, (1, 1, 1, 0, [])), (18, (10, 3, 5, 28, [])), (21, (1, 1, 2, 0, [])), (22, (10, 3, 1, 28, [])), (25, (0, 2, 0, (-3), [])), (27, (21, 1, 0, 0, [])), (28, (1, 1, 1, 0, [])), (29, (10, 3, 1, 36, [])), (32, (1, 1, 2, 0, [])), (33, (9, 3, 84, 0, [])), (36, (1, 1, 1, 0, [])), (37, (0, 1, 0, 1, [])), (38, (11, 3, 1, 53, [])), (41, (0, 1, 0, 1, [])), (42, (1, 1, 0, 1, [])), (43, (12, 3, 25, 12, [])), (46, (0, 2, 0, 100, [])), (48, (4, 1, 9, 0, [])), (49, (4, 1, 0, 0, [])), (50, (9, 3, 84, 0, [])), (53, (1, 1, 1, 0, [])), (54, (0, 1, 0, 2, [])), (55, (11, 3, 1, 71, [])), (58, (1, 1, 0, 1, [])), (59, (12, 3, 25, 12, [])), (62, (0, 2, 0, 10, [])), (64, (4, 1, 9, 0, [])), (65, (0, 2, 0, 10, [])), (67, (4, 1, 10, 0, [])), (68, (9, 3, 84, 0, [])), (71, (0, 2, 0, 10, [])), (73, (1, 1, 0, 1, [])), (74, (12, 3, 25, 12, [])), (77, (0, 2, 0, 10, [])), (79, (4, 1, 10, 0, [])), (80, (4, 1, 2, 0, [])), (81, (0, 2, 0, 9, [])), (83, (4, 1, 0, 0, [])), (84, (21, 1, 0, 0, []))]
theorem os_X12_lone : oA MT mX12_lone ops_X12_lone := (oA.cons oX12_lone_0 (oA.cons oX12_lone_1 (oA.cons oX12_lone_2 (oA.cons oX12_lone_3 (oA.cons oX12_lone_6 (oA.cons oX12_lone_9 (oA.cons oX12_lone_10 (oA.cons oX12_lone_11 (oA.cons oX12_lone_12 (oA.cons oX12_lone_13 (oA.cons oX12_lone_16 (oA.cons oX12_lone_17 (oA.cons oX12_lone_18 (oA.cons oX12_lone_21 (oA.cons oX12_lone_22 (oA.cons oX12_lone_25 (oA.cons oX12_lone_27 (oA.cons oX12_lone_28 (oA.cons oX12_lone_29 (oA.cons oX12_lone_32 (oA.cons oX12_lone_33 (oA.cons oX12_lone_36 (oA.cons oX12_lone_37 (oA.cons oX12_lone_38 (oA.cons oX12_lone_41 (oA.cons oX12_lone_42 (oA.cons oX12_lone_43 (oA.cons oX12_lone_46 (oA.cons oX12_lone_48 (oA.cons oX12_lone_49 (oA.cons oX12_lone_50 (oA.cons oX12_lone_53 (oA.cons oX12_lone_54 (oA.cons oX12_lone_55 (oA.cons oX12_lone_58 (oA.cons oX12_lone_59 (oA.cons oX12_lone_62 (oA.cons oX12_lone_64 (oA.cons oX12_lone_65 (oA.cons oX12_lone_67 (oA.cons oX12_lone_68 (oA.cons oX12_lone_71 (oA.cons oX12_lone_73 (oA.cons oX12_lone_74 (oA.cons oX12_lone_77 (oA.cons oX12_lone_79 (oA.cons oX12_lone_80 (oA.cons oX12_lone_81 (oA.cons oX12_lone_83 (oA.cons oX12_lone_84 oA.nil))))))))))))))))))))))))))))))))))))))))))))))))))
theorem dX12_liar_0 : decode cX12_liar 0 = .ok (.aload_n 0, 1) := by decide +kernel
theorem dX12_liar_1 : decode cX12_liar 1 = .ok (.iconst (-1), 1) := by decide +kernel
theorem dX12_liar_2 : decode cX12_liar 2 = .ok (.invokevirtual 310, 3) := by decide +kernel
theorem dX12_liar_5 : decode cX12_liar 5 = .ok (.ifCond .le 6, 3) := by decide +kernel
theorem dX12_liar_8 : decode cX12_liar 8 = .ok (.bipush (-3), 2) := by decide +kernel
theorem dX12_liar_10 : decode cX12_liar 10 = .ok (.ireturn, 1) := by decide +kernel
theorem dX12_liar_11 : decode cX12_liar 11 = .ok (.iconst 0, 1) := by decide +kernel
theorem dX12_liar_12 : decode cX12_liar 12 = .ok (.istore_n 1, 1) := by decide +kernel
theorem dX12_liar_13 : decode cX12_liar 13 = .ok (.iload_n 1, 1) := by decide +kernel
theorem dX12_liar_14 : decode cX12_liar 14 = .ok (.aload_n 0, 1) := by decide +kernel
theorem dX12_liar_15 : decode cX12_liar 15 = .ok (.getfield 9, 3) := by decide +kernel
theorem dX12_liar_18 : decode cX12_liar 18 = .ok (.bipush 6, 2) := by decide +kernel
theorem dX12_liar_20 : decode cX12_liar 20 = .ok (.iaload, 1) := by decide +kernel
theorem dX12_liar_21 : decode cX12_liar 21 = .ok (.if_icmp .ge 19, 3) := by decide +kernel
theorem dX12_liar_24 : decode cX12_liar 24 = .ok (.aload_n 0, 1) := by decide +kernel
theorem dX12_liar_25 : decode cX12_liar 25 = .ok (.iload_n 1, 1) := by decide +kernel
theorem dX12_liar_26 : decode cX12_liar 26 = .ok (.invokevirtual 310, 3) := by decide +kernel
theorem dX12_liar_29 : decode cX12_liar 29 = .ok (.ifCond .le 5, 3) := by decide +kernel
theorem dX12_liar_32 : decode cX12_liar 32 = .ok (.iload_n 1, 1) := by decide +kernel
theorem dX12_liar_33 : decode cX12_liar 33 = .ok (.ireturn, 1) := by decide +kernel
theorem dX12_liar_34 : decode cX12_liar 34 = .ok (.iinc 1 1, 3) := by decide +kernel
theorem dX12_liar_37 : decode cX12_liar 37 = .ok (.goto (-24), 3) := by decide +kernel
theorem dX12_liar_40 : decode cX12_liar 40 = .ok (.bipush (-3), 2) := by decide +kernel
theorem dX12_liar_42 : decode cX12_liar 42 = .ok (.ireturn, 1) := by decide +kernel
theorem oX12_liar_0 : oP MT mX12_liar 0 (1, 1, 0, 1, []) := o_aload_n dX12_liar_0 rfl
theorem oX12_liar_1 : oP MT mX12_liar 1 (0, 1, 0, (-1), []) := o_iconst dX12_liar_1 (by decide)
theorem oX12_liar_2 : oP MT mX12_liar 2 (26, 3, 0, 1, [(12, 171)]) := o_callO ((vA.cons (v_callV dX12_liar_2 (ci := 12) rfl rfl (mj := mX12_fitting) mt_X12_fitting cmq_X12_fitting wq_751 wq_753 wq_754 (by decide) (by decide)) vA.nil))
theorem oX12_liar_5 : oP MT mX12_liar 5 (10, 3, 5, 11, []) := o_if_le dX12_liar_5 (by decide) (by decide)
theorem oX12_liar_8 : oP MT mX12_liar 8 (0, 2, 0, (-3), []) := o_bipush dX12_liar_8 (by decide)
theorem oX12_liar_10 : oP MT mX12_liar 10 (21, 1, 0, 0, []) := o_iret dX12_liar_10 rfl
theorem oX12_liar_11 : oP MT mX12_liar 11 (0, 1, 0, 0, []) := o_iconst dX12_liar_11 (by decide)
theorem oX12_liar_12 : oP MT mX12_liar 12 (2, 1, 1, 0, []) := o_istore_n dX12_liar_12 rfl (by decide)
theorem oX12_liar_13 : oP MT mX12_liar 13 (1, 1, 1, 0, []) := o_iload_n dX12_liar_13 rfl
theorem oX12_liar_14 : oP MT mX12_liar 14 (1, 1, 0, 1, []) := o_aload_n dX12_liar_14 rfl
theorem oX12_liar_15 : oP MT mX12_liar 15 (13, 3, 0, 12, []) := o_getR (M := mX12_liar) (C := RX12) (T := TX12) (ci := 12) (j := 0) (z := 12) dX12_liar_15 rfl lq_RX12_9 rfl rfl
theorem oX12_liar_18 : oP MT mX12_liar 18 (0, 2, 0, 6, []) := o_bipush dX12_liar_18 (by decide)
theorem oX12_liar_20 : oP MT mX12_liar 20 (16, 1, 1, 0, []) := o_iaload dX12_liar_20
theorem oX12_liar_21 : oP MT mX12_liar 21 (11, 3, 3, 40, []) := o_icmp_ge dX12_liar_21 (by decide) (by decide)
theorem oX12_liar_24 : oP MT mX12_liar 24 (1, 1, 0, 1, []) := o_aload_n dX12_liar_24 rfl
theorem oX12_liar_25 : oP MT mX12_liar 25 (1, 1, 1, 0, []) := o_iload_n dX12_liar_25 rfl
theorem oX12_liar_26 : oP MT mX12_liar 26 (26, 3, 0, 1, [(12, 171)]) := o_callO ((vA.cons (v_callV dX12_liar_26 (ci := 12) rfl rfl (mj := mX12_fitting) mt_X12_fitting cmq_X12_fitting wq_751 wq_753 wq_754 (by decide) (by decide)) vA.nil))
theorem oX12_liar_29 : oP MT mX12_liar 29 (10, 3, 5, 34, []) := o_if_le dX12_liar_29 (by decide) (by decide)
theorem oX12_liar_32 : oP MT mX12_liar 32 (1, 1, 1, 0, []) := o_iload_n dX12_liar_32 rfl
theorem oX12_liar_33 : oP MT mX12_liar 33 (21, 1, 0, 0, []) := o_iret dX12_liar_33 rfl
theorem oX12_liar_34 : oP MT mX12_liar 34 (3, 3, 1, 1, []) := o_iinc dX12_liar_34 (by decide) (by decide)
theorem oX12_liar_37 : oP MT mX12_liar 37 (9, 3, 13, 0, []) := o_goto dX12_liar_37 (by decide)
theorem oX12_liar_40 : oP MT mX12_liar 40 (0, 2, 0, (-3), []) := o_bipush dX12_liar_40 (by decide)
theorem oX12_liar_42 : oP MT mX12_liar 42 (21, 1, 0, 0, []) := o_iret dX12_liar_42 rfl
def ops_X12_liar : List (Nat × aO) := [(0, (1, 1, 0, 1, [])), (1, (0, 1, 0, (-1), [])), (2, (26, 3, 0, 1, [(12, 171)])), (5, (10, 3, 5, 11, [])), (8, (0, 2, 0, (-3), [])), (10, (21, 1, 0, 0, [])), (11, (0, 1, 0, 0, [])), (12, (2, 1, 1, 0, [])), (13, (1, 1, 1, 0, [])), (14, (1, 1, 0, 1, [])), (15, (13, 3, 0, 12, [])), (18, (0, 2, 0, 6, [])), (20, (16, 1, 1, 0, [])), (21, (11, 3, 3, 40, [])), (24, (1, 1, 0, 1, [])), (25, (1, 1, 1, 0, [])), (26, (26, 3, 0, 1, [(12, 171)])), (29, (10, 3, 5, 34, [])), (32, (1, 1, 1, 0, [])), (33, (21, 1, 0, 0, [])), (34, (3, 3, 1, 1, [])), (37, (9, 3, 13, 0, [])), (40, (0, 2, 0, (-3), [])), (42, (21, 1, 0, 0, []))]
theorem os_X12_liar : oA MT mX12_liar ops_X12_liar := (oA.cons oX12_liar_0 (oA.cons oX12_liar_1 (oA.cons oX12_liar_2 (oA.cons oX12_liar_5 (oA.cons oX12_liar_8 (oA.cons oX12_liar_10 (oA.cons oX12_liar_11 (oA.cons oX12_liar_12 (oA.cons oX12_liar_13 (oA.cons oX12_liar_14 (oA.cons oX12_liar_15 (oA.cons oX12_liar_18 (oA.cons oX12_liar_20 (oA.cons oX12_liar_21 (oA.cons oX12_liar_24 (oA.cons oX12_liar_25 (oA.cons oX12_liar_26 (oA.cons oX12_liar_29 (oA.cons oX12_liar_32 (oA.cons oX12_liar_33 (oA.cons oX12_liar_34 (oA.cons oX12_liar_37 (oA.cons oX12_liar_40 (oA.cons oX12_liar_42 oA.nil))))))))))))))))))))))))
theorem dX12_seed_0 : decode cX12_seed 0 = .ok (.aload_n 0, 1) := by decide +kernel
theorem dX12_seed_1 : decode cX12_seed 1 = .ok (.iconst 3, 1) := by decide +kernel
theorem dX12_seed_2 : decode cX12_seed 2 = .ok (.iload_n 1, 1) := by decide +kernel
theorem dX12_seed_3 : decode cX12_seed 3 = .ok (.invokevirtual 226, 3) := by decide +kernel
theorem dX12_seed_6 : decode cX12_seed 6 = .ok (.ireturn, 1) := by decide +kernel
theorem oX12_seed_0 : oP MT mX12_seed 0 (1, 1, 0, 1, []) := o_aload_n dX12_seed_0 rfl
theorem oX12_seed_1 : oP MT mX12_seed 1 (0, 1, 0, 3, []) := o_iconst dX12_seed_1 (by decide)
theorem oX12_seed_2 : oP MT mX12_seed 2 (1, 1, 1, 0, []) := o_iload_n dX12_seed_2 rfl
theorem oX12_seed_3 : oP MT mX12_seed 3 (26, 3, 0, 2, [(12, 193)]) := o_callO ((vA.cons (v_callV dX12_seed_3 (ci := 12) rfl rfl (mj := mX12_becomes) mt_X12_becomes cmq_X12_becomes wq_668 wq_670 wq_671 (by decide) (by decide)) vA.nil))
theorem oX12_seed_6 : oP MT mX12_seed 6 (21, 1, 0, 0, []) := o_iret dX12_seed_6 rfl
def ops_X12_seed : List (Nat × aO) := [(0, (1, 1, 0, 1, [])), (1, (0, 1, 0, 3, [])), (2, (1, 1, 1, 0, [])), (3, (26, 3, 0, 2, [(12, 193)])), (6, (21, 1, 0, 0, []))]
theorem os_X12_seed : oA MT mX12_seed ops_X12_seed := (oA.cons oX12_seed_0 (oA.cons oX12_seed_1 (oA.cons oX12_seed_2 (oA.cons oX12_seed_3 (oA.cons oX12_seed_6 oA.nil)))))
theorem dX12_lot_0 : decode cX12_lot 0 = .ok (.aload_n 0, 1) := by decide +kernel
theorem dX12_lot_1 : decode cX12_lot 1 = .ok (.invokevirtual 229, 3) := by decide +kernel
theorem dX12_lot_4 : decode cX12_lot 4 = .ok (.ifCond .eq 8, 3) := by decide +kernel
theorem dX12_lot_7 : decode cX12_lot 7 = .ok (.bipush (-4), 2) := by decide +kernel
theorem dX12_lot_9 : decode cX12_lot 9 = .ok (.goto 7, 3) := by decide +kernel
theorem dX12_lot_12 : decode cX12_lot 12 = .ok (.aload_n 0, 1) := by decide +kernel
theorem dX12_lot_13 : decode cX12_lot 13 = .ok (.invokevirtual 314, 3) := by decide +kernel
theorem dX12_lot_16 : decode cX12_lot 16 = .ok (.ireturn, 1) := by decide +kernel
theorem oX12_lot_0 : oP MT mX12_lot 0 (1, 1, 0, 1, []) := o_aload_n dX12_lot_0 rfl
theorem oX12_lot_1 : oP MT mX12_lot 1 (26, 3, 0, 0, [(12, 150)]) := o_callO ((vA.cons (v_callV dX12_lot_1 (ci := 12) rfl rfl (mj := mX12_isOver) mt_X12_isOver cmq_X12_isOver wq_557 wq_559 wq_560 (by decide) (by decide)) vA.nil))
theorem oX12_lot_4 : oP MT mX12_lot 4 (10, 3, 0, 12, []) := o_if_eq dX12_lot_4 (by decide) (by decide)
theorem oX12_lot_7 : oP MT mX12_lot 7 (0, 2, 0, (-4), []) := o_bipush dX12_lot_7 (by decide)
theorem oX12_lot_9 : oP MT mX12_lot 9 (9, 3, 16, 0, []) := o_goto dX12_lot_9 (by decide)
theorem oX12_lot_12 : oP MT mX12_lot 12 (1, 1, 0, 1, []) := o_aload_n dX12_lot_12 rfl
theorem oX12_lot_13 : oP MT mX12_lot 13 (26, 3, 0, 0, [(12, 172)]) := o_callO ((vA.cons (v_callV dX12_lot_13 (ci := 12) rfl rfl (mj := mX12_byLot) mt_X12_byLot cmq_X12_byLot wq_757 wq_759 wq_760 (by decide) (by decide)) vA.nil))
theorem oX12_lot_16 : oP MT mX12_lot 16 (21, 1, 0, 0, []) := o_iret dX12_lot_16 rfl
def ops_X12_lot : List (Nat × aO) := [(0, (1, 1, 0, 1, [])), (1, (26, 3, 0, 0, [(12, 150)])), (4, (10, 3, 0, 12, [])), (7, (0, 2, 0, (-4), [])), (9, (9, 3, 16, 0, [])), (12, (1, 1, 0, 1, [])), (13, (26, 3, 0, 0, [(12, 172)])), (16, (21, 1, 0, 0, []))]
theorem os_X12_lot : oA MT mX12_lot ops_X12_lot := (oA.cons oX12_lot_0 (oA.cons oX12_lot_1 (oA.cons oX12_lot_4 (oA.cons oX12_lot_7 (oA.cons oX12_lot_9 (oA.cons oX12_lot_12 (oA.cons oX12_lot_13 (oA.cons oX12_lot_16 oA.nil))))))))
theorem dX12_times_0 : decode cX12_times 0 = .ok (.iload_n 1, 1) := by decide +kernel
theorem dX12_times_1 : decode cX12_times 1 = .ok (.iconst 1, 1) := by decide +kernel
theorem dX12_times_2 : decode cX12_times 2 = .ok (.bipush 40, 2) := by decide +kernel
theorem dX12_times_4 : decode cX12_times 4 = .ok (.invokestatic 71, 3) := by decide +kernel
theorem dX12_times_7 : decode cX12_times 7 = .ok (.ifCond .eq 14, 3) := by decide +kernel
theorem dX12_times_10 : decode cX12_times 10 = .ok (.iload_n 2, 1) := by decide +kernel
theorem dX12_times_11 : decode cX12_times 11 = .ok (.iconst 0, 1) := by decide +kernel
theorem dX12_times_12 : decode cX12_times 12 = .ok (.sipush 999, 3) := by decide +kernel
theorem dX12_times_15 : decode cX12_times 15 = .ok (.invokestatic 71, 3) := by decide +kernel
theorem dX12_times_18 : decode cX12_times 18 = .ok (.ifCond .ne 5, 3) := by decide +kernel
theorem dX12_times_21 : decode cX12_times 21 = .ok (.iconst (-1), 1) := by decide +kernel
theorem dX12_times_22 : decode cX12_times 22 = .ok (.ireturn, 1) := by decide +kernel
theorem dX12_times_23 : decode cX12_times 23 = .ok (.aload_n 0, 1) := by decide +kernel
theorem dX12_times_24 : decode cX12_times 24 = .ok (.invokevirtual 241, 3) := by decide +kernel
theorem dX12_times_27 : decode cX12_times 27 = .ok (.iconst 0, 1) := by decide +kernel
theorem dX12_times_28 : decode cX12_times 28 = .ok (.istore_n 3, 1) := by decide +kernel
theorem dX12_times_29 : decode cX12_times 29 = .ok (.iconst 0, 1) := by decide +kernel
theorem dX12_times_30 : decode cX12_times 30 = .ok (.istore 4, 2) := by decide +kernel
theorem dX12_times_32 : decode cX12_times 32 = .ok (.iload 4, 2) := by decide +kernel
theorem dX12_times_34 : decode cX12_times 34 = .ok (.iload_n 1, 1) := by decide +kernel
theorem dX12_times_35 : decode cX12_times 35 = .ok (.if_icmp .ge 65, 3) := by decide +kernel
theorem dX12_times_38 : decode cX12_times 38 = .ok (.iconst 0, 1) := by decide +kernel
theorem dX12_times_39 : decode cX12_times 39 = .ok (.istore 5, 2) := by decide +kernel
theorem dX12_times_41 : decode cX12_times 41 = .ok (.aload_n 0, 1) := by decide +kernel
theorem dX12_times_42 : decode cX12_times 42 = .ok (.invokevirtual 229, 3) := by decide +kernel
theorem dX12_times_45 : decode cX12_times 45 = .ok (.ifCond .ne 15, 3) := by decide +kernel
theorem dX12_times_48 : decode cX12_times 48 = .ok (.iload 5, 2) := by decide +kernel
theorem dX12_times_50 : decode cX12_times 50 = .ok (.aload_n 0, 1) := by decide +kernel
theorem dX12_times_51 : decode cX12_times 51 = .ok (.invokevirtual 314, 3) := by decide +kernel
theorem dX12_times_54 : decode cX12_times 54 = .ok (.iadd, 1) := by decide +kernel
theorem dX12_times_55 : decode cX12_times 55 = .ok (.istore 5, 2) := by decide +kernel
theorem dX12_times_57 : decode cX12_times 57 = .ok (.goto (-16), 3) := by decide +kernel
theorem dX12_times_60 : decode cX12_times 60 = .ok (.iload_n 3, 1) := by decide +kernel
theorem dX12_times_61 : decode cX12_times 61 = .ok (.iload 5, 2) := by decide +kernel
theorem dX12_times_63 : decode cX12_times 63 = .ok (.iload_n 2, 1) := by decide +kernel
theorem dX12_times_64 : decode cX12_times 64 = .ok (.if_icmp .lt 7, 3) := by decide +kernel
theorem dX12_times_67 : decode cX12_times 67 = .ok (.iconst 1, 1) := by decide +kernel
theorem dX12_times_68 : decode cX12_times 68 = .ok (.goto 4, 3) := by decide +kernel
theorem dX12_times_71 : decode cX12_times 71 = .ok (.iconst 0, 1) := by decide +kernel
theorem dX12_times_72 : decode cX12_times 72 = .ok (.iadd, 1) := by decide +kernel
theorem dX12_times_73 : decode cX12_times 73 = .ok (.istore_n 3, 1) := by decide +kernel
theorem dX12_times_74 : decode cX12_times 74 = .ok (.aload_n 0, 1) := by decide +kernel
theorem dX12_times_75 : decode cX12_times 75 = .ok (.getfield 9, 3) := by decide +kernel
theorem dX12_times_78 : decode cX12_times 78 = .ok (.iconst 3, 1) := by decide +kernel
theorem dX12_times_79 : decode cX12_times 79 = .ok (.iaload, 1) := by decide +kernel
theorem dX12_times_80 : decode cX12_times 80 = .ok (.istore 6, 2) := by decide +kernel
theorem dX12_times_82 : decode cX12_times 82 = .ok (.aload_n 0, 1) := by decide +kernel
theorem dX12_times_83 : decode cX12_times 83 = .ok (.invokevirtual 247, 3) := by decide +kernel
theorem dX12_times_86 : decode cX12_times 86 = .ok (.aload_n 0, 1) := by decide +kernel
theorem dX12_times_87 : decode cX12_times 87 = .ok (.getfield 9, 3) := by decide +kernel
theorem dX12_times_90 : decode cX12_times 90 = .ok (.iconst 3, 1) := by decide +kernel
theorem dX12_times_91 : decode cX12_times 91 = .ok (.iload 6, 2) := by decide +kernel
theorem dX12_times_93 : decode cX12_times 93 = .ok (.iastore, 1) := by decide +kernel
theorem dX12_times_94 : decode cX12_times 94 = .ok (.iinc 4 1, 3) := by decide +kernel
theorem dX12_times_97 : decode cX12_times 97 = .ok (.goto (-65), 3) := by decide +kernel
theorem dX12_times_100 : decode cX12_times 100 = .ok (.aload_n 0, 1) := by decide +kernel
theorem dX12_times_101 : decode cX12_times 101 = .ok (.invokevirtual 247, 3) := by decide +kernel
theorem dX12_times_104 : decode cX12_times 104 = .ok (.iload_n 3, 1) := by decide +kernel
theorem dX12_times_105 : decode cX12_times 105 = .ok (.ireturn, 1) := by decide +kernel
theorem oX12_times_0 : oP MT mX12_times 0 (1, 1, 1, 0, []) := o_iload_n dX12_times_0 rfl
theorem oX12_times_1 : oP MT mX12_times 1 (0, 1, 0, 1, []) := o_iconst dX12_times_1 (by decide)
theorem oX12_times_2 : oP MT mX12_times 2 (0, 2, 0, 40, []) := o_bipush dX12_times_2 (by decide)
theorem oX12_times_4 : oP MT mX12_times 4 (25, 3, 127, 3, []) := o_callS dX12_times_4 (mj := mX12_in1) mt_X12_in1 cmq_X12_in1 wq_468 wq_470 (by decide) (by decide)
theorem oX12_times_7 : oP MT mX12_times 7 (10, 3, 0, 21, []) := o_if_eq dX12_times_7 (by decide) (by decide)
theorem oX12_times_10 : oP MT mX12_times 10 (1, 1, 2, 0, []) := o_iload_n dX12_times_10 rfl
theorem oX12_times_11 : oP MT mX12_times 11 (0, 1, 0, 0, []) := o_iconst dX12_times_11 (by decide)
theorem oX12_times_12 : oP MT mX12_times 12 (0, 3, 0, 999, []) := o_sipush dX12_times_12 (by decide)
theorem oX12_times_15 : oP MT mX12_times 15 (25, 3, 127, 3, []) := o_callS dX12_times_15 (mj := mX12_in1) mt_X12_in1 cmq_X12_in1 wq_468 wq_470 (by decide) (by decide)
theorem oX12_times_18 : oP MT mX12_times 18 (10, 3, 1, 23, []) := o_if_ne dX12_times_18 (by decide) (by decide)
theorem oX12_times_21 : oP MT mX12_times 21 (0, 1, 0, (-1), []) := o_iconst dX12_times_21 (by decide)
theorem oX12_times_22 : oP MT mX12_times 22 (21, 1, 0, 0, []) := o_iret dX12_times_22 rfl
theorem oX12_times_23 : oP MT mX12_times 23 (1, 1, 0, 1, []) := o_aload_n dX12_times_23 rfl
theorem oX12_times_24 : oP MT mX12_times 24 (26, 3, 0, 0, [(12, 152)]) := o_callO ((vA.cons (v_callV dX12_times_24 (ci := 12) rfl rfl (mj := mX12_layDown) mt_X12_layDown cmq_X12_layDown wq_569 wq_571 wq_572 (by decide) (by decide)) vA.nil))
theorem oX12_times_27 : oP MT mX12_times 27 (0, 1, 0, 0, []) := o_iconst dX12_times_27 (by decide)
theorem oX12_times_28 : oP MT mX12_times 28 (2, 1, 3, 0, []) := o_istore_n dX12_times_28 rfl (by decide)
theorem oX12_times_29 : oP MT mX12_times 29 (0, 1, 0, 0, []) := o_iconst dX12_times_29 (by decide)
theorem oX12_times_30 : oP MT mX12_times 30 (2, 2, 4, 0, []) := o_istore dX12_times_30 (by decide)
theorem oX12_times_32 : oP MT mX12_times 32 (1, 2, 4, 0, []) := o_iload dX12_times_32
theorem oX12_times_34 : oP MT mX12_times 34 (1, 1, 1, 0, []) := o_iload_n dX12_times_34 rfl
theorem oX12_times_35 : oP MT mX12_times 35 (11, 3, 3, 100, []) := o_icmp_ge dX12_times_35 (by decide) (by decide)
theorem oX12_times_38 : oP MT mX12_times 38 (0, 1, 0, 0, []) := o_iconst dX12_times_38 (by decide)
theorem oX12_times_39 : oP MT mX12_times 39 (2, 2, 5, 0, []) := o_istore dX12_times_39 (by decide)
theorem oX12_times_41 : oP MT mX12_times 41 (1, 1, 0, 1, []) := o_aload_n dX12_times_41 rfl
theorem oX12_times_42 : oP MT mX12_times 42 (26, 3, 0, 0, [(12, 150)]) := o_callO ((vA.cons (v_callV dX12_times_42 (ci := 12) rfl rfl (mj := mX12_isOver) mt_X12_isOver cmq_X12_isOver wq_557 wq_559 wq_560 (by decide) (by decide)) vA.nil))
theorem oX12_times_45 : oP MT mX12_times 45 (10, 3, 1, 60, []) := o_if_ne dX12_times_45 (by decide) (by decide)
theorem oX12_times_48 : oP MT mX12_times 48 (1, 2, 5, 0, []) := o_iload dX12_times_48
theorem oX12_times_50 : oP MT mX12_times 50 (1, 1, 0, 1, []) := o_aload_n dX12_times_50 rfl
theorem oX12_times_51 : oP MT mX12_times 51 (26, 3, 0, 0, [(12, 172)]) := o_callO ((vA.cons (v_callV dX12_times_51 (ci := 12) rfl rfl (mj := mX12_byLot) mt_X12_byLot cmq_X12_byLot wq_757 wq_759 wq_760 (by decide) (by decide)) vA.nil))
theorem oX12_times_54 : oP MT mX12_times 54 (4, 1, 0, 0, []) := o_iadd dX12_times_54
theorem oX12_times_55 : oP MT mX12_times 55 (2, 2, 5, 0, []) := o_istore dX12_times_55 (by decide)
theorem oX12_times_57 : oP MT mX12_times 57 (9, 3, 41, 0, []) := o_goto dX12_times_57 (by decide)
theorem oX12_times_60 : oP MT mX12_times 60 (1, 1, 3, 0, []) := o_iload_n dX12_times_60 rfl
theorem oX12_times_61 : oP MT mX12_times 61 (1, 2, 5, 0, []) := o_iload dX12_times_61
theorem oX12_times_63 : oP MT mX12_times 63 (1, 1, 2, 0, []) := o_iload_n dX12_times_63 rfl
theorem oX12_times_64 : oP MT mX12_times 64 (11, 3, 2, 71, []) := o_icmp_lt dX12_times_64 (by decide) (by decide)
theorem oX12_times_67 : oP MT mX12_times 67 (0, 1, 0, 1, []) := o_iconst dX12_times_67 (by decide)
theorem oX12_times_68 : oP MT mX12_times 68 (9, 3, 72, 0, []) := o_goto dX12_times_68 (by decide)
theorem oX12_times_71 : oP MT mX12_times 71 (0, 1, 0, 0, []) := o_iconst dX12_times_71 (by decide)
theorem oX12_times_72 : oP MT mX12_times 72 (4, 1, 0, 0, []) := o_iadd dX12_times_72
theorem oX12_times_73 : oP MT mX12_times 73 (2, 1, 3, 0, []) := o_istore_n dX12_times_73 rfl (by decide)
theorem oX12_times_74 : oP MT mX12_times 74 (1, 1, 0, 1, []) := o_aload_n dX12_times_74 rfl
theorem oX12_times_75 : oP MT mX12_times 75 (13, 3, 0, 12, []) := o_getR (M := mX12_times) (C := RX12) (T := TX12) (ci := 12) (j := 0) (z := 12) dX12_times_75 rfl lq_RX12_9 rfl rfl
theorem oX12_times_78 : oP MT mX12_times 78 (0, 1, 0, 3, []) := o_iconst dX12_times_78 (by decide)
theorem oX12_times_79 : oP MT mX12_times 79 (16, 1, 1, 0, []) := o_iaload dX12_times_79
theorem oX12_times_80 : oP MT mX12_times 80 (2, 2, 6, 0, []) := o_istore dX12_times_80 (by decide)
theorem oX12_times_82 : oP MT mX12_times 82 (1, 1, 0, 1, []) := o_aload_n dX12_times_82 rfl
theorem oX12_times_83 : oP MT mX12_times 83 (26, 3, 0, 0, [(12, 154)]) := o_callO ((vA.cons (v_callV dX12_times_83 (ci := 12) rfl rfl (mj := mX12_layBack) mt_X12_layBack cmq_X12_layBack wq_577 wq_579 wq_580 (by decide) (by decide)) vA.nil))
theorem oX12_times_86 : oP MT mX12_times 86 (1, 1, 0, 1, []) := o_aload_n dX12_times_86 rfl
theorem oX12_times_87 : oP MT mX12_times 87 (13, 3, 0, 12, []) := o_getR (M := mX12_times) (C := RX12) (T := TX12) (ci := 12) (j := 0) (z := 12) dX12_times_87 rfl lq_RX12_9 rfl rfl
theorem oX12_times_90 : oP MT mX12_times 90 (0, 1, 0, 3, []) := o_iconst dX12_times_90 (by decide)
theorem oX12_times_91 : oP MT mX12_times 91 (1, 2, 6, 0, []) := o_iload dX12_times_91
theorem oX12_times_93 : oP MT mX12_times 93 (18, 1, 0, 0, []) := o_iastore dX12_times_93
theorem oX12_times_94 : oP MT mX12_times 94 (3, 3, 4, 1, []) := o_iinc dX12_times_94 (by decide) (by decide)
theorem oX12_times_97 : oP MT mX12_times 97 (9, 3, 32, 0, []) := o_goto dX12_times_97 (by decide)
theorem oX12_times_100 : oP MT mX12_times 100 (1, 1, 0, 1, []) := o_aload_n dX12_times_100 rfl
theorem oX12_times_101 : oP MT mX12_times 101 (26, 3, 0, 0, [(12, 154)]) := o_callO ((vA.cons (v_callV dX12_times_101 (ci := 12) rfl rfl (mj := mX12_layBack) mt_X12_layBack cmq_X12_layBack wq_577 wq_579 wq_580 (by decide) (by decide)) vA.nil))
theorem oX12_times_104 : oP MT mX12_times 104 (1, 1, 3, 0, []) := o_iload_n dX12_times_104 rfl
theorem oX12_times_105 : oP MT mX12_times 105 (21, 1, 0, 0, []) := o_iret dX12_times_105 rfl
def ops_X12_times : List (Nat × aO) := [(0, (1, 1, 1, 0, [])), (1, (0, 1, 0, 1, [])), (2, (0, 2, 0, 40, [])), (4, (25, 3, 127, 3, [])), (7, (10, 3, 0, 21, [])), (10, (1, 1, 2, 0, [])), (11, (0, 1, 0, 0, [])), (12, (0, 3, 0, 999, [])), (15, (25, 3, 127, 3, [])), (18, (10, 3, 1, 23, [])), (21, (0, 1, 0, (-1), [])), (22, (21, 1, 0, 0, [])), (23, (1, 1, 0, 1, [])), (24, (26, 3, 0, 0, [(12, 152)])), (27, (0, 1, 0, 0, [])), (28, (2, 1, 3, 0, [])), (29, (0, 1, 0, 0, [])), (30, (2, 2, 4, 0, [])), (32, (1, 2, 4, 0, [])), (34, (1, 1, 1, 0, [])), (35, (11, 3, 3, 100, [])), (38, (0, 1, 0, 0, [])), (39, (2, 2, 5, 0, [])), (41, (1, 1, 0, 1, [])), (42, (26, 3, 0, 0, [(12, 150)])), (45, (10, 3, 1, 60, [])), (48, (1, 2, 5, 0, [])), (50, (1, 1, 0, 1, [])), (51, (26, 3, 0, 0, [(12, 172)])), (54, (4, 1, 0, 0, [])), (55, (2, 2, 5, 0, [])), (57, (9, 3, 41, 0, [])), (60, (1, 1, 3, 0, [])), (61, (1, 2, 5, 0, [])), (63, (1, 1, 2, 0, [])), (64, (11, 3, 2, 71, [])), (67, (0, 1, 0, 1, [])), (68, (9, 3, 72, 0, [])), (71, (0, 1, 0, 0, [])), (72, (4, 1, 0, 0, [])), (73, (2, 1, 3, 0, [])), (74, (1, 1, 0, 1, [])), (75, (13, 3, 0, 12, [])), (78, (0, 1, 0, 3, [])), (79, (16, 1, 1, 0, [])), (80, (2, 2, 6, 0, [])), (82, (1, 1, 0, 1, [])), (83, (26, 3, 0, 0, [(12, 154)])), (86, (1, 1, 0, 1, [])), (87, (13, 3, 0, 12, [])), (90, (0, 1, 0, 3, [])), (91, (1, 2, 6, 0, [])), (93, (18, 1, 0, 0, [])), (94, (3, 3, 4, 1, [])), (97, (9, 3, 32, 0, [])), (100, (1, 1, 0, 1, [])), (101, (26, 3, 0, 0, [(12, 154)])), (104, (1, 1, 3, 0, [])), (105, (21, 1, 0, 0, []))]
theorem os_X12_times : oA MT mX12_times ops_X12_times := (oA.cons oX12_times_0 (oA.cons oX12_times_1 (oA.cons oX12_times_2 (oA.cons oX12_times_4 (oA.cons oX12_times_7 (oA.cons oX12_times_10 (oA.cons oX12_times_11 (oA.cons oX12_times_12 (oA.cons oX12_times_15 (oA.cons oX12_times_18 (oA.cons oX12_times_21 (oA.cons oX12_times_22 (oA.cons oX12_times_23 (oA.cons oX12_times_24 (oA.cons oX12_times_27 (oA.cons oX12_times_28 (oA.cons oX12_times_29 (oA.cons oX12_times_30 (oA.cons oX12_times_32 (oA.cons oX12_times_34 (oA.cons oX12_times_35 (oA.cons oX12_times_38 (oA.cons oX12_times_39 (oA.cons oX12_times_41 (oA.cons oX12_times_42 (oA.cons oX12_times_45 (oA.cons oX12_times_48 (oA.cons oX12_times_50 (oA.cons oX12_times_51 (oA.cons oX12_times_54 (oA.cons oX12_times_55 (oA.cons oX12_times_57 (oA.cons oX12_times_60 (oA.cons oX12_times_61 (oA.cons oX12_times_63 (oA.cons oX12_times_64 (oA.cons oX12_times_67 (oA.cons oX12_times_68 (oA.cons oX12_times_71 (oA.cons oX12_times_72 (oA.cons oX12_times_73 (oA.cons oX12_times_74 (oA.cons oX12_times_75 (oA.cons oX12_times_78 (oA.cons oX12_times_79 (oA.cons oX12_times_80 (oA.cons oX12_times_82 (oA.cons oX12_times_83 (oA.cons oX12_times_86 (oA.cons oX12_times_87 (oA.cons oX12_times_90 (oA.cons oX12_times_91 (oA.cons oX12_times_93 (oA.cons oX12_times_94 (oA.cons oX12_times_97 (oA.cons oX12_times_100 (oA.cons oX12_times_101 (oA.cons oX12_times_104 (oA.cons oX12_times_105 oA.nil)))))))))))))))))))))))))))))))))))))))))))))))))))))))))))
theorem dX12_prove_0 : decode cX12_prove 0 = .ok (.iload_n 1, 1) := by decide +kernel
theorem dX12_prove_1 : decode cX12_prove 1 = .ok (.invokestatic 288, 3) := by decide +kernel
theorem dX12_prove_4 : decode cX12_prove 4 = .ok (.ifCond .ne 5, 3) := by decide +kernel
theorem dX12_prove_7 : decode cX12_prove 7 = .ok (.iconst (-1), 1) := by decide +kernel
theorem dX12_prove_8 : decode cX12_prove 8 = .ok (.ireturn, 1) := by decide +kernel
theorem dX12_prove_9 : decode cX12_prove 9 = .ok (.aload_n 0, 1) := by decide +kernel
theorem dX12_prove_10 : decode cX12_prove 10 = .ok (.iload_n 1, 1) := by decide +kernel
theorem dX12_prove_11 : decode cX12_prove 11 = .ok (.iconst 0, 1) := by decide +kernel
theorem dX12_prove_12 : decode cX12_prove 12 = .ok (.invokevirtual 291, 3) := by decide +kernel
theorem dX12_prove_15 : decode cX12_prove 15 = .ok (.aload_n 0, 1) := by decide +kernel
theorem dX12_prove_16 : decode cX12_prove 16 = .ok (.aload_n 0, 1) := by decide +kernel
theorem dX12_prove_17 : decode cX12_prove 17 = .ok (.iload_n 1, 1) := by decide +kernel
theorem dX12_prove_18 : decode cX12_prove 18 = .ok (.invokevirtual 285, 3) := by decide +kernel
theorem dX12_prove_21 : decode cX12_prove 21 = .ok (.putfield 317, 3) := by decide +kernel
theorem dX12_prove_24 : decode cX12_prove 24 = .ok (.aload_n 0, 1) := by decide +kernel
theorem dX12_prove_25 : decode cX12_prove 25 = .ok (.invokevirtual 241, 3) := by decide +kernel
theorem dX12_prove_28 : decode cX12_prove 28 = .ok (.iconst 0, 1) := by decide +kernel
theorem dX12_prove_29 : decode cX12_prove 29 = .ok (.istore_n 2, 1) := by decide +kernel
theorem dX12_prove_30 : decode cX12_prove 30 = .ok (.iload_n 2, 1) := by decide +kernel
theorem dX12_prove_31 : decode cX12_prove 31 = .ok (.aload_n 0, 1) := by decide +kernel
theorem dX12_prove_32 : decode cX12_prove 32 = .ok (.getfield 317, 3) := by decide +kernel
theorem dX12_prove_35 : decode cX12_prove 35 = .ok (.if_icmp .ge 58, 3) := by decide +kernel
theorem dX12_prove_38 : decode cX12_prove 38 = .ok (.aload_n 0, 1) := by decide +kernel
theorem dX12_prove_39 : decode cX12_prove 39 = .ok (.getfield 50, 3) := by decide +kernel
theorem dX12_prove_42 : decode cX12_prove 42 = .ok (.iconst 3, 1) := by decide +kernel
theorem dX12_prove_43 : decode cX12_prove 43 = .ok (.iload_n 2, 1) := by decide +kernel
theorem dX12_prove_44 : decode cX12_prove 44 = .ok (.imul, 1) := by decide +kernel
theorem dX12_prove_45 : decode cX12_prove 45 = .ok (.aload_n 0, 1) := by decide +kernel
theorem dX12_prove_46 : decode cX12_prove 46 = .ok (.getfield 41, 3) := by decide +kernel
theorem dX12_prove_49 : decode cX12_prove 49 = .ok (.iload_n 2, 1) := by decide +kernel
theorem dX12_prove_50 : decode cX12_prove 50 = .ok (.iaload, 1) := by decide +kernel
theorem dX12_prove_51 : decode cX12_prove 51 = .ok (.iastore, 1) := by decide +kernel
theorem dX12_prove_52 : decode cX12_prove 52 = .ok (.aload_n 0, 1) := by decide +kernel
theorem dX12_prove_53 : decode cX12_prove 53 = .ok (.getfield 50, 3) := by decide +kernel
theorem dX12_prove_56 : decode cX12_prove 56 = .ok (.iconst 3, 1) := by decide +kernel
theorem dX12_prove_57 : decode cX12_prove 57 = .ok (.iload_n 2, 1) := by decide +kernel
theorem dX12_prove_58 : decode cX12_prove 58 = .ok (.imul, 1) := by decide +kernel
theorem dX12_prove_59 : decode cX12_prove 59 = .ok (.iconst 1, 1) := by decide +kernel
theorem dX12_prove_60 : decode cX12_prove 60 = .ok (.iadd, 1) := by decide +kernel
theorem dX12_prove_61 : decode cX12_prove 61 = .ok (.aload_n 0, 1) := by decide +kernel
theorem dX12_prove_62 : decode cX12_prove 62 = .ok (.aload_n 0, 1) := by decide +kernel
theorem dX12_prove_63 : decode cX12_prove 63 = .ok (.getfield 41, 3) := by decide +kernel
theorem dX12_prove_66 : decode cX12_prove 66 = .ok (.iload_n 2, 1) := by decide +kernel
theorem dX12_prove_67 : decode cX12_prove 67 = .ok (.iaload, 1) := by decide +kernel
theorem dX12_prove_68 : decode cX12_prove 68 = .ok (.invokevirtual 238, 3) := by decide +kernel
theorem dX12_prove_71 : decode cX12_prove 71 = .ok (.iastore, 1) := by decide +kernel
theorem dX12_prove_72 : decode cX12_prove 72 = .ok (.aload_n 0, 1) := by decide +kernel
theorem dX12_prove_73 : decode cX12_prove 73 = .ok (.getfield 50, 3) := by decide +kernel
theorem dX12_prove_76 : decode cX12_prove 76 = .ok (.iconst 3, 1) := by decide +kernel
theorem dX12_prove_77 : decode cX12_prove 77 = .ok (.iload_n 2, 1) := by decide +kernel
theorem dX12_prove_78 : decode cX12_prove 78 = .ok (.imul, 1) := by decide +kernel
theorem dX12_prove_79 : decode cX12_prove 79 = .ok (.iconst 2, 1) := by decide +kernel
theorem dX12_prove_80 : decode cX12_prove 80 = .ok (.iadd, 1) := by decide +kernel
theorem dX12_prove_81 : decode cX12_prove 81 = .ok (.aload_n 0, 1) := by decide +kernel
theorem dX12_prove_82 : decode cX12_prove 82 = .ok (.iconst 4, 1) := by decide +kernel
theorem dX12_prove_83 : decode cX12_prove 83 = .ok (.invokevirtual 232, 3) := by decide +kernel
theorem dX12_prove_86 : decode cX12_prove 86 = .ok (.iastore, 1) := by decide +kernel
theorem dX12_prove_87 : decode cX12_prove 87 = .ok (.iinc 2 1, 3) := by decide +kernel
theorem dX12_prove_90 : decode cX12_prove 90 = .ok (.goto (-60), 3) := by decide +kernel
theorem dX12_prove_93 : decode cX12_prove 93 = .ok (.aload_n 0, 1) := by decide +kernel
theorem dX12_prove_94 : decode cX12_prove 94 = .ok (.invokevirtual 247, 3) := by decide +kernel
theorem dX12_prove_97 : decode cX12_prove 97 = .ok (.aload_n 0, 1) := by decide +kernel
theorem dX12_prove_98 : decode cX12_prove 98 = .ok (.getfield 317, 3) := by decide +kernel
theorem dX12_prove_101 : decode cX12_prove 101 = .ok (.ireturn, 1) := by decide +kernel
theorem oX12_prove_0 : oP MT mX12_prove 0 (1, 1, 1, 0, []) := o_iload_n dX12_prove_0 rfl
theorem oX12_prove_1 : oP MT mX12_prove 1 (25, 3, 165, 1, []) := o_callS dX12_prove_1 (mj := mX12_isPlan) mt_X12_isPlan cmq_X12_isPlan wq_719 wq_721 (by decide) (by decide)
theorem oX12_prove_4 : oP MT mX12_prove 4 (10, 3, 1, 9, []) := o_if_ne dX12_prove_4 (by decide) (by decide)
theorem oX12_prove_7 : oP MT mX12_prove 7 (0, 1, 0, (-1), []) := o_iconst dX12_prove_7 (by decide)
theorem oX12_prove_8 : oP MT mX12_prove 8 (21, 1, 0, 0, []) := o_iret dX12_prove_8 rfl
theorem oX12_prove_9 : oP MT mX12_prove 9 (1, 1, 0, 1, []) := o_aload_n dX12_prove_9 rfl
theorem oX12_prove_10 : oP MT mX12_prove 10 (1, 1, 1, 0, []) := o_iload_n dX12_prove_10 rfl
theorem oX12_prove_11 : oP MT mX12_prove 11 (0, 1, 0, 0, []) := o_iconst dX12_prove_11 (by decide)
theorem oX12_prove_12 : oP MT mX12_prove 12 (26, 3, 0, 2, [(12, 166)]) := o_callO ((vA.cons (v_callV dX12_prove_12 (ci := 12) rfl rfl (mj := mX12_triesAll) mt_X12_triesAll cmq_X12_triesAll wq_722 wq_724 wq_725 (by decide) (by decide)) vA.nil))
theorem oX12_prove_15 : oP MT mX12_prove 15 (1, 1, 0, 1, []) := o_aload_n dX12_prove_15 rfl
theorem oX12_prove_16 : oP MT mX12_prove 16 (1, 1, 0, 1, []) := o_aload_n dX12_prove_16 rfl
theorem oX12_prove_17 : oP MT mX12_prove 17 (1, 1, 1, 0, []) := o_iload_n dX12_prove_17 rfl
theorem oX12_prove_18 : oP MT mX12_prove 18 (26, 3, 0, 1, [(12, 163)]) := o_callO ((vA.cons (v_callV dX12_prove_18 (ci := 12) rfl rfl (mj := mX12_daysOf) mt_X12_daysOf cmq_X12_daysOf wq_605 wq_607 wq_608 (by decide) (by decide)) vA.nil))
theorem oX12_prove_21 : oP MT mX12_prove 21 (14, 3, 27, 12, []) := o_putI (M := mX12_prove) (C := RX12) (T := TX12) (ci := 12) (j := 27) (z := 12) dX12_prove_21 rfl lq_RX12_317 rfl rfl rfl rfl
theorem oX12_prove_24 : oP MT mX12_prove 24 (1, 1, 0, 1, []) := o_aload_n dX12_prove_24 rfl
theorem oX12_prove_25 : oP MT mX12_prove 25 (26, 3, 0, 0, [(12, 152)]) := o_callO ((vA.cons (v_callV dX12_prove_25 (ci := 12) rfl rfl (mj := mX12_layDown) mt_X12_layDown cmq_X12_layDown wq_569 wq_571 wq_572 (by decide) (by decide)) vA.nil))
theorem oX12_prove_28 : oP MT mX12_prove 28 (0, 1, 0, 0, []) := o_iconst dX12_prove_28 (by decide)
theorem oX12_prove_29 : oP MT mX12_prove 29 (2, 1, 2, 0, []) := o_istore_n dX12_prove_29 rfl (by decide)
theorem oX12_prove_30 : oP MT mX12_prove 30 (1, 1, 2, 0, []) := o_iload_n dX12_prove_30 rfl
theorem oX12_prove_31 : oP MT mX12_prove 31 (1, 1, 0, 1, []) := o_aload_n dX12_prove_31 rfl
theorem oX12_prove_32 : oP MT mX12_prove 32 (12, 3, 27, 12, []) := o_getI (M := mX12_prove) (C := RX12) (T := TX12) (ci := 12) (j := 27) (z := 12) dX12_prove_32 rfl lq_RX12_317 rfl rfl
theorem oX12_prove_35 : oP MT mX12_prove 35 (11, 3, 3, 93, []) := o_icmp_ge dX12_prove_35 (by decide) (by decide)
theorem oX12_prove_38 : oP MT mX12_prove 38 (1, 1, 0, 1, []) := o_aload_n dX12_prove_38 rfl
theorem oX12_prove_39 : oP MT mX12_prove 39 (13, 3, 26, 12, []) := o_getR (M := mX12_prove) (C := RX12) (T := TX12) (ci := 12) (j := 26) (z := 12) dX12_prove_39 rfl lq_RX12_50 rfl rfl
theorem oX12_prove_42 : oP MT mX12_prove 42 (0, 1, 0, 3, []) := o_iconst dX12_prove_42 (by decide)
theorem oX12_prove_43 : oP MT mX12_prove 43 (1, 1, 2, 0, []) := o_iload_n dX12_prove_43 rfl
theorem oX12_prove_44 : oP MT mX12_prove 44 (4, 1, 2, 0, []) := o_imul dX12_prove_44
theorem oX12_prove_45 : oP MT mX12_prove 45 (1, 1, 0, 1, []) := o_aload_n dX12_prove_45 rfl
theorem oX12_prove_46 : oP MT mX12_prove 46 (13, 3, 18, 12, []) := o_getR (M := mX12_prove) (C := RX12) (T := TX12) (ci := 12) (j := 18) (z := 12) dX12_prove_46 rfl lq_RX12_41 rfl rfl
theorem oX12_prove_49 : oP MT mX12_prove 49 (1, 1, 2, 0, []) := o_iload_n dX12_prove_49 rfl
theorem oX12_prove_50 : oP MT mX12_prove 50 (16, 1, 1, 0, []) := o_iaload dX12_prove_50
theorem oX12_prove_51 : oP MT mX12_prove 51 (18, 1, 0, 0, []) := o_iastore dX12_prove_51
theorem oX12_prove_52 : oP MT mX12_prove 52 (1, 1, 0, 1, []) := o_aload_n dX12_prove_52 rfl
theorem oX12_prove_53 : oP MT mX12_prove 53 (13, 3, 26, 12, []) := o_getR (M := mX12_prove) (C := RX12) (T := TX12) (ci := 12) (j := 26) (z := 12) dX12_prove_53 rfl lq_RX12_50 rfl rfl
theorem oX12_prove_56 : oP MT mX12_prove 56 (0, 1, 0, 3, []) := o_iconst dX12_prove_56 (by decide)
theorem oX12_prove_57 : oP MT mX12_prove 57 (1, 1, 2, 0, []) := o_iload_n dX12_prove_57 rfl
theorem oX12_prove_58 : oP MT mX12_prove 58 (4, 1, 2, 0, []) := o_imul dX12_prove_58
theorem oX12_prove_59 : oP MT mX12_prove 59 (0, 1, 0, 1, []) := o_iconst dX12_prove_59 (by decide)
theorem oX12_prove_60 : oP MT mX12_prove 60 (4, 1, 0, 0, []) := o_iadd dX12_prove_60
theorem oX12_prove_61 : oP MT mX12_prove 61 (1, 1, 0, 1, []) := o_aload_n dX12_prove_61 rfl
theorem oX12_prove_62 : oP MT mX12_prove 62 (1, 1, 0, 1, []) := o_aload_n dX12_prove_62 rfl
theorem oX12_prove_63 : oP MT mX12_prove 63 (13, 3, 18, 12, []) := o_getR (M := mX12_prove) (C := RX12) (T := TX12) (ci := 12) (j := 18) (z := 12) dX12_prove_63 rfl lq_RX12_41 rfl rfl
theorem oX12_prove_66 : oP MT mX12_prove 66 (1, 1, 2, 0, []) := o_iload_n dX12_prove_66 rfl
theorem oX12_prove_67 : oP MT mX12_prove 67 (16, 1, 1, 0, []) := o_iaload dX12_prove_67
theorem oX12_prove_68 : oP MT mX12_prove 68 (26, 3, 0, 1, [(12, 151)]) := o_callO ((vA.cons (v_callV dX12_prove_68 (ci := 12) rfl rfl (mj := mX12_goesBy) mt_X12_goesBy cmq_X12_goesBy wq_561 wq_563 wq_564 (by decide) (by decide)) vA.nil))
theorem oX12_prove_71 : oP MT mX12_prove 71 (18, 1, 0, 0, []) := o_iastore dX12_prove_71
theorem oX12_prove_72 : oP MT mX12_prove 72 (1, 1, 0, 1, []) := o_aload_n dX12_prove_72 rfl
theorem oX12_prove_73 : oP MT mX12_prove 73 (13, 3, 26, 12, []) := o_getR (M := mX12_prove) (C := RX12) (T := TX12) (ci := 12) (j := 26) (z := 12) dX12_prove_73 rfl lq_RX12_50 rfl rfl
theorem oX12_prove_76 : oP MT mX12_prove 76 (0, 1, 0, 3, []) := o_iconst dX12_prove_76 (by decide)
theorem oX12_prove_77 : oP MT mX12_prove 77 (1, 1, 2, 0, []) := o_iload_n dX12_prove_77 rfl
theorem oX12_prove_78 : oP MT mX12_prove 78 (4, 1, 2, 0, []) := o_imul dX12_prove_78
theorem oX12_prove_79 : oP MT mX12_prove 79 (0, 1, 0, 2, []) := o_iconst dX12_prove_79 (by decide)
theorem oX12_prove_80 : oP MT mX12_prove 80 (4, 1, 0, 0, []) := o_iadd dX12_prove_80
theorem oX12_prove_81 : oP MT mX12_prove 81 (1, 1, 0, 1, []) := o_aload_n dX12_prove_81 rfl
theorem oX12_prove_82 : oP MT mX12_prove 82 (0, 1, 0, 4, []) := o_iconst dX12_prove_82 (by decide)
theorem oX12_prove_83 : oP MT mX12_prove 83 (26, 3, 0, 1, [(12, 157)]) := o_callO ((vA.cons (v_callV dX12_prove_83 (ci := 12) rfl rfl (mj := mX12_those) mt_X12_those cmq_X12_those wq_585 wq_587 wq_588 (by decide) (by decide)) vA.nil))
theorem oX12_prove_86 : oP MT mX12_prove 86 (18, 1, 0, 0, []) := o_iastore dX12_prove_86
theorem oX12_prove_87 : oP MT mX12_prove 87 (3, 3, 2, 1, []) := o_iinc dX12_prove_87 (by decide) (by decide)
theorem oX12_prove_90 : oP MT mX12_prove 90 (9, 3, 30, 0, []) := o_goto dX12_prove_90 (by decide)
theorem oX12_prove_93 : oP MT mX12_prove 93 (1, 1, 0, 1, []) := o_aload_n dX12_prove_93 rfl
theorem oX12_prove_94 : oP MT mX12_prove 94 (26, 3, 0, 0, [(12, 154)]) := o_callO ((vA.cons (v_callV dX12_prove_94 (ci := 12) rfl rfl (mj := mX12_layBack) mt_X12_layBack cmq_X12_layBack wq_577 wq_579 wq_580 (by decide) (by decide)) vA.nil))
theorem oX12_prove_97 : oP MT mX12_prove 97 (1, 1, 0, 1, []) := o_aload_n dX12_prove_97 rfl
theorem oX12_prove_98 : oP MT mX12_prove 98 (12, 3, 27, 12, []) := o_getI (M := mX12_prove) (C := RX12) (T := TX12) (ci := 12) (j := 27) (z := 12) dX12_prove_98 rfl lq_RX12_317 rfl rfl
theorem oX12_prove_101 : oP MT mX12_prove 101 (21, 1, 0, 0, []) := o_iret dX12_prove_101 rfl
def ops_X12_prove : List (Nat × aO) := [(0, (1, 1, 1, 0, [])), (1, (25, 3, 165, 1, [])), (4, (10, 3, 1, 9, [])), (7, (0, 1, 0, (-1), [])), (8, (21, 1, 0, 0, [])), (9, (1, 1, 0, 1, [])), (10, (1, 1, 1, 0, [])), (11, (0, 1, 0, 0, [])), (12, (26, 3, 0, 2, [(12, 166)])), (15, (1, 1, 0, 1, [])), (16, (1, 1, 0, 1, [])), (17, (1, 1, 1, 0, [])), (18, (26, 3, 0, 1, [(12, 163)])), (21, (14, 3, 27, 12, [])), (24, (1, 1, 0, 1, [])), (25, (26, 3, 0, 0, [(12, 152)])), (28, (0, 1, 0, 0, [])), (29, (2, 1, 2, 0, [])), (30, (1, 1, 2, 0, [])), (31, (1, 1, 0, 1, [])), (32, (12, 3, 27, 12, [])), (35, (11, 3, 3, 93, [])), (38, (1, 1, 0, 1, [])), (39, (13, 3, 26, 12, [])), (42, (0, 1, 0, 3, [])), (43, (1, 1, 2, 0, [])), (44, (4, 1, 2, 0, [])), (45, (1, 1, 0, 1, [])), (46, (13, 3, 18, 12, [])), (49, (1, 1, 2, 0, [])), (50, (16, 1, 1, 0, [])), (51, (18, 1, 0, 0, [])), (52, (1, 1, 0, 1, [])), (53, (13, 3, 26, 12, [])), (56, (0, 1, 0, 3, [])), (57, (1, 1, 2, 0, [])), (58, (4, 1, 2, 0, [])), (59, (0, 1, 0, 1, [])), (60, (4, 1, 0, 0, [])), (61, (1, 1, 0, 1, [])), (62, (1, 1, 0, 1, [])), (63, (13, 3, 18, 12, [])), (66, (1, 1, 2, 0, [])), (67, (16, 1, 1, 0, [])), (68, (26, 3, 0, 1, [(12, 151)])), (71, (18, 1, 0, 0, [])), (72, (1, 1, 0, 1, [])), (73, (13, 3, 26, 12, [])), (76, (0, 1, 0, 3, [])), (77, (1, 1, 2, 0, [])), (78, (4, 1, 2, 0, [])), (79, (0, 1, 0, 2, [])), (80, (4, 1, 0, 0, [])), (81, (1, 1, 0, 1, [])), (82, (0, 1, 0, 4, [])), (83, (26, 3, 0, 1, [(12, 157)])), (86, (18, 1, 0, 0, [])), (87, (3, 3, 2, 1, [])), (90, (9, 3, 30, 0, [])), (93, (1, 1, 0, 1, [])), (94, (26, 3, 0, 0, [(12, 154)])), (97, (1, 1, 0, 1, [])), (98, (12, 3, 27, 12, [])), (101, (21, 1, 0, 0, []))]
theorem os_X12_prove : oA MT mX12_prove ops_X12_prove := (oA.cons oX12_prove_0 (oA.cons oX12_prove_1 (oA.cons oX12_prove_4 (oA.cons oX12_prove_7 (oA.cons oX12_prove_8 (oA.cons oX12_prove_9 (oA.cons oX12_prove_10 (oA.cons oX12_prove_11 (oA.cons oX12_prove_12 (oA.cons oX12_prove_15 (oA.cons oX12_prove_16 (oA.cons oX12_prove_17 (oA.cons oX12_prove_18 (oA.cons oX12_prove_21 (oA.cons oX12_prove_24 (oA.cons oX12_prove_25 (oA.cons oX12_prove_28 (oA.cons oX12_prove_29 (oA.cons oX12_prove_30 (oA.cons oX12_prove_31 (oA.cons oX12_prove_32 (oA.cons oX12_prove_35 (oA.cons oX12_prove_38 (oA.cons oX12_prove_39 (oA.cons oX12_prove_42 (oA.cons oX12_prove_43 (oA.cons oX12_prove_44 (oA.cons oX12_prove_45 (oA.cons oX12_prove_46 (oA.cons oX12_prove_49 (oA.cons oX12_prove_50 (oA.cons oX12_prove_51 (oA.cons oX12_prove_52 (oA.cons oX12_prove_53 (oA.cons oX12_prove_56 (oA.cons oX12_prove_57 (oA.cons oX12_prove_58 (oA.cons oX12_prove_59 (oA.cons oX12_prove_60 (oA.cons oX12_prove_61 (oA.cons oX12_prove_62 (oA.cons oX12_prove_63 (oA.cons oX12_prove_66 (oA.cons oX12_prove_67 (oA.cons oX12_prove_68 (oA.cons oX12_prove_71 (oA.cons oX12_prove_72 (oA.cons oX12_prove_73 (oA.cons oX12_prove_76 (oA.cons oX12_prove_77 (oA.cons oX12_prove_78 (oA.cons oX12_prove_79 (oA.cons oX12_prove_80 (oA.cons oX12_prove_81 (oA.cons oX12_prove_82 (oA.cons oX12_prove_83 (oA.cons oX12_prove_86 (oA.cons oX12_prove_87 (oA.cons oX12_prove_90 (oA.cons oX12_prove_93 (oA.cons oX12_prove_94 (oA.cons oX12_prove_97 (oA.cons oX12_prove_98 (oA.cons oX12_prove_101 oA.nil))))))))))))))))))))))))))))))))))))))))))))))))))))))))))))))))
theorem dX12_row_0 : decode cX12_row 0 = .ok (.aload_n 0, 1) := by decide +kernel
theorem dX12_row_1 : decode cX12_row 1 = .ok (.iload_n 1, 1) := by decide +kernel
theorem dX12_row_2 : decode cX12_row 2 = .ok (.iload_n 2, 1) := by decide +kernel
theorem dX12_row_3 : decode cX12_row 3 = .ok (.invokevirtual 320, 3) := by decide +kernel
theorem dX12_row_6 : decode cX12_row 6 = .ok (.ifCond .eq 16, 3) := by decide +kernel
theorem dX12_row_9 : decode cX12_row 9 = .ok (.aload_n 0, 1) := by decide +kernel
theorem dX12_row_10 : decode cX12_row 10 = .ok (.getfield 50, 3) := by decide +kernel
theorem dX12_row_13 : decode cX12_row 13 = .ok (.iconst 3, 1) := by decide +kernel
theorem dX12_row_14 : decode cX12_row 14 = .ok (.iload_n 1, 1) := by decide +kernel
theorem dX12_row_15 : decode cX12_row 15 = .ok (.imul, 1) := by decide +kernel
theorem dX12_row_16 : decode cX12_row 16 = .ok (.iload_n 2, 1) := by decide +kernel
theorem dX12_row_17 : decode cX12_row 17 = .ok (.iadd, 1) := by decide +kernel
theorem dX12_row_18 : decode cX12_row 18 = .ok (.iaload, 1) := by decide +kernel
theorem dX12_row_19 : decode cX12_row 19 = .ok (.goto 5, 3) := by decide +kernel
theorem dX12_row_22 : decode cX12_row 22 = .ok (.bipush (-9), 2) := by decide +kernel
theorem dX12_row_24 : decode cX12_row 24 = .ok (.ireturn, 1) := by decide +kernel
theorem oX12_row_0 : oP MT mX12_row 0 (1, 1, 0, 1, []) := o_aload_n dX12_row_0 rfl
theorem oX12_row_1 : oP MT mX12_row 1 (1, 1, 1, 0, []) := o_iload_n dX12_row_1 rfl
theorem oX12_row_2 : oP MT mX12_row 2 (1, 1, 2, 0, []) := o_iload_n dX12_row_2 rfl
theorem oX12_row_3 : oP MT mX12_row 3 (26, 3, 0, 2, [(12, 264)]) := o_callO ((vA.cons (v_callV dX12_row_3 (ci := 12) rfl rfl (mj := mX12_isRow) mt_X12_isRow cmq_X12_isRow wq_769 wq_771 wq_772 (by decide) (by decide)) vA.nil))
theorem oX12_row_6 : oP MT mX12_row 6 (10, 3, 0, 22, []) := o_if_eq dX12_row_6 (by decide) (by decide)
theorem oX12_row_9 : oP MT mX12_row 9 (1, 1, 0, 1, []) := o_aload_n dX12_row_9 rfl
theorem oX12_row_10 : oP MT mX12_row 10 (13, 3, 26, 12, []) := o_getR (M := mX12_row) (C := RX12) (T := TX12) (ci := 12) (j := 26) (z := 12) dX12_row_10 rfl lq_RX12_50 rfl rfl
theorem oX12_row_13 : oP MT mX12_row 13 (0, 1, 0, 3, []) := o_iconst dX12_row_13 (by decide)
theorem oX12_row_14 : oP MT mX12_row 14 (1, 1, 1, 0, []) := o_iload_n dX12_row_14 rfl
theorem oX12_row_15 : oP MT mX12_row 15 (4, 1, 2, 0, []) := o_imul dX12_row_15
theorem oX12_row_16 : oP MT mX12_row 16 (1, 1, 2, 0, []) := o_iload_n dX12_row_16 rfl
theorem oX12_row_17 : oP MT mX12_row 17 (4, 1, 0, 0, []) := o_iadd dX12_row_17
theorem oX12_row_18 : oP MT mX12_row 18 (16, 1, 1, 0, []) := o_iaload dX12_row_18
theorem oX12_row_19 : oP MT mX12_row 19 (9, 3, 24, 0, []) := o_goto dX12_row_19 (by decide)
theorem oX12_row_22 : oP MT mX12_row 22 (0, 2, 0, (-9), []) := o_bipush dX12_row_22 (by decide)
theorem oX12_row_24 : oP MT mX12_row 24 (21, 1, 0, 0, []) := o_iret dX12_row_24 rfl
def ops_X12_row : List (Nat × aO) := [(0, (1, 1, 0, 1, [])), (1, (1, 1, 1, 0, [])), (2, (1, 1, 2, 0, [])), (3, (26, 3, 0, 2, [(12, 264)])), (6, (10, 3, 0, 22, [])), (9, (1, 1, 0, 1, [])), (10, (13, 3, 26, 12, [])), (13, (0, 1, 0, 3, [])), (14, (1, 1, 1, 0, [])), (15, (4, 1, 2, 0, [])), (16, (1, 1, 2, 0, [])), (17, (4, 1, 0, 0, [])), (18, (16, 1, 1, 0, [])), (19, (9, 3, 24, 0, [])), (22, (0, 2, 0, (-9), [])), (24, (21, 1, 0, 0, []))]
theorem os_X12_row : oA MT mX12_row ops_X12_row := (oA.cons oX12_row_0 (oA.cons oX12_row_1 (oA.cons oX12_row_2 (oA.cons oX12_row_3 (oA.cons oX12_row_6 (oA.cons oX12_row_9 (oA.cons oX12_row_10 (oA.cons oX12_row_13 (oA.cons oX12_row_14 (oA.cons oX12_row_15 (oA.cons oX12_row_16 (oA.cons oX12_row_17 (oA.cons oX12_row_18 (oA.cons oX12_row_19 (oA.cons oX12_row_22 (oA.cons oX12_row_24 oA.nil))))))))))))))))
theorem dX12_isRow_0 : decode cX12_isRow 0 = .ok (.iload_n 1, 1) := by decide +kernel
theorem dX12_isRow_1 : decode cX12_isRow 1 = .ok (.iconst 0, 1) := by decide +kernel
theorem dX12_isRow_2 : decode cX12_isRow 2 = .ok (.aload_n 0, 1) := by decide +kernel
theorem dX12_isRow_3 : decode cX12_isRow 3 = .ok (.getfield 317, 3) := by decide +kernel
theorem dX12_isRow_6 : decode cX12_isRow 6 = .ok (.iconst 1, 1) := by decide +kernel
theorem dX12_isRow_7 : decode cX12_isRow 7 = .ok (.isub, 1) := by decide +kernel
theorem dX12_isRow_8 : decode cX12_isRow 8 = .ok (.invokestatic 71, 3) := by decide +kernel
theorem dX12_isRow_11 : decode cX12_isRow 11 = .ok (.ifCond .eq 16, 3) := by decide +kernel
theorem dX12_isRow_14 : decode cX12_isRow 14 = .ok (.iload_n 2, 1) := by decide +kernel
theorem dX12_isRow_15 : decode cX12_isRow 15 = .ok (.iconst 0, 1) := by decide +kernel
theorem dX12_isRow_16 : decode cX12_isRow 16 = .ok (.iconst 2, 1) := by decide +kernel
theorem dX12_isRow_17 : decode cX12_isRow 17 = .ok (.invokestatic 71, 3) := by decide +kernel
theorem dX12_isRow_20 : decode cX12_isRow 20 = .ok (.ifCond .eq 7, 3) := by decide +kernel
theorem dX12_isRow_23 : decode cX12_isRow 23 = .ok (.iconst 1, 1) := by decide +kernel
theorem dX12_isRow_24 : decode cX12_isRow 24 = .ok (.goto 4, 3) := by decide +kernel
theorem dX12_isRow_27 : decode cX12_isRow 27 = .ok (.iconst 0, 1) := by decide +kernel
theorem dX12_isRow_28 : decode cX12_isRow 28 = .ok (.ireturn, 1) := by decide +kernel
theorem oX12_isRow_0 : oP MT mX12_isRow 0 (1, 1, 1, 0, []) := o_iload_n dX12_isRow_0 rfl
theorem oX12_isRow_1 : oP MT mX12_isRow 1 (0, 1, 0, 0, []) := o_iconst dX12_isRow_1 (by decide)
theorem oX12_isRow_2 : oP MT mX12_isRow 2 (1, 1, 0, 1, []) := o_aload_n dX12_isRow_2 rfl
theorem oX12_isRow_3 : oP MT mX12_isRow 3 (12, 3, 27, 12, []) := o_getI (M := mX12_isRow) (C := RX12) (T := TX12) (ci := 12) (j := 27) (z := 12) dX12_isRow_3 rfl lq_RX12_317 rfl rfl
theorem oX12_isRow_6 : oP MT mX12_isRow 6 (0, 1, 0, 1, []) := o_iconst dX12_isRow_6 (by decide)
theorem oX12_isRow_7 : oP MT mX12_isRow 7 (4, 1, 1, 0, []) := o_isub dX12_isRow_7
theorem oX12_isRow_8 : oP MT mX12_isRow 8 (25, 3, 127, 3, []) := o_callS dX12_isRow_8 (mj := mX12_in1) mt_X12_in1 cmq_X12_in1 wq_468 wq_470 (by decide) (by decide)
theorem oX12_isRow_11 : oP MT mX12_isRow 11 (10, 3, 0, 27, []) := o_if_eq dX12_isRow_11 (by decide) (by decide)
theorem oX12_isRow_14 : oP MT mX12_isRow 14 (1, 1, 2, 0, []) := o_iload_n dX12_isRow_14 rfl
theorem oX12_isRow_15 : oP MT mX12_isRow 15 (0, 1, 0, 0, []) := o_iconst dX12_isRow_15 (by decide)
theorem oX12_isRow_16 : oP MT mX12_isRow 16 (0, 1, 0, 2, []) := o_iconst dX12_isRow_16 (by decide)
theorem oX12_isRow_17 : oP MT mX12_isRow 17 (25, 3, 127, 3, []) := o_callS dX12_isRow_17 (mj := mX12_in1) mt_X12_in1 cmq_X12_in1 wq_468 wq_470 (by decide) (by decide)
theorem oX12_isRow_20 : oP MT mX12_isRow 20 (10, 3, 0, 27, []) := o_if_eq dX12_isRow_20 (by decide) (by decide)
theorem oX12_isRow_23 : oP MT mX12_isRow 23 (0, 1, 0, 1, []) := o_iconst dX12_isRow_23 (by decide)
theorem oX12_isRow_24 : oP MT mX12_isRow 24 (9, 3, 28, 0, []) := o_goto dX12_isRow_24 (by decide)
theorem oX12_isRow_27 : oP MT mX12_isRow 27 (0, 1, 0, 0, []) := o_iconst dX12_isRow_27 (by decide)
theorem oX12_isRow_28 : oP MT mX12_isRow 28 (22, 1, 0, 0, []) := o_zret dX12_isRow_28 rfl
def ops_X12_isRow : List (Nat × aO) := [(0, (1, 1, 1, 0, [])), (1, (0, 1, 0, 0, [])), (2, (1, 1, 0, 1, [])), (3, (12, 3, 27, 12, [])), (6, (0, 1, 0, 1, [])), (7, (4, 1, 1, 0, [])), (8, (25, 3, 127, 3, [])), (11, (10, 3, 0, 27, [])), (14, (1, 1, 2, 0, [])), (15, (0, 1, 0, 0, [])), (16, (0, 1, 0, 2, [])), (17, (25, 3, 127, 3, [])), (20, (10, 3, 0, 27, [])), (23, (0, 1, 0, 1, [])), (24, (9, 3, 28, 0, [])), (27, (0, 1, 0, 0, [])), (28, (22, 1, 0, 0, []))]
theorem os_X12_isRow : oA MT mX12_isRow ops_X12_isRow := (oA.cons oX12_isRow_0 (oA.cons oX12_isRow_1 (oA.cons oX12_isRow_2 (oA.cons oX12_isRow_3 (oA.cons oX12_isRow_6 (oA.cons oX12_isRow_7 (oA.cons oX12_isRow_8 (oA.cons oX12_isRow_11 (oA.cons oX12_isRow_14 (oA.cons oX12_isRow_15 (oA.cons oX12_isRow_16 (oA.cons oX12_isRow_17 (oA.cons oX12_isRow_20 (oA.cons oX12_isRow_23 (oA.cons oX12_isRow_24 (oA.cons oX12_isRow_27 (oA.cons oX12_isRow_28 oA.nil)))))))))))))))))
theorem dX12_alterRow_0 : decode cX12_alterRow 0 = .ok (.aload_n 0, 1) := by decide +kernel
theorem dX12_alterRow_1 : decode cX12_alterRow 1 = .ok (.iload_n 1, 1) := by decide +kernel
theorem dX12_alterRow_2 : decode cX12_alterRow 2 = .ok (.iload_n 2, 1) := by decide +kernel
theorem dX12_alterRow_3 : decode cX12_alterRow 3 = .ok (.invokevirtual 320, 3) := by decide +kernel
theorem dX12_alterRow_6 : decode cX12_alterRow 6 = .ok (.ifCond .ne 6, 3) := by decide +kernel
theorem dX12_alterRow_9 : decode cX12_alterRow 9 = .ok (.bipush (-9), 2) := by decide +kernel
theorem dX12_alterRow_11 : decode cX12_alterRow 11 = .ok (.ireturn, 1) := by decide +kernel
theorem dX12_alterRow_12 : decode cX12_alterRow 12 = .ok (.aload_n 0, 1) := by decide +kernel
theorem dX12_alterRow_13 : decode cX12_alterRow 13 = .ok (.getfield 50, 3) := by decide +kernel
theorem dX12_alterRow_16 : decode cX12_alterRow 16 = .ok (.iconst 3, 1) := by decide +kernel
theorem dX12_alterRow_17 : decode cX12_alterRow 17 = .ok (.iload_n 1, 1) := by decide +kernel
theorem dX12_alterRow_18 : decode cX12_alterRow 18 = .ok (.imul, 1) := by decide +kernel
theorem dX12_alterRow_19 : decode cX12_alterRow 19 = .ok (.iload_n 2, 1) := by decide +kernel
theorem dX12_alterRow_20 : decode cX12_alterRow 20 = .ok (.iadd, 1) := by decide +kernel
theorem dX12_alterRow_21 : decode cX12_alterRow 21 = .ok (.iaload, 1) := by decide +kernel
theorem dX12_alterRow_22 : decode cX12_alterRow 22 = .ok (.istore 4, 2) := by decide +kernel
theorem dX12_alterRow_24 : decode cX12_alterRow 24 = .ok (.aload_n 0, 1) := by decide +kernel
theorem dX12_alterRow_25 : decode cX12_alterRow 25 = .ok (.getfield 50, 3) := by decide +kernel
theorem dX12_alterRow_28 : decode cX12_alterRow 28 = .ok (.iconst 3, 1) := by decide +kernel
theorem dX12_alterRow_29 : decode cX12_alterRow 29 = .ok (.iload_n 1, 1) := by decide +kernel
theorem dX12_alterRow_30 : decode cX12_alterRow 30 = .ok (.imul, 1) := by decide +kernel
theorem dX12_alterRow_31 : decode cX12_alterRow 31 = .ok (.iload_n 2, 1) := by decide +kernel
theorem dX12_alterRow_32 : decode cX12_alterRow 32 = .ok (.iadd, 1) := by decide +kernel
theorem dX12_alterRow_33 : decode cX12_alterRow 33 = .ok (.iload_n 3, 1) := by decide +kernel
theorem dX12_alterRow_34 : decode cX12_alterRow 34 = .ok (.iastore, 1) := by decide +kernel
theorem dX12_alterRow_35 : decode cX12_alterRow 35 = .ok (.iload 4, 2) := by decide +kernel
theorem dX12_alterRow_37 : decode cX12_alterRow 37 = .ok (.ireturn, 1) := by decide +kernel
theorem oX12_alterRow_0 : oP MT mX12_alterRow 0 (1, 1, 0, 1, []) := o_aload_n dX12_alterRow_0 rfl
theorem oX12_alterRow_1 : oP MT mX12_alterRow 1 (1, 1, 1, 0, []) := o_iload_n dX12_alterRow_1 rfl
theorem oX12_alterRow_2 : oP MT mX12_alterRow 2 (1, 1, 2, 0, []) := o_iload_n dX12_alterRow_2 rfl
theorem oX12_alterRow_3 : oP MT mX12_alterRow 3 (26, 3, 0, 2, [(12, 264)]) := o_callO ((vA.cons (v_callV dX12_alterRow_3 (ci := 12) rfl rfl (mj := mX12_isRow) mt_X12_isRow cmq_X12_isRow wq_769 wq_771 wq_772 (by decide) (by decide)) vA.nil))
theorem oX12_alterRow_6 : oP MT mX12_alterRow 6 (10, 3, 1, 12, []) := o_if_ne dX12_alterRow_6 (by decide) (by decide)
theorem oX12_alterRow_9 : oP MT mX12_alterRow 9 (0, 2, 0, (-9), []) := o_bipush dX12_alterRow_9 (by decide)
theorem oX12_alterRow_11 : oP MT mX12_alterRow 11 (21, 1, 0, 0, []) := o_iret dX12_alterRow_11 rfl
theorem oX12_alterRow_12 : oP MT mX12_alterRow 12 (1, 1, 0, 1, []) := o_aload_n dX12_alterRow_12 rfl
theorem oX12_alterRow_13 : oP MT mX12_alterRow 13 (13, 3, 26, 12, []) := o_getR (M := mX12_alterRow) (C := RX12) (T := TX12) (ci := 12) (j := 26) (z := 12) dX12_alterRow_13 rfl lq_RX12_50 rfl rfl
theorem oX12_alterRow_16 : oP MT mX12_alterRow 16 (0, 1, 0, 3, []) := o_iconst dX12_alterRow_16 (by decide)
theorem oX12_alterRow_17 : oP MT mX12_alterRow 17 (1, 1, 1, 0, []) := o_iload_n dX12_alterRow_17 rfl
theorem oX12_alterRow_18 : oP MT mX12_alterRow 18 (4, 1, 2, 0, []) := o_imul dX12_alterRow_18
theorem oX12_alterRow_19 : oP MT mX12_alterRow 19 (1, 1, 2, 0, []) := o_iload_n dX12_alterRow_19 rfl
theorem oX12_alterRow_20 : oP MT mX12_alterRow 20 (4, 1, 0, 0, []) := o_iadd dX12_alterRow_20
theorem oX12_alterRow_21 : oP MT mX12_alterRow 21 (16, 1, 1, 0, []) := o_iaload dX12_alterRow_21
theorem oX12_alterRow_22 : oP MT mX12_alterRow 22 (2, 2, 4, 0, []) := o_istore dX12_alterRow_22 (by decide)
theorem oX12_alterRow_24 : oP MT mX12_alterRow 24 (1, 1, 0, 1, []) := o_aload_n dX12_alterRow_24 rfl
theorem oX12_alterRow_25 : oP MT mX12_alterRow 25 (13, 3, 26, 12, []) := o_getR (M := mX12_alterRow) (C := RX12) (T := TX12) (ci := 12) (j := 26) (z := 12) dX12_alterRow_25 rfl lq_RX12_50 rfl rfl
theorem oX12_alterRow_28 : oP MT mX12_alterRow 28 (0, 1, 0, 3, []) := o_iconst dX12_alterRow_28 (by decide)
theorem oX12_alterRow_29 : oP MT mX12_alterRow 29 (1, 1, 1, 0, []) := o_iload_n dX12_alterRow_29 rfl
theorem oX12_alterRow_30 : oP MT mX12_alterRow 30 (4, 1, 2, 0, []) := o_imul dX12_alterRow_30
theorem oX12_alterRow_31 : oP MT mX12_alterRow 31 (1, 1, 2, 0, []) := o_iload_n dX12_alterRow_31 rfl
theorem oX12_alterRow_32 : oP MT mX12_alterRow 32 (4, 1, 0, 0, []) := o_iadd dX12_alterRow_32
theorem oX12_alterRow_33 : oP MT mX12_alterRow 33 (1, 1, 3, 0, []) := o_iload_n dX12_alterRow_33 rfl
theorem oX12_alterRow_34 : oP MT mX12_alterRow 34 (18, 1, 0, 0, []) := o_iastore dX12_alterRow_34
theorem oX12_alterRow_35 : oP MT mX12_alterRow 35 (1, 2, 4, 0, []) := o_iload dX12_alterRow_35
theorem oX12_alterRow_37 : oP MT mX12_alterRow 37 (21, 1, 0, 0, []) := o_iret dX12_alterRow_37 rfl
def ops_X12_alterRow : List (Nat × aO) := [(0, (1, 1, 0, 1, [])), (1, (1, 1, 1, 0, [])), (2, (1, 1, 2, 0, [])), (3, (26, 3, 0, 2, [(12, 264)])), (6, (10, 3, 1, 12, [])), (9, (0, 2, 0, (-9), [])), (11, (21, 1, 0, 0, [])), (12, (1, 1, 0, 1, [])), (13, (13, 3, 26, 12, [])), (16, (0, 1, 0, 3, [])), (17, (1, 1, 1, 0, [])), (18, (4, 1, 2, 0, [])), (19, (1, 1, 2, 0, [])), (20, (4, 1, 0, 0, [])), (21, (16, 1, 1, 0, [])), (22, (2, 2, 4, 0, [])), (24, (1, 1, 0, 1, [])), (25, (13, 3, 26, 12, [])), (28, (0, 1, 0, 3, [])), (29, (1, 1, 1, 0, [])), (30, (4, 1, 2, 0, [])), (31, (1, 1, 2, 0, [])), (32, (4, 1, 0, 0, [])), (33, (1, 1, 3, 0, [])), (34, (18, 1, 0, 0, [])), (35, (1, 2, 4, 0, [])), (37, (21, 1, 0, 0, []))]
theorem os_X12_alterRow : oA MT mX12_alterRow ops_X12_alterRow := (oA.cons oX12_alterRow_0 (oA.cons oX12_alterRow_1 (oA.cons oX12_alterRow_2 (oA.cons oX12_alterRow_3 (oA.cons oX12_alterRow_6 (oA.cons oX12_alterRow_9 (oA.cons oX12_alterRow_11 (oA.cons oX12_alterRow_12 (oA.cons oX12_alterRow_13 (oA.cons oX12_alterRow_16 (oA.cons oX12_alterRow_17 (oA.cons oX12_alterRow_18 (oA.cons oX12_alterRow_19 (oA.cons oX12_alterRow_20 (oA.cons oX12_alterRow_21 (oA.cons oX12_alterRow_22 (oA.cons oX12_alterRow_24 (oA.cons oX12_alterRow_25 (oA.cons oX12_alterRow_28 (oA.cons oX12_alterRow_29 (oA.cons oX12_alterRow_30 (oA.cons oX12_alterRow_31 (oA.cons oX12_alterRow_32 (oA.cons oX12_alterRow_33 (oA.cons oX12_alterRow_34 (oA.cons oX12_alterRow_35 (oA.cons oX12_alterRow_37 oA.nil)))))))))))))))))))))))))))
theorem dX12_judge_0 : decode cX12_judge 0 = .ok (.aload_n 0, 1) := by decide +kernel
theorem dX12_judge_1 : decode cX12_judge 1 = .ok (.invokevirtual 241, 3) := by decide +kernel
theorem dX12_judge_4 : decode cX12_judge 4 = .ok (.iconst 0, 1) := by decide +kernel
theorem dX12_judge_5 : decode cX12_judge 5 = .ok (.istore_n 1, 1) := by decide +kernel
theorem dX12_judge_6 : decode cX12_judge 6 = .ok (.iconst 0, 1) := by decide +kernel
theorem dX12_judge_7 : decode cX12_judge 7 = .ok (.istore_n 2, 1) := by decide +kernel
theorem dX12_judge_8 : decode cX12_judge 8 = .ok (.iload_n 2, 1) := by decide +kernel
theorem dX12_judge_9 : decode cX12_judge 9 = .ok (.aload_n 0, 1) := by decide +kernel
theorem dX12_judge_10 : decode cX12_judge 10 = .ok (.getfield 317, 3) := by decide +kernel
theorem dX12_judge_13 : decode cX12_judge 13 = .ok (.if_icmp .ge 120, 3) := by decide +kernel
theorem dX12_judge_16 : decode cX12_judge 16 = .ok (.iload_n 1, 1) := by decide +kernel
theorem dX12_judge_17 : decode cX12_judge 17 = .ok (.ifCond .ne 116, 3) := by decide +kernel
theorem dX12_judge_20 : decode cX12_judge 20 = .ok (.aload_n 0, 1) := by decide +kernel
theorem dX12_judge_21 : decode cX12_judge 21 = .ok (.aload_n 0, 1) := by decide +kernel
theorem dX12_judge_22 : decode cX12_judge 22 = .ok (.getfield 50, 3) := by decide +kernel
theorem dX12_judge_25 : decode cX12_judge 25 = .ok (.iconst 3, 1) := by decide +kernel
theorem dX12_judge_26 : decode cX12_judge 26 = .ok (.iload_n 2, 1) := by decide +kernel
theorem dX12_judge_27 : decode cX12_judge 27 = .ok (.imul, 1) := by decide +kernel
theorem dX12_judge_28 : decode cX12_judge 28 = .ok (.iaload, 1) := by decide +kernel
theorem dX12_judge_29 : decode cX12_judge 29 = .ok (.invokevirtual 323, 3) := by decide +kernel
theorem dX12_judge_32 : decode cX12_judge 32 = .ok (.ifCond .eq 14, 3) := by decide +kernel
theorem dX12_judge_35 : decode cX12_judge 35 = .ok (.aload_n 0, 1) := by decide +kernel
theorem dX12_judge_36 : decode cX12_judge 36 = .ok (.invokevirtual 229, 3) := by decide +kernel
theorem dX12_judge_39 : decode cX12_judge 39 = .ok (.ifCond .ne 7, 3) := by decide +kernel
theorem dX12_judge_42 : decode cX12_judge 42 = .ok (.iconst 1, 1) := by decide +kernel
theorem dX12_judge_43 : decode cX12_judge 43 = .ok (.goto 4, 3) := by decide +kernel
theorem dX12_judge_46 : decode cX12_judge 46 = .ok (.iconst 0, 1) := by decide +kernel
theorem dX12_judge_47 : decode cX12_judge 47 = .ok (.istore_n 3, 1) := by decide +kernel
theorem dX12_judge_48 : decode cX12_judge 48 = .ok (.iload_n 3, 1) := by decide +kernel
theorem dX12_judge_49 : decode cX12_judge 49 = .ok (.ifCond .eq 18, 3) := by decide +kernel
theorem dX12_judge_52 : decode cX12_judge 52 = .ok (.aload_n 0, 1) := by decide +kernel
theorem dX12_judge_53 : decode cX12_judge 53 = .ok (.aload_n 0, 1) := by decide +kernel
theorem dX12_judge_54 : decode cX12_judge 54 = .ok (.getfield 50, 3) := by decide +kernel
theorem dX12_judge_57 : decode cX12_judge 57 = .ok (.iconst 3, 1) := by decide +kernel
theorem dX12_judge_58 : decode cX12_judge 58 = .ok (.iload_n 2, 1) := by decide +kernel
theorem dX12_judge_59 : decode cX12_judge 59 = .ok (.imul, 1) := by decide +kernel
theorem dX12_judge_60 : decode cX12_judge 60 = .ok (.iaload, 1) := by decide +kernel
theorem dX12_judge_61 : decode cX12_judge 61 = .ok (.invokevirtual 238, 3) := by decide +kernel
theorem dX12_judge_64 : decode cX12_judge 64 = .ok (.goto 4, 3) := by decide +kernel
theorem dX12_judge_67 : decode cX12_judge 67 = .ok (.iconst 0, 1) := by decide +kernel
theorem dX12_judge_68 : decode cX12_judge 68 = .ok (.istore 4, 2) := by decide +kernel
theorem dX12_judge_70 : decode cX12_judge 70 = .ok (.iload_n 3, 1) := by decide +kernel
theorem dX12_judge_71 : decode cX12_judge 71 = .ok (.ifCond .eq 40, 3) := by decide +kernel
theorem dX12_judge_74 : decode cX12_judge 74 = .ok (.iload 4, 2) := by decide +kernel
theorem dX12_judge_76 : decode cX12_judge 76 = .ok (.aload_n 0, 1) := by decide +kernel
theorem dX12_judge_77 : decode cX12_judge 77 = .ok (.getfield 50, 3) := by decide +kernel
theorem dX12_judge_80 : decode cX12_judge 80 = .ok (.iconst 3, 1) := by decide +kernel
theorem dX12_judge_81 : decode cX12_judge 81 = .ok (.iload_n 2, 1) := by decide +kernel
theorem dX12_judge_82 : decode cX12_judge 82 = .ok (.imul, 1) := by decide +kernel
theorem dX12_judge_83 : decode cX12_judge 83 = .ok (.iconst 1, 1) := by decide +kernel
theorem dX12_judge_84 : decode cX12_judge 84 = .ok (.iadd, 1) := by decide +kernel
theorem dX12_judge_85 : decode cX12_judge 85 = .ok (.iaload, 1) := by decide +kernel
theorem dX12_judge_86 : decode cX12_judge 86 = .ok (.if_icmp .ne 25, 3) := by decide +kernel
theorem dX12_judge_89 : decode cX12_judge 89 = .ok (.aload_n 0, 1) := by decide +kernel
theorem dX12_judge_90 : decode cX12_judge 90 = .ok (.iconst 4, 1) := by decide +kernel
theorem dX12_judge_91 : decode cX12_judge 91 = .ok (.invokevirtual 232, 3) := by decide +kernel
theorem dX12_judge_94 : decode cX12_judge 94 = .ok (.aload_n 0, 1) := by decide +kernel
theorem dX12_judge_95 : decode cX12_judge 95 = .ok (.getfield 50, 3) := by decide +kernel
theorem dX12_judge_98 : decode cX12_judge 98 = .ok (.iconst 3, 1) := by decide +kernel
theorem dX12_judge_99 : decode cX12_judge 99 = .ok (.iload_n 2, 1) := by decide +kernel
theorem dX12_judge_100 : decode cX12_judge 100 = .ok (.imul, 1) := by decide +kernel
theorem dX12_judge_101 : decode cX12_judge 101 = .ok (.iconst 2, 1) := by decide +kernel
theorem dX12_judge_102 : decode cX12_judge 102 = .ok (.iadd, 1) := by decide +kernel
theorem dX12_judge_103 : decode cX12_judge 103 = .ok (.iaload, 1) := by decide +kernel
theorem dX12_judge_104 : decode cX12_judge 104 = .ok (.if_icmp .ne 7, 3) := by decide +kernel
theorem dX12_judge_107 : decode cX12_judge 107 = .ok (.iconst 1, 1) := by decide +kernel
theorem dX12_judge_108 : decode cX12_judge 108 = .ok (.goto 4, 3) := by decide +kernel
theorem dX12_judge_111 : decode cX12_judge 111 = .ok (.iconst 0, 1) := by decide +kernel
theorem dX12_judge_112 : decode cX12_judge 112 = .ok (.istore 5, 2) := by decide +kernel
theorem dX12_judge_114 : decode cX12_judge 114 = .ok (.iload 5, 2) := by decide +kernel
theorem dX12_judge_116 : decode cX12_judge 116 = .ok (.ifCond .eq 7, 3) := by decide +kernel
theorem dX12_judge_119 : decode cX12_judge 119 = .ok (.iconst 0, 1) := by decide +kernel
theorem dX12_judge_120 : decode cX12_judge 120 = .ok (.goto 6, 3) := by decide +kernel
theorem dX12_judge_123 : decode cX12_judge 123 = .ok (.iconst 1, 1) := by decide +kernel
theorem dX12_judge_124 : decode cX12_judge 124 = .ok (.iload_n 2, 1) := by decide +kernel
theorem dX12_judge_125 : decode cX12_judge 125 = .ok (.iadd, 1) := by decide +kernel
theorem dX12_judge_126 : decode cX12_judge 126 = .ok (.istore_n 1, 1) := by decide +kernel
theorem dX12_judge_127 : decode cX12_judge 127 = .ok (.iinc 2 1, 3) := by decide +kernel
theorem dX12_judge_130 : decode cX12_judge 130 = .ok (.goto (-122), 3) := by decide +kernel
theorem dX12_judge_133 : decode cX12_judge 133 = .ok (.aload_n 0, 1) := by decide +kernel
theorem dX12_judge_134 : decode cX12_judge 134 = .ok (.invokevirtual 247, 3) := by decide +kernel
theorem dX12_judge_137 : decode cX12_judge 137 = .ok (.iload_n 1, 1) := by decide +kernel
theorem dX12_judge_138 : decode cX12_judge 138 = .ok (.ireturn, 1) := by decide +kernel
theorem oX12_judge_0 : oP MT mX12_judge 0 (1, 1, 0, 1, []) := o_aload_n dX12_judge_0 rfl
theorem oX12_judge_1 : oP MT mX12_judge 1 (26, 3, 0, 0, [(12, 152)]) := o_callO ((vA.cons (v_callV dX12_judge_1 (ci := 12) rfl rfl (mj := mX12_layDown) mt_X12_layDown cmq_X12_layDown wq_569 wq_571 wq_572 (by decide) (by decide)) vA.nil))
theorem oX12_judge_4 : oP MT mX12_judge 4 (0, 1, 0, 0, []) := o_iconst dX12_judge_4 (by decide)
theorem oX12_judge_5 : oP MT mX12_judge 5 (2, 1, 1, 0, []) := o_istore_n dX12_judge_5 rfl (by decide)
theorem oX12_judge_6 : oP MT mX12_judge 6 (0, 1, 0, 0, []) := o_iconst dX12_judge_6 (by decide)
theorem oX12_judge_7 : oP MT mX12_judge 7 (2, 1, 2, 0, []) := o_istore_n dX12_judge_7 rfl (by decide)
theorem oX12_judge_8 : oP MT mX12_judge 8 (1, 1, 2, 0, []) := o_iload_n dX12_judge_8 rfl
theorem oX12_judge_9 : oP MT mX12_judge 9 (1, 1, 0, 1, []) := o_aload_n dX12_judge_9 rfl
theorem oX12_judge_10 : oP MT mX12_judge 10 (12, 3, 27, 12, []) := o_getI (M := mX12_judge) (C := RX12) (T := TX12) (ci := 12) (j := 27) (z := 12) dX12_judge_10 rfl lq_RX12_317 rfl rfl
theorem oX12_judge_13 : oP MT mX12_judge 13 (11, 3, 3, 133, []) := o_icmp_ge dX12_judge_13 (by decide) (by decide)
theorem oX12_judge_16 : oP MT mX12_judge 16 (1, 1, 1, 0, []) := o_iload_n dX12_judge_16 rfl
theorem oX12_judge_17 : oP MT mX12_judge 17 (10, 3, 1, 133, []) := o_if_ne dX12_judge_17 (by decide) (by decide)
theorem oX12_judge_20 : oP MT mX12_judge 20 (1, 1, 0, 1, []) := o_aload_n dX12_judge_20 rfl
theorem oX12_judge_21 : oP MT mX12_judge 21 (1, 1, 0, 1, []) := o_aload_n dX12_judge_21 rfl
theorem oX12_judge_22 : oP MT mX12_judge 22 (13, 3, 26, 12, []) := o_getR (M := mX12_judge) (C := RX12) (T := TX12) (ci := 12) (j := 26) (z := 12) dX12_judge_22 rfl lq_RX12_50 rfl rfl
theorem oX12_judge_25 : oP MT mX12_judge 25 (0, 1, 0, 3, []) := o_iconst dX12_judge_25 (by decide)
theorem oX12_judge_26 : oP MT mX12_judge 26 (1, 1, 2, 0, []) := o_iload_n dX12_judge_26 rfl
theorem oX12_judge_27 : oP MT mX12_judge 27 (4, 1, 2, 0, []) := o_imul dX12_judge_27
theorem oX12_judge_28 : oP MT mX12_judge 28 (16, 1, 1, 0, []) := o_iaload dX12_judge_28
theorem oX12_judge_29 : oP MT mX12_judge 29 (26, 3, 0, 1, [(12, 173)]) := o_callO ((vA.cons (v_callV dX12_judge_29 (ci := 12) rfl rfl (mj := mX12_isAct) mt_X12_isAct cmq_X12_isAct wq_777 wq_779 wq_780 (by decide) (by decide)) vA.nil))
theorem oX12_judge_32 : oP MT mX12_judge 32 (10, 3, 0, 46, []) := o_if_eq dX12_judge_32 (by decide) (by decide)
theorem oX12_judge_35 : oP MT mX12_judge 35 (1, 1, 0, 1, []) := o_aload_n dX12_judge_35 rfl
theorem oX12_judge_36 : oP MT mX12_judge 36 (26, 3, 0, 0, [(12, 150)]) := o_callO ((vA.cons (v_callV dX12_judge_36 (ci := 12) rfl rfl (mj := mX12_isOver) mt_X12_isOver cmq_X12_isOver wq_557 wq_559 wq_560 (by decide) (by decide)) vA.nil))
theorem oX12_judge_39 : oP MT mX12_judge 39 (10, 3, 1, 46, []) := o_if_ne dX12_judge_39 (by decide) (by decide)
theorem oX12_judge_42 : oP MT mX12_judge 42 (0, 1, 0, 1, []) := o_iconst dX12_judge_42 (by decide)
theorem oX12_judge_43 : oP MT mX12_judge 43 (9, 3, 47, 0, []) := o_goto dX12_judge_43 (by decide)
theorem oX12_judge_46 : oP MT mX12_judge 46 (0, 1, 0, 0, []) := o_iconst dX12_judge_46 (by decide)
theorem oX12_judge_47 : oP MT mX12_judge 47 (2, 1, 3, 0, []) := o_istore_n dX12_judge_47 rfl (by decide)
theorem oX12_judge_48 : oP MT mX12_judge 48 (1, 1, 3, 0, []) := o_iload_n dX12_judge_48 rfl
theorem oX12_judge_49 : oP MT mX12_judge 49 (10, 3, 0, 67, []) := o_if_eq dX12_judge_49 (by decide) (by decide)
theorem oX12_judge_52 : oP MT mX12_judge 52 (1, 1, 0, 1, []) := o_aload_n dX12_judge_52 rfl
theorem oX12_judge_53 : oP MT mX12_judge 53 (1, 1, 0, 1, []) := o_aload_n dX12_judge_53 rfl
theorem oX12_judge_54 : oP MT mX12_judge 54 (13, 3, 26, 12, []) := o_getR (M := mX12_judge) (C := RX12) (T := TX12) (ci := 12) (j := 26) (z := 12) dX12_judge_54 rfl lq_RX12_50 rfl rfl
theorem oX12_judge_57 : oP MT mX12_judge 57 (0, 1, 0, 3, []) := o_iconst dX12_judge_57 (by decide)
theorem oX12_judge_58 : oP MT mX12_judge 58 (1, 1, 2, 0, []) := o_iload_n dX12_judge_58 rfl
theorem oX12_judge_59 : oP MT mX12_judge 59 (4, 1, 2, 0, []) := o_imul dX12_judge_59
theorem oX12_judge_60 : oP MT mX12_judge 60 (16, 1, 1, 0, []) := o_iaload dX12_judge_60
theorem oX12_judge_61 : oP MT mX12_judge 61 (26, 3, 0, 1, [(12, 151)]) := o_callO ((vA.cons (v_callV dX12_judge_61 (ci := 12) rfl rfl (mj := mX12_goesBy) mt_X12_goesBy cmq_X12_goesBy wq_561 wq_563 wq_564 (by decide) (by decide)) vA.nil))
theorem oX12_judge_64 : oP MT mX12_judge 64 (9, 3, 68, 0, []) := o_goto dX12_judge_64 (by decide)
theorem oX12_judge_67 : oP MT mX12_judge 67 (0, 1, 0, 0, []) := o_iconst dX12_judge_67 (by decide)
theorem oX12_judge_68 : oP MT mX12_judge 68 (2, 2, 4, 0, []) := o_istore dX12_judge_68 (by decide)
theorem oX12_judge_70 : oP MT mX12_judge 70 (1, 1, 3, 0, []) := o_iload_n dX12_judge_70 rfl
theorem oX12_judge_71 : oP MT mX12_judge 71 (10, 3, 0, 111, []) := o_if_eq dX12_judge_71 (by decide) (by decide)
theorem oX12_judge_74 : oP MT mX12_judge 74 (1, 2, 4, 0, []) := o_iload dX12_judge_74
theorem oX12_judge_76 : oP MT mX12_judge 76 (1, 1, 0, 1, []) := o_aload_n dX12_judge_76 rfl
theorem oX12_judge_77 : oP MT mX12_judge 77 (13, 3, 26, 12, []) := o_getR (M := mX12_judge) (C := RX12) (T := TX12) (ci := 12) (j := 26) (z := 12) dX12_judge_77 rfl lq_RX12_50 rfl rfl
theorem oX12_judge_80 : oP MT mX12_judge 80 (0, 1, 0, 3, []) := o_iconst dX12_judge_80 (by decide)
theorem oX12_judge_81 : oP MT mX12_judge 81 (1, 1, 2, 0, []) := o_iload_n dX12_judge_81 rfl
theorem oX12_judge_82 : oP MT mX12_judge 82 (4, 1, 2, 0, []) := o_imul dX12_judge_82
theorem oX12_judge_83 : oP MT mX12_judge 83 (0, 1, 0, 1, []) := o_iconst dX12_judge_83 (by decide)
theorem oX12_judge_84 : oP MT mX12_judge 84 (4, 1, 0, 0, []) := o_iadd dX12_judge_84
theorem oX12_judge_85 : oP MT mX12_judge 85 (16, 1, 1, 0, []) := o_iaload dX12_judge_85
theorem oX12_judge_86 : oP MT mX12_judge 86 (11, 3, 1, 111, []) := o_icmp_ne dX12_judge_86 (by decide) (by decide)
theorem oX12_judge_89 : oP MT mX12_judge 89 (1, 1, 0, 1, []) := o_aload_n dX12_judge_89 rfl
theorem oX12_judge_90 : oP MT mX12_judge 90 (0, 1, 0, 4, []) := o_iconst dX12_judge_90 (by decide)
theorem oX12_judge_91 : oP MT mX12_judge 91 (26, 3, 0, 1, [(12, 157)]) := o_callO ((vA.cons (v_callV dX12_judge_91 (ci := 12) rfl rfl (mj := mX12_those) mt_X12_those cmq_X12_those wq_585 wq_587 wq_588 (by decide) (by decide)) vA.nil))
theorem oX12_judge_94 : oP MT mX12_judge 94 (1, 1, 0, 1, []) := o_aload_n dX12_judge_94 rfl
theorem oX12_judge_95 : oP MT mX12_judge 95 (13, 3, 26, 12, []) := o_getR (M := mX12_judge) (C := RX12) (T := TX12) (ci := 12) (j := 26) (z := 12) dX12_judge_95 rfl lq_RX12_50 rfl rfl
theorem oX12_judge_98 : oP MT mX12_judge 98 (0, 1, 0, 3, []) := o_iconst dX12_judge_98 (by decide)
theorem oX12_judge_99 : oP MT mX12_judge 99 (1, 1, 2, 0, []) := o_iload_n dX12_judge_99 rfl
theorem oX12_judge_100 : oP MT mX12_judge 100 (4, 1, 2, 0, []) := o_imul dX12_judge_100
theorem oX12_judge_101 : oP MT mX12_judge 101 (0, 1, 0, 2, []) := o_iconst dX12_judge_101 (by decide)
theorem oX12_judge_102 : oP MT mX12_judge 102 (4, 1, 0, 0, []) := o_iadd dX12_judge_102
theorem oX12_judge_103 : oP MT mX12_judge 103 (16, 1, 1, 0, []) := o_iaload dX12_judge_103
theorem oX12_judge_104 : oP MT mX12_judge 104 (11, 3, 1, 111, []) := o_icmp_ne dX12_judge_104 (by decide) (by decide)
theorem oX12_judge_107 : oP MT mX12_judge 107 (0, 1, 0, 1, []) := o_iconst dX12_judge_107 (by decide)
theorem oX12_judge_108 : oP MT mX12_judge 108 (9, 3, 112, 0, []) := o_goto dX12_judge_108 (by decide)
theorem oX12_judge_111 : oP MT mX12_judge 111 (0, 1, 0, 0, []) := o_iconst dX12_judge_111 (by decide)
theorem oX12_judge_112 : oP MT mX12_judge 112 (2, 2, 5, 0, []) := o_istore dX12_judge_112 (by decide)
theorem oX12_judge_114 : oP MT mX12_judge 114 (1, 2, 5, 0, []) := o_iload dX12_judge_114
theorem oX12_judge_116 : oP MT mX12_judge 116 (10, 3, 0, 123, []) := o_if_eq dX12_judge_116 (by decide) (by decide)
theorem oX12_judge_119 : oP MT mX12_judge 119 (0, 1, 0, 0, []) := o_iconst dX12_judge_119 (by decide)
theorem oX12_judge_120 : oP MT mX12_judge 120 (9, 3, 126, 0, []) := o_goto dX12_judge_120 (by decide)
theorem oX12_judge_123 : oP MT mX12_judge 123 (0, 1, 0, 1, []) := o_iconst dX12_judge_123 (by decide)
theorem oX12_judge_124 : oP MT mX12_judge 124 (1, 1, 2, 0, []) := o_iload_n dX12_judge_124 rfl
theorem oX12_judge_125 : oP MT mX12_judge 125 (4, 1, 0, 0, []) := o_iadd dX12_judge_125
theorem oX12_judge_126 : oP MT mX12_judge 126 (2, 1, 1, 0, []) := o_istore_n dX12_judge_126 rfl (by decide)
theorem oX12_judge_127 : oP MT mX12_judge 127 (3, 3, 2, 1, []) := o_iinc dX12_judge_127 (by decide) (by decide)
theorem oX12_judge_130 : oP MT mX12_judge 130 (9, 3, 8, 0, []) := o_goto dX12_judge_130 (by decide)
theorem oX12_judge_133 : oP MT mX12_judge 133 (1, 1, 0, 1, []) := o_aload_n dX12_judge_133 rfl
theorem oX12_judge_134 : oP MT mX12_judge 134 (26, 3, 0, 0, [(12, 154)]) := o_callO ((vA.cons (v_callV dX12_judge_134 (ci := 12) rfl rfl (mj := mX12_layBack) mt_X12_layBack cmq_X12_layBack wq_577 wq_579 wq_580 (by decide) (by decide)) vA.nil))
theorem oX12_judge_137 : oP MT mX12_judge 137 (1, 1, 1, 0, []) := o_iload_n dX12_judge_137 rfl
theorem oX12_judge_138 : oP MT mX12_judge 138 (21, 1, 0, 0, []) := o_iret dX12_judge_138 rfl
def ops_X12_judge : List (Nat × aO) := [(0, (1, 1, 0, 1, [])), (1, (26, 3, 0, 0, [(12, 152)])), (4, (0, 1, 0, 0, [])), (5, (2, 1, 1, 0, [])), (6, (0, 1, 0, 0, [])), (7, (2, 1, 2, 0, [])), (8, (1, 1, 2, 0, [])), (9, (1, 1, 0, 1, [])), (10, (12, 3, 27, 12, [])), (13, (11, 3, 3, 133, [])), (16, (1, 1, 1, 0, [])), (17, (10, 3, 1, 133, [])), (20, (1, 1, 0, 1, [])), (21, (1, 1, 0, 1, [])), (22, (13, 3, 26, 12, [])), (25, (0, 1, 0, 3, [])), (26, (1, 1, 2, 0, [])), (27, (4, 1, 2, 0, [])), (28, (16, 1, 1, 0, [])), (29, (26, 3, 0, 1, [(12, 173)])), (32, (10, 3, 0, 46, [])), (35, (1, 1, 0, 1, [])), (36, (26, 3, 0, 0, [(12, 150)])), (39, (10, 3, 1, 46, [])), (42, (0, 1, 0, 1, [])), (43, (9, 3, 47, 0, [])), (46, (0, 1, 0, 0, [])), (47, (2, 1, 3, 0, [])), (48, (1, 1, 3, 0, [])), (49, (10, 3, 0, 67, [])), (52, (1, 1, 0, 1, [])), (53, (1, 1, 0, 1, [])), (54, (13, 3, 26, 12, [])), (57, (0, 1, 0, 3, [])), (58, (1, 1, 2, 0, [])), (59, (4, 1, 2, 0, [])), (60, (16, 1, 1, 0, [])), (61, (26, 3, 0, 1, [(12, 151)])), (64, (9, 3, 68, 0, [])), (67, (0, 1, 0, 0, [])), (68, (2, 2, 4, 0, [])), (70, (1, 1, 3, 0, [])), (71, (10, 3, 0, 111, [])), (74, (1, 2, 4, 0, [])), (76, (1, 1, 0, 1, [])), (77, (13, 3, 26, 12, [])), (80, (0, 1, 0, 3, [])), (81, (1, 1, 2, 0, [])), (82, (4, 1, 2, 0, [])), (83, (0, 1, 0, 1, [])), (84, (4, 1, 0, 0, [])), (85, (16, 1, 1, 0, [])), (86, (11, 3, 1, 111, [])), (89, (1, 1, 0, 1, [])), (90, (0, 1, 0, 4, [])), (91, (26, 3, 0, 1, [(12, 157)])), (94, (1, 1, 0, 1, [])), (95, (13, 3, 26, 12, [])), (98, (0, 1, 0, 3, [])), (99, (1, 1, 2, 0, [])), (100, (4, 1, 2, 0, [])), (101, (0, 1, 0, 2, [])), (102, (4, 1, 0, 0, [])), (103, (16, 1, 1, 0, [])), (104, (11, 3, 1, 111, [])), (107, (0, 1, 0, 1, [])), (108, (9, 3, 112, 0, [])), (111, (0, 1, 0, 0, [])), (112, (2, 2, 5, 0, [])), (114, (1, 2, 5, 0, [])), (116, (10, 3, 0, 123, [])), (119, (0, 1, 0, 0, [])), (120, (9, 3, 126, 0, [])), (123, (0, 1, 0, 1, [])), (124, (1, 1, 2, 0, [])), (125, (4, 1, 0, 0, [])), (126, (2, 1, 1, 0, [])), (127, (3, 3, 2, 1, [])), (130, (9, 3, 8, 0, [])), (133, (1, 1, 0, 1, [])), (134, (26, 3, 0, 0, [(12, 154)])), (137, (1, 1, 1, 0, [])), (138, (21, 1, 0, 0, []))]
theorem os_X12_judge : oA MT mX12_judge ops_X12_judge := (oA.cons oX12_judge_0 (oA.cons oX12_judge_1 (oA.cons oX12_judge_4 (oA.cons oX12_judge_5 (oA.cons oX12_judge_6 (oA.cons oX12_judge_7 (oA.cons oX12_judge_8 (oA.cons oX12_judge_9 (oA.cons oX12_judge_10 (oA.cons oX12_judge_13 (oA.cons oX12_judge_16 (oA.cons oX12_judge_17 (oA.cons oX12_judge_20 (oA.cons oX12_judge_21 (oA.cons oX12_judge_22 (oA.cons oX12_judge_25 (oA.cons oX12_judge_26 (oA.cons oX12_judge_27 (oA.cons oX12_judge_28 (oA.cons oX12_judge_29 (oA.cons oX12_judge_32 (oA.cons oX12_judge_35 (oA.cons oX12_judge_36 (oA.cons oX12_judge_39 (oA.cons oX12_judge_42 (oA.cons oX12_judge_43 (oA.cons oX12_judge_46 (oA.cons oX12_judge_47 (oA.cons oX12_judge_48 (oA.cons oX12_judge_49 (oA.cons oX12_judge_52 (oA.cons oX12_judge_53 (oA.cons oX12_judge_54 (oA.cons oX12_judge_57 (oA.cons oX12_judge_58 (oA.cons oX12_judge_59 (oA.cons oX12_judge_60 (oA.cons oX12_judge_61 (oA.cons oX12_judge_64 (oA.cons oX12_judge_67 (oA.cons oX12_judge_68 (oA.cons oX12_judge_70 (oA.cons oX12_judge_71 (oA.cons oX12_judge_74 (oA.cons oX12_judge_76 (oA.cons oX12_judge_77 (oA.cons oX12_judge_80 (oA.cons oX12_judge_81 (oA.cons oX12_judge_82 (oA.cons oX12_judge_83 (oA.cons oX12_judge_84 (oA.cons oX12_judge_85 (oA.cons oX12_judge_86 (oA.cons oX12_judge_89 (oA.cons oX12_judge_90 (oA.cons oX12_judge_91 (oA.cons oX12_judge_94 (oA.cons oX12_judge_95 (oA.cons oX12_judge_98 (oA.cons oX12_judge_99 (oA.cons oX12_judge_100 (oA.cons oX12_judge_101 (oA.cons oX12_judge_102 (oA.cons oX12_judge_103 (oA.cons oX12_judge_104 (oA.cons oX12_judge_107 (oA.cons oX12_judge_108 (oA.cons oX12_judge_111 (oA.cons oX12_judge_112 (oA.cons oX12_judge_114 (oA.cons oX12_judge_116 (oA.cons oX12_judge_119 (oA.cons oX12_judge_120 (oA.cons oX12_judge_123 (oA.cons oX12_judge_124 (oA.cons oX12_judge_125 (oA.cons oX12_judge_126 (oA.cons oX12_judge_127 (oA.cons oX12_judge_130 (oA.cons oX12_judge_133 (oA.cons oX12_judge_134 (oA.cons oX12_judge_137 (oA.cons oX12_judge_138 oA.nil)))))))))))))))))))))))))))))))))))))))))))))))))))))))))))))))))))))))))))))))))))
theorem dX12_sheet_0 : decode cX12_sheet 0 = .ok (.iload_n 1, 1) := by decide +kernel
theorem dX12_sheet_1 : decode cX12_sheet 1 = .ok (.invokestatic 326, 3) := by decide +kernel
theorem dX12_sheet_4 : decode cX12_sheet 4 = .ok (.ifCond .eq 22, 3) := by decide +kernel
theorem dX12_sheet_7 : decode cX12_sheet 7 = .ok (.iload_n 2, 1) := by decide +kernel
theorem dX12_sheet_8 : decode cX12_sheet 8 = .ok (.iconst (-1), 1) := by decide +kernel
theorem dX12_sheet_9 : decode cX12_sheet 9 = .ok (.iconst 4, 1) := by decide +kernel
theorem dX12_sheet_10 : decode cX12_sheet 10 = .ok (.invokestatic 71, 3) := by decide +kernel
theorem dX12_sheet_13 : decode cX12_sheet 13 = .ok (.ifCond .eq 13, 3) := by decide +kernel
theorem dX12_sheet_16 : decode cX12_sheet 16 = .ok (.iload_n 2, 1) := by decide +kernel
theorem dX12_sheet_17 : decode cX12_sheet 17 = .ok (.ifCond .lt 11, 3) := by decide +kernel
theorem dX12_sheet_20 : decode cX12_sheet 20 = .ok (.iload_n 3, 1) := by decide +kernel
theorem dX12_sheet_21 : decode cX12_sheet 21 = .ok (.bipush 40, 2) := by decide +kernel
theorem dX12_sheet_23 : decode cX12_sheet 23 = .ok (.if_icmp .le 5, 3) := by decide +kernel
theorem dX12_sheet_26 : decode cX12_sheet 26 = .ok (.iconst (-1), 1) := by decide +kernel
theorem dX12_sheet_27 : decode cX12_sheet 27 = .ok (.ireturn, 1) := by decide +kernel
theorem dX12_sheet_28 : decode cX12_sheet 28 = .ok (.iload_n 2, 1) := by decide +kernel
theorem dX12_sheet_29 : decode cX12_sheet 29 = .ok (.ifCond .lt 10, 3) := by decide +kernel
theorem dX12_sheet_32 : decode cX12_sheet 32 = .ok (.iload_n 3, 1) := by decide +kernel
theorem dX12_sheet_33 : decode cX12_sheet 33 = .ok (.ifCond .ge 6, 3) := by decide +kernel
theorem dX12_sheet_36 : decode cX12_sheet 36 = .ok (.bipush (-14), 2) := by decide +kernel
theorem dX12_sheet_38 : decode cX12_sheet 38 = .ok (.ireturn, 1) := by decide +kernel
theorem dX12_sheet_39 : decode cX12_sheet 39 = .ok (.aload_n 0, 1) := by decide +kernel
theorem dX12_sheet_40 : decode cX12_sheet 40 = .ok (.getfield 53, 3) := by decide +kernel
theorem dX12_sheet_43 : decode cX12_sheet 43 = .ok (.iload_n 1, 1) := by decide +kernel
theorem dX12_sheet_44 : decode cX12_sheet 44 = .ok (.iload_n 2, 1) := by decide +kernel
theorem dX12_sheet_45 : decode cX12_sheet 45 = .ok (.iastore, 1) := by decide +kernel
theorem dX12_sheet_46 : decode cX12_sheet 46 = .ok (.aload_n 0, 1) := by decide +kernel
theorem dX12_sheet_47 : decode cX12_sheet 47 = .ok (.getfield 56, 3) := by decide +kernel
theorem dX12_sheet_50 : decode cX12_sheet 50 = .ok (.iload_n 1, 1) := by decide +kernel
theorem dX12_sheet_51 : decode cX12_sheet 51 = .ok (.iload_n 2, 1) := by decide +kernel
theorem dX12_sheet_52 : decode cX12_sheet 52 = .ok (.ifCond .ge 7, 3) := by decide +kernel
theorem dX12_sheet_55 : decode cX12_sheet 55 = .ok (.iconst 0, 1) := by decide +kernel
theorem dX12_sheet_56 : decode cX12_sheet 56 = .ok (.goto 4, 3) := by decide +kernel
theorem dX12_sheet_59 : decode cX12_sheet 59 = .ok (.iload_n 3, 1) := by decide +kernel
theorem dX12_sheet_60 : decode cX12_sheet 60 = .ok (.iastore, 1) := by decide +kernel
theorem dX12_sheet_61 : decode cX12_sheet 61 = .ok (.iconst 0, 1) := by decide +kernel
theorem dX12_sheet_62 : decode cX12_sheet 62 = .ok (.istore 4, 2) := by decide +kernel
theorem dX12_sheet_64 : decode cX12_sheet 64 = .ok (.iload 4, 2) := by decide +kernel
theorem dX12_sheet_66 : decode cX12_sheet 66 = .ok (.bipush 40, 2) := by decide +kernel
theorem dX12_sheet_68 : decode cX12_sheet 68 = .ok (.if_icmp .ge 22, 3) := by decide +kernel
theorem dX12_sheet_71 : decode cX12_sheet 71 = .ok (.aload_n 0, 1) := by decide +kernel
theorem dX12_sheet_72 : decode cX12_sheet 72 = .ok (.getfield 59, 3) := by decide +kernel
theorem dX12_sheet_75 : decode cX12_sheet 75 = .ok (.bipush 40, 2) := by decide +kernel
theorem dX12_sheet_77 : decode cX12_sheet 77 = .ok (.iload_n 1, 1) := by decide +kernel
theorem dX12_sheet_78 : decode cX12_sheet 78 = .ok (.imul, 1) := by decide +kernel
theorem dX12_sheet_79 : decode cX12_sheet 79 = .ok (.iload 4, 2) := by decide +kernel
theorem dX12_sheet_81 : decode cX12_sheet 81 = .ok (.iadd, 1) := by decide +kernel
theorem dX12_sheet_82 : decode cX12_sheet 82 = .ok (.iconst 0, 1) := by decide +kernel
theorem dX12_sheet_83 : decode cX12_sheet 83 = .ok (.iastore, 1) := by decide +kernel
theorem dX12_sheet_84 : decode cX12_sheet 84 = .ok (.iinc 4 1, 3) := by decide +kernel
theorem dX12_sheet_87 : decode cX12_sheet 87 = .ok (.goto (-23), 3) := by decide +kernel
theorem dX12_sheet_90 : decode cX12_sheet 90 = .ok (.iconst 1, 1) := by decide +kernel
theorem dX12_sheet_91 : decode cX12_sheet 91 = .ok (.ireturn, 1) := by decide +kernel
theorem oX12_sheet_0 : oP MT mX12_sheet 0 (1, 1, 1, 0, []) := o_iload_n dX12_sheet_0 rfl
theorem oX12_sheet_1 : oP MT mX12_sheet 1 (25, 3, 174, 1, []) := o_callS dX12_sheet_1 (mj := mX12_isSheet) mt_X12_isSheet cmq_X12_isSheet wq_784 wq_786 (by decide) (by decide)
theorem oX12_sheet_4 : oP MT mX12_sheet 4 (10, 3, 0, 26, []) := o_if_eq dX12_sheet_4 (by decide) (by decide)
theorem oX12_sheet_7 : oP MT mX12_sheet 7 (1, 1, 2, 0, []) := o_iload_n dX12_sheet_7 rfl
theorem oX12_sheet_8 : oP MT mX12_sheet 8 (0, 1, 0, (-1), []) := o_iconst dX12_sheet_8 (by decide)
theorem oX12_sheet_9 : oP MT mX12_sheet 9 (0, 1, 0, 4, []) := o_iconst dX12_sheet_9 (by decide)
theorem oX12_sheet_10 : oP MT mX12_sheet 10 (25, 3, 127, 3, []) := o_callS dX12_sheet_10 (mj := mX12_in1) mt_X12_in1 cmq_X12_in1 wq_468 wq_470 (by decide) (by decide)
theorem oX12_sheet_13 : oP MT mX12_sheet 13 (10, 3, 0, 26, []) := o_if_eq dX12_sheet_13 (by decide) (by decide)
theorem oX12_sheet_16 : oP MT mX12_sheet 16 (1, 1, 2, 0, []) := o_iload_n dX12_sheet_16 rfl
theorem oX12_sheet_17 : oP MT mX12_sheet 17 (10, 3, 2, 28, []) := o_if_lt dX12_sheet_17 (by decide) (by decide)
theorem oX12_sheet_20 : oP MT mX12_sheet 20 (1, 1, 3, 0, []) := o_iload_n dX12_sheet_20 rfl
theorem oX12_sheet_21 : oP MT mX12_sheet 21 (0, 2, 0, 40, []) := o_bipush dX12_sheet_21 (by decide)
theorem oX12_sheet_23 : oP MT mX12_sheet 23 (11, 3, 5, 28, []) := o_icmp_le dX12_sheet_23 (by decide) (by decide)
theorem oX12_sheet_26 : oP MT mX12_sheet 26 (0, 1, 0, (-1), []) := o_iconst dX12_sheet_26 (by decide)
theorem oX12_sheet_27 : oP MT mX12_sheet 27 (21, 1, 0, 0, []) := o_iret dX12_sheet_27 rfl
theorem oX12_sheet_28 : oP MT mX12_sheet 28 (1, 1, 2, 0, []) := o_iload_n dX12_sheet_28 rfl
theorem oX12_sheet_29 : oP MT mX12_sheet 29 (10, 3, 2, 39, []) := o_if_lt dX12_sheet_29 (by decide) (by decide)
theorem oX12_sheet_32 : oP MT mX12_sheet 32 (1, 1, 3, 0, []) := o_iload_n dX12_sheet_32 rfl
theorem oX12_sheet_33 : oP MT mX12_sheet 33 (10, 3, 3, 39, []) := o_if_ge dX12_sheet_33 (by decide) (by decide)
theorem oX12_sheet_36 : oP MT mX12_sheet 36 (0, 2, 0, (-14), []) := o_bipush dX12_sheet_36 (by decide)
theorem oX12_sheet_38 : oP MT mX12_sheet 38 (21, 1, 0, 0, []) := o_iret dX12_sheet_38 rfl
theorem oX12_sheet_39 : oP MT mX12_sheet 39 (1, 1, 0, 1, []) := o_aload_n dX12_sheet_39 rfl
theorem oX12_sheet_40 : oP MT mX12_sheet 40 (13, 3, 28, 12, []) := o_getR (M := mX12_sheet) (C := RX12) (T := TX12) (ci := 12) (j := 28) (z := 12) dX12_sheet_40 rfl lq_RX12_53 rfl rfl
theorem oX12_sheet_43 : oP MT mX12_sheet 43 (1, 1, 1, 0, []) := o_iload_n dX12_sheet_43 rfl
theorem oX12_sheet_44 : oP MT mX12_sheet 44 (1, 1, 2, 0, []) := o_iload_n dX12_sheet_44 rfl
theorem oX12_sheet_45 : oP MT mX12_sheet 45 (18, 1, 0, 0, []) := o_iastore dX12_sheet_45
theorem oX12_sheet_46 : oP MT mX12_sheet 46 (1, 1, 0, 1, []) := o_aload_n dX12_sheet_46 rfl
theorem oX12_sheet_47 : oP MT mX12_sheet 47 (13, 3, 29, 12, []) := o_getR (M := mX12_sheet) (C := RX12) (T := TX12) (ci := 12) (j := 29) (z := 12) dX12_sheet_47 rfl lq_RX12_56 rfl rfl
theorem oX12_sheet_50 : oP MT mX12_sheet 50 (1, 1, 1, 0, []) := o_iload_n dX12_sheet_50 rfl
theorem oX12_sheet_51 : oP MT mX12_sheet 51 (1, 1, 2, 0, []) := o_iload_n dX12_sheet_51 rfl
theorem oX12_sheet_52 : oP MT mX12_sheet 52 (10, 3, 3, 59, []) := o_if_ge dX12_sheet_52 (by decide) (by decide)
theorem oX12_sheet_55 : oP MT mX12_sheet 55 (0, 1, 0, 0, []) := o_iconst dX12_sheet_55 (by decide)
theorem oX12_sheet_56 : oP MT mX12_sheet 56 (9, 3, 60, 0, []) := o_goto dX12_sheet_56 (by decide)
theorem oX12_sheet_59 : oP MT mX12_sheet 59 (1, 1, 3, 0, []) := o_iload_n dX12_sheet_59 rfl
theorem oX12_sheet_60 : oP MT mX12_sheet 60 (18, 1, 0, 0, []) := o_iastore dX12_sheet_60
theorem oX12_sheet_61 : oP MT mX12_sheet 61 (0, 1, 0, 0, []) := o_iconst dX12_sheet_61 (by decide)
theorem oX12_sheet_62 : oP MT mX12_sheet 62 (2, 2, 4, 0, []) := o_istore dX12_sheet_62 (by decide)
theorem oX12_sheet_64 : oP MT mX12_sheet 64 (1, 2, 4, 0, []) := o_iload dX12_sheet_64
theorem oX12_sheet_66 : oP MT mX12_sheet 66 (0, 2, 0, 40, []) := o_bipush dX12_sheet_66 (by decide)
theorem oX12_sheet_68 : oP MT mX12_sheet 68 (11, 3, 3, 90, []) := o_icmp_ge dX12_sheet_68 (by decide) (by decide)
theorem oX12_sheet_71 : oP MT mX12_sheet 71 (1, 1, 0, 1, []) := o_aload_n dX12_sheet_71 rfl
theorem oX12_sheet_72 : oP MT mX12_sheet 72 (13, 3, 30, 12, []) := o_getR (M := mX12_sheet) (C := RX12) (T := TX12) (ci := 12) (j := 30) (z := 12) dX12_sheet_72 rfl lq_RX12_59 rfl rfl
theorem oX12_sheet_75 : oP MT mX12_sheet 75 (0, 2, 0, 40, []) := o_bipush dX12_sheet_75 (by decide)
theorem oX12_sheet_77 : oP MT mX12_sheet 77 (1, 1, 1, 0, []) := o_iload_n dX12_sheet_77 rfl
theorem oX12_sheet_78 : oP MT mX12_sheet 78 (4, 1, 2, 0, []) := o_imul dX12_sheet_78
theorem oX12_sheet_79 : oP MT mX12_sheet 79 (1, 2, 4, 0, []) := o_iload dX12_sheet_79
theorem oX12_sheet_81 : oP MT mX12_sheet 81 (4, 1, 0, 0, []) := o_iadd dX12_sheet_81
theorem oX12_sheet_82 : oP MT mX12_sheet 82 (0, 1, 0, 0, []) := o_iconst dX12_sheet_82 (by decide)
theorem oX12_sheet_83 : oP MT mX12_sheet 83 (18, 1, 0, 0, []) := o_iastore dX12_sheet_83
theorem oX12_sheet_84 : oP MT mX12_sheet 84 (3, 3, 4, 1, []) := o_iinc dX12_sheet_84 (by decide) (by decide)
theorem oX12_sheet_87 : oP MT mX12_sheet 87 (9, 3, 64, 0, []) := o_goto dX12_sheet_87 (by decide)
theorem oX12_sheet_90 : oP MT mX12_sheet 90 (0, 1, 0, 1, []) := o_iconst dX12_sheet_90 (by decide)
theorem oX12_sheet_91 : oP MT mX12_sheet 91 (21, 1, 0, 0, []) := o_iret dX12_sheet_91 rfl
def ops_X12_sheet : List (Nat × aO) := [(0, (1, 1, 1, 0, [])), (1, (25, 3, 174, 1, [])), (4, (10, 3, 0, 26, [])), (7, (1, 1, 2, 0, [])), (8, (0, 1, 0, (-1), [])), (9, (0, 1, 0, 4, [])), (10, (25, 3, 127, 3, [])), (13, (10, 3, 0, 26, [])), (16, (1, 1, 2, 0, [])), (17, (10, 3, 2, 28, [])), (20, (1, 1, 3, 0, [])), (21, (0, 2, 0, 40, [])), (23, (11, 3, 5, 28, [])), (26, (0, 1, 0, (-1), [])), (27, (21, 1, 0, 0, [])), (28, (1, 1, 2, 0, [])), (29, (10, 3, 2, 39, [])), (32, (1, 1, 3, 0, [])), (33, (10, 3, 3, 39, [])), (36, (0, 2, 0, (-14), [])), (38, (21, 1, 0, 0, [])), (39, (1, 1, 0, 1, [])), (40, (13, 3, 28, 12, [])), (43, (1, 1, 1, 0, [])), (44, (1, 1, 2, 0, [])), (45, (18, 1, 0, 0, [])), (46, (1, 1, 0, 1, [])), (47, (13, 3, 29, 12, [])), (50, (1, 1, 1, 0, [])), (51, (1, 1, 2, 0, [])), (52, (10, 3, 3, 59, [])), (55, (0, 1, 0, 0, [])), (56, (9, 3, 60, 0, [])), (59, (1, 1, 3, 0, [])), (60, (18, 1, 0, 0, [])), (61, (0, 1, 0, 0, [])), (62, (2, 2, 4, 0, [])), (64, (1, 2, 4, 0, [])), (66, (0, 2, 0, 40, [])), (68, (11, 3, 3, 90, [])), (71, (1, 1, 0, 1, [])), (72, (13, 3, 30, 12, [])), (75, (0, 2, 0, 40, [])), (77, (1, 1, 1, 0, [])), (78, (4, 1, 2, 0, [])), (79, (1, 2, 4, 0, [])), (81, (4, 1, 0, 0, [])), (82, (0, 1, 0, 0, [])), (83, (18, 1, 0, 0, [])), (84, (3, 3, 4, 1, [])), (87, (9, 3, 64, 0, [])), (90, (0, 1, 0, 1, [])), (91, (21, 1, 0, 0, []))]
theorem os_X12_sheet : oA MT mX12_sheet ops_X12_sheet := (oA.cons oX12_sheet_0 (oA.cons oX12_sheet_1 (oA.cons oX12_sheet_4 (oA.cons oX12_sheet_7 (oA.cons oX12_sheet_8 (oA.cons oX12_sheet_9 (oA.cons oX12_sheet_10 (oA.cons oX12_sheet_13 (oA.cons oX12_sheet_16 (oA.cons oX12_sheet_17 (oA.cons oX12_sheet_20 (oA.cons oX12_sheet_21 (oA.cons oX12_sheet_23 (oA.cons oX12_sheet_26 (oA.cons oX12_sheet_27 (oA.cons oX12_sheet_28 (oA.cons oX12_sheet_29 (oA.cons oX12_sheet_32 (oA.cons oX12_sheet_33 (oA.cons oX12_sheet_36 (oA.cons oX12_sheet_38 (oA.cons oX12_sheet_39 (oA.cons oX12_sheet_40 (oA.cons oX12_sheet_43 (oA.cons oX12_sheet_44 (oA.cons oX12_sheet_45 (oA.cons oX12_sheet_46 (oA.cons oX12_sheet_47 (oA.cons oX12_sheet_50 (oA.cons oX12_sheet_51 (oA.cons oX12_sheet_52 (oA.cons oX12_sheet_55 (oA.cons oX12_sheet_56 (oA.cons oX12_sheet_59 (oA.cons oX12_sheet_60 (oA.cons oX12_sheet_61 (oA.cons oX12_sheet_62 (oA.cons oX12_sheet_64 (oA.cons oX12_sheet_66 (oA.cons oX12_sheet_68 (oA.cons oX12_sheet_71 (oA.cons oX12_sheet_72 (oA.cons oX12_sheet_75 (oA.cons oX12_sheet_77 (oA.cons oX12_sheet_78 (oA.cons oX12_sheet_79 (oA.cons oX12_sheet_81 (oA.cons oX12_sheet_82 (oA.cons oX12_sheet_83 (oA.cons oX12_sheet_84 (oA.cons oX12_sheet_87 (oA.cons oX12_sheet_90 (oA.cons oX12_sheet_91 oA.nil)))))))))))))))))))))))))))))))))))))))))))))))))))))
theorem dX12_write_0 : decode cX12_write 0 = .ok (.iload_n 1, 1) := by decide +kernel
theorem dX12_write_1 : decode cX12_write 1 = .ok (.invokestatic 326, 3) := by decide +kernel
theorem dX12_write_4 : decode cX12_write 4 = .ok (.ifCond .ne 5, 3) := by decide +kernel
theorem dX12_write_7 : decode cX12_write 7 = .ok (.iconst (-1), 1) := by decide +kernel
theorem dX12_write_8 : decode cX12_write 8 = .ok (.ireturn, 1) := by decide +kernel
theorem dX12_write_9 : decode cX12_write 9 = .ok (.aload_n 0, 1) := by decide +kernel
theorem dX12_write_10 : decode cX12_write 10 = .ok (.getfield 53, 3) := by decide +kernel
theorem dX12_write_13 : decode cX12_write 13 = .ok (.iload_n 1, 1) := by decide +kernel
theorem dX12_write_14 : decode cX12_write 14 = .ok (.iaload, 1) := by decide +kernel
theorem dX12_write_15 : decode cX12_write 15 = .ok (.ifCond .ge 6, 3) := by decide +kernel
theorem dX12_write_18 : decode cX12_write 18 = .ok (.bipush (-11), 2) := by decide +kernel
theorem dX12_write_20 : decode cX12_write 20 = .ok (.ireturn, 1) := by decide +kernel
theorem dX12_write_21 : decode cX12_write 21 = .ok (.iload_n 2, 1) := by decide +kernel
theorem dX12_write_22 : decode cX12_write 22 = .ok (.iconst 0, 1) := by decide +kernel
theorem dX12_write_23 : decode cX12_write 23 = .ok (.aload_n 0, 1) := by decide +kernel
theorem dX12_write_24 : decode cX12_write 24 = .ok (.getfield 56, 3) := by decide +kernel
theorem dX12_write_27 : decode cX12_write 27 = .ok (.iload_n 1, 1) := by decide +kernel
theorem dX12_write_28 : decode cX12_write 28 = .ok (.iaload, 1) := by decide +kernel
theorem dX12_write_29 : decode cX12_write 29 = .ok (.iconst 1, 1) := by decide +kernel
theorem dX12_write_30 : decode cX12_write 30 = .ok (.isub, 1) := by decide +kernel
theorem dX12_write_31 : decode cX12_write 31 = .ok (.invokestatic 71, 3) := by decide +kernel
theorem dX12_write_34 : decode cX12_write 34 = .ok (.ifCond .ne 6, 3) := by decide +kernel
theorem dX12_write_37 : decode cX12_write 37 = .ok (.bipush (-12), 2) := by decide +kernel
theorem dX12_write_39 : decode cX12_write 39 = .ok (.ireturn, 1) := by decide +kernel
theorem dX12_write_40 : decode cX12_write 40 = .ok (.aload_n 0, 1) := by decide +kernel
theorem dX12_write_41 : decode cX12_write 41 = .ok (.getfield 59, 3) := by decide +kernel
theorem dX12_write_44 : decode cX12_write 44 = .ok (.bipush 40, 2) := by decide +kernel
theorem dX12_write_46 : decode cX12_write 46 = .ok (.iload_n 1, 1) := by decide +kernel
theorem dX12_write_47 : decode cX12_write 47 = .ok (.imul, 1) := by decide +kernel
theorem dX12_write_48 : decode cX12_write 48 = .ok (.iload_n 2, 1) := by decide +kernel
theorem dX12_write_49 : decode cX12_write 49 = .ok (.iadd, 1) := by decide +kernel
theorem dX12_write_50 : decode cX12_write 50 = .ok (.iload_n 3, 1) := by decide +kernel
theorem dX12_write_51 : decode cX12_write 51 = .ok (.aload_n 0, 1) := by decide +kernel
theorem dX12_write_52 : decode cX12_write 52 = .ok (.getfield 53, 3) := by decide +kernel
theorem dX12_write_55 : decode cX12_write 55 = .ok (.iload_n 1, 1) := by decide +kernel
theorem dX12_write_56 : decode cX12_write 56 = .ok (.iaload, 1) := by decide +kernel
theorem dX12_write_57 : decode cX12_write 57 = .ok (.invokestatic 329, 3) := by decide +kernel
theorem dX12_write_60 : decode cX12_write 60 = .ok (.iastore, 1) := by decide +kernel
theorem dX12_write_61 : decode cX12_write 61 = .ok (.iconst 1, 1) := by decide +kernel
theorem dX12_write_62 : decode cX12_write 62 = .ok (.ireturn, 1) := by decide +kernel
theorem oX12_write_0 : oP MT mX12_write 0 (1, 1, 1, 0, []) := o_iload_n dX12_write_0 rfl
theorem oX12_write_1 : oP MT mX12_write 1 (25, 3, 174, 1, []) := o_callS dX12_write_1 (mj := mX12_isSheet) mt_X12_isSheet cmq_X12_isSheet wq_784 wq_786 (by decide) (by decide)
theorem oX12_write_4 : oP MT mX12_write 4 (10, 3, 1, 9, []) := o_if_ne dX12_write_4 (by decide) (by decide)
theorem oX12_write_7 : oP MT mX12_write 7 (0, 1, 0, (-1), []) := o_iconst dX12_write_7 (by decide)
theorem oX12_write_8 : oP MT mX12_write 8 (21, 1, 0, 0, []) := o_iret dX12_write_8 rfl
theorem oX12_write_9 : oP MT mX12_write 9 (1, 1, 0, 1, []) := o_aload_n dX12_write_9 rfl
theorem oX12_write_10 : oP MT mX12_write 10 (13, 3, 28, 12, []) := o_getR (M := mX12_write) (C := RX12) (T := TX12) (ci := 12) (j := 28) (z := 12) dX12_write_10 rfl lq_RX12_53 rfl rfl
theorem oX12_write_13 : oP MT mX12_write 13 (1, 1, 1, 0, []) := o_iload_n dX12_write_13 rfl
theorem oX12_write_14 : oP MT mX12_write 14 (16, 1, 1, 0, []) := o_iaload dX12_write_14
theorem oX12_write_15 : oP MT mX12_write 15 (10, 3, 3, 21, []) := o_if_ge dX12_write_15 (by decide) (by decide)
theorem oX12_write_18 : oP MT mX12_write 18 (0, 2, 0, (-11), []) := o_bipush dX12_write_18 (by decide)
theorem oX12_write_20 : oP MT mX12_write 20 (21, 1, 0, 0, []) := o_iret dX12_write_20 rfl
theorem oX12_write_21 : oP MT mX12_write 21 (1, 1, 2, 0, []) := o_iload_n dX12_write_21 rfl
theorem oX12_write_22 : oP MT mX12_write 22 (0, 1, 0, 0, []) := o_iconst dX12_write_22 (by decide)
theorem oX12_write_23 : oP MT mX12_write 23 (1, 1, 0, 1, []) := o_aload_n dX12_write_23 rfl
theorem oX12_write_24 : oP MT mX12_write 24 (13, 3, 29, 12, []) := o_getR (M := mX12_write) (C := RX12) (T := TX12) (ci := 12) (j := 29) (z := 12) dX12_write_24 rfl lq_RX12_56 rfl rfl
theorem oX12_write_27 : oP MT mX12_write 27 (1, 1, 1, 0, []) := o_iload_n dX12_write_27 rfl
theorem oX12_write_28 : oP MT mX12_write 28 (16, 1, 1, 0, []) := o_iaload dX12_write_28
theorem oX12_write_29 : oP MT mX12_write 29 (0, 1, 0, 1, []) := o_iconst dX12_write_29 (by decide)
theorem oX12_write_30 : oP MT mX12_write 30 (4, 1, 1, 0, []) := o_isub dX12_write_30
theorem oX12_write_31 : oP MT mX12_write 31 (25, 3, 127, 3, []) := o_callS dX12_write_31 (mj := mX12_in1) mt_X12_in1 cmq_X12_in1 wq_468 wq_470 (by decide) (by decide)
theorem oX12_write_34 : oP MT mX12_write 34 (10, 3, 1, 40, []) := o_if_ne dX12_write_34 (by decide) (by decide)
theorem oX12_write_37 : oP MT mX12_write 37 (0, 2, 0, (-12), []) := o_bipush dX12_write_37 (by decide)
theorem oX12_write_39 : oP MT mX12_write 39 (21, 1, 0, 0, []) := o_iret dX12_write_39 rfl
theorem oX12_write_40 : oP MT mX12_write 40 (1, 1, 0, 1, []) := o_aload_n dX12_write_40 rfl
theorem oX12_write_41 : oP MT mX12_write 41 (13, 3, 30, 12, []) := o_getR (M := mX12_write) (C := RX12) (T := TX12) (ci := 12) (j := 30) (z := 12) dX12_write_41 rfl lq_RX12_59 rfl rfl
theorem oX12_write_44 : oP MT mX12_write 44 (0, 2, 0, 40, []) := o_bipush dX12_write_44 (by decide)
theorem oX12_write_46 : oP MT mX12_write 46 (1, 1, 1, 0, []) := o_iload_n dX12_write_46 rfl
theorem oX12_write_47 : oP MT mX12_write 47 (4, 1, 2, 0, []) := o_imul dX12_write_47
theorem oX12_write_48 : oP MT mX12_write 48 (1, 1, 2, 0, []) := o_iload_n dX12_write_48 rfl
theorem oX12_write_49 : oP MT mX12_write 49 (4, 1, 0, 0, []) := o_iadd dX12_write_49
theorem oX12_write_50 : oP MT mX12_write 50 (1, 1, 3, 0, []) := o_iload_n dX12_write_50 rfl
theorem oX12_write_51 : oP MT mX12_write 51 (1, 1, 0, 1, []) := o_aload_n dX12_write_51 rfl
theorem oX12_write_52 : oP MT mX12_write 52 (13, 3, 28, 12, []) := o_getR (M := mX12_write) (C := RX12) (T := TX12) (ci := 12) (j := 28) (z := 12) dX12_write_52 rfl lq_RX12_53 rfl rfl
theorem oX12_write_55 : oP MT mX12_write 55 (1, 1, 1, 0, []) := o_iload_n dX12_write_55 rfl
theorem oX12_write_56 : oP MT mX12_write 56 (16, 1, 1, 0, []) := o_iaload dX12_write_56
theorem oX12_write_57 : oP MT mX12_write 57 (25, 3, 274, 2, []) := o_callS dX12_write_57 (mj := mX12_narrowed) mt_X12_narrowed cmq_X12_narrowed wq_790 wq_792 (by decide) (by decide)
theorem oX12_write_60 : oP MT mX12_write 60 (18, 1, 0, 0, []) := o_iastore dX12_write_60
theorem oX12_write_61 : oP MT mX12_write 61 (0, 1, 0, 1, []) := o_iconst dX12_write_61 (by decide)
theorem oX12_write_62 : oP MT mX12_write 62 (21, 1, 0, 0, []) := o_iret dX12_write_62 rfl
def ops_X12_write : List (Nat × aO) := [(0, (1, 1, 1, 0, [])), (1, (25, 3, 174, 1, [])), (4, (10, 3, 1, 9, [])), (7, (0, 1, 0, (-1), [])), (8, (21, 1, 0, 0, [])), (9, (1, 1, 0, 1, [])), (10, (13, 3, 28, 12, [])), (13, (1, 1, 1, 0, [])), (14, (16, 1, 1, 0, [])), (15, (10, 3, 3, 21, [])), (18, (0, 2, 0, (-11), [])), (20, (21, 1, 0, 0, [])), (21, (1, 1, 2, 0, [])), (22, (0, 1, 0, 0, [])), (23, (1, 1, 0, 1, [])), (24, (13, 3, 29, 12, [])), (27, (1, 1, 1, 0, [])), (28, (16, 1, 1, 0, [])), (29, (0, 1, 0, 1, [])), (30, (4, 1, 1, 0, [])), (31, (25, 3, 127, 3, [])), (34, (10, 3, 1, 40, [])), (37, (0, 2, 0, (-12), [])), (39, (21, 1, 0, 0, [])), (40, (1, 1, 0, 1, [])), (41, (13, 3, 30, 12, [])), (44, (0, 2, 0, 40, [])), (46, (1, 1, 1, 0, [])), (47, (4, 1, 2, 0, [])), (48, (1, 1, 2, 0, [])), (49, (4, 1, 0, 0, [])), (50, (1, 1, 3, 0, [])), (51, (1, 1, 0, 1, [])), (52, (13, 3, 28, 12, [])), (55, (1, 1, 1, 0, [])), (56, (16, 1, 1, 0, [])), (57, (25, 3, 274, 2, [])), (60, (18, 1, 0, 0, [])), (61, (0, 1, 0, 1, [])), (62, (21, 1, 0, 0, []))]
theorem os_X12_write : oA MT mX12_write ops_X12_write := (oA.cons oX12_write_0 (oA.cons oX12_write_1 (oA.cons oX12_write_4 (oA.cons oX12_write_7 (oA.cons oX12_write_8 (oA.cons oX12_write_9 (oA.cons oX12_write_10 (oA.cons oX12_write_13 (oA.cons oX12_write_14 (oA.cons oX12_write_15 (oA.cons oX12_write_18 (oA.cons oX12_write_20 (oA.cons oX12_write_21 (oA.cons oX12_write_22 (oA.cons oX12_write_23 (oA.cons oX12_write_24 (oA.cons oX12_write_27 (oA.cons oX12_write_28 (oA.cons oX12_write_29 (oA.cons oX12_write_30 (oA.cons oX12_write_31 (oA.cons oX12_write_34 (oA.cons oX12_write_37 (oA.cons oX12_write_39 (oA.cons oX12_write_40 (oA.cons oX12_write_41 (oA.cons oX12_write_44 (oA.cons oX12_write_46 (oA.cons oX12_write_47 (oA.cons oX12_write_48 (oA.cons oX12_write_49 (oA.cons oX12_write_50 (oA.cons oX12_write_51 (oA.cons oX12_write_52 (oA.cons oX12_write_55 (oA.cons oX12_write_56 (oA.cons oX12_write_57 (oA.cons oX12_write_60 (oA.cons oX12_write_61 (oA.cons oX12_write_62 oA.nil))))))))))))))))))))))))))))))))))))))))
theorem dX12_narrowed_0 : decode cX12_narrowed 0 = .ok (.iload_n 1, 1) := by decide +kernel
theorem dX12_narrowed_1 : decode cX12_narrowed 1 = .ok (.ifCond .ne 8, 3) := by decide +kernel
theorem dX12_narrowed_4 : decode cX12_narrowed 4 = .ok (.iload_n 0, 1) := by decide +kernel
theorem dX12_narrowed_5 : decode cX12_narrowed 5 = .ok (.i2b, 1) := by decide +kernel
theorem dX12_narrowed_6 : decode cX12_narrowed 6 = .ok (.goto 31, 3) := by decide +kernel
theorem dX12_narrowed_9 : decode cX12_narrowed 9 = .ok (.iload_n 1, 1) := by decide +kernel
theorem dX12_narrowed_10 : decode cX12_narrowed 10 = .ok (.iconst 1, 1) := by decide +kernel
theorem dX12_narrowed_11 : decode cX12_narrowed 11 = .ok (.if_icmp .ne 8, 3) := by decide +kernel
theorem dX12_narrowed_14 : decode cX12_narrowed 14 = .ok (.iload_n 0, 1) := by decide +kernel
theorem dX12_narrowed_15 : decode cX12_narrowed 15 = .ok (.i2s, 1) := by decide +kernel
theorem dX12_narrowed_16 : decode cX12_narrowed 16 = .ok (.goto 21, 3) := by decide +kernel
theorem dX12_narrowed_19 : decode cX12_narrowed 19 = .ok (.iload_n 1, 1) := by decide +kernel
theorem dX12_narrowed_20 : decode cX12_narrowed 20 = .ok (.iconst 4, 1) := by decide +kernel
theorem dX12_narrowed_21 : decode cX12_narrowed 21 = .ok (.if_icmp .ne 15, 3) := by decide +kernel
theorem dX12_narrowed_24 : decode cX12_narrowed 24 = .ok (.iload_n 0, 1) := by decide +kernel
theorem dX12_narrowed_25 : decode cX12_narrowed 25 = .ok (.ifCond .eq 7, 3) := by decide +kernel
theorem dX12_narrowed_28 : decode cX12_narrowed 28 = .ok (.iconst 1, 1) := by decide +kernel
theorem dX12_narrowed_29 : decode cX12_narrowed 29 = .ok (.goto 8, 3) := by decide +kernel
theorem dX12_narrowed_32 : decode cX12_narrowed 32 = .ok (.iconst 0, 1) := by decide +kernel
theorem dX12_narrowed_33 : decode cX12_narrowed 33 = .ok (.goto 4, 3) := by decide +kernel
theorem dX12_narrowed_36 : decode cX12_narrowed 36 = .ok (.iload_n 0, 1) := by decide +kernel
theorem dX12_narrowed_37 : decode cX12_narrowed 37 = .ok (.ireturn, 1) := by decide +kernel
theorem oX12_narrowed_0 : oP MT mX12_narrowed 0 (1, 1, 1, 0, []) := o_iload_n dX12_narrowed_0 rfl
theorem oX12_narrowed_1 : oP MT mX12_narrowed 1 (10, 3, 1, 9, []) := o_if_ne dX12_narrowed_1 (by decide) (by decide)
theorem oX12_narrowed_4 : oP MT mX12_narrowed 4 (1, 1, 0, 0, []) := o_iload_n dX12_narrowed_4 rfl
theorem oX12_narrowed_5 : oP MT mX12_narrowed 5 (5, 1, 1, 0, []) := o_i2b dX12_narrowed_5
theorem oX12_narrowed_6 : oP MT mX12_narrowed 6 (9, 3, 37, 0, []) := o_goto dX12_narrowed_6 (by decide)
theorem oX12_narrowed_9 : oP MT mX12_narrowed 9 (1, 1, 1, 0, []) := o_iload_n dX12_narrowed_9 rfl
theorem oX12_narrowed_10 : oP MT mX12_narrowed 10 (0, 1, 0, 1, []) := o_iconst dX12_narrowed_10 (by decide)
theorem oX12_narrowed_11 : oP MT mX12_narrowed 11 (11, 3, 1, 19, []) := o_icmp_ne dX12_narrowed_11 (by decide) (by decide)
theorem oX12_narrowed_14 : oP MT mX12_narrowed 14 (1, 1, 0, 0, []) := o_iload_n dX12_narrowed_14 rfl
theorem oX12_narrowed_15 : oP MT mX12_narrowed 15 (5, 1, 2, 0, []) := o_i2s dX12_narrowed_15
theorem oX12_narrowed_16 : oP MT mX12_narrowed 16 (9, 3, 37, 0, []) := o_goto dX12_narrowed_16 (by decide)
theorem oX12_narrowed_19 : oP MT mX12_narrowed 19 (1, 1, 1, 0, []) := o_iload_n dX12_narrowed_19 rfl
theorem oX12_narrowed_20 : oP MT mX12_narrowed 20 (0, 1, 0, 4, []) := o_iconst dX12_narrowed_20 (by decide)
theorem oX12_narrowed_21 : oP MT mX12_narrowed 21 (11, 3, 1, 36, []) := o_icmp_ne dX12_narrowed_21 (by decide) (by decide)
theorem oX12_narrowed_24 : oP MT mX12_narrowed 24 (1, 1, 0, 0, []) := o_iload_n dX12_narrowed_24 rfl
theorem oX12_narrowed_25 : oP MT mX12_narrowed 25 (10, 3, 0, 32, []) := o_if_eq dX12_narrowed_25 (by decide) (by decide)
theorem oX12_narrowed_28 : oP MT mX12_narrowed 28 (0, 1, 0, 1, []) := o_iconst dX12_narrowed_28 (by decide)
theorem oX12_narrowed_29 : oP MT mX12_narrowed 29 (9, 3, 37, 0, []) := o_goto dX12_narrowed_29 (by decide)
theorem oX12_narrowed_32 : oP MT mX12_narrowed 32 (0, 1, 0, 0, []) := o_iconst dX12_narrowed_32 (by decide)
theorem oX12_narrowed_33 : oP MT mX12_narrowed 33 (9, 3, 37, 0, []) := o_goto dX12_narrowed_33 (by decide)
theorem oX12_narrowed_36 : oP MT mX12_narrowed 36 (1, 1, 0, 0, []) := o_iload_n dX12_narrowed_36 rfl
theorem oX12_narrowed_37 : oP MT mX12_narrowed 37 (21, 1, 0, 0, []) := o_iret dX12_narrowed_37 rfl
def ops_X12_narrowed : List (Nat × aO) := [(0, (1, 1, 1, 0, [])), (1, (10, 3, 1, 9, [])), (4, (1, 1, 0, 0, [])), (5, (5, 1, 1, 0, [])), (6, (9, 3, 37, 0, [])), (9, (1, 1, 1, 0, [])), (10, (0, 1, 0, 1, [])), (11, (11, 3, 1, 19, [])), (14, (1, 1, 0, 0, [])), (15, (5, 1, 2, 0, [])), (16, (9, 3, 37, 0, [])), (19, (1, 1, 1, 0, [])), (20, (0, 1, 0, 4, [])), (21, (11, 3, 1, 36, [])), (24, (1, 1, 0, 0, [])), (25, (10, 3, 0, 32, [])), (28, (0, 1, 0, 1, [])), (29, (9, 3, 37, 0, [])), (32, (0, 1, 0, 0, [])), (33, (9, 3, 37, 0, [])), (36, (1, 1, 0, 0, [])), (37, (21, 1, 0, 0, []))]
theorem os_X12_narrowed : oA MT mX12_narrowed ops_X12_narrowed := (oA.cons oX12_narrowed_0 (oA.cons oX12_narrowed_1 (oA.cons oX12_narrowed_4 (oA.cons oX12_narrowed_5 (oA.cons oX12_narrowed_6 (oA.cons oX12_narrowed_9 (oA.cons oX12_narrowed_10 (oA.cons oX12_narrowed_11 (oA.cons oX12_narrowed_14 (oA.cons oX12_narrowed_15 (oA.cons oX12_narrowed_16 (oA.cons oX12_narrowed_19 (oA.cons oX12_narrowed_20 (oA.cons oX12_narrowed_21 (oA.cons oX12_narrowed_24 (oA.cons oX12_narrowed_25 (oA.cons oX12_narrowed_28 (oA.cons oX12_narrowed_29 (oA.cons oX12_narrowed_32 (oA.cons oX12_narrowed_33 (oA.cons oX12_narrowed_36 (oA.cons oX12_narrowed_37 oA.nil))))))))))))))))))))))
theorem dX12_item_0 : decode cX12_item 0 = .ok (.iload_n 1, 1) := by decide +kernel
theorem dX12_item_1 : decode cX12_item 1 = .ok (.invokestatic 326, 3) := by decide +kernel
theorem dX12_item_4 : decode cX12_item 4 = .ok (.ifCond .eq 12, 3) := by decide +kernel
theorem dX12_item_7 : decode cX12_item 7 = .ok (.iload_n 2, 1) := by decide +kernel
theorem dX12_item_8 : decode cX12_item 8 = .ok (.iconst 0, 1) := by decide +kernel
theorem dX12_item_9 : decode cX12_item 9 = .ok (.iconst 4, 1) := by decide +kernel
theorem dX12_item_10 : decode cX12_item 10 = .ok (.invokestatic 71, 3) := by decide +kernel
theorem dX12_item_13 : decode cX12_item 13 = .ok (.ifCond .ne 5, 3) := by decide +kernel
theorem dX12_item_16 : decode cX12_item 16 = .ok (.iconst (-1), 1) := by decide +kernel
theorem dX12_item_17 : decode cX12_item 17 = .ok (.ireturn, 1) := by decide +kernel
theorem dX12_item_18 : decode cX12_item 18 = .ok (.aload_n 0, 1) := by decide +kernel
theorem dX12_item_19 : decode cX12_item 19 = .ok (.iload_n 1, 1) := by decide +kernel
theorem dX12_item_20 : decode cX12_item 20 = .ok (.iload_n 2, 1) := by decide +kernel
theorem dX12_item_21 : decode cX12_item 21 = .ok (.invokevirtual 332, 3) := by decide +kernel
theorem dX12_item_24 : decode cX12_item 24 = .ok (.istore 4, 2) := by decide +kernel
theorem dX12_item_26 : decode cX12_item 26 = .ok (.iload 4, 2) := by decide +kernel
theorem dX12_item_28 : decode cX12_item 28 = .ok (.ifCond .eq 8, 3) := by decide +kernel
theorem dX12_item_31 : decode cX12_item 31 = .ok (.iload 4, 2) := by decide +kernel
theorem dX12_item_33 : decode cX12_item 33 = .ok (.goto 35, 3) := by decide +kernel
theorem dX12_item_36 : decode cX12_item 36 = .ok (.iload_n 3, 1) := by decide +kernel
theorem dX12_item_37 : decode cX12_item 37 = .ok (.iconst 0, 1) := by decide +kernel
theorem dX12_item_38 : decode cX12_item 38 = .ok (.aload_n 0, 1) := by decide +kernel
theorem dX12_item_39 : decode cX12_item 39 = .ok (.getfield 56, 3) := by decide +kernel
theorem dX12_item_42 : decode cX12_item 42 = .ok (.iload_n 1, 1) := by decide +kernel
theorem dX12_item_43 : decode cX12_item 43 = .ok (.iaload, 1) := by decide +kernel
theorem dX12_item_44 : decode cX12_item 44 = .ok (.iconst 1, 1) := by decide +kernel
theorem dX12_item_45 : decode cX12_item 45 = .ok (.isub, 1) := by decide +kernel
theorem dX12_item_46 : decode cX12_item 46 = .ok (.invokestatic 71, 3) := by decide +kernel
theorem dX12_item_49 : decode cX12_item 49 = .ok (.ifCond .eq 17, 3) := by decide +kernel
theorem dX12_item_52 : decode cX12_item 52 = .ok (.aload_n 0, 1) := by decide +kernel
theorem dX12_item_53 : decode cX12_item 53 = .ok (.getfield 59, 3) := by decide +kernel
theorem dX12_item_56 : decode cX12_item 56 = .ok (.bipush 40, 2) := by decide +kernel
theorem dX12_item_58 : decode cX12_item 58 = .ok (.iload_n 1, 1) := by decide +kernel
theorem dX12_item_59 : decode cX12_item 59 = .ok (.imul, 1) := by decide +kernel
theorem dX12_item_60 : decode cX12_item 60 = .ok (.iload_n 3, 1) := by decide +kernel
theorem dX12_item_61 : decode cX12_item 61 = .ok (.iadd, 1) := by decide +kernel
theorem dX12_item_62 : decode cX12_item 62 = .ok (.iaload, 1) := by decide +kernel
theorem dX12_item_63 : decode cX12_item 63 = .ok (.goto 5, 3) := by decide +kernel
theorem dX12_item_66 : decode cX12_item 66 = .ok (.bipush (-12), 2) := by decide +kernel
theorem dX12_item_68 : decode cX12_item 68 = .ok (.ireturn, 1) := by decide +kernel
theorem oX12_item_0 : oP MT mX12_item 0 (1, 1, 1, 0, []) := o_iload_n dX12_item_0 rfl
theorem oX12_item_1 : oP MT mX12_item 1 (25, 3, 174, 1, []) := o_callS dX12_item_1 (mj := mX12_isSheet) mt_X12_isSheet cmq_X12_isSheet wq_784 wq_786 (by decide) (by decide)
theorem oX12_item_4 : oP MT mX12_item 4 (10, 3, 0, 16, []) := o_if_eq dX12_item_4 (by decide) (by decide)
theorem oX12_item_7 : oP MT mX12_item 7 (1, 1, 2, 0, []) := o_iload_n dX12_item_7 rfl
theorem oX12_item_8 : oP MT mX12_item 8 (0, 1, 0, 0, []) := o_iconst dX12_item_8 (by decide)
theorem oX12_item_9 : oP MT mX12_item 9 (0, 1, 0, 4, []) := o_iconst dX12_item_9 (by decide)
theorem oX12_item_10 : oP MT mX12_item 10 (25, 3, 127, 3, []) := o_callS dX12_item_10 (mj := mX12_in1) mt_X12_in1 cmq_X12_in1 wq_468 wq_470 (by decide) (by decide)
theorem oX12_item_13 : oP MT mX12_item 13 (10, 3, 1, 18, []) := o_if_ne dX12_item_13 (by decide) (by decide)
theorem oX12_item_16 : oP MT mX12_item 16 (0, 1, 0, (-1), []) := o_iconst dX12_item_16 (by decide)
theorem oX12_item_17 : oP MT mX12_item 17 (21, 1, 0, 0, []) := o_iret dX12_item_17 rfl
theorem oX12_item_18 : oP MT mX12_item 18 (1, 1, 0, 1, []) := o_aload_n dX12_item_18 rfl
theorem oX12_item_19 : oP MT mX12_item 19 (1, 1, 1, 0, []) := o_iload_n dX12_item_19 rfl
theorem oX12_item_20 : oP MT mX12_item 20 (1, 1, 2, 0, []) := o_iload_n dX12_item_20 rfl
theorem oX12_item_21 : oP MT mX12_item 21 (26, 3, 0, 2, [(12, 175)]) := o_callO ((vA.cons (v_callV dX12_item_21 (ci := 12) rfl rfl (mj := mX12_lacks) mt_X12_lacks cmq_X12_lacks wq_797 wq_799 wq_800 (by decide) (by decide)) vA.nil))
theorem oX12_item_24 : oP MT mX12_item 24 (2, 2, 4, 0, []) := o_istore dX12_item_24 (by decide)
theorem oX12_item_26 : oP MT mX12_item 26 (1, 2, 4, 0, []) := o_iload dX12_item_26
theorem oX12_item_28 : oP MT mX12_item 28 (10, 3, 0, 36, []) := o_if_eq dX12_item_28 (by decide) (by decide)
theorem oX12_item_31 : oP MT mX12_item 31 (1, 2, 4, 0, []) := o_iload dX12_item_31
theorem oX12_item_33 : oP MT mX12_item 33 (9, 3, 68, 0, []) := o_goto dX12_item_33 (by decide)
theorem oX12_item_36 : oP MT mX12_item 36 (1, 1, 3, 0, []) := o_iload_n dX12_item_36 rfl
theorem oX12_item_37 : oP MT mX12_item 37 (0, 1, 0, 0, []) := o_iconst dX12_item_37 (by decide)
theorem oX12_item_38 : oP MT mX12_item 38 (1, 1, 0, 1, []) := o_aload_n dX12_item_38 rfl
theorem oX12_item_39 : oP MT mX12_item 39 (13, 3, 29, 12, []) := o_getR (M := mX12_item) (C := RX12) (T := TX12) (ci := 12) (j := 29) (z := 12) dX12_item_39 rfl lq_RX12_56 rfl rfl
theorem oX12_item_42 : oP MT mX12_item 42 (1, 1, 1, 0, []) := o_iload_n dX12_item_42 rfl
theorem oX12_item_43 : oP MT mX12_item 43 (16, 1, 1, 0, []) := o_iaload dX12_item_43
theorem oX12_item_44 : oP MT mX12_item 44 (0, 1, 0, 1, []) := o_iconst dX12_item_44 (by decide)
theorem oX12_item_45 : oP MT mX12_item 45 (4, 1, 1, 0, []) := o_isub dX12_item_45
theorem oX12_item_46 : oP MT mX12_item 46 (25, 3, 127, 3, []) := o_callS dX12_item_46 (mj := mX12_in1) mt_X12_in1 cmq_X12_in1 wq_468 wq_470 (by decide) (by decide)
theorem oX12_item_49 : oP MT mX12_item 49 (10, 3, 0, 66, []) := o_if_eq dX12_item_49 (by decide) (by decide)
theorem oX12_item_52 : oP MT mX12_item 52 (1, 1, 0, 1, []) := o_aload_n dX12_item_52 rfl
theorem oX12_item_53 : oP MT mX12_item 53 (13, 3, 30, 12, []) := o_getR (M := mX12_item) (C := RX12) (T := TX12) (ci := 12) (j := 30) (z := 12) dX12_item_53 rfl lq_RX12_59 rfl rfl
theorem oX12_item_56 : oP MT mX12_item 56 (0, 2, 0, 40, []) := o_bipush dX12_item_56 (by decide)
theorem oX12_item_58 : oP MT mX12_item 58 (1, 1, 1, 0, []) := o_iload_n dX12_item_58 rfl
theorem oX12_item_59 : oP MT mX12_item 59 (4, 1, 2, 0, []) := o_imul dX12_item_59
theorem oX12_item_60 : oP MT mX12_item 60 (1, 1, 3, 0, []) := o_iload_n dX12_item_60 rfl
theorem oX12_item_61 : oP MT mX12_item 61 (4, 1, 0, 0, []) := o_iadd dX12_item_61
theorem oX12_item_62 : oP MT mX12_item 62 (16, 1, 1, 0, []) := o_iaload dX12_item_62
theorem oX12_item_63 : oP MT mX12_item 63 (9, 3, 68, 0, []) := o_goto dX12_item_63 (by decide)
theorem oX12_item_66 : oP MT mX12_item 66 (0, 2, 0, (-12), []) := o_bipush dX12_item_66 (by decide)
theorem oX12_item_68 : oP MT mX12_item 68 (21, 1, 0, 0, []) := o_iret dX12_item_68 rfl
def ops_X12_item : List (Nat × aO) := [(0, (1, 1, 1, 0, [])), (1, (25, 3, 174, 1, [])), (4, (10, 3, 0, 16, [])), (7, (1, 1, 2, 0, [])), (8, (0, 1, 0, 0, [])), (9, (0, 1, 0, 4, [])), (10, (25, 3, 127, 3, [])), (13, (10, 3, 1, 18, [])), (16, (0, 1, 0, (-1), [])), (17, (21, 1, 0, 0, [])), (18, (1, 1, 0, 1, [])), (19, (1, 1, 1, 0, [])), (20, (1, 1, 2, 0, [])), (21, (26, 3, 0, 2, [(12, 175)])), (24, (2, 2, 4, 0, [])), (26, (1, 2, 4, 0, [])), (28, (10, 3, 0, 36, [])), (31, (1, 2, 4, 0, [])), (33, (9, 3, 68, 0, [])), (36, (1, 1, 3, 0, [])), (37, (0, 1, 0, 0, [])), (38, (1, 1, 0, 1, [])), (39, (13, 3, 29, 12, [])), (42, (1, 1, 1, 0, [])), (43, (16, 1, 1, 0, [])), (44, (0, 1, 0, 1, [])), (45, (4, 1, 1, 0, [])), (46, (25, 3, 127, 3, [])), (49, (10, 3, 0, 66, [])), (52, (1, 1, 0, 1, [])), (53, (13, 3, 30, 12, [])), (56, (0, 2, 0, 40, [])), (58, (1, 1, 1, 0, [])), (59, (4, 1, 2, 0, [])), (60, (1, 1, 3, 0, [])), (61, (4, 1, 0, 0, [])), (62, (16, 1, 1, 0, [])), (63, (9, 3, 68, 0, [])), (66, (0, 2, 0, (-12), [])), (68, (21, 1, 0, 0, []))]
theorem os_X12_item : oA MT mX12_item ops_X12_item := (oA.cons oX12_item_0 (oA.cons oX12_item_1 (oA.cons oX12_item_4 (oA.cons oX12_item_7 (oA.cons oX12_item_8 (oA.cons oX12_item_9 (oA.cons oX12_item_10 (oA.cons oX12_item_13 (oA.cons oX12_item_16 (oA.cons oX12_item_17 (oA.cons oX12_item_18 (oA.cons oX12_item_19 (oA.cons oX12_item_20 (oA.cons oX12_item_21 (oA.cons oX12_item_24 (oA.cons oX12_item_26 (oA.cons oX12_item_28 (oA.cons oX12_item_31 (oA.cons oX12_item_33 (oA.cons oX12_item_36 (oA.cons oX12_item_37 (oA.cons oX12_item_38 (oA.cons oX12_item_39 (oA.cons oX12_item_42 (oA.cons oX12_item_43 (oA.cons oX12_item_44 (oA.cons oX12_item_45 (oA.cons oX12_item_46 (oA.cons oX12_item_49 (oA.cons oX12_item_52 (oA.cons oX12_item_53 (oA.cons oX12_item_56 (oA.cons oX12_item_58 (oA.cons oX12_item_59 (oA.cons oX12_item_60 (oA.cons oX12_item_61 (oA.cons oX12_item_62 (oA.cons oX12_item_63 (oA.cons oX12_item_66 (oA.cons oX12_item_68 oA.nil))))))))))))))))))))))))))))))))))))))))
theorem dX12_goAll_0 : decode cX12_goAll 0 = .ok (.iload_n 1, 1) := by decide +kernel
theorem dX12_goAll_1 : decode cX12_goAll 1 = .ok (.invokestatic 326, 3) := by decide +kernel
theorem dX12_goAll_4 : decode cX12_goAll 4 = .ok (.ifCond .eq 13, 3) := by decide +kernel
theorem dX12_goAll_7 : decode cX12_goAll 7 = .ok (.iload_n 3, 1) := by decide +kernel
theorem dX12_goAll_8 : decode cX12_goAll 8 = .ok (.iconst 0, 1) := by decide +kernel
theorem dX12_goAll_9 : decode cX12_goAll 9 = .ok (.bipush 20, 2) := by decide +kernel
theorem dX12_goAll_11 : decode cX12_goAll 11 = .ok (.invokestatic 71, 3) := by decide +kernel
theorem dX12_goAll_14 : decode cX12_goAll 14 = .ok (.ifCond .ne 5, 3) := by decide +kernel
theorem dX12_goAll_17 : decode cX12_goAll 17 = .ok (.iconst (-1), 1) := by decide +kernel
theorem dX12_goAll_18 : decode cX12_goAll 18 = .ok (.ireturn, 1) := by decide +kernel
theorem dX12_goAll_19 : decode cX12_goAll 19 = .ok (.aload_n 0, 1) := by decide +kernel
theorem dX12_goAll_20 : decode cX12_goAll 20 = .ok (.iload_n 1, 1) := by decide +kernel
theorem dX12_goAll_21 : decode cX12_goAll 21 = .ok (.iconst 0, 1) := by decide +kernel
theorem dX12_goAll_22 : decode cX12_goAll 22 = .ok (.invokevirtual 332, 3) := by decide +kernel
theorem dX12_goAll_25 : decode cX12_goAll 25 = .ok (.istore 4, 2) := by decide +kernel
theorem dX12_goAll_27 : decode cX12_goAll 27 = .ok (.iload 4, 2) := by decide +kernel
theorem dX12_goAll_29 : decode cX12_goAll 29 = .ok (.ifCond .eq 6, 3) := by decide +kernel
theorem dX12_goAll_32 : decode cX12_goAll 32 = .ok (.iload 4, 2) := by decide +kernel
theorem dX12_goAll_34 : decode cX12_goAll 34 = .ok (.ireturn, 1) := by decide +kernel
theorem dX12_goAll_35 : decode cX12_goAll 35 = .ok (.iconst 0, 1) := by decide +kernel
theorem dX12_goAll_36 : decode cX12_goAll 36 = .ok (.istore 5, 2) := by decide +kernel
theorem dX12_goAll_38 : decode cX12_goAll 38 = .ok (.iconst 0, 1) := by decide +kernel
theorem dX12_goAll_39 : decode cX12_goAll 39 = .ok (.istore 6, 2) := by decide +kernel
theorem dX12_goAll_41 : decode cX12_goAll 41 = .ok (.iload 6, 2) := by decide +kernel
theorem dX12_goAll_43 : decode cX12_goAll 43 = .ok (.iload_n 3, 1) := by decide +kernel
theorem dX12_goAll_44 : decode cX12_goAll 44 = .ok (.if_icmp .ge 70, 3) := by decide +kernel
theorem dX12_goAll_47 : decode cX12_goAll 47 = .ok (.aload_n 0, 1) := by decide +kernel
theorem dX12_goAll_48 : decode cX12_goAll 48 = .ok (.iload_n 1, 1) := by decide +kernel
theorem dX12_goAll_49 : decode cX12_goAll 49 = .ok (.iload_n 2, 1) := by decide +kernel
theorem dX12_goAll_50 : decode cX12_goAll 50 = .ok (.iload 6, 2) := by decide +kernel
theorem dX12_goAll_52 : decode cX12_goAll 52 = .ok (.invokevirtual 335, 3) := by decide +kernel
theorem dX12_goAll_55 : decode cX12_goAll 55 = .ok (.ifCond .ne 6, 3) := by decide +kernel
theorem dX12_goAll_58 : decode cX12_goAll 58 = .ok (.bipush (-12), 2) := by decide +kernel
theorem dX12_goAll_60 : decode cX12_goAll 60 = .ok (.ireturn, 1) := by decide +kernel
theorem dX12_goAll_61 : decode cX12_goAll 61 = .ok (.aload_n 0, 1) := by decide +kernel
theorem dX12_goAll_62 : decode cX12_goAll 62 = .ok (.getfield 59, 3) := by decide +kernel
theorem dX12_goAll_65 : decode cX12_goAll 65 = .ok (.bipush 40, 2) := by decide +kernel
theorem dX12_goAll_67 : decode cX12_goAll 67 = .ok (.iload_n 1, 1) := by decide +kernel
theorem dX12_goAll_68 : decode cX12_goAll 68 = .ok (.imul, 1) := by decide +kernel
theorem dX12_goAll_69 : decode cX12_goAll 69 = .ok (.iload_n 2, 1) := by decide +kernel
theorem dX12_goAll_70 : decode cX12_goAll 70 = .ok (.iadd, 1) := by decide +kernel
theorem dX12_goAll_71 : decode cX12_goAll 71 = .ok (.iload 6, 2) := by decide +kernel
theorem dX12_goAll_73 : decode cX12_goAll 73 = .ok (.iadd, 1) := by decide +kernel
theorem dX12_goAll_74 : decode cX12_goAll 74 = .ok (.iaload, 1) := by decide +kernel
theorem dX12_goAll_75 : decode cX12_goAll 75 = .ok (.istore 7, 2) := by decide +kernel
theorem dX12_goAll_77 : decode cX12_goAll 77 = .ok (.iload 5, 2) := by decide +kernel
theorem dX12_goAll_79 : decode cX12_goAll 79 = .ok (.aload_n 0, 1) := by decide +kernel
theorem dX12_goAll_80 : decode cX12_goAll 80 = .ok (.iload 7, 2) := by decide +kernel
theorem dX12_goAll_82 : decode cX12_goAll 82 = .ok (.invokevirtual 323, 3) := by decide +kernel
theorem dX12_goAll_85 : decode cX12_goAll 85 = .ok (.ifCond .eq 19, 3) := by decide +kernel
theorem dX12_goAll_88 : decode cX12_goAll 88 = .ok (.aload_n 0, 1) := by decide +kernel
theorem dX12_goAll_89 : decode cX12_goAll 89 = .ok (.invokevirtual 229, 3) := by decide +kernel
theorem dX12_goAll_92 : decode cX12_goAll 92 = .ok (.ifCond .ne 12, 3) := by decide +kernel
theorem dX12_goAll_95 : decode cX12_goAll 95 = .ok (.aload_n 0, 1) := by decide +kernel
theorem dX12_goAll_96 : decode cX12_goAll 96 = .ok (.iload 7, 2) := by decide +kernel
theorem dX12_goAll_98 : decode cX12_goAll 98 = .ok (.invokevirtual 238, 3) := by decide +kernel
theorem dX12_goAll_101 : decode cX12_goAll 101 = .ok (.goto 4, 3) := by decide +kernel
theorem dX12_goAll_104 : decode cX12_goAll 104 = .ok (.iconst 0, 1) := by decide +kernel
theorem dX12_goAll_105 : decode cX12_goAll 105 = .ok (.iadd, 1) := by decide +kernel
theorem dX12_goAll_106 : decode cX12_goAll 106 = .ok (.istore 5, 2) := by decide +kernel
theorem dX12_goAll_108 : decode cX12_goAll 108 = .ok (.iinc 6 1, 3) := by decide +kernel
theorem dX12_goAll_111 : decode cX12_goAll 111 = .ok (.goto (-70), 3) := by decide +kernel
theorem dX12_goAll_114 : decode cX12_goAll 114 = .ok (.iload 5, 2) := by decide +kernel
theorem dX12_goAll_116 : decode cX12_goAll 116 = .ok (.ireturn, 1) := by decide +kernel
theorem oX12_goAll_0 : oP MT mX12_goAll 0 (1, 1, 1, 0, []) := o_iload_n dX12_goAll_0 rfl
theorem oX12_goAll_1 : oP MT mX12_goAll 1 (25, 3, 174, 1, []) := o_callS dX12_goAll_1 (mj := mX12_isSheet) mt_X12_isSheet cmq_X12_isSheet wq_784 wq_786 (by decide) (by decide)
theorem oX12_goAll_4 : oP MT mX12_goAll 4 (10, 3, 0, 17, []) := o_if_eq dX12_goAll_4 (by decide) (by decide)
theorem oX12_goAll_7 : oP MT mX12_goAll 7 (1, 1, 3, 0, []) := o_iload_n dX12_goAll_7 rfl
theorem oX12_goAll_8 : oP MT mX12_goAll 8 (0, 1, 0, 0, []) := o_iconst dX12_goAll_8 (by decide)
theorem oX12_goAll_9 : oP MT mX12_goAll 9 (0, 2, 0, 20, []) := o_bipush dX12_goAll_9 (by decide)
theorem oX12_goAll_11 : oP MT mX12_goAll 11 (25, 3, 127, 3, []) := o_callS dX12_goAll_11 (mj := mX12_in1) mt_X12_in1 cmq_X12_in1 wq_468 wq_470 (by decide) (by decide)
theorem oX12_goAll_14 : oP MT mX12_goAll 14 (10, 3, 1, 19, []) := o_if_ne dX12_goAll_14 (by decide) (by decide)
theorem oX12_goAll_17 : oP MT mX12_goAll 17 (0, 1, 0, (-1), []) := o_iconst dX12_goAll_17 (by decide)
theorem oX12_goAll_18 : oP MT mX12_goAll 18 (21, 1, 0, 0, []) := o_iret dX12_goAll_18 rfl
theorem oX12_goAll_19 : oP MT mX12_goAll 19 (1, 1, 0, 1, []) := o_aload_n dX12_goAll_19 rfl
theorem oX12_goAll_20 : oP MT mX12_goAll 20 (1, 1, 1, 0, []) := o_iload_n dX12_goAll_20 rfl
theorem oX12_goAll_21 : oP MT mX12_goAll 21 (0, 1, 0, 0, []) := o_iconst dX12_goAll_21 (by decide)
theorem oX12_goAll_22 : oP MT mX12_goAll 22 (26, 3, 0, 2, [(12, 175)]) := o_callO ((vA.cons (v_callV dX12_goAll_22 (ci := 12) rfl rfl (mj := mX12_lacks) mt_X12_lacks cmq_X12_lacks wq_797 wq_799 wq_800 (by decide) (by decide)) vA.nil))
theorem oX12_goAll_25 : oP MT mX12_goAll 25 (2, 2, 4, 0, []) := o_istore dX12_goAll_25 (by decide)
theorem oX12_goAll_27 : oP MT mX12_goAll 27 (1, 2, 4, 0, []) := o_iload dX12_goAll_27
theorem oX12_goAll_29 : oP MT mX12_goAll 29 (10, 3, 0, 35, []) := o_if_eq dX12_goAll_29 (by decide) (by decide)
theorem oX12_goAll_32 : oP MT mX12_goAll 32 (1, 2, 4, 0, []) := o_iload dX12_goAll_32
theorem oX12_goAll_34 : oP MT mX12_goAll 34 (21, 1, 0, 0, []) := o_iret dX12_goAll_34 rfl
theorem oX12_goAll_35 : oP MT mX12_goAll 35 (0, 1, 0, 0, []) := o_iconst dX12_goAll_35 (by decide)
theorem oX12_goAll_36 : oP MT mX12_goAll 36 (2, 2, 5, 0, []) := o_istore dX12_goAll_36 (by decide)
theorem oX12_goAll_38 : oP MT mX12_goAll 38 (0, 1, 0, 0, []) := o_iconst dX12_goAll_38 (by decide)
theorem oX12_goAll_39 : oP MT mX12_goAll 39 (2, 2, 6, 0, []) := o_istore dX12_goAll_39 (by decide)
theorem oX12_goAll_41 : oP MT mX12_goAll 41 (1, 2, 6, 0, []) := o_iload dX12_goAll_41
theorem oX12_goAll_43 : oP MT mX12_goAll 43 (1, 1, 3, 0, []) := o_iload_n dX12_goAll_43 rfl
theorem oX12_goAll_44 : oP MT mX12_goAll 44 (11, 3, 3, 114, []) := o_icmp_ge dX12_goAll_44 (by decide) (by decide)
theorem oX12_goAll_47 : oP MT mX12_goAll 47 (1, 1, 0, 1, []) := o_aload_n dX12_goAll_47 rfl
theorem oX12_goAll_48 : oP MT mX12_goAll 48 (1, 1, 1, 0, []) := o_iload_n dX12_goAll_48 rfl
theorem oX12_goAll_49 : oP MT mX12_goAll 49 (1, 1, 2, 0, []) := o_iload_n dX12_goAll_49 rfl
theorem oX12_goAll_50 : oP MT mX12_goAll 50 (1, 2, 6, 0, []) := o_iload dX12_goAll_50
theorem oX12_goAll_52 : oP MT mX12_goAll 52 (26, 3, 0, 3, [(12, 176)]) := o_callO ((vA.cons (v_callV dX12_goAll_52 (ci := 12) rfl rfl (mj := mX12_isItem) mt_X12_isItem cmq_X12_isItem wq_801 wq_803 wq_804 (by decide) (by decide)) vA.nil))
theorem oX12_goAll_55 : oP MT mX12_goAll 55 (10, 3, 1, 61, []) := o_if_ne dX12_goAll_55 (by decide) (by decide)
theorem oX12_goAll_58 : oP MT mX12_goAll 58 (0, 2, 0, (-12), []) := o_bipush dX12_goAll_58 (by decide)
theorem oX12_goAll_60 : oP MT mX12_goAll 60 (21, 1, 0, 0, []) := o_iret dX12_goAll_60 rfl
theorem oX12_goAll_61 : oP MT mX12_goAll 61 (1, 1, 0, 1, []) := o_aload_n dX12_goAll_61 rfl
theorem oX12_goAll_62 : oP MT mX12_goAll 62 (13, 3, 30, 12, []) := o_getR (M := mX12_goAll) (C := RX12) (T := TX12) (ci := 12) (j := 30) (z := 12) dX12_goAll_62 rfl lq_RX12_59 rfl rfl
theorem oX12_goAll_65 : oP MT mX12_goAll 65 (0, 2, 0, 40, []) := o_bipush dX12_goAll_65 (by decide)
theorem oX12_goAll_67 : oP MT mX12_goAll 67 (1, 1, 1, 0, []) := o_iload_n dX12_goAll_67 rfl
theorem oX12_goAll_68 : oP MT mX12_goAll 68 (4, 1, 2, 0, []) := o_imul dX12_goAll_68
theorem oX12_goAll_69 : oP MT mX12_goAll 69 (1, 1, 2, 0, []) := o_iload_n dX12_goAll_69 rfl
theorem oX12_goAll_70 : oP MT mX12_goAll 70 (4, 1, 0, 0, []) := o_iadd dX12_goAll_70
theorem oX12_goAll_71 : oP MT mX12_goAll 71 (1, 2, 6, 0, []) := o_iload dX12_goAll_71
theorem oX12_goAll_73 : oP MT mX12_goAll 73 (4, 1, 0, 0, []) := o_iadd dX12_goAll_73
theorem oX12_goAll_74 : oP MT mX12_goAll 74 (16, 1, 1, 0, []) := o_iaload dX12_goAll_74
theorem oX12_goAll_75 : oP MT mX12_goAll 75 (2, 2, 7, 0, []) := o_istore dX12_goAll_75 (by decide)
theorem oX12_goAll_77 : oP MT mX12_goAll 77 (1, 2, 5, 0, []) := o_iload dX12_goAll_77
theorem oX12_goAll_79 : oP MT mX12_goAll 79 (1, 1, 0, 1, []) := o_aload_n dX12_goAll_79 rfl
theorem oX12_goAll_80 : oP MT mX12_goAll 80 (1, 2, 7, 0, []) := o_iload dX12_goAll_80
theorem oX12_goAll_82 : oP MT mX12_goAll 82 (26, 3, 0, 1, [(12, 173)]) := o_callO ((vA.cons (v_callV dX12_goAll_82 (ci := 12) rfl rfl (mj := mX12_isAct) mt_X12_isAct cmq_X12_isAct wq_777 wq_779 wq_780 (by decide) (by decide)) vA.nil))
theorem oX12_goAll_85 : oP MT mX12_goAll 85 (10, 3, 0, 104, []) := o_if_eq dX12_goAll_85 (by decide) (by decide)
theorem oX12_goAll_88 : oP MT mX12_goAll 88 (1, 1, 0, 1, []) := o_aload_n dX12_goAll_88 rfl
theorem oX12_goAll_89 : oP MT mX12_goAll 89 (26, 3, 0, 0, [(12, 150)]) := o_callO ((vA.cons (v_callV dX12_goAll_89 (ci := 12) rfl rfl (mj := mX12_isOver) mt_X12_isOver cmq_X12_isOver wq_557 wq_559 wq_560 (by decide) (by decide)) vA.nil))
theorem oX12_goAll_92 : oP MT mX12_goAll 92 (10, 3, 1, 104, []) := o_if_ne dX12_goAll_92 (by decide) (by decide)
theorem oX12_goAll_95 : oP MT mX12_goAll 95 (1, 1, 0, 1, []) := o_aload_n dX12_goAll_95 rfl
theorem oX12_goAll_96 : oP MT mX12_goAll 96 (1, 2, 7, 0, []) := o_iload dX12_goAll_96
theorem oX12_goAll_98 : oP MT mX12_goAll 98 (26, 3, 0, 1, [(12, 151)]) := o_callO ((vA.cons (v_callV dX12_goAll_98 (ci := 12) rfl rfl (mj := mX12_goesBy) mt_X12_goesBy cmq_X12_goesBy wq_561 wq_563 wq_564 (by decide) (by decide)) vA.nil))
theorem oX12_goAll_101 : oP MT mX12_goAll 101 (9, 3, 105, 0, []) := o_goto dX12_goAll_101 (by decide)
theorem oX12_goAll_104 : oP MT mX12_goAll 104 (0, 1, 0, 0, []) := o_iconst dX12_goAll_104 (by decide)
theorem oX12_goAll_105 : oP MT mX12_goAll 105 (4, 1, 0, 0, []) := o_iadd dX12_goAll_105
theorem oX12_goAll_106 : oP MT mX12_goAll 106 (2, 2, 5, 0, []) := o_istore dX12_goAll_106 (by decide)
theorem oX12_goAll_108 : oP MT mX12_goAll 108 (3, 3, 6, 1, []) := o_iinc dX12_goAll_108 (by decide) (by decide)
theorem oX12_goAll_111 : oP MT mX12_goAll 111 (9, 3, 41, 0, []) := o_goto dX12_goAll_111 (by decide)
theorem oX12_goAll_114 : oP MT mX12_goAll 114 (1, 2, 5, 0, []) := o_iload dX12_goAll_114
theorem oX12_goAll_116 : oP MT mX12_goAll 116 (21, 1, 0, 0, []) := o_iret dX12_goAll_116 rfl
def ops_X12_goAll : List (Nat × aO) := [(0, (1, 1, 1, 0, [])), (1, (25, 3, 174, 1, [])), (4, (10, 3, 0, 17, [])), (7, (1, 1, 3, 0, [])), (8, (0, 1, 0, 0, [])), (9, (0, 2, 0, 20, [])), (11, (25, 3, 127, 3, [])), (14, (10, 3, 1, 19, [])), (17, (0, 1, 0, (-1), [])), (18, (21, 1, 0, 0, [])), (19, (1, 1, 0, 1, [])), (20, (1, 1, 1, 0, [])), (21, (0, 1, 0, 0, [])), (22, (26, 3, 0, 2, [(12, 175)])), (25, (2, 2, 4, 0, [])), (27, (1, 2, 4, 0, [])), (29, (10, 3, 0, 35, [])), (32, (1, 2, 4, 0, [])), (34, (21, 1, 0, 0, [])), (35, (0, 1, 0, 0, [])), (36, (2, 2, 5, 0, [])), (38, (0, 1, 0, 0, [])), (39, (2, 2, 6, 0, [])), (41, (1, 2, 6, 0, [])), (43, (1, 1, 3, 0, [])), (44, (11, 3, 3, 114, [])), (47, (1, 1, 0, 1, [])), (48, (1, 1, 1, 0, [])), (49, (1, 1, 2, 0, [])), (50, (1, 2, 6, 0, [])), (52, (26, 3, 0, 3, [(12, 176)])), (55, (10, 3, 1, 61, [])), (58, (0, 2, 0, (-12), [])), (60, (21, 1, 0, 0, [])), (61, (1, 1, 0, 1, [])), (62, (13, 3, 30, 12, [])), (65, (0, 2, 0, 40, [])), (67, (1, 1, 1, 0, [])), (68, (4, 1, 2, 0, [])), (69, (1, 1, 2, 0, [])), (70, (4, 1, 0, 0, [])), (71, (1, 2, 6, 0, [])), (73, (4, 1, 0, 0, [])), (74, (16, 1, 1, 0, [])), (75, (2, 2, 7, 0, [])), (77, (1, 2, 5, 0, [])), (79, (1, 1, 0, 1, [])), (80, (1, 2, 7, 0, [])), (82, (26, 3, 0, 1, [(12, 173)])), (85, (10, 3, 0, 104, [])), (88, (1, 1, 0, 1, [])), (89, (26, 3, 0, 0, [(12, 150)])), (92, (10, 3, 1, 104, [])), (95, (1, 1, 0, 1, [])), (96, (1, 2, 7, 0, [])), (98, (26, 3, 0, 1, [(12, 151)])), (101, (9, 3, 105, 0, [])), (104, (0, 1, 0, 0, [])), (105, (4, 1, 0, 0, [])), (106, (2, 2, 5, 0, [])), (108, (3, 3, 6, 1, [])), (111, (9, 3, 41, 0, [])), (114, (1, 2, 5, 0, [])), (116, (21, 1, 0, 0, []))]
theorem os_X12_goAll : oA MT mX12_goAll ops_X12_goAll := (oA.cons oX12_goAll_0 (oA.cons oX12_goAll_1 (oA.cons oX12_goAll_4 (oA.cons oX12_goAll_7 (oA.cons oX12_goAll_8 (oA.cons oX12_goAll_9 (oA.cons oX12_goAll_11 (oA.cons oX12_goAll_14 (oA.cons oX12_goAll_17 (oA.cons oX12_goAll_18 (oA.cons oX12_goAll_19 (oA.cons oX12_goAll_20 (oA.cons oX12_goAll_21 (oA.cons oX12_goAll_22 (oA.cons oX12_goAll_25 (oA.cons oX12_goAll_27 (oA.cons oX12_goAll_29 (oA.cons oX12_goAll_32 (oA.cons oX12_goAll_34 (oA.cons oX12_goAll_35 (oA.cons oX12_goAll_36 (oA.cons oX12_goAll_38 (oA.cons oX12_goAll_39 (oA.cons oX12_goAll_41 (oA.cons oX12_goAll_43 (oA.cons oX12_goAll_44 (oA.cons oX12_goAll_47 (oA.cons oX12_goAll_48 (oA.cons oX12_goAll_49 (oA.cons oX12_goAll_50 (oA.cons oX12_goAll_52 (oA.cons oX12_goAll_55 (oA.cons oX12_goAll_58 (oA.cons oX12_goAll_60 (oA.cons oX12_goAll_61 (oA.cons oX12_goAll_62 (oA.cons oX12_goAll_65 (oA.cons oX12_goAll_67 (oA.cons oX12_goAll_68 (oA.cons oX12_goAll_69 (oA.cons oX12_goAll_70 (oA.cons oX12_goAll_71 (oA.cons oX12_goAll_73 (oA.cons oX12_goAll_74 (oA.cons oX12_goAll_75 (oA.cons oX12_goAll_77 (oA.cons oX12_goAll_79 (oA.cons oX12_goAll_80 (oA.cons oX12_goAll_82 (oA.cons oX12_goAll_85 (oA.cons oX12_goAll_88 (oA.cons oX12_goAll_89 (oA.cons oX12_goAll_92 (oA.cons oX12_goAll_95 (oA.cons oX12_goAll_96 (oA.cons oX12_goAll_98 (oA.cons oX12_goAll_101 (oA.cons oX12_goAll_104 (oA.cons oX12_goAll_105 (oA.cons oX12_goAll_106 (oA.cons oX12_goAll_108 (oA.cons oX12_goAll_111 (oA.cons oX12_goAll_114 (oA.cons oX12_goAll_116 oA.nil))))))))))))))))))))))))))))))))))))))))))))))))))))))))))))))))
theorem dX12_wouldBe_0 : decode cX12_wouldBe 0 = .ok (.iload_n 1, 1) := by decide +kernel
theorem dX12_wouldBe_1 : decode cX12_wouldBe 1 = .ok (.invokestatic 326, 3) := by decide +kernel
theorem dX12_wouldBe_4 : decode cX12_wouldBe 4 = .ok (.ifCond .eq 13, 3) := by decide +kernel
theorem dX12_wouldBe_7 : decode cX12_wouldBe 7 = .ok (.iload_n 3, 1) := by decide +kernel
theorem dX12_wouldBe_8 : decode cX12_wouldBe 8 = .ok (.iconst 0, 1) := by decide +kernel
theorem dX12_wouldBe_9 : decode cX12_wouldBe 9 = .ok (.bipush 20, 2) := by decide +kernel
theorem dX12_wouldBe_11 : decode cX12_wouldBe 11 = .ok (.invokestatic 71, 3) := by decide +kernel
theorem dX12_wouldBe_14 : decode cX12_wouldBe 14 = .ok (.ifCond .ne 5, 3) := by decide +kernel
theorem dX12_wouldBe_17 : decode cX12_wouldBe 17 = .ok (.iconst (-1), 1) := by decide +kernel
theorem dX12_wouldBe_18 : decode cX12_wouldBe 18 = .ok (.ireturn, 1) := by decide +kernel
theorem dX12_wouldBe_19 : decode cX12_wouldBe 19 = .ok (.aload_n 0, 1) := by decide +kernel
theorem dX12_wouldBe_20 : decode cX12_wouldBe 20 = .ok (.iload_n 1, 1) := by decide +kernel
theorem dX12_wouldBe_21 : decode cX12_wouldBe 21 = .ok (.iconst 0, 1) := by decide +kernel
theorem dX12_wouldBe_22 : decode cX12_wouldBe 22 = .ok (.invokevirtual 332, 3) := by decide +kernel
theorem dX12_wouldBe_25 : decode cX12_wouldBe 25 = .ok (.istore 4, 2) := by decide +kernel
theorem dX12_wouldBe_27 : decode cX12_wouldBe 27 = .ok (.iconst 0, 1) := by decide +kernel
theorem dX12_wouldBe_28 : decode cX12_wouldBe 28 = .ok (.istore 5, 2) := by decide +kernel
theorem dX12_wouldBe_30 : decode cX12_wouldBe 30 = .ok (.aload_n 0, 1) := by decide +kernel
theorem dX12_wouldBe_31 : decode cX12_wouldBe 31 = .ok (.invokevirtual 241, 3) := by decide +kernel
theorem dX12_wouldBe_34 : decode cX12_wouldBe 34 = .ok (.iconst 0, 1) := by decide +kernel
theorem dX12_wouldBe_35 : decode cX12_wouldBe 35 = .ok (.istore 6, 2) := by decide +kernel
theorem dX12_wouldBe_37 : decode cX12_wouldBe 37 = .ok (.iload 6, 2) := by decide +kernel
theorem dX12_wouldBe_39 : decode cX12_wouldBe 39 = .ok (.iload_n 3, 1) := by decide +kernel
theorem dX12_wouldBe_40 : decode cX12_wouldBe 40 = .ok (.if_icmp .ge 105, 3) := by decide +kernel
theorem dX12_wouldBe_43 : decode cX12_wouldBe 43 = .ok (.iload 4, 2) := by decide +kernel
theorem dX12_wouldBe_45 : decode cX12_wouldBe 45 = .ok (.ifCond .ne 100, 3) := by decide +kernel
theorem dX12_wouldBe_48 : decode cX12_wouldBe 48 = .ok (.aload_n 0, 1) := by decide +kernel
theorem dX12_wouldBe_49 : decode cX12_wouldBe 49 = .ok (.iload_n 1, 1) := by decide +kernel
theorem dX12_wouldBe_50 : decode cX12_wouldBe 50 = .ok (.iload_n 2, 1) := by decide +kernel
theorem dX12_wouldBe_51 : decode cX12_wouldBe 51 = .ok (.iload 6, 2) := by decide +kernel
theorem dX12_wouldBe_53 : decode cX12_wouldBe 53 = .ok (.invokevirtual 335, 3) := by decide +kernel
theorem dX12_wouldBe_56 : decode cX12_wouldBe 56 = .ok (.ifCond .eq 20, 3) := by decide +kernel
theorem dX12_wouldBe_59 : decode cX12_wouldBe 59 = .ok (.aload_n 0, 1) := by decide +kernel
theorem dX12_wouldBe_60 : decode cX12_wouldBe 60 = .ok (.getfield 59, 3) := by decide +kernel
theorem dX12_wouldBe_63 : decode cX12_wouldBe 63 = .ok (.bipush 40, 2) := by decide +kernel
theorem dX12_wouldBe_65 : decode cX12_wouldBe 65 = .ok (.iload_n 1, 1) := by decide +kernel
theorem dX12_wouldBe_66 : decode cX12_wouldBe 66 = .ok (.imul, 1) := by decide +kernel
theorem dX12_wouldBe_67 : decode cX12_wouldBe 67 = .ok (.iload_n 2, 1) := by decide +kernel
theorem dX12_wouldBe_68 : decode cX12_wouldBe 68 = .ok (.iadd, 1) := by decide +kernel
theorem dX12_wouldBe_69 : decode cX12_wouldBe 69 = .ok (.iload 6, 2) := by decide +kernel
theorem dX12_wouldBe_71 : decode cX12_wouldBe 71 = .ok (.iadd, 1) := by decide +kernel
theorem dX12_wouldBe_72 : decode cX12_wouldBe 72 = .ok (.iaload, 1) := by decide +kernel
theorem dX12_wouldBe_73 : decode cX12_wouldBe 73 = .ok (.goto 4, 3) := by decide +kernel
theorem dX12_wouldBe_76 : decode cX12_wouldBe 76 = .ok (.iconst (-1), 1) := by decide +kernel
theorem dX12_wouldBe_77 : decode cX12_wouldBe 77 = .ok (.istore 7, 2) := by decide +kernel
theorem dX12_wouldBe_79 : decode cX12_wouldBe 79 = .ok (.aload_n 0, 1) := by decide +kernel
theorem dX12_wouldBe_80 : decode cX12_wouldBe 80 = .ok (.iload_n 1, 1) := by decide +kernel
theorem dX12_wouldBe_81 : decode cX12_wouldBe 81 = .ok (.iload_n 2, 1) := by decide +kernel
theorem dX12_wouldBe_82 : decode cX12_wouldBe 82 = .ok (.iload 6, 2) := by decide +kernel
theorem dX12_wouldBe_84 : decode cX12_wouldBe 84 = .ok (.invokevirtual 335, 3) := by decide +kernel
theorem dX12_wouldBe_87 : decode cX12_wouldBe 87 = .ok (.ifCond .ne 8, 3) := by decide +kernel
theorem dX12_wouldBe_90 : decode cX12_wouldBe 90 = .ok (.bipush (-12), 2) := by decide +kernel
theorem dX12_wouldBe_92 : decode cX12_wouldBe 92 = .ok (.goto 25, 3) := by decide +kernel
theorem dX12_wouldBe_95 : decode cX12_wouldBe 95 = .ok (.aload_n 0, 1) := by decide +kernel
theorem dX12_wouldBe_96 : decode cX12_wouldBe 96 = .ok (.iload 7, 2) := by decide +kernel
theorem dX12_wouldBe_98 : decode cX12_wouldBe 98 = .ok (.invokevirtual 323, 3) := by decide +kernel
theorem dX12_wouldBe_101 : decode cX12_wouldBe 101 = .ok (.ifCond .eq 10, 3) := by decide +kernel
theorem dX12_wouldBe_104 : decode cX12_wouldBe 104 = .ok (.aload_n 0, 1) := by decide +kernel
theorem dX12_wouldBe_105 : decode cX12_wouldBe 105 = .ok (.invokevirtual 229, 3) := by decide +kernel
theorem dX12_wouldBe_108 : decode cX12_wouldBe 108 = .ok (.ifCond .eq 8, 3) := by decide +kernel
theorem dX12_wouldBe_111 : decode cX12_wouldBe 111 = .ok (.bipush (-4), 2) := by decide +kernel
theorem dX12_wouldBe_113 : decode cX12_wouldBe 113 = .ok (.goto 4, 3) := by decide +kernel
theorem dX12_wouldBe_116 : decode cX12_wouldBe 116 = .ok (.iconst 0, 1) := by decide +kernel
theorem dX12_wouldBe_117 : decode cX12_wouldBe 117 = .ok (.istore 4, 2) := by decide +kernel
theorem dX12_wouldBe_119 : decode cX12_wouldBe 119 = .ok (.iload 5, 2) := by decide +kernel
theorem dX12_wouldBe_121 : decode cX12_wouldBe 121 = .ok (.iload 4, 2) := by decide +kernel
theorem dX12_wouldBe_123 : decode cX12_wouldBe 123 = .ok (.ifCond .ne 12, 3) := by decide +kernel
theorem dX12_wouldBe_126 : decode cX12_wouldBe 126 = .ok (.aload_n 0, 1) := by decide +kernel
theorem dX12_wouldBe_127 : decode cX12_wouldBe 127 = .ok (.iload 7, 2) := by decide +kernel
theorem dX12_wouldBe_129 : decode cX12_wouldBe 129 = .ok (.invokevirtual 238, 3) := by decide +kernel
theorem dX12_wouldBe_132 : decode cX12_wouldBe 132 = .ok (.goto 4, 3) := by decide +kernel
theorem dX12_wouldBe_135 : decode cX12_wouldBe 135 = .ok (.iconst 0, 1) := by decide +kernel
theorem dX12_wouldBe_136 : decode cX12_wouldBe 136 = .ok (.iadd, 1) := by decide +kernel
theorem dX12_wouldBe_137 : decode cX12_wouldBe 137 = .ok (.istore 5, 2) := by decide +kernel
theorem dX12_wouldBe_139 : decode cX12_wouldBe 139 = .ok (.iinc 6 1, 3) := by decide +kernel
theorem dX12_wouldBe_142 : decode cX12_wouldBe 142 = .ok (.goto (-105), 3) := by decide +kernel
theorem dX12_wouldBe_145 : decode cX12_wouldBe 145 = .ok (.aload_n 0, 1) := by decide +kernel
theorem dX12_wouldBe_146 : decode cX12_wouldBe 146 = .ok (.invokevirtual 247, 3) := by decide +kernel
theorem dX12_wouldBe_149 : decode cX12_wouldBe 149 = .ok (.iload 4, 2) := by decide +kernel
theorem dX12_wouldBe_151 : decode cX12_wouldBe 151 = .ok (.ifCond .eq 8, 3) := by decide +kernel
theorem dX12_wouldBe_154 : decode cX12_wouldBe 154 = .ok (.iload 4, 2) := by decide +kernel
theorem dX12_wouldBe_156 : decode cX12_wouldBe 156 = .ok (.goto 5, 3) := by decide +kernel
theorem dX12_wouldBe_159 : decode cX12_wouldBe 159 = .ok (.iload 5, 2) := by decide +kernel
theorem dX12_wouldBe_161 : decode cX12_wouldBe 161 = .ok (.ireturn, 1) := by decide +kernel
theorem oX12_wouldBe_0 : oP MT mX12_wouldBe 0 (1, 1, 1, 0, []) := o_iload_n dX12_wouldBe_0 rfl
theorem oX12_wouldBe_1 : oP MT mX12_wouldBe 1 (25, 3, 174, 1, []) := o_callS dX12_wouldBe_1 (mj := mX12_isSheet) mt_X12_isSheet cmq_X12_isSheet wq_784 wq_786 (by decide) (by decide)
theorem oX12_wouldBe_4 : oP MT mX12_wouldBe 4 (10, 3, 0, 17, []) := o_if_eq dX12_wouldBe_4 (by decide) (by decide)
theorem oX12_wouldBe_7 : oP MT mX12_wouldBe 7 (1, 1, 3, 0, []) := o_iload_n dX12_wouldBe_7 rfl
theorem oX12_wouldBe_8 : oP MT mX12_wouldBe 8 (0, 1, 0, 0, []) := o_iconst dX12_wouldBe_8 (by decide)
theorem oX12_wouldBe_9 : oP MT mX12_wouldBe 9 (0, 2, 0, 20, []) := o_bipush dX12_wouldBe_9 (by decide)
theorem oX12_wouldBe_11 : oP MT mX12_wouldBe 11 (25, 3, 127, 3, []) := o_callS dX12_wouldBe_11 (mj := mX12_in1) mt_X12_in1 cmq_X12_in1 wq_468 wq_470 (by decide) (by decide)
theorem oX12_wouldBe_14 : oP MT mX12_wouldBe 14 (10, 3, 1, 19, []) := o_if_ne dX12_wouldBe_14 (by decide) (by decide)
theorem oX12_wouldBe_17 : oP MT mX12_wouldBe 17 (0, 1, 0, (-1), []) := o_iconst dX12_wouldBe_17 (by decide)
theorem oX12_wouldBe_18 : oP MT mX12_wouldBe 18 (21, 1, 0, 0, []) := o_iret dX12_wouldBe_18 rfl
theorem oX12_wouldBe_19 : oP MT mX12_wouldBe 19 (1, 1, 0, 1, []) := o_aload_n dX12_wouldBe_19 rfl
theorem oX12_wouldBe_20 : oP MT mX12_wouldBe 20 (1, 1, 1, 0, []) := o_iload_n dX12_wouldBe_20 rfl
theorem oX12_wouldBe_21 : oP MT mX12_wouldBe 21 (0, 1, 0, 0, []) := o_iconst dX12_wouldBe_21 (by decide)
theorem oX12_wouldBe_22 : oP MT mX12_wouldBe 22 (26, 3, 0, 2, [(12, 175)]) := o_callO ((vA.cons (v_callV dX12_wouldBe_22 (ci := 12) rfl rfl (mj := mX12_lacks) mt_X12_lacks cmq_X12_lacks wq_797 wq_799 wq_800 (by decide) (by decide)) vA.nil))
theorem oX12_wouldBe_25 : oP MT mX12_wouldBe 25 (2, 2, 4, 0, []) := o_istore dX12_wouldBe_25 (by decide)
theorem oX12_wouldBe_27 : oP MT mX12_wouldBe 27 (0, 1, 0, 0, []) := o_iconst dX12_wouldBe_27 (by decide)
theorem oX12_wouldBe_28 : oP MT mX12_wouldBe 28 (2, 2, 5, 0, []) := o_istore dX12_wouldBe_28 (by decide)
theorem oX12_wouldBe_30 : oP MT mX12_wouldBe 30 (1, 1, 0, 1, []) := o_aload_n dX12_wouldBe_30 rfl
theorem oX12_wouldBe_31 : oP MT mX12_wouldBe 31 (26, 3, 0, 0, [(12, 152)]) := o_callO ((vA.cons (v_callV dX12_wouldBe_31 (ci := 12) rfl rfl (mj := mX12_layDown) mt_X12_layDown cmq_X12_layDown wq_569 wq_571 wq_572 (by decide) (by decide)) vA.nil))
theorem oX12_wouldBe_34 : oP MT mX12_wouldBe 34 (0, 1, 0, 0, []) := o_iconst dX12_wouldBe_34 (by decide)
theorem oX12_wouldBe_35 : oP MT mX12_wouldBe 35 (2, 2, 6, 0, []) := o_istore dX12_wouldBe_35 (by decide)
theorem oX12_wouldBe_37 : oP MT mX12_wouldBe 37 (1, 2, 6, 0, []) := o_iload dX12_wouldBe_37
theorem oX12_wouldBe_39 : oP MT mX12_wouldBe 39 (1, 1, 3, 0, []) := o_iload_n dX12_wouldBe_39 rfl
theorem oX12_wouldBe_40 : oP MT mX12_wouldBe 40 (11, 3, 3, 145, []) := o_icmp_ge dX12_wouldBe_40 (by decide) (by decide)
theorem oX12_wouldBe_43 : oP MT mX12_wouldBe 43 (1, 2, 4, 0, []) := o_iload dX12_wouldBe_43
theorem oX12_wouldBe_45 : oP MT mX12_wouldBe 45 (10, 3, 1, 145, []) := o_if_ne dX12_wouldBe_45 (by decide) (by decide)
theorem oX12_wouldBe_48 : oP MT mX12_wouldBe 48 (1, 1, 0, 1, []) := o_aload_n dX12_wouldBe_48 rfl
theorem oX12_wouldBe_49 : oP MT mX12_wouldBe 49 (1, 1, 1, 0, []) := o_iload_n dX12_wouldBe_49 rfl
theorem oX12_wouldBe_50 : oP MT mX12_wouldBe 50 (1, 1, 2, 0, []) := o_iload_n dX12_wouldBe_50 rfl
theorem oX12_wouldBe_51 : oP MT mX12_wouldBe 51 (1, 2, 6, 0, []) := o_iload dX12_wouldBe_51
theorem oX12_wouldBe_53 : oP MT mX12_wouldBe 53 (26, 3, 0, 3, [(12, 176)]) := o_callO ((vA.cons (v_callV dX12_wouldBe_53 (ci := 12) rfl rfl (mj := mX12_isItem) mt_X12_isItem cmq_X12_isItem wq_801 wq_803 wq_804 (by decide) (by decide)) vA.nil))
theorem oX12_wouldBe_56 : oP MT mX12_wouldBe 56 (10, 3, 0, 76, []) := o_if_eq dX12_wouldBe_56 (by decide) (by decide)
theorem oX12_wouldBe_59 : oP MT mX12_wouldBe 59 (1, 1, 0, 1, []) := o_aload_n dX12_wouldBe_59 rfl
theorem oX12_wouldBe_60 : oP MT mX12_wouldBe 60 (13, 3, 30, 12, []) := o_getR (M := mX12_wouldBe) (C := RX12) (T := TX12) (ci := 12) (j := 30) (z := 12) dX12_wouldBe_60 rfl lq_RX12_59 rfl rfl
theorem oX12_wouldBe_63 : oP MT mX12_wouldBe 63 (0, 2, 0, 40, []) := o_bipush dX12_wouldBe_63 (by decide)
theorem oX12_wouldBe_65 : oP MT mX12_wouldBe 65 (1, 1, 1, 0, []) := o_iload_n dX12_wouldBe_65 rfl
theorem oX12_wouldBe_66 : oP MT mX12_wouldBe 66 (4, 1, 2, 0, []) := o_imul dX12_wouldBe_66
theorem oX12_wouldBe_67 : oP MT mX12_wouldBe 67 (1, 1, 2, 0, []) := o_iload_n dX12_wouldBe_67 rfl
theorem oX12_wouldBe_68 : oP MT mX12_wouldBe 68 (4, 1, 0, 0, []) := o_iadd dX12_wouldBe_68
theorem oX12_wouldBe_69 : oP MT mX12_wouldBe 69 (1, 2, 6, 0, []) := o_iload dX12_wouldBe_69
theorem oX12_wouldBe_71 : oP MT mX12_wouldBe 71 (4, 1, 0, 0, []) := o_iadd dX12_wouldBe_71
theorem oX12_wouldBe_72 : oP MT mX12_wouldBe 72 (16, 1, 1, 0, []) := o_iaload dX12_wouldBe_72
theorem oX12_wouldBe_73 : oP MT mX12_wouldBe 73 (9, 3, 77, 0, []) := o_goto dX12_wouldBe_73 (by decide)
theorem oX12_wouldBe_76 : oP MT mX12_wouldBe 76 (0, 1, 0, (-1), []) := o_iconst dX12_wouldBe_76 (by decide)
theorem oX12_wouldBe_77 : oP MT mX12_wouldBe 77 (2, 2, 7, 0, []) := o_istore dX12_wouldBe_77 (by decide)
theorem oX12_wouldBe_79 : oP MT mX12_wouldBe 79 (1, 1, 0, 1, []) := o_aload_n dX12_wouldBe_79 rfl
theorem oX12_wouldBe_80 : oP MT mX12_wouldBe 80 (1, 1, 1, 0, []) := o_iload_n dX12_wouldBe_80 rfl
theorem oX12_wouldBe_81 : oP MT mX12_wouldBe 81 (1, 1, 2, 0, []) := o_iload_n dX12_wouldBe_81 rfl
theorem oX12_wouldBe_82 : oP MT mX12_wouldBe 82 (1, 2, 6, 0, []) := o_iload dX12_wouldBe_82
theorem oX12_wouldBe_84 : oP MT mX12_wouldBe 84 (26, 3, 0, 3, [(12, 176)]) := o_callO ((vA.cons (v_callV dX12_wouldBe_84 (ci := 12) rfl rfl (mj := mX12_isItem) mt_X12_isItem cmq_X12_isItem wq_801 wq_803 wq_804 (by decide) (by decide)) vA.nil))
theorem oX12_wouldBe_87 : oP MT mX12_wouldBe 87 (10, 3, 1, 95, []) := o_if_ne dX12_wouldBe_87 (by decide) (by decide)
theorem oX12_wouldBe_90 : oP MT mX12_wouldBe 90 (0, 2, 0, (-12), []) := o_bipush dX12_wouldBe_90 (by decide)
theorem oX12_wouldBe_92 : oP MT mX12_wouldBe 92 (9, 3, 117, 0, []) := o_goto dX12_wouldBe_92 (by decide)
theorem oX12_wouldBe_95 : oP MT mX12_wouldBe 95 (1, 1, 0, 1, []) := o_aload_n dX12_wouldBe_95 rfl
theorem oX12_wouldBe_96 : oP MT mX12_wouldBe 96 (1, 2, 7, 0, []) := o_iload dX12_wouldBe_96
theorem oX12_wouldBe_98 : oP MT mX12_wouldBe 98 (26, 3, 0, 1, [(12, 173)]) := o_callO ((vA.cons (v_callV dX12_wouldBe_98 (ci := 12) rfl rfl (mj := mX12_isAct) mt_X12_isAct cmq_X12_isAct wq_777 wq_779 wq_780 (by decide) (by decide)) vA.nil))
theorem oX12_wouldBe_101 : oP MT mX12_wouldBe 101 (10, 3, 0, 111, []) := o_if_eq dX12_wouldBe_101 (by decide) (by decide)
theorem oX12_wouldBe_104 : oP MT mX12_wouldBe 104 (1, 1, 0, 1, []) := o_aload_n dX12_wouldBe_104 rfl
theorem oX12_wouldBe_105 : oP MT mX12_wouldBe 105 (26, 3, 0, 0, [(12, 150)]) := o_callO ((vA.cons (v_callV dX12_wouldBe_105 (ci := 12) rfl rfl (mj := mX12_isOver) mt_X12_isOver cmq_X12_isOver wq_557 wq_559 wq_560 (by decide) (by decide)) vA.nil))
theorem oX12_wouldBe_108 : oP MT mX12_wouldBe 108 (10, 3, 0, 116, []) := o_if_eq dX12_wouldBe_108 (by decide) (by decide)
theorem oX12_wouldBe_111 : oP MT mX12_wouldBe 111 (0, 2, 0, (-4), []) := o_bipush dX12_wouldBe_111 (by decide)
theorem oX12_wouldBe_113 : oP MT mX12_wouldBe 113 (9, 3, 117, 0, []) := o_goto dX12_wouldBe_113 (by decide)
theorem oX12_wouldBe_116 : oP MT mX12_wouldBe 116 (0, 1, 0, 0, []) := o_iconst dX12_wouldBe_116 (by decide)
theorem oX12_wouldBe_117 : oP MT mX12_wouldBe 117 (2, 2, 4, 0, []) := o_istore dX12_wouldBe_117 (by decide)
theorem oX12_wouldBe_119 : oP MT mX12_wouldBe 119 (1, 2, 5, 0, []) := o_iload dX12_wouldBe_119
theorem oX12_wouldBe_121 : oP MT mX12_wouldBe 121 (1, 2, 4, 0, []) := o_iload dX12_wouldBe_121
theorem oX12_wouldBe_123 : oP MT mX12_wouldBe 123 (10, 3, 1, 135, []) := o_if_ne dX12_wouldBe_123 (by decide) (by decide)
theorem oX12_wouldBe_126 : oP MT mX12_wouldBe 126 (1, 1, 0, 1, []) := o_aload_n dX12_wouldBe_126 rfl
theorem oX12_wouldBe_127 : oP MT mX12_wouldBe 127 (1, 2, 7, 0, []) := o_iload dX12_wouldBe_127
theorem oX12_wouldBe_129 : oP MT mX12_wouldBe 129 (26, 3, 0, 1, [(12, 151)]) := o_callO ((vA.cons (v_callV dX12_wouldBe_129 (ci := 12) rfl rfl (mj := mX12_goesBy) mt_X12_goesBy cmq_X12_goesBy wq_561 wq_563 wq_564 (by decide) (by decide)) vA.nil))
theorem oX12_wouldBe_132 : oP MT mX12_wouldBe 132 (9, 3, 136, 0, []) := o_goto dX12_wouldBe_132 (by decide)
theorem oX12_wouldBe_135 : oP MT mX12_wouldBe 135 (0, 1, 0, 0, []) := o_iconst dX12_wouldBe_135 (by decide)
theorem oX12_wouldBe_136 : oP MT mX12_wouldBe 136 (4, 1, 0, 0, []) := o_iadd dX12_wouldBe_136
theorem oX12_wouldBe_137 : oP MT mX12_wouldBe 137 (2, 2, 5, 0, []) := o_istore dX12_wouldBe_137 (by decide)
theorem oX12_wouldBe_139 : oP MT mX12_wouldBe 139 (3, 3, 6, 1, []) := o_iinc dX12_wouldBe_139 (by decide) (by decide)
theorem oX12_wouldBe_142 : oP MT mX12_wouldBe 142 (9, 3, 37, 0, []) := o_goto dX12_wouldBe_142 (by decide)
theorem oX12_wouldBe_145 : oP MT mX12_wouldBe 145 (1, 1, 0, 1, []) := o_aload_n dX12_wouldBe_145 rfl
theorem oX12_wouldBe_146 : oP MT mX12_wouldBe 146 (26, 3, 0, 0, [(12, 154)]) := o_callO ((vA.cons (v_callV dX12_wouldBe_146 (ci := 12) rfl rfl (mj := mX12_layBack) mt_X12_layBack cmq_X12_layBack wq_577 wq_579 wq_580 (by decide) (by decide)) vA.nil))
theorem oX12_wouldBe_149 : oP MT mX12_wouldBe 149 (1, 2, 4, 0, []) := o_iload dX12_wouldBe_149
theorem oX12_wouldBe_151 : oP MT mX12_wouldBe 151 (10, 3, 0, 159, []) := o_if_eq dX12_wouldBe_151 (by decide) (by decide)
theorem oX12_wouldBe_154 : oP MT mX12_wouldBe 154 (1, 2, 4, 0, []) := o_iload dX12_wouldBe_154
theorem oX12_wouldBe_156 : oP MT mX12_wouldBe 156 (9, 3, 161, 0, []) := o_goto dX12_wouldBe_156 (by decide)
theorem oX12_wouldBe_159 : oP MT mX12_wouldBe 159 (1, 2, 5, 0, []) := o_iload dX12_wouldBe_159
theorem oX12_wouldBe_161 : oP MT mX12_wouldBe 161 (21, 1, 0, 0, []) := o_iret dX12_wouldBe_161 rfl
def ops_X12_wouldBe : List (Nat × aO) := [(0, (1, 1, 1, 0, [])), (1, (25, 3, 174, 1, [])), (4, (10, 3, 0, 17, [])), (7, (1, 1, 3, 0, [])), (8, (0, 1, 0, 0, [])), (9, (0, 2, 0, 20, [])), (11, (25, 3, 127, 3, [])), (14, (10, 3, 1, 19, [])), (17, (0, 1, 0, (-1), [])), (18, (21, 1, 0, 0, [])), (19, (1, 1, 0, 1, [])), (20, (1, 1, 1, 0, [])), (21, (0, 1, 0, 0, [])), (22, (26, 3, 0, 2, [(12, 175)])), (25, (2, 2, 4, 0, [])), (27, (0, 1, 0, 0, [])), (28, (2, 2, 5, 0, [])), (30, (1, 1, 0, 1, [])), (31, (26, 3, 0, 0, [(12, 152)])), (34, (0, 1, 0, 0, [])), (35, (2, 2, 6, 0, [])), (37, (1, 2, 6, 0, [])), (39, (1, 1, 3, 0, [])), (40, (11, 3, 3, 145, [])), (43, (1, 2, 4, 0, [])), (45, (10, 3, 1, 145, [])), (48, (1, 1, 0, 1, [])), (49, (1, 1, 1, 0, [])), (50, (1, 1, 2, 0, [])), (51, (1, 2, 6, 0, [])), (53, (26, 3, 0, 3, [(12, 176)])), (56, (10, 3, 0, 76, [])), (59, (1, 1, 0, 1, [])), (60, (13, 3, 30, 12, [])), (63, (0, 2, 0, 40, [])), (65, (1, 1, 1, 0, [])), (66, (4, 1, 2, 0, [])), (67, (1, 1, 2, 0, [])), (68, (4, 1, 0, 0, [])), (69, (1, 2, 6, 0, [])), (71, (4, 1, 0, 0, [])), (72, (16, 1, 1, 0, [])), (73, (9, 3, 77, 0, [])), (76, (0, 1, 0, (-1), [])), (77, (2, 2, 7, 0, [])), (79, (1, 1, 0, 1, [])), (80, (1, 1, 1, 0, [])), (81, (1, 1, 2, 0, [])), (82, (1, 2, 6, 0, [])), (84, (26, 3, 0, 3, [(12, 176)])), (87, (10, 3, 1, 95, [])), (90, (0, 2, 0, (-12), [])), (92, (9, 3, 117, 0, [])), (95, (1, 1, 0, 1, [])), (96, (1, 2, 7, 0, [])), (98, (26, 3, 0, 1, [(12, 173)])), (101, (10, 3, 0, 111, [])), (104, (1, 1, 0, 1, [])), (105, (26, 3, 0, 0, [(12, 150)])), (108, (10, 3, 0, 116, [])), (111, (0, 2, 0, (-4), [])), (113, (9, 3, 117, 0, [])), (116, (0, 1, 0, 0, [])), (117, (2, 2, 4, 0, [])), (119, (1, 2, 5, 0, [])), (121, (1, 2, 4, 0, [])), (123, (10, 3, 1, 135, [])), (126, (1, 1, 0, 1, [])), (127, (1, 2, 7, 0, [])), (129, (26, 3, 0, 1, [(12, 151)])), (132, (9, 3, 136, 0, [])), (135, (0, 1, 0, 0, [])), (136, (4, 1, 0, 0, [])), (137, (2, 2, 5, 0, [])), (139, (3, 3, 6, 1, [])), (142, (9, 3, 37, 0, [])), (145, (1, 1, 0, 1, [])), (146, (26, 3, 0, 0, [(12, 154)])), (149, (1, 2, 4, 0, [])), (151, (10, 3, 0, 159, [])), (154, (1, 2, 4, 0, [])), (156, (9, 3, 161, 0, [])), (159, (1, 2, 5, 0, [])), (161, (21, 1, 0, 0, []))]
theorem os_X12_wouldBe : oA MT mX12_wouldBe ops_X12_wouldBe := (oA.cons oX12_wouldBe_0 (oA.cons oX12_wouldBe_1 (oA.cons oX12_wouldBe_4 (oA.cons oX12_wouldBe_7 (oA.cons oX12_wouldBe_8 (oA.cons oX12_wouldBe_9 (oA.cons oX12_wouldBe_11 (oA.cons oX12_wouldBe_14 (oA.cons oX12_wouldBe_17 (oA.cons oX12_wouldBe_18 (oA.cons oX12_wouldBe_19 (oA.cons oX12_wouldBe_20 (oA.cons oX12_wouldBe_21 (oA.cons oX12_wouldBe_22 (oA.cons oX12_wouldBe_25 (oA.cons oX12_wouldBe_27 (oA.cons oX12_wouldBe_28 (oA.cons oX12_wouldBe_30 (oA.cons oX12_wouldBe_31 (oA.cons oX12_wouldBe_34 (oA.cons oX12_wouldBe_35 (oA.cons oX12_wouldBe_37 (oA.cons oX12_wouldBe_39 (oA.cons oX12_wouldBe_40 (oA.cons oX12_wouldBe_43 (oA.cons oX12_wouldBe_45 (oA.cons oX12_wouldBe_48 (oA.cons oX12_wouldBe_49 (oA.cons oX12_wouldBe_50 (oA.cons oX12_wouldBe_51 (oA.cons oX12_wouldBe_53 (oA.cons oX12_wouldBe_56 (oA.cons oX12_wouldBe_59 (oA.cons oX12_wouldBe_60 (oA.cons oX12_wouldBe_63 (oA.cons oX12_wouldBe_65 (oA.cons oX12_wouldBe_66 (oA.cons oX12_wouldBe_67 (oA.cons oX12_wouldBe_68 (oA.cons oX12_wouldBe_69 (oA.cons oX12_wouldBe_71 (oA.cons oX12_wouldBe_72 (oA.cons oX12_wouldBe_73 (oA.cons oX12_wouldBe_76 (oA.cons oX12_wouldBe_77 (oA.cons oX12_wouldBe_79 (oA.cons oX12_wouldBe_80 (oA.cons oX12_wouldBe_81 (oA.cons oX12_wouldBe_82 (oA.cons oX12_wouldBe_84 (oA.cons oX12_wouldBe_87 (oA.cons oX12_wouldBe_90 (oA.cons oX12_wouldBe_92 (oA.cons oX12_wouldBe_95 (oA.cons oX12_wouldBe_96 (oA.cons oX12_wouldBe_98 (oA.cons oX12_wouldBe_101 (oA.cons oX12_wouldBe_104 (oA.cons oX12_wouldBe_105 (oA.cons oX12_wouldBe_108 (oA.cons oX12_wouldBe_111 (oA.cons oX12_wouldBe_113 (oA.cons oX12_wouldBe_116 (oA.cons oX12_wouldBe_117 (oA.cons oX12_wouldBe_119 (oA.cons oX12_wouldBe_121 (oA.cons oX12_wouldBe_123 (oA.cons oX12_wouldBe_126 (oA.cons oX12_wouldBe_127 (oA.cons oX12_wouldBe_129 (oA.cons oX12_wouldBe_132 (oA.cons oX12_wouldBe_135 (oA.cons oX12_wouldBe_136 (oA.cons oX12_wouldBe_137 (oA.cons oX12_wouldBe_139 (oA.cons oX12_wouldBe_142 (oA.cons oX12_wouldBe_145 (oA.cons oX12_wouldBe_146 (oA.cons oX12_wouldBe_149 (oA.cons oX12_wouldBe_151 (oA.cons oX12_wouldBe_154 (oA.cons oX12_wouldBe_156 (oA.cons oX12_wouldBe_159 (oA.cons oX12_wouldBe_161 oA.nil))))))))))))))))))))))))))))))))))))))))))))))))))))))))))))))))))))))))))))))))))))
theorem dX12_shelf_0 : decode cX12_shelf 0 = .ok (.iload_n 1, 1) := by decide +kernel
theorem dX12_shelf_1 : decode cX12_shelf 1 = .ok (.invokestatic 326, 3) := by decide +kernel
theorem dX12_shelf_4 : decode cX12_shelf 4 = .ok (.ifCond .eq 36, 3) := by decide +kernel
theorem dX12_shelf_7 : decode cX12_shelf 7 = .ok (.iload_n 2, 1) := by decide +kernel
theorem dX12_shelf_8 : decode cX12_shelf 8 = .ok (.iconst 0, 1) := by decide +kernel
theorem dX12_shelf_9 : decode cX12_shelf 9 = .ok (.iconst 2, 1) := by decide +kernel
theorem dX12_shelf_10 : decode cX12_shelf 10 = .ok (.invokestatic 71, 3) := by decide +kernel
theorem dX12_shelf_13 : decode cX12_shelf 13 = .ok (.ifCond .eq 27, 3) := by decide +kernel
theorem dX12_shelf_16 : decode cX12_shelf 16 = .ok (.iload_n 2, 1) := by decide +kernel
theorem dX12_shelf_17 : decode cX12_shelf 17 = .ok (.ifCond .ne 11, 3) := by decide +kernel
theorem dX12_shelf_20 : decode cX12_shelf 20 = .ok (.aload_n 0, 1) := by decide +kernel
theorem dX12_shelf_21 : decode cX12_shelf 21 = .ok (.iload_n 3, 1) := by decide +kernel
theorem dX12_shelf_22 : decode cX12_shelf 22 = .ok (.invokevirtual 223, 3) := by decide +kernel
theorem dX12_shelf_25 : decode cX12_shelf 25 = .ok (.ifCond .eq 15, 3) := by decide +kernel
theorem dX12_shelf_28 : decode cX12_shelf 28 = .ok (.iload_n 2, 1) := by decide +kernel
theorem dX12_shelf_29 : decode cX12_shelf 29 = .ok (.iconst 1, 1) := by decide +kernel
theorem dX12_shelf_30 : decode cX12_shelf 30 = .ok (.if_icmp .ne 12, 3) := by decide +kernel
theorem dX12_shelf_33 : decode cX12_shelf 33 = .ok (.iload_n 3, 1) := by decide +kernel
theorem dX12_shelf_34 : decode cX12_shelf 34 = .ok (.invokestatic 326, 3) := by decide +kernel
theorem dX12_shelf_37 : decode cX12_shelf 37 = .ok (.ifCond .ne 5, 3) := by decide +kernel
theorem dX12_shelf_40 : decode cX12_shelf 40 = .ok (.iconst (-1), 1) := by decide +kernel
theorem dX12_shelf_41 : decode cX12_shelf 41 = .ok (.ireturn, 1) := by decide +kernel
theorem dX12_shelf_42 : decode cX12_shelf 42 = .ok (.aload_n 0, 1) := by decide +kernel
theorem dX12_shelf_43 : decode cX12_shelf 43 = .ok (.getfield 62, 3) := by decide +kernel
theorem dX12_shelf_46 : decode cX12_shelf 46 = .ok (.iload_n 1, 1) := by decide +kernel
theorem dX12_shelf_47 : decode cX12_shelf 47 = .ok (.iload_n 2, 1) := by decide +kernel
theorem dX12_shelf_48 : decode cX12_shelf 48 = .ok (.ifCond .ne 7, 3) := by decide +kernel
theorem dX12_shelf_51 : decode cX12_shelf 51 = .ok (.iconst 0, 1) := by decide +kernel
theorem dX12_shelf_52 : decode cX12_shelf 52 = .ok (.goto 30, 3) := by decide +kernel
theorem dX12_shelf_55 : decode cX12_shelf 55 = .ok (.iload_n 2, 1) := by decide +kernel
theorem dX12_shelf_56 : decode cX12_shelf 56 = .ok (.iconst 1, 1) := by decide +kernel
theorem dX12_shelf_57 : decode cX12_shelf 57 = .ok (.if_icmp .ne 24, 3) := by decide +kernel
theorem dX12_shelf_60 : decode cX12_shelf 60 = .ok (.aload_n 0, 1) := by decide +kernel
theorem dX12_shelf_61 : decode cX12_shelf 61 = .ok (.getfield 53, 3) := by decide +kernel
theorem dX12_shelf_64 : decode cX12_shelf 64 = .ok (.iload_n 3, 1) := by decide +kernel
theorem dX12_shelf_65 : decode cX12_shelf 65 = .ok (.iaload, 1) := by decide +kernel
theorem dX12_shelf_66 : decode cX12_shelf 66 = .ok (.ifCond .lt 15, 3) := by decide +kernel
theorem dX12_shelf_69 : decode cX12_shelf 69 = .ok (.bipush 10, 2) := by decide +kernel
theorem dX12_shelf_71 : decode cX12_shelf 71 = .ok (.aload_n 0, 1) := by decide +kernel
theorem dX12_shelf_72 : decode cX12_shelf 72 = .ok (.getfield 53, 3) := by decide +kernel
theorem dX12_shelf_75 : decode cX12_shelf 75 = .ok (.iload_n 3, 1) := by decide +kernel
theorem dX12_shelf_76 : decode cX12_shelf 76 = .ok (.iaload, 1) := by decide +kernel
theorem dX12_shelf_77 : decode cX12_shelf 77 = .ok (.iadd, 1) := by decide +kernel
theorem dX12_shelf_78 : decode cX12_shelf 78 = .ok (.goto 4, 3) := by decide +kernel
theorem dX12_shelf_81 : decode cX12_shelf 81 = .ok (.iconst (-1), 1) := by decide +kernel
theorem dX12_shelf_82 : decode cX12_shelf 82 = .ok (.iastore, 1) := by decide +kernel
theorem dX12_shelf_83 : decode cX12_shelf 83 = .ok (.aload_n 0, 1) := by decide +kernel
theorem dX12_shelf_84 : decode cX12_shelf 84 = .ok (.getfield 65, 3) := by decide +kernel
theorem dX12_shelf_87 : decode cX12_shelf 87 = .ok (.iload_n 1, 1) := by decide +kernel
theorem dX12_shelf_88 : decode cX12_shelf 88 = .ok (.iload_n 2, 1) := by decide +kernel
theorem dX12_shelf_89 : decode cX12_shelf 89 = .ok (.ifCond .ne 7, 3) := by decide +kernel
theorem dX12_shelf_92 : decode cX12_shelf 92 = .ok (.iload_n 3, 1) := by decide +kernel
theorem dX12_shelf_93 : decode cX12_shelf 93 = .ok (.goto 18, 3) := by decide +kernel
theorem dX12_shelf_96 : decode cX12_shelf 96 = .ok (.iload_n 2, 1) := by decide +kernel
theorem dX12_shelf_97 : decode cX12_shelf 97 = .ok (.iconst 1, 1) := by decide +kernel
theorem dX12_shelf_98 : decode cX12_shelf 98 = .ok (.if_icmp .ne 12, 3) := by decide +kernel
theorem dX12_shelf_101 : decode cX12_shelf 101 = .ok (.aload_n 0, 1) := by decide +kernel
theorem dX12_shelf_102 : decode cX12_shelf 102 = .ok (.getfield 56, 3) := by decide +kernel
theorem dX12_shelf_105 : decode cX12_shelf 105 = .ok (.iload_n 3, 1) := by decide +kernel
theorem dX12_shelf_106 : decode cX12_shelf 106 = .ok (.iaload, 1) := by decide +kernel
theorem dX12_shelf_107 : decode cX12_shelf 107 = .ok (.goto 4, 3) := by decide +kernel
theorem dX12_shelf_110 : decode cX12_shelf 110 = .ok (.iconst 0, 1) := by decide +kernel
theorem dX12_shelf_111 : decode cX12_shelf 111 = .ok (.iastore, 1) := by decide +kernel
theorem dX12_shelf_112 : decode cX12_shelf 112 = .ok (.iconst 1, 1) := by decide +kernel
theorem dX12_shelf_113 : decode cX12_shelf 113 = .ok (.ireturn, 1) := by decide +kernel
theorem oX12_shelf_0 : oP MT mX12_shelf 0 (1, 1, 1, 0, []) := o_iload_n dX12_shelf_0 rfl
theorem oX12_shelf_1 : oP MT mX12_shelf 1 (25, 3, 174, 1, []) := o_callS dX12_shelf_1 (mj := mX12_isSheet) mt_X12_isSheet cmq_X12_isSheet wq_784 wq_786 (by decide) (by decide)
theorem oX12_shelf_4 : oP MT mX12_shelf 4 (10, 3, 0, 40, []) := o_if_eq dX12_shelf_4 (by decide) (by decide)
theorem oX12_shelf_7 : oP MT mX12_shelf 7 (1, 1, 2, 0, []) := o_iload_n dX12_shelf_7 rfl
theorem oX12_shelf_8 : oP MT mX12_shelf 8 (0, 1, 0, 0, []) := o_iconst dX12_shelf_8 (by decide)
theorem oX12_shelf_9 : oP MT mX12_shelf 9 (0, 1, 0, 2, []) := o_iconst dX12_shelf_9 (by decide)
theorem oX12_shelf_10 : oP MT mX12_shelf 10 (25, 3, 127, 3, []) := o_callS dX12_shelf_10 (mj := mX12_in1) mt_X12_in1 cmq_X12_in1 wq_468 wq_470 (by decide) (by decide)
theorem oX12_shelf_13 : oP MT mX12_shelf 13 (10, 3, 0, 40, []) := o_if_eq dX12_shelf_13 (by decide) (by decide)
theorem oX12_shelf_16 : oP MT mX12_shelf 16 (1, 1, 2, 0, []) := o_iload_n dX12_shelf_16 rfl
theorem oX12_shelf_17 : oP MT mX12_shelf 17 (10, 3, 1, 28, []) := o_if_ne dX12_shelf_17 (by decide) (by decide)
theorem oX12_shelf_20 : oP MT mX12_shelf 20 (1, 1, 0, 1, []) := o_aload_n dX12_shelf_20 rfl
theorem oX12_shelf_21 : oP MT mX12_shelf 21 (1, 1, 3, 0, []) := o_iload_n dX12_shelf_21 rfl
theorem oX12_shelf_22 : oP MT mX12_shelf 22 (26, 3, 0, 1, [(12, 149)]) := o_callO ((vA.cons (v_callV dX12_shelf_22 (ci := 12) rfl rfl (mj := mX12_isKey) mt_X12_isKey cmq_X12_isKey wq_565 wq_567 wq_568 (by decide) (by decide)) vA.nil))
theorem oX12_shelf_25 : oP MT mX12_shelf 25 (10, 3, 0, 40, []) := o_if_eq dX12_shelf_25 (by decide) (by decide)
theorem oX12_shelf_28 : oP MT mX12_shelf 28 (1, 1, 2, 0, []) := o_iload_n dX12_shelf_28 rfl
theorem oX12_shelf_29 : oP MT mX12_shelf 29 (0, 1, 0, 1, []) := o_iconst dX12_shelf_29 (by decide)
theorem oX12_shelf_30 : oP MT mX12_shelf 30 (11, 3, 1, 42, []) := o_icmp_ne dX12_shelf_30 (by decide) (by decide)
theorem oX12_shelf_33 : oP MT mX12_shelf 33 (1, 1, 3, 0, []) := o_iload_n dX12_shelf_33 rfl
theorem oX12_shelf_34 : oP MT mX12_shelf 34 (25, 3, 174, 1, []) := o_callS dX12_shelf_34 (mj := mX12_isSheet) mt_X12_isSheet cmq_X12_isSheet wq_784 wq_786 (by decide) (by decide)
theorem oX12_shelf_37 : oP MT mX12_shelf 37 (10, 3, 1, 42, []) := o_if_ne dX12_shelf_37 (by decide) (by decide)
theorem oX12_shelf_40 : oP MT mX12_shelf 40 (0, 1, 0, (-1), []) := o_iconst dX12_shelf_40 (by decide)
theorem oX12_shelf_41 : oP MT mX12_shelf 41 (21, 1, 0, 0, []) := o_iret dX12_shelf_41 rfl
theorem oX12_shelf_42 : oP MT mX12_shelf 42 (1, 1, 0, 1, []) := o_aload_n dX12_shelf_42 rfl
theorem oX12_shelf_43 : oP MT mX12_shelf 43 (13, 3, 31, 12, []) := o_getR (M := mX12_shelf) (C := RX12) (T := TX12) (ci := 12) (j := 31) (z := 12) dX12_shelf_43 rfl lq_RX12_62 rfl rfl
theorem oX12_shelf_46 : oP MT mX12_shelf 46 (1, 1, 1, 0, []) := o_iload_n dX12_shelf_46 rfl
theorem oX12_shelf_47 : oP MT mX12_shelf 47 (1, 1, 2, 0, []) := o_iload_n dX12_shelf_47 rfl
theorem oX12_shelf_48 : oP MT mX12_shelf 48 (10, 3, 1, 55, []) := o_if_ne dX12_shelf_48 (by decide) (by decide)
theorem oX12_shelf_51 : oP MT mX12_shelf 51 (0, 1, 0, 0, []) := o_iconst dX12_shelf_51 (by decide)
theorem oX12_shelf_52 : oP MT mX12_shelf 52 (9, 3, 82, 0, []) := o_goto dX12_shelf_52 (by decide)
theorem oX12_shelf_55 : oP MT mX12_shelf 55 (1, 1, 2, 0, []) := o_iload_n dX12_shelf_55 rfl
theorem oX12_shelf_56 : oP MT mX12_shelf 56 (0, 1, 0, 1, []) := o_iconst dX12_shelf_56 (by decide)
theorem oX12_shelf_57 : oP MT mX12_shelf 57 (11, 3, 1, 81, []) := o_icmp_ne dX12_shelf_57 (by decide) (by decide)
theorem oX12_shelf_60 : oP MT mX12_shelf 60 (1, 1, 0, 1, []) := o_aload_n dX12_shelf_60 rfl
theorem oX12_shelf_61 : oP MT mX12_shelf 61 (13, 3, 28, 12, []) := o_getR (M := mX12_shelf) (C := RX12) (T := TX12) (ci := 12) (j := 28) (z := 12) dX12_shelf_61 rfl lq_RX12_53 rfl rfl
theorem oX12_shelf_64 : oP MT mX12_shelf 64 (1, 1, 3, 0, []) := o_iload_n dX12_shelf_64 rfl
theorem oX12_shelf_65 : oP MT mX12_shelf 65 (16, 1, 1, 0, []) := o_iaload dX12_shelf_65
theorem oX12_shelf_66 : oP MT mX12_shelf 66 (10, 3, 2, 81, []) := o_if_lt dX12_shelf_66 (by decide) (by decide)
theorem oX12_shelf_69 : oP MT mX12_shelf 69 (0, 2, 0, 10, []) := o_bipush dX12_shelf_69 (by decide)
theorem oX12_shelf_71 : oP MT mX12_shelf 71 (1, 1, 0, 1, []) := o_aload_n dX12_shelf_71 rfl
theorem oX12_shelf_72 : oP MT mX12_shelf 72 (13, 3, 28, 12, []) := o_getR (M := mX12_shelf) (C := RX12) (T := TX12) (ci := 12) (j := 28) (z := 12) dX12_shelf_72 rfl lq_RX12_53 rfl rfl
theorem oX12_shelf_75 : oP MT mX12_shelf 75 (1, 1, 3, 0, []) := o_iload_n dX12_shelf_75 rfl
theorem oX12_shelf_76 : oP MT mX12_shelf 76 (16, 1, 1, 0, []) := o_iaload dX12_shelf_76
theorem oX12_shelf_77 : oP MT mX12_shelf 77 (4, 1, 0, 0, []) := o_iadd dX12_shelf_77
theorem oX12_shelf_78 : oP MT mX12_shelf 78 (9, 3, 82, 0, []) := o_goto dX12_shelf_78 (by decide)
theorem oX12_shelf_81 : oP MT mX12_shelf 81 (0, 1, 0, (-1), []) := o_iconst dX12_shelf_81 (by decide)
theorem oX12_shelf_82 : oP MT mX12_shelf 82 (18, 1, 0, 0, []) := o_iastore dX12_shelf_82
theorem oX12_shelf_83 : oP MT mX12_shelf 83 (1, 1, 0, 1, []) := o_aload_n dX12_shelf_83 rfl
theorem oX12_shelf_84 : oP MT mX12_shelf 84 (13, 3, 32, 12, []) := o_getR (M := mX12_shelf) (C := RX12) (T := TX12) (ci := 12) (j := 32) (z := 12) dX12_shelf_84 rfl lq_RX12_65 rfl rfl
theorem oX12_shelf_87 : oP MT mX12_shelf 87 (1, 1, 1, 0, []) := o_iload_n dX12_shelf_87 rfl
theorem oX12_shelf_88 : oP MT mX12_shelf 88 (1, 1, 2, 0, []) := o_iload_n dX12_shelf_88 rfl
theorem oX12_shelf_89 : oP MT mX12_shelf 89 (10, 3, 1, 96, []) := o_if_ne dX12_shelf_89 (by decide) (by decide)
theorem oX12_shelf_92 : oP MT mX12_shelf 92 (1, 1, 3, 0, []) := o_iload_n dX12_shelf_92 rfl
theorem oX12_shelf_93 : oP MT mX12_shelf 93 (9, 3, 111, 0, []) := o_goto dX12_shelf_93 (by decide)
theorem oX12_shelf_96 : oP MT mX12_shelf 96 (1, 1, 2, 0, []) := o_iload_n dX12_shelf_96 rfl
theorem oX12_shelf_97 : oP MT mX12_shelf 97 (0, 1, 0, 1, []) := o_iconst dX12_shelf_97 (by decide)
theorem oX12_shelf_98 : oP MT mX12_shelf 98 (11, 3, 1, 110, []) := o_icmp_ne dX12_shelf_98 (by decide) (by decide)
theorem oX12_shelf_101 : oP MT mX12_shelf 101 (1, 1, 0, 1, []) := o_aload_n dX12_shelf_101 rfl
theorem oX12_shelf_102 : oP MT mX12_shelf 102 (13, 3, 29, 12, []) := o_getR (M := mX12_shelf) (C := RX12) (T := TX12) (ci := 12) (j := 29) (z := 12) dX12_shelf_102 rfl lq_RX12_56 rfl rfl
theorem oX12_shelf_105 : oP MT mX12_shelf 105 (1, 1, 3, 0, []) := o_iload_n dX12_shelf_105 rfl
theorem oX12_shelf_106 : oP MT mX12_shelf 106 (16, 1, 1, 0, []) := o_iaload dX12_shelf_106
theorem oX12_shelf_107 : oP MT mX12_shelf 107 (9, 3, 111, 0, []) := o_goto dX12_shelf_107 (by decide)
theorem oX12_shelf_110 : oP MT mX12_shelf 110 (0, 1, 0, 0, []) := o_iconst dX12_shelf_110 (by decide)
theorem oX12_shelf_111 : oP MT mX12_shelf 111 (18, 1, 0, 0, []) := o_iastore dX12_shelf_111
theorem oX12_shelf_112 : oP MT mX12_shelf 112 (0, 1, 0, 1, []) := o_iconst dX12_shelf_112 (by decide)
theorem oX12_shelf_113 : oP MT mX12_shelf 113 (21, 1, 0, 0, []) := o_iret dX12_shelf_113 rfl
def ops_X12_shelf : List (Nat × aO) := [(0, (1, 1, 1, 0, [])), (1, (25, 3, 174, 1, [])), (4, (10, 3, 0, 40, [])), (7, (1, 1, 2, 0, [])), (8, (0, 1, 0, 0, [])), (9, (0, 1, 0, 2, [])), (10, (25, 3, 127, 3, [])), (13, (10, 3, 0, 40, [])), (16, (1, 1, 2, 0, [])), (17, (10, 3, 1, 28, [])), (20, (1, 1, 0, 1, [])), (21, (1, 1, 3, 0, [])), (22, (26, 3, 0, 1, [(12, 149)])), (25, (10, 3, 0, 40, [])), (28, (1, 1, 2, 0, [])), (29, (0, 1, 0, 1, [])), (30, (11, 3, 1, 42, [])), (33, (1, 1, 3, 0, [])), (34, (25, 3, 174, 1, [])), (37, (10, 3, 1, 42, [])), (40, (0, 1, 0, (-1), [])), (41, (21, 1, 0, 0, [])), (42, (1, 1, 0, 1, [])), (43, (13, 3, 31, 12, [])), (46, (1, 1, 1, 0, [])), (47, (1, 1, 2, 0, [])), (48, (10, 3, 1, 55, [])), (51, (0, 1, 0, 0, [])), (52, (9, 3, 82, 0, [])), (55, (1, 1, 2, 0, [])), (56, (0, 1, 0, 1, [])), (57, (11, 3, 1, 81, [])), (60, (1, 1, 0, 1, [])), (61, (13, 3, 28, 12, [])), (64, (1, 1, 3, 0, [])), (65, (16, 1, 1, 0, [])), (66, (10, 3, 2, 81, [])), (69, (0, 2, 0, 10, [])), (71, (1, 1, 0, 1, [])), (72, (13, 3, 28, 12, [])), (75, (1, 1, 3, 0, [])), (76, (16, 1, 1, 0, [])), (77, (4, 1, 0, 0, [])), (78, (9, 3, 82, 0, [])), (81, (0, 1, 0, (-1), [])), (82, (18, 1, 0, 0, [])), (83, (1, 1, 0, 1, [])), (84, (13, 3, 32, 12, [])), (87, (1, 1, 1, 0, [])), (88, (1, 1, 2, 0, [])), (89, (10, 3, 1, 96, [])), (92, (1, 1, 3, 0, [])), (93, (9, 3, 111, 0, [])), (96, (1, 1, 2, 0, [])), (97, (0, 1, 0, 1, [])), (98, (11, 3, 1, 110, [])), (101, (1, 1, 0, 1, [])), (102, (13, 3, 29, 12, [])), (105, (1, 1, 3, 0, [])), (106, (16, 1, 1, 0, [])), (107, (9, 3, 111, 0, [])), (110, (0, 1, 0, 0, [])), (111, (18, 1, 0, 0, [])), (112, (0, 1, 0, 1, [])), (113, (21, 1, 0, 0, []))]
theorem os_X12_shelf : oA MT mX12_shelf ops_X12_shelf := (oA.cons oX12_shelf_0 (oA.cons oX12_shelf_1 (oA.cons oX12_shelf_4 (oA.cons oX12_shelf_7 (oA.cons oX12_shelf_8 (oA.cons oX12_shelf_9 (oA.cons oX12_shelf_10 (oA.cons oX12_shelf_13 (oA.cons oX12_shelf_16 (oA.cons oX12_shelf_17 (oA.cons oX12_shelf_20 (oA.cons oX12_shelf_21 (oA.cons oX12_shelf_22 (oA.cons oX12_shelf_25 (oA.cons oX12_shelf_28 (oA.cons oX12_shelf_29 (oA.cons oX12_shelf_30 (oA.cons oX12_shelf_33 (oA.cons oX12_shelf_34 (oA.cons oX12_shelf_37 (oA.cons oX12_shelf_40 (oA.cons oX12_shelf_41 (oA.cons oX12_shelf_42 (oA.cons oX12_shelf_43 (oA.cons oX12_shelf_46 (oA.cons oX12_shelf_47 (oA.cons oX12_shelf_48 (oA.cons oX12_shelf_51 (oA.cons oX12_shelf_52 (oA.cons oX12_shelf_55 (oA.cons oX12_shelf_56 (oA.cons oX12_shelf_57 (oA.cons oX12_shelf_60 (oA.cons oX12_shelf_61 (oA.cons oX12_shelf_64 (oA.cons oX12_shelf_65 (oA.cons oX12_shelf_66 (oA.cons oX12_shelf_69 (oA.cons oX12_shelf_71 (oA.cons oX12_shelf_72 (oA.cons oX12_shelf_75 (oA.cons oX12_shelf_76 (oA.cons oX12_shelf_77 (oA.cons oX12_shelf_78 (oA.cons oX12_shelf_81 (oA.cons oX12_shelf_82 (oA.cons oX12_shelf_83 (oA.cons oX12_shelf_84 (oA.cons oX12_shelf_87 (oA.cons oX12_shelf_88 (oA.cons oX12_shelf_89 (oA.cons oX12_shelf_92 (oA.cons oX12_shelf_93 (oA.cons oX12_shelf_96 (oA.cons oX12_shelf_97 (oA.cons oX12_shelf_98 (oA.cons oX12_shelf_101 (oA.cons oX12_shelf_102 (oA.cons oX12_shelf_105 (oA.cons oX12_shelf_106 (oA.cons oX12_shelf_107 (oA.cons oX12_shelf_110 (oA.cons oX12_shelf_111 (oA.cons oX12_shelf_112 (oA.cons oX12_shelf_113 oA.nil)))))))))))))))))))))))))))))))))))))))))))))))))))))))))))))))))
theorem dX12_taken_0 : decode cX12_taken 0 = .ok (.iload_n 1, 1) := by decide +kernel
theorem dX12_taken_1 : decode cX12_taken 1 = .ok (.invokestatic 326, 3) := by decide +kernel
theorem dX12_taken_4 : decode cX12_taken 4 = .ok (.ifCond .eq 23, 3) := by decide +kernel
theorem dX12_taken_7 : decode cX12_taken 7 = .ok (.iload_n 2, 1) := by decide +kernel
theorem dX12_taken_8 : decode cX12_taken 8 = .ok (.iconst 0, 1) := by decide +kernel
theorem dX12_taken_9 : decode cX12_taken 9 = .ok (.iconst 5, 1) := by decide +kernel
theorem dX12_taken_10 : decode cX12_taken 10 = .ok (.invokestatic 71, 3) := by decide +kernel
theorem dX12_taken_13 : decode cX12_taken 13 = .ok (.ifCond .ne 16, 3) := by decide +kernel
theorem dX12_taken_16 : decode cX12_taken 16 = .ok (.iload_n 2, 1) := by decide +kernel
theorem dX12_taken_17 : decode cX12_taken 17 = .ok (.bipush 10, 2) := by decide +kernel
theorem dX12_taken_19 : decode cX12_taken 19 = .ok (.bipush 14, 2) := by decide +kernel
theorem dX12_taken_21 : decode cX12_taken 21 = .ok (.invokestatic 71, 3) := by decide +kernel
theorem dX12_taken_24 : decode cX12_taken 24 = .ok (.ifCond .ne 5, 3) := by decide +kernel
theorem dX12_taken_27 : decode cX12_taken 27 = .ok (.iconst (-1), 1) := by decide +kernel
theorem dX12_taken_28 : decode cX12_taken 28 = .ok (.ireturn, 1) := by decide +kernel
theorem dX12_taken_29 : decode cX12_taken 29 = .ok (.aload_n 0, 1) := by decide +kernel
theorem dX12_taken_30 : decode cX12_taken 30 = .ok (.iload_n 1, 1) := by decide +kernel
theorem dX12_taken_31 : decode cX12_taken 31 = .ok (.invokevirtual 338, 3) := by decide +kernel
theorem dX12_taken_34 : decode cX12_taken 34 = .ok (.istore_n 3, 1) := by decide +kernel
theorem dX12_taken_35 : decode cX12_taken 35 = .ok (.iload_n 3, 1) := by decide +kernel
theorem dX12_taken_36 : decode cX12_taken 36 = .ok (.ifCond .ge 6, 3) := by decide +kernel
theorem dX12_taken_39 : decode cX12_taken 39 = .ok (.bipush (-11), 2) := by decide +kernel
theorem dX12_taken_41 : decode cX12_taken 41 = .ok (.ireturn, 1) := by decide +kernel
theorem dX12_taken_42 : decode cX12_taken 42 = .ok (.iload_n 3, 1) := by decide +kernel
theorem dX12_taken_43 : decode cX12_taken 43 = .ok (.ifCond .ne 35, 3) := by decide +kernel
theorem dX12_taken_46 : decode cX12_taken 46 = .ok (.iload_n 2, 1) := by decide +kernel
theorem dX12_taken_47 : decode cX12_taken 47 = .ok (.bipush 10, 2) := by decide +kernel
theorem dX12_taken_49 : decode cX12_taken 49 = .ok (.if_icmp .ge 25, 3) := by decide +kernel
theorem dX12_taken_52 : decode cX12_taken 52 = .ok (.aload_n 0, 1) := by decide +kernel
theorem dX12_taken_53 : decode cX12_taken 53 = .ok (.aload_n 0, 1) := by decide +kernel
theorem dX12_taken_54 : decode cX12_taken 54 = .ok (.getfield 65, 3) := by decide +kernel
theorem dX12_taken_57 : decode cX12_taken 57 = .ok (.iload_n 1, 1) := by decide +kernel
theorem dX12_taken_58 : decode cX12_taken 58 = .ok (.iaload, 1) := by decide +kernel
theorem dX12_taken_59 : decode cX12_taken 59 = .ok (.iconst 0, 1) := by decide +kernel
theorem dX12_taken_60 : decode cX12_taken 60 = .ok (.invokevirtual 79, 3) := by decide +kernel
theorem dX12_taken_63 : decode cX12_taken 63 = .ok (.iload_n 2, 1) := by decide +kernel
theorem dX12_taken_64 : decode cX12_taken 64 = .ok (.invokestatic 120, 3) := by decide +kernel
theorem dX12_taken_67 : decode cX12_taken 67 = .ok (.ifCond .eq 7, 3) := by decide +kernel
theorem dX12_taken_70 : decode cX12_taken 70 = .ok (.iconst 1, 1) := by decide +kernel
theorem dX12_taken_71 : decode cX12_taken 71 = .ok (.goto 17, 3) := by decide +kernel
theorem dX12_taken_74 : decode cX12_taken 74 = .ok (.iconst 0, 1) := by decide +kernel
theorem dX12_taken_75 : decode cX12_taken 75 = .ok (.goto 13, 3) := by decide +kernel
theorem dX12_taken_78 : decode cX12_taken 78 = .ok (.iload_n 3, 1) := by decide +kernel
theorem dX12_taken_79 : decode cX12_taken 79 = .ok (.iload_n 2, 1) := by decide +kernel
theorem dX12_taken_80 : decode cX12_taken 80 = .ok (.if_icmp .ne 7, 3) := by decide +kernel
theorem dX12_taken_83 : decode cX12_taken 83 = .ok (.iconst 1, 1) := by decide +kernel
theorem dX12_taken_84 : decode cX12_taken 84 = .ok (.goto 4, 3) := by decide +kernel
theorem dX12_taken_87 : decode cX12_taken 87 = .ok (.iconst 0, 1) := by decide +kernel
theorem dX12_taken_88 : decode cX12_taken 88 = .ok (.istore 4, 2) := by decide +kernel
theorem dX12_taken_90 : decode cX12_taken 90 = .ok (.iload 4, 2) := by decide +kernel
theorem dX12_taken_92 : decode cX12_taken 92 = .ok (.ifCond .eq 12, 3) := by decide +kernel
theorem dX12_taken_95 : decode cX12_taken 95 = .ok (.aload_n 0, 1) := by decide +kernel
theorem dX12_taken_96 : decode cX12_taken 96 = .ok (.getfield 65, 3) := by decide +kernel
theorem dX12_taken_99 : decode cX12_taken 99 = .ok (.iload_n 1, 1) := by decide +kernel
theorem dX12_taken_100 : decode cX12_taken 100 = .ok (.iaload, 1) := by decide +kernel
theorem dX12_taken_101 : decode cX12_taken 101 = .ok (.goto 5, 3) := by decide +kernel
theorem dX12_taken_104 : decode cX12_taken 104 = .ok (.bipush (-13), 2) := by decide +kernel
theorem dX12_taken_106 : decode cX12_taken 106 = .ok (.ireturn, 1) := by decide +kernel
theorem oX12_taken_0 : oP MT mX12_taken 0 (1, 1, 1, 0, []) := o_iload_n dX12_taken_0 rfl
theorem oX12_taken_1 : oP MT mX12_taken 1 (25, 3, 174, 1, []) := o_callS dX12_taken_1 (mj := mX12_isSheet) mt_X12_isSheet cmq_X12_isSheet wq_784 wq_786 (by decide) (by decide)
theorem oX12_taken_4 : oP MT mX12_taken 4 (10, 3, 0, 27, []) := o_if_eq dX12_taken_4 (by decide) (by decide)
theorem oX12_taken_7 : oP MT mX12_taken 7 (1, 1, 2, 0, []) := o_iload_n dX12_taken_7 rfl
theorem oX12_taken_8 : oP MT mX12_taken 8 (0, 1, 0, 0, []) := o_iconst dX12_taken_8 (by decide)
theorem oX12_taken_9 : oP MT mX12_taken 9 (0, 1, 0, 5, []) := o_iconst dX12_taken_9 (by decide)
theorem oX12_taken_10 : oP MT mX12_taken 10 (25, 3, 127, 3, []) := o_callS dX12_taken_10 (mj := mX12_in1) mt_X12_in1 cmq_X12_in1 wq_468 wq_470 (by decide) (by decide)
theorem oX12_taken_13 : oP MT mX12_taken 13 (10, 3, 1, 29, []) := o_if_ne dX12_taken_13 (by decide) (by decide)
theorem oX12_taken_16 : oP MT mX12_taken 16 (1, 1, 2, 0, []) := o_iload_n dX12_taken_16 rfl
theorem oX12_taken_17 : oP MT mX12_taken 17 (0, 2, 0, 10, []) := o_bipush dX12_taken_17 (by decide)
theorem oX12_taken_19 : oP MT mX12_taken 19 (0, 2, 0, 14, []) := o_bipush dX12_taken_19 (by decide)
theorem oX12_taken_21 : oP MT mX12_taken 21 (25, 3, 127, 3, []) := o_callS dX12_taken_21 (mj := mX12_in1) mt_X12_in1 cmq_X12_in1 wq_468 wq_470 (by decide) (by decide)
theorem oX12_taken_24 : oP MT mX12_taken 24 (10, 3, 1, 29, []) := o_if_ne dX12_taken_24 (by decide) (by decide)
theorem oX12_taken_27 : oP MT mX12_taken 27 (0, 1, 0, (-1), []) := o_iconst dX12_taken_27 (by decide)
theorem oX12_taken_28 : oP MT mX12_taken 28 (21, 1, 0, 0, []) := o_iret dX12_taken_28 rfl
theorem oX12_taken_29 : oP MT mX12_taken 29 (1, 1, 0, 1, []) := o_aload_n dX12_taken_29 rfl
theorem oX12_taken_30 : oP MT mX12_taken 30 (1, 1, 1, 0, []) := o_iload_n dX12_taken_30 rfl
theorem oX12_taken_31 : oP MT mX12_taken 31 (26, 3, 0, 1, [(12, 177)]) := o_callO ((vA.cons (v_callV dX12_taken_31 (ci := 12) rfl rfl (mj := mX12_heldOn) mt_X12_heldOn cmq_X12_heldOn wq_814 wq_816 wq_817 (by decide) (by decide)) vA.nil))
theorem oX12_taken_34 : oP MT mX12_taken 34 (2, 1, 3, 0, []) := o_istore_n dX12_taken_34 rfl (by decide)
theorem oX12_taken_35 : oP MT mX12_taken 35 (1, 1, 3, 0, []) := o_iload_n dX12_taken_35 rfl
theorem oX12_taken_36 : oP MT mX12_taken 36 (10, 3, 3, 42, []) := o_if_ge dX12_taken_36 (by decide) (by decide)
theorem oX12_taken_39 : oP MT mX12_taken 39 (0, 2, 0, (-11), []) := o_bipush dX12_taken_39 (by decide)
theorem oX12_taken_41 : oP MT mX12_taken 41 (21, 1, 0, 0, []) := o_iret dX12_taken_41 rfl
theorem oX12_taken_42 : oP MT mX12_taken 42 (1, 1, 3, 0, []) := o_iload_n dX12_taken_42 rfl
theorem oX12_taken_43 : oP MT mX12_taken 43 (10, 3, 1, 78, []) := o_if_ne dX12_taken_43 (by decide) (by decide)
theorem oX12_taken_46 : oP MT mX12_taken 46 (1, 1, 2, 0, []) := o_iload_n dX12_taken_46 rfl
theorem oX12_taken_47 : oP MT mX12_taken 47 (0, 2, 0, 10, []) := o_bipush dX12_taken_47 (by decide)
theorem oX12_taken_49 : oP MT mX12_taken 49 (11, 3, 3, 74, []) := o_icmp_ge dX12_taken_49 (by decide) (by decide)
theorem oX12_taken_52 : oP MT mX12_taken 52 (1, 1, 0, 1, []) := o_aload_n dX12_taken_52 rfl
theorem oX12_taken_53 : oP MT mX12_taken 53 (1, 1, 0, 1, []) := o_aload_n dX12_taken_53 rfl
theorem oX12_taken_54 : oP MT mX12_taken 54 (13, 3, 32, 12, []) := o_getR (M := mX12_taken) (C := RX12) (T := TX12) (ci := 12) (j := 32) (z := 12) dX12_taken_54 rfl lq_RX12_65 rfl rfl
theorem oX12_taken_57 : oP MT mX12_taken 57 (1, 1, 1, 0, []) := o_iload_n dX12_taken_57 rfl
theorem oX12_taken_58 : oP MT mX12_taken 58 (16, 1, 1, 0, []) := o_iaload dX12_taken_58
theorem oX12_taken_59 : oP MT mX12_taken 59 (0, 1, 0, 0, []) := o_iconst dX12_taken_59 (by decide)
theorem oX12_taken_60 : oP MT mX12_taken 60 (26, 3, 0, 2, [(12, 112)]) := o_callO ((vA.cons (v_callV dX12_taken_60 (ci := 12) rfl rfl (mj := mX12_get) mt_X12_get cmq_X12_get wq_435 wq_437 wq_438 (by decide) (by decide)) vA.nil))
theorem oX12_taken_63 : oP MT mX12_taken 63 (1, 1, 2, 0, []) := o_iload_n dX12_taken_63 rfl
theorem oX12_taken_64 : oP MT mX12_taken 64 (25, 3, 114, 2, []) := o_callS dX12_taken_64 (mj := mX12_isUnder) mt_X12_isUnder cmq_X12_isUnder wq_443 wq_445 (by decide) (by decide)
theorem oX12_taken_67 : oP MT mX12_taken 67 (10, 3, 0, 74, []) := o_if_eq dX12_taken_67 (by decide) (by decide)
theorem oX12_taken_70 : oP MT mX12_taken 70 (0, 1, 0, 1, []) := o_iconst dX12_taken_70 (by decide)
theorem oX12_taken_71 : oP MT mX12_taken 71 (9, 3, 88, 0, []) := o_goto dX12_taken_71 (by decide)
theorem oX12_taken_74 : oP MT mX12_taken 74 (0, 1, 0, 0, []) := o_iconst dX12_taken_74 (by decide)
theorem oX12_taken_75 : oP MT mX12_taken 75 (9, 3, 88, 0, []) := o_goto dX12_taken_75 (by decide)
theorem oX12_taken_78 : oP MT mX12_taken 78 (1, 1, 3, 0, []) := o_iload_n dX12_taken_78 rfl
theorem oX12_taken_79 : oP MT mX12_taken 79 (1, 1, 2, 0, []) := o_iload_n dX12_taken_79 rfl
theorem oX12_taken_80 : oP MT mX12_taken 80 (11, 3, 1, 87, []) := o_icmp_ne dX12_taken_80 (by decide) (by decide)
theorem oX12_taken_83 : oP MT mX12_taken 83 (0, 1, 0, 1, []) := o_iconst dX12_taken_83 (by decide)
theorem oX12_taken_84 : oP MT mX12_taken 84 (9, 3, 88, 0, []) := o_goto dX12_taken_84 (by decide)
theorem oX12_taken_87 : oP MT mX12_taken 87 (0, 1, 0, 0, []) := o_iconst dX12_taken_87 (by decide)
theorem oX12_taken_88 : oP MT mX12_taken 88 (2, 2, 4, 0, []) := o_istore dX12_taken_88 (by decide)
theorem oX12_taken_90 : oP MT mX12_taken 90 (1, 2, 4, 0, []) := o_iload dX12_taken_90
theorem oX12_taken_92 : oP MT mX12_taken 92 (10, 3, 0, 104, []) := o_if_eq dX12_taken_92 (by decide) (by decide)
theorem oX12_taken_95 : oP MT mX12_taken 95 (1, 1, 0, 1, []) := o_aload_n dX12_taken_95 rfl
theorem oX12_taken_96 : oP MT mX12_taken 96 (13, 3, 32, 12, []) := o_getR (M := mX12_taken) (C := RX12) (T := TX12) (ci := 12) (j := 32) (z := 12) dX12_taken_96 rfl lq_RX12_65 rfl rfl
theorem oX12_taken_99 : oP MT mX12_taken 99 (1, 1, 1, 0, []) := o_iload_n dX12_taken_99 rfl
theorem oX12_taken_100 : oP MT mX12_taken 100 (16, 1, 1, 0, []) := o_iaload dX12_taken_100
theorem oX12_taken_101 : oP MT mX12_taken 101 (9, 3, 106, 0, []) := o_goto dX12_taken_101 (by decide)
theorem oX12_taken_104 : oP MT mX12_taken 104 (0, 2, 0, (-13), []) := o_bipush dX12_taken_104 (by decide)
theorem oX12_taken_106 : oP MT mX12_taken 106 (21, 1, 0, 0, []) := o_iret dX12_taken_106 rfl
def ops_X12_taken : List (Nat × aO) := [(0, (1, 1, 1, 0, [])), (1, (25, 3, 174, 1, [])), (4, (10, 3, 0, 27, [])), (7, (1, 1, 2, 0, [])), (8, (0, 1, 0, 0, [])), (9, (0, 1, 0, 5, [])), (10, (25, 3, 127, 3, [])), (13, (10, 3, 1, 29, [])), (16, (1, 1, 2, 0, [])), (17, (0, 2, 0, 10, [])), (19, (0, 2, 0, 14, [])), (21, (25, 3, 127, 3, [])), (24, (10, 3, 1, 29, [])), (27, (0, 1, 0, (-1), [])), (28, (21, 1, 0, 0, [])), (29, (1, 1, 0, 1, [])), (30, (1, 1, 1, 0, [])), (31, (26, 3, 0, 1, [(12, 177)])), (34, (2, 1, 3, 0, [])), (35, (1, 1, 3, 0, [])), (36, (10, 3, 3, 42, [])), (39, (0, 2, 0, (-11), [])), (41, (21, 1, 0, 0, [])), (42, (1, 1, 3, 0, [])), (43, (10, 3, 1, 78, [])), (46, (1, 1, 2, 0, [])), (47, (0, 2, 0, 10, [])), (49, (11, 3, 3, 74, [])), (52, (1, 1, 0, 1, [])), (53, (1, 1, 0, 1, [])), (54, (13, 3, 32, 12, [])), (57, (1, 1, 1, 0, [])), (58, (16, 1, 1, 0, [])), (59, (0, 1, 0, 0, [])), (60, (26, 3, 0, 2, [(12, 112)])), (63, (1, 1, 2, 0, [])), (64, (25, 3, 114, 2, [])), (67, (10, 3, 0, 74, [])), (70, (0, 1, 0, 1, [])), (71, (9, 3, 88, 0, [])), (74, (0, 1, 0, 0, [])), (75, (9, 3, 88, 0, [])), (78, (1, 1, 3, 0, [])), (79, (1, 1, 2, 0, [])), (80, (11, 3, 1, 87, [])), (83, (0, 1, 0, 1, [])), (84, (9, 3, 88, 0, [])), (87, (0, 1, 0, 0, [])), (88, (2, 2, 4, 0, [])), (90, (1, 2, 4, 0, [])), (92, (10, 3, 0, 104, [])), (95, (1, 1, 0, 1, [])), (96, (13, 3, 32, 12, [])), (99, (1, 1, 1, 0, [])), (100, (16, 1, 1, 0, [])), (101, (9, 3, 106, 0, [])), (104, (0, 2, 0, (-13), [])), (106, (21, 1, 0, 0, []))]
theorem os_X12_taken : oA MT mX12_taken ops_X12_taken := (oA.cons oX12_taken_0 (oA.cons oX12_taken_1 (oA.cons oX12_taken_4 (oA.cons oX12_taken_7 (oA.cons oX12_taken_8 (oA.cons oX12_taken_9 (oA.cons oX12_taken_10 (oA.cons oX12_taken_13 (oA.cons oX12_taken_16 (oA.cons oX12_taken_17 (oA.cons oX12_taken_19 (oA.cons oX12_taken_21 (oA.cons oX12_taken_24 (oA.cons oX12_taken_27 (oA.cons oX12_taken_28 (oA.cons oX12_taken_29 (oA.cons oX12_taken_30 (oA.cons oX12_taken_31 (oA.cons oX12_taken_34 (oA.cons oX12_taken_35 (oA.cons oX12_taken_36 (oA.cons oX12_taken_39 (oA.cons oX12_taken_41 (oA.cons oX12_taken_42 (oA.cons oX12_taken_43 (oA.cons oX12_taken_46 (oA.cons oX12_taken_47 (oA.cons oX12_taken_49 (oA.cons oX12_taken_52 (oA.cons oX12_taken_53 (oA.cons oX12_taken_54 (oA.cons oX12_taken_57 (oA.cons oX12_taken_58 (oA.cons oX12_taken_59 (oA.cons oX12_taken_60 (oA.cons oX12_taken_63 (oA.cons oX12_taken_64 (oA.cons oX12_taken_67 (oA.cons oX12_taken_70 (oA.cons oX12_taken_71 (oA.cons oX12_taken_74 (oA.cons oX12_taken_75 (oA.cons oX12_taken_78 (oA.cons oX12_taken_79 (oA.cons oX12_taken_80 (oA.cons oX12_taken_83 (oA.cons oX12_taken_84 (oA.cons oX12_taken_87 (oA.cons oX12_taken_88 (oA.cons oX12_taken_90 (oA.cons oX12_taken_92 (oA.cons oX12_taken_95 (oA.cons oX12_taken_96 (oA.cons oX12_taken_99 (oA.cons oX12_taken_100 (oA.cons oX12_taken_101 (oA.cons oX12_taken_104 (oA.cons oX12_taken_106 oA.nil))))))))))))))))))))))))))))))))))))))))))))))))))))))))))
theorem dX12_act_0 : decode cX12_act 0 = .ok (.aload_n 0, 1) := by decide +kernel
theorem dX12_act_1 : decode cX12_act 1 = .ok (.iconst 0, 1) := by decide +kernel
theorem dX12_act_2 : decode cX12_act 2 = .ok (.putfield 341, 3) := by decide +kernel
theorem dX12_act_5 : decode cX12_act 5 = .ok (.iload_n 1, 1) := by decide +kernel
theorem dX12_act_6 : decode cX12_act 6 = .ok (.invokestatic 326, 3) := by decide +kernel
theorem dX12_act_9 : decode cX12_act 9 = .ok (.ifCond .eq 20, 3) := by decide +kernel
theorem dX12_act_12 : decode cX12_act 12 = .ok (.iload_n 2, 1) := by decide +kernel
theorem dX12_act_13 : decode cX12_act 13 = .ok (.iconst 0, 1) := by decide +kernel
theorem dX12_act_14 : decode cX12_act 14 = .ok (.iconst 3, 1) := by decide +kernel
theorem dX12_act_15 : decode cX12_act 15 = .ok (.invokestatic 71, 3) := by decide +kernel
theorem dX12_act_18 : decode cX12_act 18 = .ok (.ifCond .eq 11, 3) := by decide +kernel
theorem dX12_act_21 : decode cX12_act 21 = .ok (.aload_n 0, 1) := by decide +kernel
theorem dX12_act_22 : decode cX12_act 22 = .ok (.iload_n 1, 1) := by decide +kernel
theorem dX12_act_23 : decode cX12_act 23 = .ok (.invokevirtual 338, 3) := by decide +kernel
theorem dX12_act_26 : decode cX12_act 26 = .ok (.ifCond .eq 5, 3) := by decide +kernel
theorem dX12_act_29 : decode cX12_act 29 = .ok (.iconst 0, 1) := by decide +kernel
theorem dX12_act_30 : decode cX12_act 30 = .ok (.ireturn, 1) := by decide +kernel
theorem dX12_act_31 : decode cX12_act 31 = .ok (.aload_n 0, 1) := by decide +kernel
theorem dX12_act_32 : decode cX12_act 32 = .ok (.aload_n 0, 1) := by decide +kernel
theorem dX12_act_33 : decode cX12_act 33 = .ok (.getfield 65, 3) := by decide +kernel
theorem dX12_act_36 : decode cX12_act 36 = .ok (.iload_n 1, 1) := by decide +kernel
theorem dX12_act_37 : decode cX12_act 37 = .ok (.iaload, 1) := by decide +kernel
theorem dX12_act_38 : decode cX12_act 38 = .ok (.putfield 350, 3) := by decide +kernel
theorem dX12_act_41 : decode cX12_act 41 = .ok (.aload_n 0, 1) := by decide +kernel
theorem dX12_act_42 : decode cX12_act 42 = .ok (.iconst 0, 1) := by decide +kernel
theorem dX12_act_43 : decode cX12_act 43 = .ok (.putfield 359, 3) := by decide +kernel
theorem dX12_act_46 : decode cX12_act 46 = .ok (.aload_n 0, 1) := by decide +kernel
theorem dX12_act_47 : decode cX12_act 47 = .ok (.aload_n 0, 1) := by decide +kernel
theorem dX12_act_48 : decode cX12_act 48 = .ok (.getfield 350, 3) := by decide +kernel
theorem dX12_act_51 : decode cX12_act 51 = .ok (.iconst 0, 1) := by decide +kernel
theorem dX12_act_52 : decode cX12_act 52 = .ok (.invokevirtual 79, 3) := by decide +kernel
theorem dX12_act_55 : decode cX12_act 55 = .ok (.istore 4, 2) := by decide +kernel
theorem dX12_act_57 : decode cX12_act 57 = .ok (.iload_n 2, 1) := by decide +kernel
theorem dX12_act_58 : decode cX12_act 58 = .ok (.ifCond .ne 13, 3) := by decide +kernel
theorem dX12_act_61 : decode cX12_act 61 = .ok (.aload_n 0, 1) := by decide +kernel
theorem dX12_act_62 : decode cX12_act 62 = .ok (.iload 4, 2) := by decide +kernel
theorem dX12_act_64 : decode cX12_act 64 = .ok (.iload_n 3, 1) := by decide +kernel
theorem dX12_act_65 : decode cX12_act 65 = .ok (.invokevirtual 347, 3) := by decide +kernel
theorem dX12_act_68 : decode cX12_act 68 = .ok (.goto 40, 3) := by decide +kernel
theorem dX12_act_71 : decode cX12_act 71 = .ok (.iload_n 2, 1) := by decide +kernel
theorem dX12_act_72 : decode cX12_act 72 = .ok (.iconst 1, 1) := by decide +kernel
theorem dX12_act_73 : decode cX12_act 73 = .ok (.if_icmp .ne 13, 3) := by decide +kernel
theorem dX12_act_76 : decode cX12_act 76 = .ok (.aload_n 0, 1) := by decide +kernel
theorem dX12_act_77 : decode cX12_act 77 = .ok (.iload 4, 2) := by decide +kernel
theorem dX12_act_79 : decode cX12_act 79 = .ok (.iload_n 3, 1) := by decide +kernel
theorem dX12_act_80 : decode cX12_act 80 = .ok (.invokevirtual 353, 3) := by decide +kernel
theorem dX12_act_83 : decode cX12_act 83 = .ok (.goto 25, 3) := by decide +kernel
theorem dX12_act_86 : decode cX12_act 86 = .ok (.iload_n 2, 1) := by decide +kernel
theorem dX12_act_87 : decode cX12_act 87 = .ok (.iconst 2, 1) := by decide +kernel
theorem dX12_act_88 : decode cX12_act 88 = .ok (.if_icmp .ne 13, 3) := by decide +kernel
theorem dX12_act_91 : decode cX12_act 91 = .ok (.aload_n 0, 1) := by decide +kernel
theorem dX12_act_92 : decode cX12_act 92 = .ok (.iload 4, 2) := by decide +kernel
theorem dX12_act_94 : decode cX12_act 94 = .ok (.iload_n 3, 1) := by decide +kernel
theorem dX12_act_95 : decode cX12_act 95 = .ok (.invokevirtual 356, 3) := by decide +kernel
theorem dX12_act_98 : decode cX12_act 98 = .ok (.goto 10, 3) := by decide +kernel
theorem dX12_act_101 : decode cX12_act 101 = .ok (.aload_n 0, 1) := by decide +kernel
theorem dX12_act_102 : decode cX12_act 102 = .ok (.iload 4, 2) := by decide +kernel
theorem dX12_act_104 : decode cX12_act 104 = .ok (.iload_n 3, 1) := by decide +kernel
theorem dX12_act_105 : decode cX12_act 105 = .ok (.invokevirtual 363, 3) := by decide +kernel
theorem dX12_act_108 : decode cX12_act 108 = .ok (.istore 5, 2) := by decide +kernel
theorem dX12_act_110 : decode cX12_act 110 = .ok (.aload_n 0, 1) := by decide +kernel
theorem dX12_act_111 : decode cX12_act 111 = .ok (.getfield 359, 3) := by decide +kernel
theorem dX12_act_114 : decode cX12_act 114 = .ok (.ifCond .eq 8, 3) := by decide +kernel
theorem dX12_act_117 : decode cX12_act 117 = .ok (.bipush (-15), 2) := by decide +kernel
theorem dX12_act_119 : decode cX12_act 119 = .ok (.goto 5, 3) := by decide +kernel
theorem dX12_act_122 : decode cX12_act 122 = .ok (.iload 5, 2) := by decide +kernel
theorem dX12_act_124 : decode cX12_act 124 = .ok (.ireturn, 1) := by decide +kernel
theorem oX12_act_0 : oP MT mX12_act 0 (1, 1, 0, 1, []) := o_aload_n dX12_act_0 rfl
theorem oX12_act_1 : oP MT mX12_act 1 (0, 1, 0, 0, []) := o_iconst dX12_act_1 (by decide)
theorem oX12_act_2 : oP MT mX12_act 2 (14, 3, 34, 12, []) := o_putI (M := mX12_act) (C := RX12) (T := TX12) (ci := 12) (j := 34) (z := 12) dX12_act_2 rfl lq_RX12_341 rfl rfl rfl rfl
theorem oX12_act_5 : oP MT mX12_act 5 (1, 1, 1, 0, []) := o_iload_n dX12_act_5 rfl
theorem oX12_act_6 : oP MT mX12_act 6 (25, 3, 174, 1, []) := o_callS dX12_act_6 (mj := mX12_isSheet) mt_X12_isSheet cmq_X12_isSheet wq_784 wq_786 (by decide) (by decide)
theorem oX12_act_9 : oP MT mX12_act 9 (10, 3, 0, 29, []) := o_if_eq dX12_act_9 (by decide) (by decide)
theorem oX12_act_12 : oP MT mX12_act 12 (1, 1, 2, 0, []) := o_iload_n dX12_act_12 rfl
theorem oX12_act_13 : oP MT mX12_act 13 (0, 1, 0, 0, []) := o_iconst dX12_act_13 (by decide)
theorem oX12_act_14 : oP MT mX12_act 14 (0, 1, 0, 3, []) := o_iconst dX12_act_14 (by decide)
theorem oX12_act_15 : oP MT mX12_act 15 (25, 3, 127, 3, []) := o_callS dX12_act_15 (mj := mX12_in1) mt_X12_in1 cmq_X12_in1 wq_468 wq_470 (by decide) (by decide)
theorem oX12_act_18 : oP MT mX12_act 18 (10, 3, 0, 29, []) := o_if_eq dX12_act_18 (by decide) (by decide)
theorem oX12_act_21 : oP MT mX12_act 21 (1, 1, 0, 1, []) := o_aload_n dX12_act_21 rfl
theorem oX12_act_22 : oP MT mX12_act 22 (1, 1, 1, 0, []) := o_iload_n dX12_act_22 rfl
theorem oX12_act_23 : oP MT mX12_act 23 (26, 3, 0, 1, [(12, 177)]) := o_callO ((vA.cons (v_callV dX12_act_23 (ci := 12) rfl rfl (mj := mX12_heldOn) mt_X12_heldOn cmq_X12_heldOn wq_814 wq_816 wq_817 (by decide) (by decide)) vA.nil))
theorem oX12_act_26 : oP MT mX12_act 26 (10, 3, 0, 31, []) := o_if_eq dX12_act_26 (by decide) (by decide)
theorem oX12_act_29 : oP MT mX12_act 29 (0, 1, 0, 0, []) := o_iconst dX12_act_29 (by decide)
theorem oX12_act_30 : oP MT mX12_act 30 (21, 1, 0, 0, []) := o_iret dX12_act_30 rfl
theorem oX12_act_31 : oP MT mX12_act 31 (1, 1, 0, 1, []) := o_aload_n dX12_act_31 rfl
theorem oX12_act_32 : oP MT mX12_act 32 (1, 1, 0, 1, []) := o_aload_n dX12_act_32 rfl
theorem oX12_act_33 : oP MT mX12_act 33 (13, 3, 32, 12, []) := o_getR (M := mX12_act) (C := RX12) (T := TX12) (ci := 12) (j := 32) (z := 12) dX12_act_33 rfl lq_RX12_65 rfl rfl
theorem oX12_act_36 : oP MT mX12_act 36 (1, 1, 1, 0, []) := o_iload_n dX12_act_36 rfl
theorem oX12_act_37 : oP MT mX12_act 37 (16, 1, 1, 0, []) := o_iaload dX12_act_37
theorem oX12_act_38 : oP MT mX12_act 38 (14, 3, 35, 12, []) := o_putI (M := mX12_act) (C := RX12) (T := TX12) (ci := 12) (j := 35) (z := 12) dX12_act_38 rfl lq_RX12_350 rfl rfl rfl rfl
theorem oX12_act_41 : oP MT mX12_act 41 (1, 1, 0, 1, []) := o_aload_n dX12_act_41 rfl
theorem oX12_act_42 : oP MT mX12_act 42 (0, 1, 0, 0, []) := o_iconst dX12_act_42 (by decide)
theorem oX12_act_43 : oP MT mX12_act 43 (15, 3, 36, 12, []) := o_putZ (M := mX12_act) (C := RX12) (T := TX12) (ci := 12) (j := 36) (z := 12) dX12_act_43 rfl lq_RX12_359 rfl rfl rfl rfl
theorem oX12_act_46 : oP MT mX12_act 46 (1, 1, 0, 1, []) := o_aload_n dX12_act_46 rfl
theorem oX12_act_47 : oP MT mX12_act 47 (1, 1, 0, 1, []) := o_aload_n dX12_act_47 rfl
theorem oX12_act_48 : oP MT mX12_act 48 (12, 3, 35, 12, []) := o_getI (M := mX12_act) (C := RX12) (T := TX12) (ci := 12) (j := 35) (z := 12) dX12_act_48 rfl lq_RX12_350 rfl rfl
theorem oX12_act_51 : oP MT mX12_act 51 (0, 1, 0, 0, []) := o_iconst dX12_act_51 (by decide)
theorem oX12_act_52 : oP MT mX12_act 52 (26, 3, 0, 2, [(12, 112)]) := o_callO ((vA.cons (v_callV dX12_act_52 (ci := 12) rfl rfl (mj := mX12_get) mt_X12_get cmq_X12_get wq_435 wq_437 wq_438 (by decide) (by decide)) vA.nil))
theorem oX12_act_55 : oP MT mX12_act 55 (2, 2, 4, 0, []) := o_istore dX12_act_55 (by decide)
theorem oX12_act_57 : oP MT mX12_act 57 (1, 1, 2, 0, []) := o_iload_n dX12_act_57 rfl
theorem oX12_act_58 : oP MT mX12_act 58 (10, 3, 1, 71, []) := o_if_ne dX12_act_58 (by decide) (by decide)
theorem oX12_act_61 : oP MT mX12_act 61 (1, 1, 0, 1, []) := o_aload_n dX12_act_61 rfl
theorem oX12_act_62 : oP MT mX12_act 62 (1, 2, 4, 0, []) := o_iload dX12_act_62
theorem oX12_act_64 : oP MT mX12_act 64 (1, 1, 3, 0, []) := o_iload_n dX12_act_64 rfl
theorem oX12_act_65 : oP MT mX12_act 65 (26, 3, 0, 2, [(12, 180)]) := o_callO ((vA.cons (v_callV dX12_act_65 (ci := 12) rfl rfl (mj := mX12_dripsAs) mt_X12_dripsAs cmq_X12_dripsAs wq_629 wq_631 wq_632 (by decide) (by decide)) vA.nil))
theorem oX12_act_68 : oP MT mX12_act 68 (9, 3, 108, 0, []) := o_goto dX12_act_68 (by decide)
theorem oX12_act_71 : oP MT mX12_act 71 (1, 1, 2, 0, []) := o_iload_n dX12_act_71 rfl
theorem oX12_act_72 : oP MT mX12_act 72 (0, 1, 0, 1, []) := o_iconst dX12_act_72 (by decide)
theorem oX12_act_73 : oP MT mX12_act 73 (11, 3, 1, 86, []) := o_icmp_ne dX12_act_73 (by decide) (by decide)
theorem oX12_act_76 : oP MT mX12_act 76 (1, 1, 0, 1, []) := o_aload_n dX12_act_76 rfl
theorem oX12_act_77 : oP MT mX12_act 77 (1, 2, 4, 0, []) := o_iload dX12_act_77
theorem oX12_act_79 : oP MT mX12_act 79 (1, 1, 3, 0, []) := o_iload_n dX12_act_79 rfl
theorem oX12_act_80 : oP MT mX12_act 80 (26, 3, 0, 2, [(12, 179)]) := o_callO ((vA.cons (v_callV dX12_act_80 (ci := 12) rfl rfl (mj := mX12_turnsAs) mt_X12_turnsAs cmq_X12_turnsAs wq_625 wq_627 wq_628 (by decide) (by decide)) vA.nil))
theorem oX12_act_83 : oP MT mX12_act 83 (9, 3, 108, 0, []) := o_goto dX12_act_83 (by decide)
theorem oX12_act_86 : oP MT mX12_act 86 (1, 1, 2, 0, []) := o_iload_n dX12_act_86 rfl
theorem oX12_act_87 : oP MT mX12_act 87 (0, 1, 0, 2, []) := o_iconst dX12_act_87 (by decide)
theorem oX12_act_88 : oP MT mX12_act 88 (11, 3, 1, 101, []) := o_icmp_ne dX12_act_88 (by decide) (by decide)
theorem oX12_act_91 : oP MT mX12_act 91 (1, 1, 0, 1, []) := o_aload_n dX12_act_91 rfl
theorem oX12_act_92 : oP MT mX12_act 92 (1, 2, 4, 0, []) := o_iload dX12_act_92
theorem oX12_act_94 : oP MT mX12_act 94 (1, 1, 3, 0, []) := o_iload_n dX12_act_94 rfl
theorem oX12_act_95 : oP MT mX12_act 95 (26, 3, 0, 2, [(12, 181)]) := o_callO ((vA.cons (v_callV dX12_act_95 (ci := 12) rfl rfl (mj := mX12_halvesAs) mt_X12_halvesAs cmq_X12_halvesAs wq_633 wq_635 wq_636 (by decide) (by decide)) vA.nil))
theorem oX12_act_98 : oP MT mX12_act 98 (9, 3, 108, 0, []) := o_goto dX12_act_98 (by decide)
theorem oX12_act_101 : oP MT mX12_act 101 (1, 1, 0, 1, []) := o_aload_n dX12_act_101 rfl
theorem oX12_act_102 : oP MT mX12_act 102 (1, 2, 4, 0, []) := o_iload dX12_act_102
theorem oX12_act_104 : oP MT mX12_act 104 (1, 1, 3, 0, []) := o_iload_n dX12_act_104 rfl
theorem oX12_act_105 : oP MT mX12_act 105 (26, 3, 0, 2, [(12, 182)]) := o_callO ((vA.cons (v_callV dX12_act_105 (ci := 12) rfl rfl (mj := mX12_fitsAs) mt_X12_fitsAs cmq_X12_fitsAs wq_637 wq_639 wq_640 (by decide) (by decide)) vA.nil))
theorem oX12_act_108 : oP MT mX12_act 108 (2, 2, 5, 0, []) := o_istore dX12_act_108 (by decide)
theorem oX12_act_110 : oP MT mX12_act 110 (1, 1, 0, 1, []) := o_aload_n dX12_act_110 rfl
theorem oX12_act_111 : oP MT mX12_act 111 (12, 3, 36, 12, []) := o_getI (M := mX12_act) (C := RX12) (T := TX12) (ci := 12) (j := 36) (z := 12) dX12_act_111 rfl lq_RX12_359 rfl rfl
theorem oX12_act_114 : oP MT mX12_act 114 (10, 3, 0, 122, []) := o_if_eq dX12_act_114 (by decide) (by decide)
theorem oX12_act_117 : oP MT mX12_act 117 (0, 2, 0, (-15), []) := o_bipush dX12_act_117 (by decide)
theorem oX12_act_119 : oP MT mX12_act 119 (9, 3, 124, 0, []) := o_goto dX12_act_119 (by decide)
theorem oX12_act_122 : oP MT mX12_act 122 (1, 2, 5, 0, []) := o_iload dX12_act_122
theorem oX12_act_124 : oP MT mX12_act 124 (21, 1, 0, 0, []) := o_iret dX12_act_124 rfl
def ops_X12_act : List (Nat × aO) := [(0, (1, 1, 0, 1, [])), (1, (0, 1, 0, 0, [])), (2, (14, 3, 34, 12, [])), (5, (1, 1, 1, 0, [])), (6, (25, 3, 174, 1, [])), (9, (10, 3, 0, 29, [])), (12, (1, 1, 2, 0, [])), (13, (0, 1, 0, 0, [])), (14, (0, 1, 0, 3, [])), (15, (25, 3, 127, 3, [])), (18, (10, 3, 0, 29, [])), (21, (1, 1, 0, 1, [])), (22, (1, 1, 1, 0, [])), (23, (26, 3, 0, 1, [(12, 177)])), (26, (10, 3, 0, 31, [])), (29, (0, 1, 0, 0, [])), (30, (21, 1, 0, 0, [])), (31, (1, 1, 0, 1, [])), (32, (1, 1, 0, 1, [])), (33, (13, 3, 32, 12, [])), (36, (1, 1, 1, 0, [])), (37, (16, 1, 1, 0, [])), (38, (14, 3, 35, 12, [])), (41, (1, 1, 0, 1, [])), (42, (0, 1, 0, 0, [])), (43, (15, 3, 36, 12, [])), (46, (1, 1, 0, 1, [])), (47, (1, 1, 0, 1, [])), (48, (12, 3, 35, 12, [])), (51, (0, 1, 0, 0, [])), (52, (26, 3, 0, 2, [(12, 112)])), (55, (2, 2, 4, 0, [])), (57, (1, 1, 2, 0, [])), (58, (10, 3, 1, 71, [])), (61, (1, 1, 0, 1, [])), (62, (1, 2, 4, 0, [])), (64, (1, 1, 3, 0, [])), (65, (26, 3, 0, 2, [(12, 180)])), (68, (9, 3, 108, 0, [])), (71, (1, 1, 2, 0, [])), (72, (0, 1, 0, 1, [])), (73, (11, 3, 1, 86, [])), (76, (1, 1, 0, 1, [])), (77, (1, 2, 4, 0, [])), (79, (1, 1, 3, 0, [])), (80, (26, 3, 0, 2, [(12, 179)])), (83, (9, 3, 108, 0, [])), (86, (1, 1, 2, 0, [])), (87, (0, 1, 0, 2, [])), (88, (11, 3, 1, 101, [])), (91, (1, 1, 0, 1, [])), (92, (1, 2, 4, 0, [])), (94, (1, 1, 3, 0, [])), (95, (26, 3, 0, 2, [(12, 181)])), (98, (9, 3, 108, 0, [])), (101, (1, 1, 0, 1, [])), (102, (1, 2, 4, 0, [])), (104, (1, 1, 3, 0, [])), (105, (26, 3, 0, 2, [(12, 182)])), (108, (2, 2, 5, 0, [])), (110, (1, 1, 0, 1, [])), (111, (12, 3, 36, 12, [])), (114, (10, 3, 0, 122, [])), (117, (0, 2, 0, (-15), [])), (119, (9, 3, 124, 0, [])), (122, (1, 2, 5, 0, [])), (124, (21, 1, 0, 0, []))]
theorem os_X12_act : oA MT mX12_act ops_X12_act := (oA.cons oX12_act_0 (oA.cons oX12_act_1 (oA.cons oX12_act_2 (oA.cons oX12_act_5 (oA.cons oX12_act_6 (oA.cons oX12_act_9 (oA.cons oX12_act_12 (oA.cons oX12_act_13 (oA.cons oX12_act_14 (oA.cons oX12_act_15 (oA.cons oX12_act_18 (oA.cons oX12_act_21 (oA.cons oX12_act_22 (oA.cons oX12_act_23 (oA.cons oX12_act_26 (oA.cons oX12_act_29 (oA.cons oX12_act_30 (oA.cons oX12_act_31 (oA.cons oX12_act_32 (oA.cons oX12_act_33 (oA.cons oX12_act_36 (oA.cons oX12_act_37 (oA.cons oX12_act_38 (oA.cons oX12_act_41 (oA.cons oX12_act_42 (oA.cons oX12_act_43 (oA.cons oX12_act_46 (oA.cons oX12_act_47 (oA.cons oX12_act_48 (oA.cons oX12_act_51 (oA.cons oX12_act_52 (oA.cons oX12_act_55 (oA.cons oX12_act_57 (oA.cons oX12_act_58 (oA.cons oX12_act_61 (oA.cons oX12_act_62 (oA.cons oX12_act_64 (oA.cons oX12_act_65 (oA.cons oX12_act_68 (oA.cons oX12_act_71 (oA.cons oX12_act_72 (oA.cons oX12_act_73 (oA.cons oX12_act_76 (oA.cons oX12_act_77 (oA.cons oX12_act_79 (oA.cons oX12_act_80 (oA.cons oX12_act_83 (oA.cons oX12_act_86 (oA.cons oX12_act_87 (oA.cons oX12_act_88 (oA.cons oX12_act_91 (oA.cons oX12_act_92 (oA.cons oX12_act_94 (oA.cons oX12_act_95 (oA.cons oX12_act_98 (oA.cons oX12_act_101 (oA.cons oX12_act_102 (oA.cons oX12_act_104 (oA.cons oX12_act_105 (oA.cons oX12_act_108 (oA.cons oX12_act_110 (oA.cons oX12_act_111 (oA.cons oX12_act_114 (oA.cons oX12_act_117 (oA.cons oX12_act_119 (oA.cons oX12_act_122 (oA.cons oX12_act_124 oA.nil)))))))))))))))))))))))))))))))))))))))))))))))))))))))))))))))))))
