theorem dX5_takesRight_0 : decode cX5_takesRight 0 = .ok (.aload_n 0, 1) := by decide +kernel
theorem dX5_takesRight_1 : decode cX5_takesRight 1 = .ok (.invokevirtual 140, 3) := by decide +kernel
theorem dX5_takesRight_4 : decode cX5_takesRight 4 = .ok (.ifCond .ne 5, 3) := by decide +kernel
theorem dX5_takesRight_7 : decode cX5_takesRight 7 = .ok (.iconst 0, 1) := by decide +kernel
theorem dX5_takesRight_8 : decode cX5_takesRight 8 = .ok (.ireturn, 1) := by decide +kernel
theorem dX5_takesRight_9 : decode cX5_takesRight 9 = .ok (.aload_n 0, 1) := by decide +kernel
theorem dX5_takesRight_10 : decode cX5_takesRight 10 = .ok (.getfield 18, 3) := by decide +kernel
theorem dX5_takesRight_13 : decode cX5_takesRight 13 = .ok (.aload_n 0, 1) := by decide +kernel
theorem dX5_takesRight_14 : decode cX5_takesRight 14 = .ok (.getfield 149, 3) := by decide +kernel
theorem dX5_takesRight_17 : decode cX5_takesRight 17 = .ok (.invokevirtual 152, 3) := by decide +kernel
theorem dX5_takesRight_20 : decode cX5_takesRight 20 = .ok (.aload_n 0, 1) := by decide +kernel
theorem dX5_takesRight_21 : decode cX5_takesRight 21 = .ok (.getfield 18, 3) := by decide +kernel
theorem dX5_takesRight_24 : decode cX5_takesRight 24 = .ok (.aload_n 0, 1) := by decide +kernel
theorem dX5_takesRight_25 : decode cX5_takesRight 25 = .ok (.getfield 146, 3) := by decide +kernel
theorem dX5_takesRight_28 : decode cX5_takesRight 28 = .ok (.invokevirtual 152, 3) := by decide +kernel
theorem dX5_takesRight_31 : decode cX5_takesRight 31 = .ok (.aload_n 0, 1) := by decide +kernel
theorem dX5_takesRight_32 : decode cX5_takesRight 32 = .ok (.getfield 18, 3) := by decide +kernel
theorem dX5_takesRight_35 : decode cX5_takesRight 35 = .ok (.aload_n 0, 1) := by decide +kernel
theorem dX5_takesRight_36 : decode cX5_takesRight 36 = .ok (.invokevirtual 143, 3) := by decide +kernel
theorem dX5_takesRight_39 : decode cX5_takesRight 39 = .ok (.invokevirtual 152, 3) := by decide +kernel
theorem dX5_takesRight_42 : decode cX5_takesRight 42 = .ok (.aload_n 0, 1) := by decide +kernel
theorem dX5_takesRight_43 : decode cX5_takesRight 43 = .ok (.invokevirtual 156, 3) := by decide +kernel
theorem dX5_takesRight_46 : decode cX5_takesRight 46 = .ok (.aload_n 0, 1) := by decide +kernel
theorem dX5_takesRight_47 : decode cX5_takesRight 47 = .ok (.iconst 5, 1) := by decide +kernel
theorem dX5_takesRight_48 : decode cX5_takesRight 48 = .ok (.putfield 45, 3) := by decide +kernel
theorem dX5_takesRight_51 : decode cX5_takesRight 51 = .ok (.iconst 1, 1) := by decide +kernel
theorem dX5_takesRight_52 : decode cX5_takesRight 52 = .ok (.ireturn, 1) := by decide +kernel
theorem oX5_takesRight_0 : oP MT mX5_takesRight 0 (1, 1, 0, 1, []) := o_aload_n dX5_takesRight_0 rfl
theorem oX5_takesRight_1 : oP MT mX5_takesRight 1 (26, 3, 0, 0, [(5, 62)]) := o_callO ((vA.cons (v_callV dX5_takesRight_1 (ci := 5) rfl rfl (mj := mX5_isValue) mt_X5_isValue cmq_X5_isValue wq_220 wq_222 wq_223 (by decide) (by decide)) vA.nil))
theorem oX5_takesRight_4 : oP MT mX5_takesRight 4 (10, 3, 1, 9, []) := o_if_ne dX5_takesRight_4 (by decide) (by decide)
theorem oX5_takesRight_7 : oP MT mX5_takesRight 7 (0, 1, 0, 0, []) := o_iconst dX5_takesRight_7 (by decide)
theorem oX5_takesRight_8 : oP MT mX5_takesRight 8 (22, 1, 0, 0, []) := o_zret dX5_takesRight_8 rfl
theorem oX5_takesRight_9 : oP MT mX5_takesRight 9 (1, 1, 0, 1, []) := o_aload_n dX5_takesRight_9 rfl
theorem oX5_takesRight_10 : oP MT mX5_takesRight 10 (13, 3, 2, 5, []) := o_getR (M := mX5_takesRight) (C := RX5) (T := TX5) (ci := 5) (j := 2) (z := 5) dX5_takesRight_10 rfl lq_RX5_18 rfl rfl
theorem oX5_takesRight_13 : oP MT mX5_takesRight 13 (1, 1, 0, 1, []) := o_aload_n dX5_takesRight_13 rfl
theorem oX5_takesRight_14 : oP MT mX5_takesRight 14 (12, 3, 10, 5, []) := o_getI (M := mX5_takesRight) (C := RX5) (T := TX5) (ci := 5) (j := 10) (z := 5) dX5_takesRight_14 rfl lq_RX5_149 rfl rfl
theorem oX5_takesRight_17 : oP MT mX5_takesRight 17 (26, 3, 0, 1, [(6, 60)]) := o_callO ((vA.cons (v_callV dX5_takesRight_17 (ci := 6) rfl rfl (mj := mX6_addCode) mt_X6_addCode cmq_X6_addCode wq_208 wq_210 wq_211 (by decide) (by decide)) vA.nil))
theorem oX5_takesRight_20 : oP MT mX5_takesRight 20 (1, 1, 0, 1, []) := o_aload_n dX5_takesRight_20 rfl
theorem oX5_takesRight_21 : oP MT mX5_takesRight 21 (13, 3, 2, 5, []) := o_getR (M := mX5_takesRight) (C := RX5) (T := TX5) (ci := 5) (j := 2) (z := 5) dX5_takesRight_21 rfl lq_RX5_18 rfl rfl
theorem oX5_takesRight_24 : oP MT mX5_takesRight 24 (1, 1, 0, 1, []) := o_aload_n dX5_takesRight_24 rfl
theorem oX5_takesRight_25 : oP MT mX5_takesRight 25 (12, 3, 9, 5, []) := o_getI (M := mX5_takesRight) (C := RX5) (T := TX5) (ci := 5) (j := 9) (z := 5) dX5_takesRight_25 rfl lq_RX5_146 rfl rfl
theorem oX5_takesRight_28 : oP MT mX5_takesRight 28 (26, 3, 0, 1, [(6, 60)]) := o_callO ((vA.cons (v_callV dX5_takesRight_28 (ci := 6) rfl rfl (mj := mX6_addCode) mt_X6_addCode cmq_X6_addCode wq_208 wq_210 wq_211 (by decide) (by decide)) vA.nil))
theorem oX5_takesRight_31 : oP MT mX5_takesRight 31 (1, 1, 0, 1, []) := o_aload_n dX5_takesRight_31 rfl
theorem oX5_takesRight_32 : oP MT mX5_takesRight 32 (13, 3, 2, 5, []) := o_getR (M := mX5_takesRight) (C := RX5) (T := TX5) (ci := 5) (j := 2) (z := 5) dX5_takesRight_32 rfl lq_RX5_18 rfl rfl
theorem oX5_takesRight_35 : oP MT mX5_takesRight 35 (1, 1, 0, 1, []) := o_aload_n dX5_takesRight_35 rfl
theorem oX5_takesRight_36 : oP MT mX5_takesRight 36 (26, 3, 0, 0, [(5, 63)]) := o_callO ((vA.cons (v_callV dX5_takesRight_36 (ci := 5) rfl rfl (mj := mX5_value) mt_X5_value cmq_X5_value wq_224 wq_226 wq_227 (by decide) (by decide)) vA.nil))
theorem oX5_takesRight_39 : oP MT mX5_takesRight 39 (26, 3, 0, 1, [(6, 60)]) := o_callO ((vA.cons (v_callV dX5_takesRight_39 (ci := 6) rfl rfl (mj := mX6_addCode) mt_X6_addCode cmq_X6_addCode wq_208 wq_210 wq_211 (by decide) (by decide)) vA.nil))
theorem oX5_takesRight_42 : oP MT mX5_takesRight 42 (1, 1, 0, 1, []) := o_aload_n dX5_takesRight_42 rfl
theorem oX5_takesRight_43 : oP MT mX5_takesRight 43 (26, 3, 0, 0, [(5, 64)]) := o_callO ((vA.cons (v_callV dX5_takesRight_43 (ci := 5) rfl rfl (mj := mX5_endOne) mt_X5_endOne cmq_X5_endOne wq_228 wq_230 wq_231 (by decide) (by decide)) vA.nil))
theorem oX5_takesRight_46 : oP MT mX5_takesRight 46 (1, 1, 0, 1, []) := o_aload_n dX5_takesRight_46 rfl
theorem oX5_takesRight_47 : oP MT mX5_takesRight 47 (0, 1, 0, 5, []) := o_iconst dX5_takesRight_47 (by decide)
theorem oX5_takesRight_48 : oP MT mX5_takesRight 48 (14, 3, 7, 5, []) := o_putI (M := mX5_takesRight) (C := RX5) (T := TX5) (ci := 5) (j := 7) (z := 5) dX5_takesRight_48 rfl lq_RX5_45 rfl rfl rfl rfl
theorem oX5_takesRight_51 : oP MT mX5_takesRight 51 (0, 1, 0, 1, []) := o_iconst dX5_takesRight_51 (by decide)
theorem oX5_takesRight_52 : oP MT mX5_takesRight 52 (22, 1, 0, 0, []) := o_zret dX5_takesRight_52 rfl
def ops_X5_takesRight : List (Nat × aO) := [(0, (1, 1, 0, 1, [])), (1, (26, 3, 0, 0, [(5, 62)])), (4, (10, 3, 1, 9, [])), (7, (0, 1, 0, 0, [])), (8, (22, 1, 0, 0, [])), (9, (1, 1, 0, 1, [])), (10, (13, 3, 2, 5, [])), (13, (1, 1, 0, 1, [])), (14, (12, 3, 10, 5, [])), (17, (26, 3, 0, 1, [(6, 60)])), (20, (1, 1, 0, 1, [])), (21, (13, 3, 2, 5, [])), (24, (1, 1, 0, 1, [])), (25, (12, 3, 9, 5, [])), (28, (26, 3, 0, 1, [(6, 60)])), (31, (1, 1, 0, 1, [])), (32, (13, 3, 2, 5, [])), (35, (1, 1, 0, 1, [])), (36, (26, 3, 0, 0, [(5, 63)])), (39, (26, 3, 0, 1, [(6, 60)])), (42, (1, 1, 0, 1, [])), (43, (26, 3, 0, 0, [(5, 64)])), (46, (1, 1, 0, 1, [])), (47, (0, 1, 0, 5, [])), (48, (14, 3, 7, 5, [])), (51, (0, 1, 0, 1, [])), (52, (22, 1, 0, 0, []))]
theorem os_X5_takesRight : oA MT mX5_takesRight ops_X5_takesRight := (oA.cons oX5_takesRight_0 (oA.cons oX5_takesRight_1 (oA.cons oX5_takesRight_4 (oA.cons oX5_takesRight_7 (oA.cons oX5_takesRight_8 (oA.cons oX5_takesRight_9 (oA.cons oX5_takesRight_10 (oA.cons oX5_takesRight_13 (oA.cons oX5_takesRight_14 (oA.cons oX5_takesRight_17 (oA.cons oX5_takesRight_20 (oA.cons oX5_takesRight_21 (oA.cons oX5_takesRight_24 (oA.cons oX5_takesRight_25 (oA.cons oX5_takesRight_28 (oA.cons oX5_takesRight_31 (oA.cons oX5_takesRight_32 (oA.cons oX5_takesRight_35 (oA.cons oX5_takesRight_36 (oA.cons oX5_takesRight_39 (oA.cons oX5_takesRight_42 (oA.cons oX5_takesRight_43 (oA.cons oX5_takesRight_46 (oA.cons oX5_takesRight_47 (oA.cons oX5_takesRight_48 (oA.cons oX5_takesRight_51 (oA.cons oX5_takesRight_52 oA.nil)))))))))))))))))))))))))))
theorem dX5_takesJoin_0 : decode cX5_takesJoin 0 = .ok (.aload_n 0, 1) := by decide +kernel
theorem dX5_takesJoin_1 : decode cX5_takesJoin 1 = .ok (.getfield 42, 3) := by decide +kernel
theorem dX5_takesJoin_4 : decode cX5_takesJoin 4 = .ok (.bipush 15, 2) := by decide +kernel
theorem dX5_takesJoin_6 : decode cX5_takesJoin 6 = .ok (.if_icmp .ne 20, 3) := by decide +kernel
theorem dX5_takesJoin_9 : decode cX5_takesJoin 9 = .ok (.aload_n 0, 1) := by decide +kernel
theorem dX5_takesJoin_10 : decode cX5_takesJoin 10 = .ok (.getfield 26, 3) := by decide +kernel
theorem dX5_takesJoin_13 : decode cX5_takesJoin 13 = .ok (.aload_n 0, 1) := by decide +kernel
theorem dX5_takesJoin_14 : decode cX5_takesJoin 14 = .ok (.getfield 130, 3) := by decide +kernel
theorem dX5_takesJoin_17 : decode cX5_takesJoin 17 = .ok (.iconst 1, 1) := by decide +kernel
theorem dX5_takesJoin_18 : decode cX5_takesJoin 18 = .ok (.bastore, 1) := by decide +kernel
theorem dX5_takesJoin_19 : decode cX5_takesJoin 19 = .ok (.aload_n 0, 1) := by decide +kernel
theorem dX5_takesJoin_20 : decode cX5_takesJoin 20 = .ok (.iconst 2, 1) := by decide +kernel
theorem dX5_takesJoin_21 : decode cX5_takesJoin 21 = .ok (.putfield 45, 3) := by decide +kernel
theorem dX5_takesJoin_24 : decode cX5_takesJoin 24 = .ok (.iconst 1, 1) := by decide +kernel
theorem dX5_takesJoin_25 : decode cX5_takesJoin 25 = .ok (.ireturn, 1) := by decide +kernel
theorem dX5_takesJoin_26 : decode cX5_takesJoin 26 = .ok (.aload_n 0, 1) := by decide +kernel
theorem dX5_takesJoin_27 : decode cX5_takesJoin 27 = .ok (.getfield 42, 3) := by decide +kernel
theorem dX5_takesJoin_30 : decode cX5_takesJoin 30 = .ok (.bipush 16, 2) := by decide +kernel
theorem dX5_takesJoin_32 : decode cX5_takesJoin 32 = .ok (.if_icmp .ne 24, 3) := by decide +kernel
theorem dX5_takesJoin_35 : decode cX5_takesJoin 35 = .ok (.aload_n 0, 1) := by decide +kernel
theorem dX5_takesJoin_36 : decode cX5_takesJoin 36 = .ok (.invokevirtual 133, 3) := by decide +kernel
theorem dX5_takesJoin_39 : decode cX5_takesJoin 39 = .ok (.aload_n 0, 1) := by decide +kernel
theorem dX5_takesJoin_40 : decode cX5_takesJoin 40 = .ok (.getfield 29, 3) := by decide +kernel
theorem dX5_takesJoin_43 : decode cX5_takesJoin 43 = .ok (.aload_n 0, 1) := by decide +kernel
theorem dX5_takesJoin_44 : decode cX5_takesJoin 44 = .ok (.getfield 130, 3) := by decide +kernel
theorem dX5_takesJoin_47 : decode cX5_takesJoin 47 = .ok (.iconst 1, 1) := by decide +kernel
theorem dX5_takesJoin_48 : decode cX5_takesJoin 48 = .ok (.bastore, 1) := by decide +kernel
theorem dX5_takesJoin_49 : decode cX5_takesJoin 49 = .ok (.aload_n 0, 1) := by decide +kernel
theorem dX5_takesJoin_50 : decode cX5_takesJoin 50 = .ok (.iconst 2, 1) := by decide +kernel
theorem dX5_takesJoin_51 : decode cX5_takesJoin 51 = .ok (.putfield 45, 3) := by decide +kernel
theorem dX5_takesJoin_54 : decode cX5_takesJoin 54 = .ok (.iconst 1, 1) := by decide +kernel
theorem dX5_takesJoin_55 : decode cX5_takesJoin 55 = .ok (.ireturn, 1) := by decide +kernel
theorem dX5_takesJoin_56 : decode cX5_takesJoin 56 = .ok (.aload_n 0, 1) := by decide +kernel
theorem dX5_takesJoin_57 : decode cX5_takesJoin 57 = .ok (.getfield 42, 3) := by decide +kernel
theorem dX5_takesJoin_60 : decode cX5_takesJoin 60 = .ok (.bipush 41, 2) := by decide +kernel
theorem dX5_takesJoin_62 : decode cX5_takesJoin 62 = .ok (.if_icmp .ne 30, 3) := by decide +kernel
theorem dX5_takesJoin_65 : decode cX5_takesJoin 65 = .ok (.aload_n 0, 1) := by decide +kernel
theorem dX5_takesJoin_66 : decode cX5_takesJoin 66 = .ok (.getfield 130, 3) := by decide +kernel
theorem dX5_takesJoin_69 : decode cX5_takesJoin 69 = .ok (.ifCond .le 23, 3) := by decide +kernel
theorem dX5_takesJoin_72 : decode cX5_takesJoin 72 = .ok (.aload_n 0, 1) := by decide +kernel
theorem dX5_takesJoin_73 : decode cX5_takesJoin 73 = .ok (.invokevirtual 133, 3) := by decide +kernel
theorem dX5_takesJoin_76 : decode cX5_takesJoin 76 = .ok (.aload_n 0, 1) := by decide +kernel
theorem dX5_takesJoin_77 : decode cX5_takesJoin 77 = .ok (.dup, 1) := by decide +kernel
theorem dX5_takesJoin_78 : decode cX5_takesJoin 78 = .ok (.getfield 130, 3) := by decide +kernel
theorem dX5_takesJoin_81 : decode cX5_takesJoin 81 = .ok (.iconst 1, 1) := by decide +kernel
theorem dX5_takesJoin_82 : decode cX5_takesJoin 82 = .ok (.isub, 1) := by decide +kernel
theorem dX5_takesJoin_83 : decode cX5_takesJoin 83 = .ok (.putfield 130, 3) := by decide +kernel
theorem dX5_takesJoin_86 : decode cX5_takesJoin 86 = .ok (.aload_n 0, 1) := by decide +kernel
theorem dX5_takesJoin_87 : decode cX5_takesJoin 87 = .ok (.invokevirtual 156, 3) := by decide +kernel
theorem dX5_takesJoin_90 : decode cX5_takesJoin 90 = .ok (.iconst 1, 1) := by decide +kernel
theorem dX5_takesJoin_91 : decode cX5_takesJoin 91 = .ok (.ireturn, 1) := by decide +kernel
theorem dX5_takesJoin_92 : decode cX5_takesJoin 92 = .ok (.aload_n 0, 1) := by decide +kernel
theorem dX5_takesJoin_93 : decode cX5_takesJoin 93 = .ok (.invokevirtual 102, 3) := by decide +kernel
theorem dX5_takesJoin_96 : decode cX5_takesJoin 96 = .ok (.ireturn, 1) := by decide +kernel
theorem oX5_takesJoin_0 : oP MT mX5_takesJoin 0 (1, 1, 0, 1, []) := o_aload_n dX5_takesJoin_0 rfl
theorem oX5_takesJoin_1 : oP MT mX5_takesJoin 1 (12, 3, 5, 5, []) := o_getI (M := mX5_takesJoin) (C := RX5) (T := TX5) (ci := 5) (j := 5) (z := 5) dX5_takesJoin_1 rfl lq_RX5_42 rfl rfl
theorem oX5_takesJoin_4 : oP MT mX5_takesJoin 4 (0, 2, 0, 15, []) := o_bipush dX5_takesJoin_4 (by decide)
theorem oX5_takesJoin_6 : oP MT mX5_takesJoin 6 (11, 3, 1, 26, []) := o_icmp_ne dX5_takesJoin_6 (by decide) (by decide)
theorem oX5_takesJoin_9 : oP MT mX5_takesJoin 9 (1, 1, 0, 1, []) := o_aload_n dX5_takesJoin_9 rfl
theorem oX5_takesJoin_10 : oP MT mX5_takesJoin 10 (13, 3, 13, 5, []) := o_getR (M := mX5_takesJoin) (C := RX5) (T := TX5) (ci := 5) (j := 13) (z := 5) dX5_takesJoin_10 rfl lq_RX5_26 rfl rfl
theorem oX5_takesJoin_13 : oP MT mX5_takesJoin 13 (1, 1, 0, 1, []) := o_aload_n dX5_takesJoin_13 rfl
theorem oX5_takesJoin_14 : oP MT mX5_takesJoin 14 (12, 3, 11, 5, []) := o_getI (M := mX5_takesJoin) (C := RX5) (T := TX5) (ci := 5) (j := 11) (z := 5) dX5_takesJoin_14 rfl lq_RX5_130 rfl rfl
theorem oX5_takesJoin_17 : oP MT mX5_takesJoin 17 (0, 1, 0, 1, []) := o_iconst dX5_takesJoin_17 (by decide)
theorem oX5_takesJoin_18 : oP MT mX5_takesJoin 18 (19, 1, 0, 0, []) := o_bastore dX5_takesJoin_18
theorem oX5_takesJoin_19 : oP MT mX5_takesJoin 19 (1, 1, 0, 1, []) := o_aload_n dX5_takesJoin_19 rfl
theorem oX5_takesJoin_20 : oP MT mX5_takesJoin 20 (0, 1, 0, 2, []) := o_iconst dX5_takesJoin_20 (by decide)
theorem oX5_takesJoin_21 : oP MT mX5_takesJoin 21 (14, 3, 7, 5, []) := o_putI (M := mX5_takesJoin) (C := RX5) (T := TX5) (ci := 5) (j := 7) (z := 5) dX5_takesJoin_21 rfl lq_RX5_45 rfl rfl rfl rfl
theorem oX5_takesJoin_24 : oP MT mX5_takesJoin 24 (0, 1, 0, 1, []) := o_iconst dX5_takesJoin_24 (by decide)
theorem oX5_takesJoin_25 : oP MT mX5_takesJoin 25 (22, 1, 0, 0, []) := o_zret dX5_takesJoin_25 rfl
theorem oX5_takesJoin_26 : oP MT mX5_takesJoin 26 (1, 1, 0, 1, []) := o_aload_n dX5_takesJoin_26 rfl
theorem oX5_takesJoin_27 : oP MT mX5_takesJoin 27 (12, 3, 5, 5, []) := o_getI (M := mX5_takesJoin) (C := RX5) (T := TX5) (ci := 5) (j := 5) (z := 5) dX5_takesJoin_27 rfl lq_RX5_42 rfl rfl
theorem oX5_takesJoin_30 : oP MT mX5_takesJoin 30 (0, 2, 0, 16, []) := o_bipush dX5_takesJoin_30 (by decide)
theorem oX5_takesJoin_32 : oP MT mX5_takesJoin 32 (11, 3, 1, 56, []) := o_icmp_ne dX5_takesJoin_32 (by decide) (by decide)
theorem oX5_takesJoin_35 : oP MT mX5_takesJoin 35 (1, 1, 0, 1, []) := o_aload_n dX5_takesJoin_35 rfl
theorem oX5_takesJoin_36 : oP MT mX5_takesJoin 36 (26, 3, 0, 0, [(5, 59)]) := o_callO ((vA.cons (v_callV dX5_takesJoin_36 (ci := 5) rfl rfl (mj := mX5_endCondition) mt_X5_endCondition cmq_X5_endCondition wq_212 wq_214 wq_215 (by decide) (by decide)) vA.nil))
theorem oX5_takesJoin_39 : oP MT mX5_takesJoin 39 (1, 1, 0, 1, []) := o_aload_n dX5_takesJoin_39 rfl
theorem oX5_takesJoin_40 : oP MT mX5_takesJoin 40 (13, 3, 14, 5, []) := o_getR (M := mX5_takesJoin) (C := RX5) (T := TX5) (ci := 5) (j := 14) (z := 5) dX5_takesJoin_40 rfl lq_RX5_29 rfl rfl
theorem oX5_takesJoin_43 : oP MT mX5_takesJoin 43 (1, 1, 0, 1, []) := o_aload_n dX5_takesJoin_43 rfl
theorem oX5_takesJoin_44 : oP MT mX5_takesJoin 44 (12, 3, 11, 5, []) := o_getI (M := mX5_takesJoin) (C := RX5) (T := TX5) (ci := 5) (j := 11) (z := 5) dX5_takesJoin_44 rfl lq_RX5_130 rfl rfl
theorem oX5_takesJoin_47 : oP MT mX5_takesJoin 47 (0, 1, 0, 1, []) := o_iconst dX5_takesJoin_47 (by decide)
theorem oX5_takesJoin_48 : oP MT mX5_takesJoin 48 (19, 1, 0, 0, []) := o_bastore dX5_takesJoin_48
theorem oX5_takesJoin_49 : oP MT mX5_takesJoin 49 (1, 1, 0, 1, []) := o_aload_n dX5_takesJoin_49 rfl
theorem oX5_takesJoin_50 : oP MT mX5_takesJoin 50 (0, 1, 0, 2, []) := o_iconst dX5_takesJoin_50 (by decide)
theorem oX5_takesJoin_51 : oP MT mX5_takesJoin 51 (14, 3, 7, 5, []) := o_putI (M := mX5_takesJoin) (C := RX5) (T := TX5) (ci := 5) (j := 7) (z := 5) dX5_takesJoin_51 rfl lq_RX5_45 rfl rfl rfl rfl
theorem oX5_takesJoin_54 : oP MT mX5_takesJoin 54 (0, 1, 0, 1, []) := o_iconst dX5_takesJoin_54 (by decide)
theorem oX5_takesJoin_55 : oP MT mX5_takesJoin 55 (22, 1, 0, 0, []) := o_zret dX5_takesJoin_55 rfl
theorem oX5_takesJoin_56 : oP MT mX5_takesJoin 56 (1, 1, 0, 1, []) := o_aload_n dX5_takesJoin_56 rfl
theorem oX5_takesJoin_57 : oP MT mX5_takesJoin 57 (12, 3, 5, 5, []) := o_getI (M := mX5_takesJoin) (C := RX5) (T := TX5) (ci := 5) (j := 5) (z := 5) dX5_takesJoin_57 rfl lq_RX5_42 rfl rfl
theorem oX5_takesJoin_60 : oP MT mX5_takesJoin 60 (0, 2, 0, 41, []) := o_bipush dX5_takesJoin_60 (by decide)
theorem oX5_takesJoin_62 : oP MT mX5_takesJoin 62 (11, 3, 1, 92, []) := o_icmp_ne dX5_takesJoin_62 (by decide) (by decide)
theorem oX5_takesJoin_65 : oP MT mX5_takesJoin 65 (1, 1, 0, 1, []) := o_aload_n dX5_takesJoin_65 rfl
theorem oX5_takesJoin_66 : oP MT mX5_takesJoin 66 (12, 3, 11, 5, []) := o_getI (M := mX5_takesJoin) (C := RX5) (T := TX5) (ci := 5) (j := 11) (z := 5) dX5_takesJoin_66 rfl lq_RX5_130 rfl rfl
theorem oX5_takesJoin_69 : oP MT mX5_takesJoin 69 (10, 3, 5, 92, []) := o_if_le dX5_takesJoin_69 (by decide) (by decide)
theorem oX5_takesJoin_72 : oP MT mX5_takesJoin 72 (1, 1, 0, 1, []) := o_aload_n dX5_takesJoin_72 rfl
theorem oX5_takesJoin_73 : oP MT mX5_takesJoin 73 (26, 3, 0, 0, [(5, 59)]) := o_callO ((vA.cons (v_callV dX5_takesJoin_73 (ci := 5) rfl rfl (mj := mX5_endCondition) mt_X5_endCondition cmq_X5_endCondition wq_212 wq_214 wq_215 (by decide) (by decide)) vA.nil))
theorem oX5_takesJoin_76 : oP MT mX5_takesJoin 76 (1, 1, 0, 1, []) := o_aload_n dX5_takesJoin_76 rfl
theorem oX5_takesJoin_77 : oP MT mX5_takesJoin 77 (6, 1, 0, 0, []) := o_dup dX5_takesJoin_77
theorem oX5_takesJoin_78 : oP MT mX5_takesJoin 78 (12, 3, 11, 5, []) := o_getI (M := mX5_takesJoin) (C := RX5) (T := TX5) (ci := 5) (j := 11) (z := 5) dX5_takesJoin_78 rfl lq_RX5_130 rfl rfl
theorem oX5_takesJoin_81 : oP MT mX5_takesJoin 81 (0, 1, 0, 1, []) := o_iconst dX5_takesJoin_81 (by decide)
theorem oX5_takesJoin_82 : oP MT mX5_takesJoin 82 (4, 1, 1, 0, []) := o_isub dX5_takesJoin_82
theorem oX5_takesJoin_83 : oP MT mX5_takesJoin 83 (14, 3, 11, 5, []) := o_putI (M := mX5_takesJoin) (C := RX5) (T := TX5) (ci := 5) (j := 11) (z := 5) dX5_takesJoin_83 rfl lq_RX5_130 rfl rfl rfl rfl
theorem oX5_takesJoin_86 : oP MT mX5_takesJoin 86 (1, 1, 0, 1, []) := o_aload_n dX5_takesJoin_86 rfl
theorem oX5_takesJoin_87 : oP MT mX5_takesJoin 87 (26, 3, 0, 0, [(5, 64)]) := o_callO ((vA.cons (v_callV dX5_takesJoin_87 (ci := 5) rfl rfl (mj := mX5_endOne) mt_X5_endOne cmq_X5_endOne wq_228 wq_230 wq_231 (by decide) (by decide)) vA.nil))
theorem oX5_takesJoin_90 : oP MT mX5_takesJoin 90 (0, 1, 0, 1, []) := o_iconst dX5_takesJoin_90 (by decide)
theorem oX5_takesJoin_91 : oP MT mX5_takesJoin 91 (22, 1, 0, 0, []) := o_zret dX5_takesJoin_91 rfl
theorem oX5_takesJoin_92 : oP MT mX5_takesJoin 92 (1, 1, 0, 1, []) := o_aload_n dX5_takesJoin_92 rfl
theorem oX5_takesJoin_93 : oP MT mX5_takesJoin 93 (26, 3, 0, 0, [(5, 65)]) := o_callO ((vA.cons (v_callV dX5_takesJoin_93 (ci := 5) rfl rfl (mj := mX5_takesDo) mt_X5_takesDo cmq_X5_takesDo wq_232 wq_234 wq_235 (by decide) (by decide)) vA.nil))
theorem oX5_takesJoin_96 : oP MT mX5_takesJoin 96 (22, 1, 0, 0, []) := o_zret dX5_takesJoin_96 rfl
def ops_X5_takesJoin : List (Nat × aO) := [(0, (1, 1, 0, 1, [])), (1, (12, 3, 5, 5, [])), (4, (0, 2, 0, 15, [])), (6, (11, 3, 1, 26, [])), (9, (1, 1, 0, 1, [])), (10, (13, 3, 13, 5, [])), (13, (1, 1, 0, 1, [])), (14, (12, 3, 11, 5, [])), (17, (0, 1, 0, 1, [])), (18, (19, 1, 0, 0, [])), (19, (1, 1, 0, 1, [])), (20, (0, 1, 0, 2, [])), (21, (14, 3, 7, 5, [])), (24, (0, 1, 0, 1, [])), (25, (22, 1, 0, 0, [])), (26, (1, 1, 0, 1, [])), (27, (12, 3, 5, 5, [])), (30, (0, 2, 0, 16, [])), (32, (11, 3, 1, 56, [])), (35, (1, 1, 0, 1, [])), (36, (26, 3, 0, 0, [(5, 59)])), (39, (1, 1, 0, 1, [])), (40, (13, 3, 14, 5, [])), (43, (1, 1, 0, 1, [])), (44, (12, 3, 11, 5, [])), (47, (0, 1, 0, 1, [])), (48, (19, 1, 0, 0, [])), (49, (1, 1, 0, 1, [])), (50, (0, 1, 0, 2, [])), (51, (14, 3, 7, 5, [])), (54, (0, 1, 0, 1, [])), (55, (22, 1, 0, 0, [])), (56, (1, 1, 0, 1, [])), (57, (12, 3, 5, 5, [])), (60, (0, 2, 0, 41, [])), (62, (11, 3, 1, 92, [])), (65, (1, 1, 0, 1, [])), (66, (12, 3, 11, 5, [])), (69, (10, 3, 5, 92, [])), (72, (1, 1, 0, 1, [])), (73, (26, 3, 0, 0, [(5, 59)])), (76, (1, 1, 0, 1, [])), (77, (6, 1, 0, 0, [])), (78, (12, 3, 11, 5, [])), (81, (0, 1, 0, 1, [])), (82, (4, 1, 1, 0, [])), (83, (14, 3, 11, 5, [])), (86, (1, 1, 0, 1, [])), (87, (26, 3, 0, 0, [(5, 64)])), (90, (0, 1, 0, 1, [])), (91, (22, 1, 0, 0, [])), (92, (1, 1, 0, 1, [])), (93, (26, 3, 0, 0, [(5, 65)])), (96, (22, 1, 0, 0, []))]
theorem os_X5_takesJoin : oA MT mX5_takesJoin ops_X5_takesJoin := (oA.cons oX5_takesJoin_0 (oA.cons oX5_takesJoin_1 (oA.cons oX5_takesJoin_4 (oA.cons oX5_takesJoin_6 (oA.cons oX5_takesJoin_9 (oA.cons oX5_takesJoin_10 (oA.cons oX5_takesJoin_13 (oA.cons oX5_takesJoin_14 (oA.cons oX5_takesJoin_17 (oA.cons oX5_takesJoin_18 (oA.cons oX5_takesJoin_19 (oA.cons oX5_takesJoin_20 (oA.cons oX5_takesJoin_21 (oA.cons oX5_takesJoin_24 (oA.cons oX5_takesJoin_25 (oA.cons oX5_takesJoin_26 (oA.cons oX5_takesJoin_27 (oA.cons oX5_takesJoin_30 (oA.cons oX5_takesJoin_32 (oA.cons oX5_takesJoin_35 (oA.cons oX5_takesJoin_36 (oA.cons oX5_takesJoin_39 (oA.cons oX5_takesJoin_40 (oA.cons oX5_takesJoin_43 (oA.cons oX5_takesJoin_44 (oA.cons oX5_takesJoin_47 (oA.cons oX5_takesJoin_48 (oA.cons oX5_takesJoin_49 (oA.cons oX5_takesJoin_50 (oA.cons oX5_takesJoin_51 (oA.cons oX5_takesJoin_54 (oA.cons oX5_takesJoin_55 (oA.cons oX5_takesJoin_56 (oA.cons oX5_takesJoin_57 (oA.cons oX5_takesJoin_60 (oA.cons oX5_takesJoin_62 (oA.cons oX5_takesJoin_65 (oA.cons oX5_takesJoin_66 (oA.cons oX5_takesJoin_69 (oA.cons oX5_takesJoin_72 (oA.cons oX5_takesJoin_73 (oA.cons oX5_takesJoin_76 (oA.cons oX5_takesJoin_77 (oA.cons oX5_takesJoin_78 (oA.cons oX5_takesJoin_81 (oA.cons oX5_takesJoin_82 (oA.cons oX5_takesJoin_83 (oA.cons oX5_takesJoin_86 (oA.cons oX5_takesJoin_87 (oA.cons oX5_takesJoin_90 (oA.cons oX5_takesJoin_91 (oA.cons oX5_takesJoin_92 (oA.cons oX5_takesJoin_93 (oA.cons oX5_takesJoin_96 oA.nil))))))))))))))))))))))))))))))))))))))))))))))))))))))
theorem dX5_takesRuleEnd_0 : decode cX5_takesRuleEnd 0 = .ok (.aload_n 0, 1) := by decide +kernel
theorem dX5_takesRuleEnd_1 : decode cX5_takesRuleEnd 1 = .ok (.getfield 42, 3) := by decide +kernel
theorem dX5_takesRuleEnd_4 : decode cX5_takesRuleEnd 4 = .ok (.bipush 59, 2) := by decide +kernel
theorem dX5_takesRuleEnd_6 : decode cX5_takesRuleEnd 6 = .ok (.if_icmp .eq 5, 3) := by decide +kernel
theorem dX5_takesRuleEnd_9 : decode cX5_takesRuleEnd 9 = .ok (.iconst 0, 1) := by decide +kernel
theorem dX5_takesRuleEnd_10 : decode cX5_takesRuleEnd 10 = .ok (.ireturn, 1) := by decide +kernel
theorem dX5_takesRuleEnd_11 : decode cX5_takesRuleEnd 11 = .ok (.aload_n 0, 1) := by decide +kernel
theorem dX5_takesRuleEnd_12 : decode cX5_takesRuleEnd 12 = .ok (.iconst 0, 1) := by decide +kernel
theorem dX5_takesRuleEnd_13 : decode cX5_takesRuleEnd 13 = .ok (.putfield 45, 3) := by decide +kernel
theorem dX5_takesRuleEnd_16 : decode cX5_takesRuleEnd 16 = .ok (.iconst 1, 1) := by decide +kernel
theorem dX5_takesRuleEnd_17 : decode cX5_takesRuleEnd 17 = .ok (.ireturn, 1) := by decide +kernel
theorem oX5_takesRuleEnd_0 : oP MT mX5_takesRuleEnd 0 (1, 1, 0, 1, []) := o_aload_n dX5_takesRuleEnd_0 rfl
theorem oX5_takesRuleEnd_1 : oP MT mX5_takesRuleEnd 1 (12, 3, 5, 5, []) := o_getI (M := mX5_takesRuleEnd) (C := RX5) (T := TX5) (ci := 5) (j := 5) (z := 5) dX5_takesRuleEnd_1 rfl lq_RX5_42 rfl rfl
theorem oX5_takesRuleEnd_4 : oP MT mX5_takesRuleEnd 4 (0, 2, 0, 59, []) := o_bipush dX5_takesRuleEnd_4 (by decide)
theorem oX5_takesRuleEnd_6 : oP MT mX5_takesRuleEnd 6 (11, 3, 0, 11, []) := o_icmp_eq dX5_takesRuleEnd_6 (by decide) (by decide)
theorem oX5_takesRuleEnd_9 : oP MT mX5_takesRuleEnd 9 (0, 1, 0, 0, []) := o_iconst dX5_takesRuleEnd_9 (by decide)
theorem oX5_takesRuleEnd_10 : oP MT mX5_takesRuleEnd 10 (22, 1, 0, 0, []) := o_zret dX5_takesRuleEnd_10 rfl
theorem oX5_takesRuleEnd_11 : oP MT mX5_takesRuleEnd 11 (1, 1, 0, 1, []) := o_aload_n dX5_takesRuleEnd_11 rfl
theorem oX5_takesRuleEnd_12 : oP MT mX5_takesRuleEnd 12 (0, 1, 0, 0, []) := o_iconst dX5_takesRuleEnd_12 (by decide)
theorem oX5_takesRuleEnd_13 : oP MT mX5_takesRuleEnd 13 (14, 3, 7, 5, []) := o_putI (M := mX5_takesRuleEnd) (C := RX5) (T := TX5) (ci := 5) (j := 7) (z := 5) dX5_takesRuleEnd_13 rfl lq_RX5_45 rfl rfl rfl rfl
theorem oX5_takesRuleEnd_16 : oP MT mX5_takesRuleEnd 16 (0, 1, 0, 1, []) := o_iconst dX5_takesRuleEnd_16 (by decide)
theorem oX5_takesRuleEnd_17 : oP MT mX5_takesRuleEnd 17 (22, 1, 0, 0, []) := o_zret dX5_takesRuleEnd_17 rfl
def ops_X5_takesRuleEnd : List (Nat × aO) := [(0, (1, 1, 0, 1, [])), (1, (12, 3, 5, 5, [])), (4, (0, 2, 0, 59, [])), (6, (11, 3, 0, 11, [])), (9, (0, 1, 0, 0, [])), (10, (22, 1, 0, 0, [])), (11, (1, 1, 0, 1, [])), (12, (0, 1, 0, 0, [])), (13, (14, 3, 7, 5, [])), (16, (0, 1, 0, 1, [])), (17, (22, 1, 0, 0, []))]
theorem os_X5_takesRuleEnd : oA MT mX5_takesRuleEnd ops_X5_takesRuleEnd := (oA.cons oX5_takesRuleEnd_0 (oA.cons oX5_takesRuleEnd_1 (oA.cons oX5_takesRuleEnd_4 (oA.cons oX5_takesRuleEnd_6 (oA.cons oX5_takesRuleEnd_9 (oA.cons oX5_takesRuleEnd_10 (oA.cons oX5_takesRuleEnd_11 (oA.cons oX5_takesRuleEnd_12 (oA.cons oX5_takesRuleEnd_13 (oA.cons oX5_takesRuleEnd_16 (oA.cons oX5_takesRuleEnd_17 oA.nil)))))))))))
theorem dX5_begin_0 : decode cX5_begin 0 = .ok (.aload_n 0, 1) := by decide +kernel
theorem dX5_begin_1 : decode cX5_begin 1 = .ok (.getfield 18, 3) := by decide +kernel
theorem dX5_begin_4 : decode cX5_begin 4 = .ok (.invokevirtual 55, 3) := by decide +kernel
theorem dX5_begin_7 : decode cX5_begin 7 = .ok (.aload_n 0, 1) := by decide +kernel
theorem dX5_begin_8 : decode cX5_begin 8 = .ok (.iconst 0, 1) := by decide +kernel
theorem dX5_begin_9 : decode cX5_begin 9 = .ok (.putfield 58, 3) := by decide +kernel
theorem dX5_begin_12 : decode cX5_begin 12 = .ok (.aload_n 0, 1) := by decide +kernel
theorem dX5_begin_13 : decode cX5_begin 13 = .ok (.iconst 0, 1) := by decide +kernel
theorem dX5_begin_14 : decode cX5_begin 14 = .ok (.putfield 45, 3) := by decide +kernel
theorem dX5_begin_17 : decode cX5_begin 17 = .ok (.iconst 0, 1) := by decide +kernel
theorem dX5_begin_18 : decode cX5_begin 18 = .ok (.istore_n 1, 1) := by decide +kernel
theorem dX5_begin_19 : decode cX5_begin 19 = .ok (.iload_n 1, 1) := by decide +kernel
theorem dX5_begin_20 : decode cX5_begin 20 = .ok (.iconst 3, 1) := by decide +kernel
theorem dX5_begin_21 : decode cX5_begin 21 = .ok (.if_icmp .gt 30, 3) := by decide +kernel
theorem dX5_begin_24 : decode cX5_begin 24 = .ok (.aload_n 0, 1) := by decide +kernel
theorem dX5_begin_25 : decode cX5_begin 25 = .ok (.getfield 22, 3) := by decide +kernel
theorem dX5_begin_28 : decode cX5_begin 28 = .ok (.iload_n 1, 1) := by decide +kernel
theorem dX5_begin_29 : decode cX5_begin 29 = .ok (.iconst 0, 1) := by decide +kernel
theorem dX5_begin_30 : decode cX5_begin 30 = .ok (.bastore, 1) := by decide +kernel
theorem dX5_begin_31 : decode cX5_begin 31 = .ok (.aload_n 0, 1) := by decide +kernel
theorem dX5_begin_32 : decode cX5_begin 32 = .ok (.getfield 26, 3) := by decide +kernel
theorem dX5_begin_35 : decode cX5_begin 35 = .ok (.iload_n 1, 1) := by decide +kernel
theorem dX5_begin_36 : decode cX5_begin 36 = .ok (.iconst 0, 1) := by decide +kernel
theorem dX5_begin_37 : decode cX5_begin 37 = .ok (.bastore, 1) := by decide +kernel
theorem dX5_begin_38 : decode cX5_begin 38 = .ok (.aload_n 0, 1) := by decide +kernel
theorem dX5_begin_39 : decode cX5_begin 39 = .ok (.getfield 29, 3) := by decide +kernel
theorem dX5_begin_42 : decode cX5_begin 42 = .ok (.iload_n 1, 1) := by decide +kernel
theorem dX5_begin_43 : decode cX5_begin 43 = .ok (.iconst 0, 1) := by decide +kernel
theorem dX5_begin_44 : decode cX5_begin 44 = .ok (.bastore, 1) := by decide +kernel
theorem dX5_begin_45 : decode cX5_begin 45 = .ok (.iinc 1 1, 3) := by decide +kernel
theorem dX5_begin_48 : decode cX5_begin 48 = .ok (.goto (-29), 3) := by decide +kernel
theorem dX5_begin_51 : decode cX5_begin 51 = .ok (.return_, 1) := by decide +kernel
theorem oX5_begin_0 : oP MT mX5_begin 0 (1, 1, 0, 1, []) := o_aload_n dX5_begin_0 rfl
theorem oX5_begin_1 : oP MT mX5_begin 1 (13, 3, 2, 5, []) := o_getR (M := mX5_begin) (C := RX5) (T := TX5) (ci := 5) (j := 2) (z := 5) dX5_begin_1 rfl lq_RX5_18 rfl rfl
theorem oX5_begin_4 : oP MT mX5_begin 4 (26, 3, 0, 0, [(6, 74)]) := o_callO ((vA.cons (v_callV dX5_begin_4 (ci := 6) rfl rfl (mj := mX6_clear) mt_X6_clear cmq_X6_clear wq_236 wq_238 wq_239 (by decide) (by decide)) vA.nil))
theorem oX5_begin_7 : oP MT mX5_begin 7 (1, 1, 0, 1, []) := o_aload_n dX5_begin_7 rfl
theorem oX5_begin_8 : oP MT mX5_begin 8 (0, 1, 0, 0, []) := o_iconst dX5_begin_8 (by decide)
theorem oX5_begin_9 : oP MT mX5_begin 9 (14, 3, 3, 5, []) := o_putI (M := mX5_begin) (C := RX5) (T := TX5) (ci := 5) (j := 3) (z := 5) dX5_begin_9 rfl lq_RX5_58 rfl rfl rfl rfl
theorem oX5_begin_12 : oP MT mX5_begin 12 (1, 1, 0, 1, []) := o_aload_n dX5_begin_12 rfl
theorem oX5_begin_13 : oP MT mX5_begin 13 (0, 1, 0, 0, []) := o_iconst dX5_begin_13 (by decide)
theorem oX5_begin_14 : oP MT mX5_begin 14 (14, 3, 7, 5, []) := o_putI (M := mX5_begin) (C := RX5) (T := TX5) (ci := 5) (j := 7) (z := 5) dX5_begin_14 rfl lq_RX5_45 rfl rfl rfl rfl
theorem oX5_begin_17 : oP MT mX5_begin 17 (0, 1, 0, 0, []) := o_iconst dX5_begin_17 (by decide)
theorem oX5_begin_18 : oP MT mX5_begin 18 (2, 1, 1, 0, []) := o_istore_n dX5_begin_18 rfl (by decide)
theorem oX5_begin_19 : oP MT mX5_begin 19 (1, 1, 1, 0, []) := o_iload_n dX5_begin_19 rfl
theorem oX5_begin_20 : oP MT mX5_begin 20 (0, 1, 0, 3, []) := o_iconst dX5_begin_20 (by decide)
theorem oX5_begin_21 : oP MT mX5_begin 21 (11, 3, 4, 51, []) := o_icmp_gt dX5_begin_21 (by decide) (by decide)
theorem oX5_begin_24 : oP MT mX5_begin 24 (1, 1, 0, 1, []) := o_aload_n dX5_begin_24 rfl
theorem oX5_begin_25 : oP MT mX5_begin 25 (13, 3, 12, 5, []) := o_getR (M := mX5_begin) (C := RX5) (T := TX5) (ci := 5) (j := 12) (z := 5) dX5_begin_25 rfl lq_RX5_22 rfl rfl
theorem oX5_begin_28 : oP MT mX5_begin 28 (1, 1, 1, 0, []) := o_iload_n dX5_begin_28 rfl
theorem oX5_begin_29 : oP MT mX5_begin 29 (0, 1, 0, 0, []) := o_iconst dX5_begin_29 (by decide)
theorem oX5_begin_30 : oP MT mX5_begin 30 (19, 1, 0, 0, []) := o_bastore dX5_begin_30
theorem oX5_begin_31 : oP MT mX5_begin 31 (1, 1, 0, 1, []) := o_aload_n dX5_begin_31 rfl
theorem oX5_begin_32 : oP MT mX5_begin 32 (13, 3, 13, 5, []) := o_getR (M := mX5_begin) (C := RX5) (T := TX5) (ci := 5) (j := 13) (z := 5) dX5_begin_32 rfl lq_RX5_26 rfl rfl
theorem oX5_begin_35 : oP MT mX5_begin 35 (1, 1, 1, 0, []) := o_iload_n dX5_begin_35 rfl
theorem oX5_begin_36 : oP MT mX5_begin 36 (0, 1, 0, 0, []) := o_iconst dX5_begin_36 (by decide)
theorem oX5_begin_37 : oP MT mX5_begin 37 (19, 1, 0, 0, []) := o_bastore dX5_begin_37
theorem oX5_begin_38 : oP MT mX5_begin 38 (1, 1, 0, 1, []) := o_aload_n dX5_begin_38 rfl
theorem oX5_begin_39 : oP MT mX5_begin 39 (13, 3, 14, 5, []) := o_getR (M := mX5_begin) (C := RX5) (T := TX5) (ci := 5) (j := 14) (z := 5) dX5_begin_39 rfl lq_RX5_29 rfl rfl
theorem oX5_begin_42 : oP MT mX5_begin 42 (1, 1, 1, 0, []) := o_iload_n dX5_begin_42 rfl
theorem oX5_begin_43 : oP MT mX5_begin 43 (0, 1, 0, 0, []) := o_iconst dX5_begin_43 (by decide)
theorem oX5_begin_44 : oP MT mX5_begin 44 (19, 1, 0, 0, []) := o_bastore dX5_begin_44
theorem oX5_begin_45 : oP MT mX5_begin 45 (3, 3, 1, 1, []) := o_iinc dX5_begin_45 (by decide) (by decide)
theorem oX5_begin_48 : oP MT mX5_begin 48 (9, 3, 19, 0, []) := o_goto dX5_begin_48 (by decide)
theorem oX5_begin_51 : oP MT mX5_begin 51 (23, 1, 0, 0, []) := o_vret dX5_begin_51 rfl
def ops_X5_begin : List (Nat × aO) := [(0, (1, 1, 0, 1, [])), (1, (13, 3, 2, 5, [])), (4, (26, 3, 0, 0, [(6, 74)])), (7, (1, 1, 0, 1, [])), (8, (0, 1, 0, 0, [])), (9, (14, 3, 3, 5, [])), (12, (1, 1, 0, 1, [])), (13, (0, 1, 0, 0, [])), (14, (14, 3, 7, 5, [])), (17, (0, 1, 0, 0, [])), (18, (2, 1, 1, 0, [])), (19, (1, 1, 1, 0, [])), (20, (0, 1, 0, 3, [])), (21, (11, 3, 4, 51, [])), (24, (1, 1, 0, 1, [])), (25, (13, 3, 12, 5, [])), (28, (1, 1, 1, 0, [])), (29, (0, 1, 0, 0, [])), (30, (19, 1, 0, 0, [])), (31, (1, 1, 0, 1, [])), (32, (13, 3, 13, 5, [])), (35, (1, 1, 1, 0, [])), (36, (0, 1, 0, 0, [])), (37, (19, 1, 0, 0, [])), (38, (1, 1, 0, 1, [])), (39, (13, 3, 14, 5, [])), (42, (1, 1, 1, 0, [])), (43, (0, 1, 0, 0, [])), (44, (19, 1, 0, 0, [])), (45, (3, 3, 1, 1, [])), (48, (9, 3, 19, 0, [])), (51, (23, 1, 0, 0, []))]
theorem os_X5_begin : oA MT mX5_begin ops_X5_begin := (oA.cons oX5_begin_0 (oA.cons oX5_begin_1 (oA.cons oX5_begin_4 (oA.cons oX5_begin_7 (oA.cons oX5_begin_8 (oA.cons oX5_begin_9 (oA.cons oX5_begin_12 (oA.cons oX5_begin_13 (oA.cons oX5_begin_14 (oA.cons oX5_begin_17 (oA.cons oX5_begin_18 (oA.cons oX5_begin_19 (oA.cons oX5_begin_20 (oA.cons oX5_begin_21 (oA.cons oX5_begin_24 (oA.cons oX5_begin_25 (oA.cons oX5_begin_28 (oA.cons oX5_begin_29 (oA.cons oX5_begin_30 (oA.cons oX5_begin_31 (oA.cons oX5_begin_32 (oA.cons oX5_begin_35 (oA.cons oX5_begin_36 (oA.cons oX5_begin_37 (oA.cons oX5_begin_38 (oA.cons oX5_begin_39 (oA.cons oX5_begin_42 (oA.cons oX5_begin_43 (oA.cons oX5_begin_44 (oA.cons oX5_begin_45 (oA.cons oX5_begin_48 (oA.cons oX5_begin_51 oA.nil))))))))))))))))))))))))))))))))
theorem dX6_clear_0 : decode cX6_clear 0 = .ok (.aload_n 0, 1) := by decide +kernel
theorem dX6_clear_1 : decode cX6_clear 1 = .ok (.iconst 0, 1) := by decide +kernel
theorem dX6_clear_2 : decode cX6_clear 2 = .ok (.putfield 24, 3) := by decide +kernel
theorem dX6_clear_5 : decode cX6_clear 5 = .ok (.aload_n 0, 1) := by decide +kernel
theorem dX6_clear_6 : decode cX6_clear 6 = .ok (.iconst 0, 1) := by decide +kernel
theorem dX6_clear_7 : decode cX6_clear 7 = .ok (.putfield 28, 3) := by decide +kernel
theorem dX6_clear_10 : decode cX6_clear 10 = .ok (.return_, 1) := by decide +kernel
theorem oX6_clear_0 : oP MT mX6_clear 0 (1, 1, 0, 1, []) := o_aload_n dX6_clear_0 rfl
theorem oX6_clear_1 : oP MT mX6_clear 1 (0, 1, 0, 0, []) := o_iconst dX6_clear_1 (by decide)
theorem oX6_clear_2 : oP MT mX6_clear 2 (14, 3, 0, 6, []) := o_putI (M := mX6_clear) (C := RX6) (T := TX6) (ci := 6) (j := 0) (z := 6) dX6_clear_2 rfl lq_RX6_24 rfl rfl rfl rfl
theorem oX6_clear_5 : oP MT mX6_clear 5 (1, 1, 0, 1, []) := o_aload_n dX6_clear_5 rfl
theorem oX6_clear_6 : oP MT mX6_clear 6 (0, 1, 0, 0, []) := o_iconst dX6_clear_6 (by decide)
theorem oX6_clear_7 : oP MT mX6_clear 7 (14, 3, 1, 6, []) := o_putI (M := mX6_clear) (C := RX6) (T := TX6) (ci := 6) (j := 1) (z := 6) dX6_clear_7 rfl lq_RX6_28 rfl rfl rfl rfl
theorem oX6_clear_10 : oP MT mX6_clear 10 (23, 1, 0, 0, []) := o_vret dX6_clear_10 rfl
def ops_X6_clear : List (Nat × aO) := [(0, (1, 1, 0, 1, [])), (1, (0, 1, 0, 0, [])), (2, (14, 3, 0, 6, [])), (5, (1, 1, 0, 1, [])), (6, (0, 1, 0, 0, [])), (7, (14, 3, 1, 6, [])), (10, (23, 1, 0, 0, []))]
theorem os_X6_clear : oA MT mX6_clear ops_X6_clear := (oA.cons oX6_clear_0 (oA.cons oX6_clear_1 (oA.cons oX6_clear_2 (oA.cons oX6_clear_5 (oA.cons oX6_clear_6 (oA.cons oX6_clear_7 (oA.cons oX6_clear_10 oA.nil)))))))
theorem dX5_next_0 : decode cX5_next 0 = .ok (.aload_n 0, 1) := by decide +kernel
theorem dX5_next_1 : decode cX5_next 1 = .ok (.getfield 58, 3) := by decide +kernel
theorem dX5_next_4 : decode cX5_next 4 = .ok (.aload_n 0, 1) := by decide +kernel
theorem dX5_next_5 : decode cX5_next 5 = .ok (.getfield 32, 3) := by decide +kernel
theorem dX5_next_8 : decode cX5_next 8 = .ok (.if_icmp .ge 30, 3) := by decide +kernel
theorem dX5_next_11 : decode cX5_next 11 = .ok (.aload_n 0, 1) := by decide +kernel
theorem dX5_next_12 : decode cX5_next 12 = .ok (.getfield 9, 3) := by decide +kernel
theorem dX5_next_15 : decode cX5_next 15 = .ok (.aload_n 0, 1) := by decide +kernel
theorem dX5_next_16 : decode cX5_next 16 = .ok (.getfield 58, 3) := by decide +kernel
theorem dX5_next_19 : decode cX5_next 19 = .ok (.iaload, 1) := by decide +kernel
theorem dX5_next_20 : decode cX5_next 20 = .ok (.bipush 32, 2) := by decide +kernel
theorem dX5_next_22 : decode cX5_next 22 = .ok (.if_icmp .ne 16, 3) := by decide +kernel
theorem dX5_next_25 : decode cX5_next 25 = .ok (.aload_n 0, 1) := by decide +kernel
theorem dX5_next_26 : decode cX5_next 26 = .ok (.dup, 1) := by decide +kernel
theorem dX5_next_27 : decode cX5_next 27 = .ok (.getfield 58, 3) := by decide +kernel
theorem dX5_next_30 : decode cX5_next 30 = .ok (.iconst 1, 1) := by decide +kernel
theorem dX5_next_31 : decode cX5_next 31 = .ok (.iadd, 1) := by decide +kernel
theorem dX5_next_32 : decode cX5_next 32 = .ok (.putfield 58, 3) := by decide +kernel
theorem dX5_next_35 : decode cX5_next 35 = .ok (.goto (-35), 3) := by decide +kernel
theorem dX5_next_38 : decode cX5_next 38 = .ok (.aload_n 0, 1) := by decide +kernel
theorem dX5_next_39 : decode cX5_next 39 = .ok (.aload_n 0, 1) := by decide +kernel
theorem dX5_next_40 : decode cX5_next 40 = .ok (.getfield 58, 3) := by decide +kernel
theorem dX5_next_43 : decode cX5_next 43 = .ok (.putfield 52, 3) := by decide +kernel
theorem dX5_next_46 : decode cX5_next 46 = .ok (.aload_n 0, 1) := by decide +kernel
theorem dX5_next_47 : decode cX5_next 47 = .ok (.getfield 58, 3) := by decide +kernel
theorem dX5_next_50 : decode cX5_next 50 = .ok (.aload_n 0, 1) := by decide +kernel
theorem dX5_next_51 : decode cX5_next 51 = .ok (.getfield 32, 3) := by decide +kernel
theorem dX5_next_54 : decode cX5_next 54 = .ok (.if_icmp .lt 12, 3) := by decide +kernel
theorem dX5_next_57 : decode cX5_next 57 = .ok (.aload_n 0, 1) := by decide +kernel
theorem dX5_next_58 : decode cX5_next 58 = .ok (.bipush (-2), 2) := by decide +kernel
theorem dX5_next_60 : decode cX5_next 60 = .ok (.putfield 42, 3) := by decide +kernel
theorem dX5_next_63 : decode cX5_next 63 = .ok (.goto 89, 3) := by decide +kernel
theorem dX5_next_66 : decode cX5_next 66 = .ok (.aload_n 0, 1) := by decide +kernel
theorem dX5_next_67 : decode cX5_next 67 = .ok (.getfield 9, 3) := by decide +kernel
theorem dX5_next_70 : decode cX5_next 70 = .ok (.aload_n 0, 1) := by decide +kernel
theorem dX5_next_71 : decode cX5_next 71 = .ok (.getfield 58, 3) := by decide +kernel
theorem dX5_next_74 : decode cX5_next 74 = .ok (.iaload, 1) := by decide +kernel
theorem dX5_next_75 : decode cX5_next 75 = .ok (.invokestatic 61, 3) := by decide +kernel
theorem dX5_next_78 : decode cX5_next 78 = .ok (.ifCond .eq 10, 3) := by decide +kernel
theorem dX5_next_81 : decode cX5_next 81 = .ok (.aload_n 0, 1) := by decide +kernel
theorem dX5_next_82 : decode cX5_next 82 = .ok (.invokevirtual 65, 3) := by decide +kernel
theorem dX5_next_85 : decode cX5_next 85 = .ok (.goto 67, 3) := by decide +kernel
theorem dX5_next_88 : decode cX5_next 88 = .ok (.aload_n 0, 1) := by decide +kernel
theorem dX5_next_89 : decode cX5_next 89 = .ok (.getfield 9, 3) := by decide +kernel
theorem dX5_next_92 : decode cX5_next 92 = .ok (.aload_n 0, 1) := by decide +kernel
theorem dX5_next_93 : decode cX5_next 93 = .ok (.getfield 58, 3) := by decide +kernel
theorem dX5_next_96 : decode cX5_next 96 = .ok (.iaload, 1) := by decide +kernel
theorem dX5_next_97 : decode cX5_next 97 = .ok (.invokestatic 68, 3) := by decide +kernel
theorem dX5_next_100 : decode cX5_next 100 = .ok (.ifCond .eq 10, 3) := by decide +kernel
theorem dX5_next_103 : decode cX5_next 103 = .ok (.aload_n 0, 1) := by decide +kernel
theorem dX5_next_104 : decode cX5_next 104 = .ok (.invokevirtual 71, 3) := by decide +kernel
theorem dX5_next_107 : decode cX5_next 107 = .ok (.goto 45, 3) := by decide +kernel
theorem dX5_next_110 : decode cX5_next 110 = .ok (.aload_n 0, 1) := by decide +kernel
theorem dX5_next_111 : decode cX5_next 111 = .ok (.aload_n 0, 1) := by decide +kernel
theorem dX5_next_112 : decode cX5_next 112 = .ok (.getfield 9, 3) := by decide +kernel
theorem dX5_next_115 : decode cX5_next 115 = .ok (.aload_n 0, 1) := by decide +kernel
theorem dX5_next_116 : decode cX5_next 116 = .ok (.getfield 58, 3) := by decide +kernel
theorem dX5_next_119 : decode cX5_next 119 = .ok (.iaload, 1) := by decide +kernel
theorem dX5_next_120 : decode cX5_next 120 = .ok (.invokestatic 74, 3) := by decide +kernel
theorem dX5_next_123 : decode cX5_next 123 = .ok (.ifCond .eq 15, 3) := by decide +kernel
theorem dX5_next_126 : decode cX5_next 126 = .ok (.aload_n 0, 1) := by decide +kernel
theorem dX5_next_127 : decode cX5_next 127 = .ok (.getfield 9, 3) := by decide +kernel
theorem dX5_next_130 : decode cX5_next 130 = .ok (.aload_n 0, 1) := by decide +kernel
theorem dX5_next_131 : decode cX5_next 131 = .ok (.getfield 58, 3) := by decide +kernel
theorem dX5_next_134 : decode cX5_next 134 = .ok (.iaload, 1) := by decide +kernel
theorem dX5_next_135 : decode cX5_next 135 = .ok (.goto 4, 3) := by decide +kernel
theorem dX5_next_138 : decode cX5_next 138 = .ok (.iconst (-1), 1) := by decide +kernel
theorem dX5_next_139 : decode cX5_next 139 = .ok (.putfield 42, 3) := by decide +kernel
theorem dX5_next_142 : decode cX5_next 142 = .ok (.aload_n 0, 1) := by decide +kernel
theorem dX5_next_143 : decode cX5_next 143 = .ok (.dup, 1) := by decide +kernel
theorem dX5_next_144 : decode cX5_next 144 = .ok (.getfield 58, 3) := by decide +kernel
theorem dX5_next_147 : decode cX5_next 147 = .ok (.iconst 1, 1) := by decide +kernel
theorem dX5_next_148 : decode cX5_next 148 = .ok (.iadd, 1) := by decide +kernel
theorem dX5_next_149 : decode cX5_next 149 = .ok (.putfield 58, 3) := by decide +kernel
theorem dX5_next_152 : decode cX5_next 152 = .ok (.return_, 1) := by decide +kernel
theorem oX5_next_0 : oP MT mX5_next 0 (1, 1, 0, 1, []) := o_aload_n dX5_next_0 rfl
theorem oX5_next_1 : oP MT mX5_next 1 (12, 3, 3, 5, []) := o_getI (M := mX5_next) (C := RX5) (T := TX5) (ci := 5) (j := 3) (z := 5) dX5_next_1 rfl lq_RX5_58 rfl rfl
theorem oX5_next_4 : oP MT mX5_next 4 (1, 1, 0, 1, []) := o_aload_n dX5_next_4 rfl
theorem oX5_next_5 : oP MT mX5_next 5 (12, 3, 1, 5, []) := o_getI (M := mX5_next) (C := RX5) (T := TX5) (ci := 5) (j := 1) (z := 5) dX5_next_5 rfl lq_RX5_32 rfl rfl
theorem oX5_next_8 : oP MT mX5_next 8 (11, 3, 3, 38, []) := o_icmp_ge dX5_next_8 (by decide) (by decide)
theorem oX5_next_11 : oP MT mX5_next 11 (1, 1, 0, 1, []) := o_aload_n dX5_next_11 rfl
theorem oX5_next_12 : oP MT mX5_next 12 (13, 3, 0, 5, []) := o_getR (M := mX5_next) (C := RX5) (T := TX5) (ci := 5) (j := 0) (z := 5) dX5_next_12 rfl lq_RX5_9 rfl rfl
theorem oX5_next_15 : oP MT mX5_next 15 (1, 1, 0, 1, []) := o_aload_n dX5_next_15 rfl
theorem oX5_next_16 : oP MT mX5_next 16 (12, 3, 3, 5, []) := o_getI (M := mX5_next) (C := RX5) (T := TX5) (ci := 5) (j := 3) (z := 5) dX5_next_16 rfl lq_RX5_58 rfl rfl
theorem oX5_next_19 : oP MT mX5_next 19 (16, 1, 1, 0, []) := o_iaload dX5_next_19
theorem oX5_next_20 : oP MT mX5_next 20 (0, 2, 0, 32, []) := o_bipush dX5_next_20 (by decide)
theorem oX5_next_22 : oP MT mX5_next 22 (11, 3, 1, 38, []) := o_icmp_ne dX5_next_22 (by decide) (by decide)
theorem oX5_next_25 : oP MT mX5_next 25 (1, 1, 0, 1, []) := o_aload_n dX5_next_25 rfl
theorem oX5_next_26 : oP MT mX5_next 26 (6, 1, 0, 0, []) := o_dup dX5_next_26
theorem oX5_next_27 : oP MT mX5_next 27 (12, 3, 3, 5, []) := o_getI (M := mX5_next) (C := RX5) (T := TX5) (ci := 5) (j := 3) (z := 5) dX5_next_27 rfl lq_RX5_58 rfl rfl
theorem oX5_next_30 : oP MT mX5_next 30 (0, 1, 0, 1, []) := o_iconst dX5_next_30 (by decide)
theorem oX5_next_31 : oP MT mX5_next 31 (4, 1, 0, 0, []) := o_iadd dX5_next_31
theorem oX5_next_32 : oP MT mX5_next 32 (14, 3, 3, 5, []) := o_putI (M := mX5_next) (C := RX5) (T := TX5) (ci := 5) (j := 3) (z := 5) dX5_next_32 rfl lq_RX5_58 rfl rfl rfl rfl
theorem oX5_next_35 : oP MT mX5_next 35 (9, 3, 0, 0, []) := o_goto dX5_next_35 (by decide)
theorem oX5_next_38 : oP MT mX5_next 38 (1, 1, 0, 1, []) := o_aload_n dX5_next_38 rfl
theorem oX5_next_39 : oP MT mX5_next 39 (1, 1, 0, 1, []) := o_aload_n dX5_next_39 rfl
theorem oX5_next_40 : oP MT mX5_next 40 (12, 3, 3, 5, []) := o_getI (M := mX5_next) (C := RX5) (T := TX5) (ci := 5) (j := 3) (z := 5) dX5_next_40 rfl lq_RX5_58 rfl rfl
theorem oX5_next_43 : oP MT mX5_next 43 (14, 3, 4, 5, []) := o_putI (M := mX5_next) (C := RX5) (T := TX5) (ci := 5) (j := 4) (z := 5) dX5_next_43 rfl lq_RX5_52 rfl rfl rfl rfl
theorem oX5_next_46 : oP MT mX5_next 46 (1, 1, 0, 1, []) := o_aload_n dX5_next_46 rfl
theorem oX5_next_47 : oP MT mX5_next 47 (12, 3, 3, 5, []) := o_getI (M := mX5_next) (C := RX5) (T := TX5) (ci := 5) (j := 3) (z := 5) dX5_next_47 rfl lq_RX5_58 rfl rfl
theorem oX5_next_50 : oP MT mX5_next 50 (1, 1, 0, 1, []) := o_aload_n dX5_next_50 rfl
theorem oX5_next_51 : oP MT mX5_next 51 (12, 3, 1, 5, []) := o_getI (M := mX5_next) (C := RX5) (T := TX5) (ci := 5) (j := 1) (z := 5) dX5_next_51 rfl lq_RX5_32 rfl rfl
theorem oX5_next_54 : oP MT mX5_next 54 (11, 3, 2, 66, []) := o_icmp_lt dX5_next_54 (by decide) (by decide)
theorem oX5_next_57 : oP MT mX5_next 57 (1, 1, 0, 1, []) := o_aload_n dX5_next_57 rfl
theorem oX5_next_58 : oP MT mX5_next 58 (0, 2, 0, (-2), []) := o_bipush dX5_next_58 (by decide)
theorem oX5_next_60 : oP MT mX5_next 60 (14, 3, 5, 5, []) := o_putI (M := mX5_next) (C := RX5) (T := TX5) (ci := 5) (j := 5) (z := 5) dX5_next_60 rfl lq_RX5_42 rfl rfl rfl rfl
theorem oX5_next_63 : oP MT mX5_next 63 (9, 3, 152, 0, []) := o_goto dX5_next_63 (by decide)
theorem oX5_next_66 : oP MT mX5_next 66 (1, 1, 0, 1, []) := o_aload_n dX5_next_66 rfl
theorem oX5_next_67 : oP MT mX5_next 67 (13, 3, 0, 5, []) := o_getR (M := mX5_next) (C := RX5) (T := TX5) (ci := 5) (j := 0) (z := 5) dX5_next_67 rfl lq_RX5_9 rfl rfl
theorem oX5_next_70 : oP MT mX5_next 70 (1, 1, 0, 1, []) := o_aload_n dX5_next_70 rfl
theorem oX5_next_71 : oP MT mX5_next 71 (12, 3, 3, 5, []) := o_getI (M := mX5_next) (C := RX5) (T := TX5) (ci := 5) (j := 3) (z := 5) dX5_next_71 rfl lq_RX5_58 rfl rfl
theorem oX5_next_74 : oP MT mX5_next 74 (16, 1, 1, 0, []) := o_iaload dX5_next_74
theorem oX5_next_75 : oP MT mX5_next 75 (25, 3, 53, 1, []) := o_callS dX5_next_75 (mj := mX5_isLetter) mt_X5_isLetter cmq_X5_isLetter wq_240 wq_242 (by decide) (by decide)
theorem oX5_next_78 : oP MT mX5_next 78 (10, 3, 0, 88, []) := o_if_eq dX5_next_78 (by decide) (by decide)
theorem oX5_next_81 : oP MT mX5_next 81 (1, 1, 0, 1, []) := o_aload_n dX5_next_81 rfl
theorem oX5_next_82 : oP MT mX5_next 82 (26, 3, 0, 0, [(5, 55)]) := o_callO ((vA.cons (v_callV dX5_next_82 (ci := 5) rfl rfl (mj := mX5_nextName) mt_X5_nextName cmq_X5_nextName wq_243 wq_245 wq_246 (by decide) (by decide)) vA.nil))
theorem oX5_next_85 : oP MT mX5_next 85 (9, 3, 152, 0, []) := o_goto dX5_next_85 (by decide)
theorem oX5_next_88 : oP MT mX5_next 88 (1, 1, 0, 1, []) := o_aload_n dX5_next_88 rfl
theorem oX5_next_89 : oP MT mX5_next 89 (13, 3, 0, 5, []) := o_getR (M := mX5_next) (C := RX5) (T := TX5) (ci := 5) (j := 0) (z := 5) dX5_next_89 rfl lq_RX5_9 rfl rfl
theorem oX5_next_92 : oP MT mX5_next 92 (1, 1, 0, 1, []) := o_aload_n dX5_next_92 rfl
theorem oX5_next_93 : oP MT mX5_next 93 (12, 3, 3, 5, []) := o_getI (M := mX5_next) (C := RX5) (T := TX5) (ci := 5) (j := 3) (z := 5) dX5_next_93 rfl lq_RX5_58 rfl rfl
theorem oX5_next_96 : oP MT mX5_next 96 (16, 1, 1, 0, []) := o_iaload dX5_next_96
theorem oX5_next_97 : oP MT mX5_next 97 (25, 3, 56, 1, []) := o_callS dX5_next_97 (mj := mX5_isDigit) mt_X5_isDigit cmq_X5_isDigit wq_204 wq_207 (by decide) (by decide)
theorem oX5_next_100 : oP MT mX5_next 100 (10, 3, 0, 110, []) := o_if_eq dX5_next_100 (by decide) (by decide)
theorem oX5_next_103 : oP MT mX5_next 103 (1, 1, 0, 1, []) := o_aload_n dX5_next_103 rfl
theorem oX5_next_104 : oP MT mX5_next 104 (26, 3, 0, 0, [(5, 57)]) := o_callO ((vA.cons (v_callV dX5_next_104 (ci := 5) rfl rfl (mj := mX5_nextNumber) mt_X5_nextNumber cmq_X5_nextNumber wq_247 wq_249 wq_250 (by decide) (by decide)) vA.nil))
theorem oX5_next_107 : oP MT mX5_next 107 (9, 3, 152, 0, []) := o_goto dX5_next_107 (by decide)
theorem oX5_next_110 : oP MT mX5_next 110 (1, 1, 0, 1, []) := o_aload_n dX5_next_110 rfl
theorem oX5_next_111 : oP MT mX5_next 111 (1, 1, 0, 1, []) := o_aload_n dX5_next_111 rfl
theorem oX5_next_112 : oP MT mX5_next 112 (13, 3, 0, 5, []) := o_getR (M := mX5_next) (C := RX5) (T := TX5) (ci := 5) (j := 0) (z := 5) dX5_next_112 rfl lq_RX5_9 rfl rfl
theorem oX5_next_115 : oP MT mX5_next 115 (1, 1, 0, 1, []) := o_aload_n dX5_next_115 rfl
theorem oX5_next_116 : oP MT mX5_next 116 (12, 3, 3, 5, []) := o_getI (M := mX5_next) (C := RX5) (T := TX5) (ci := 5) (j := 3) (z := 5) dX5_next_116 rfl lq_RX5_58 rfl rfl
theorem oX5_next_119 : oP MT mX5_next 119 (16, 1, 1, 0, []) := o_iaload dX5_next_119
theorem oX5_next_120 : oP MT mX5_next 120 (25, 3, 58, 1, []) := o_callS dX5_next_120 (mj := mX5_isMark) mt_X5_isMark cmq_X5_isMark wq_251 wq_253 (by decide) (by decide)
theorem oX5_next_123 : oP MT mX5_next 123 (10, 3, 0, 138, []) := o_if_eq dX5_next_123 (by decide) (by decide)
theorem oX5_next_126 : oP MT mX5_next 126 (1, 1, 0, 1, []) := o_aload_n dX5_next_126 rfl
theorem oX5_next_127 : oP MT mX5_next 127 (13, 3, 0, 5, []) := o_getR (M := mX5_next) (C := RX5) (T := TX5) (ci := 5) (j := 0) (z := 5) dX5_next_127 rfl lq_RX5_9 rfl rfl
theorem oX5_next_130 : oP MT mX5_next 130 (1, 1, 0, 1, []) := o_aload_n dX5_next_130 rfl
theorem oX5_next_131 : oP MT mX5_next 131 (12, 3, 3, 5, []) := o_getI (M := mX5_next) (C := RX5) (T := TX5) (ci := 5) (j := 3) (z := 5) dX5_next_131 rfl lq_RX5_58 rfl rfl
theorem oX5_next_134 : oP MT mX5_next 134 (16, 1, 1, 0, []) := o_iaload dX5_next_134
theorem oX5_next_135 : oP MT mX5_next 135 (9, 3, 139, 0, []) := o_goto dX5_next_135 (by decide)
theorem oX5_next_138 : oP MT mX5_next 138 (0, 1, 0, (-1), []) := o_iconst dX5_next_138 (by decide)
theorem oX5_next_139 : oP MT mX5_next 139 (14, 3, 5, 5, []) := o_putI (M := mX5_next) (C := RX5) (T := TX5) (ci := 5) (j := 5) (z := 5) dX5_next_139 rfl lq_RX5_42 rfl rfl rfl rfl
theorem oX5_next_142 : oP MT mX5_next 142 (1, 1, 0, 1, []) := o_aload_n dX5_next_142 rfl
theorem oX5_next_143 : oP MT mX5_next 143 (6, 1, 0, 0, []) := o_dup dX5_next_143
theorem oX5_next_144 : oP MT mX5_next 144 (12, 3, 3, 5, []) := o_getI (M := mX5_next) (C := RX5) (T := TX5) (ci := 5) (j := 3) (z := 5) dX5_next_144 rfl lq_RX5_58 rfl rfl
theorem oX5_next_147 : oP MT mX5_next 147 (0, 1, 0, 1, []) := o_iconst dX5_next_147 (by decide)
theorem oX5_next_148 : oP MT mX5_next 148 (4, 1, 0, 0, []) := o_iadd dX5_next_148
theorem oX5_next_149 : oP MT mX5_next 149 (14, 3, 3, 5, []) := o_putI (M := mX5_next) (C := RX5) (T := TX5) (ci := 5) (j := 3) (z := 5) dX5_next_149 rfl lq_RX5_58 rfl rfl rfl rfl
theorem oX5_next_152 : oP MT mX5_next 152 (23, 1, 0, 0, []) := o_vret dX5_next_152 rfl
def ops_X5_next : List (Nat × aO) := [(0, (1, 1, 0, 1, [])), (1, (12, 3, 3, 5, [])), (4, (1, 1, 0, 1, [])), (5, (12, 3, 1, 5, [])), (8, (11, 3, 3, 38, [])), (11, (1, 1, 0, 1, [])), (12, (13, 3, 0, 5, [])), (15, (1, 1, 0, 1, [])), (16, (12, 3, 3, 5, [])), (19, (16, 1, 1, 0, [])), (20, (0, 2, 0, 32, [])), (22, (11, 3, 1, 38, [])), (25, (1, 1, 0, 1, [])), (26, (6, 1, 0, 0, [])), (27, (12, 3, 3, 5, [])), (30, (0, 1, 0, 1, [])), (31, (4, 1, 0, 0, [])), (32, (14, 3, 3, 5, [])), (35, (9, 3, 0, 0, [])), (38, (1, 1, 0, 1, [])), (39, (1, 1, 0, 1, [])), (40, (12, 3, 3, 5, [])), (43, (14, 3, 4, 5, [])), (46, (1, 1, 0, 1, [])), (47, (12, 3, 3, 5, [])), (50, (1, 1, 0, 1, [])), (51, (12, 3, 1, 5, [])), (54, (11, 3, 2, 66, [])), (57, (1, 1, 0, 1, [])), (58, (0, 2, 0, (-2), [])), (60, (14, 3, 5, 5, [])), (63, (9, 3, 152, 0, [])), (66, (1, 1, 0, 1, [])), (67, (13, 3, 0, 5, [])), (70, (1, 1, 0, 1, [])), (71, (12, 3, 3, 5, [])), (74, (16, 1, 1, 0, [])), (75, (25, 3, 53, 1, [])), (78, (10, 3, 0, 88, [])), (81, (1, 1, 0, 1, [])), (82, (26, 3, 0, 0, [(5, 55)])), (85, (9, 3, 152, 0, [])), (88, (1, 1, 0, 1, [])), (89, (13, 3, 0, 5, [])), (92, (1, 1, 0, 1, [])), (93, (12, 3, 3, 5, [])), (96, (16, 1, 1, 0, [])), (97, (25, 3, 56, 1, [])), (100, (10, 3, 0, 110, [])), (103, (1, 1, 0, 1, [])), (104, (26, 3, 0, 0, [(5, 57)])), (107, (9, 3, 152, 0, [])), (110, (1, 1, 0, 1, [])), (111, (1, 1, 0, 1, [])), (112, (13, 3, 0, 5, [])), (115, (1, 1, 0, 1, [])), (116, (12, 3, 3, 5, [])), (119, (16, 1, 1, 0, [])), (120, (25, 3, 58, 1, [])), (123, (10, 3, 0, 138, [])), (126, (1, 1, 0, 1, [])), (127, (13, 3, 0, 5, [])), (130, (1, 1, 0, 1, [])), (131, (12, 3, 3, 5, [])), (134, (16, 1, 1, 0, [])), (135, (9, 3, 139, 0, [])), (138, (0, 1, 0, (-1), [])), (139, (14, 3, 5, 5, [])), (142, (1, 1, 0, 1, [])), (143, (6, 1, 0, 0, [])), (144, (12, 3, 3, 5, [])), (147, (0, 1, 0, 1, [])), (148, (4, 1, 0, 0, [])), (149, (14, 3, 3, 5, [])), (152, (23, 1, 0, 0, []))]
theorem os_X5_next : oA MT mX5_next ops_X5_next := (oA.cons oX5_next_0 (oA.cons oX5_next_1 (oA.cons oX5_next_4 (oA.cons oX5_next_5 (oA.cons oX5_next_8 (oA.cons oX5_next_11 (oA.cons oX5_next_12 (oA.cons oX5_next_15 (oA.cons oX5_next_16 (oA.cons oX5_next_19 (oA.cons oX5_next_20 (oA.cons oX5_next_22 (oA.cons oX5_next_25 (oA.cons oX5_next_26 (oA.cons oX5_next_27 (oA.cons oX5_next_30 (oA.cons oX5_next_31 (oA.cons oX5_next_32 (oA.cons oX5_next_35 (oA.cons oX5_next_38 (oA.cons oX5_next_39 (oA.cons oX5_next_40 (oA.cons oX5_next_43 (oA.cons oX5_next_46 (oA.cons oX5_next_47 (oA.cons oX5_next_50 (oA.cons oX5_next_51 (oA.cons oX5_next_54 (oA.cons oX5_next_57 (oA.cons oX5_next_58 (oA.cons oX5_next_60 (oA.cons oX5_next_63 (oA.cons oX5_next_66 (oA.cons oX5_next_67 (oA.cons oX5_next_70 (oA.cons oX5_next_71 (oA.cons oX5_next_74 (oA.cons oX5_next_75 (oA.cons oX5_next_78 (oA.cons oX5_next_81 (oA.cons oX5_next_82 (oA.cons oX5_next_85 (oA.cons oX5_next_88 (oA.cons oX5_next_89 (oA.cons oX5_next_92 (oA.cons oX5_next_93 (oA.cons oX5_next_96 (oA.cons oX5_next_97 (oA.cons oX5_next_100 (oA.cons oX5_next_103 (oA.cons oX5_next_104 (oA.cons oX5_next_107 (oA.cons oX5_next_110 (oA.cons oX5_next_111 (oA.cons oX5_next_112 (oA.cons oX5_next_115 (oA.cons oX5_next_116 (oA.cons oX5_next_119 (oA.cons oX5_next_120 (oA.cons oX5_next_123 (oA.cons oX5_next_126 (oA.cons oX5_next_127 (oA.cons oX5_next_130 (oA.cons oX5_next_131 (oA.cons oX5_next_134 (oA.cons oX5_next_135 (oA.cons oX5_next_138 (oA.cons oX5_next_139 (oA.cons oX5_next_142 (oA.cons oX5_next_143 (oA.cons oX5_next_144 (oA.cons oX5_next_147 (oA.cons oX5_next_148 (oA.cons oX5_next_149 (oA.cons oX5_next_152 oA.nil)))))))))))))))))))))))))))))))))))))))))))))))))))))))))))))))))))))))))))
theorem dX5_takes_0 : decode cX5_takes 0 = .ok (.aload_n 0, 1) := by decide +kernel
theorem dX5_takes_1 : decode cX5_takes 1 = .ok (.getfield 45, 3) := by decide +kernel
theorem dX5_takes_4 : decode cX5_takes 4 = .ok (.tableswitch 85 0 5 #[40, 45, 65, 70, 75, 80], 40) := by decide +kernel
theorem dX5_takes_44 : decode cX5_takes 44 = .ok (.aload_n 0, 1) := by decide +kernel
theorem dX5_takes_45 : decode cX5_takes 45 = .ok (.invokevirtual 96, 3) := by decide +kernel
theorem dX5_takes_48 : decode cX5_takes 48 = .ok (.ireturn, 1) := by decide +kernel
theorem dX5_takes_49 : decode cX5_takes 49 = .ok (.aload_n 0, 1) := by decide +kernel
theorem dX5_takes_50 : decode cX5_takes 50 = .ok (.invokevirtual 99, 3) := by decide +kernel
theorem dX5_takes_53 : decode cX5_takes 53 = .ok (.ifCond .ne 10, 3) := by decide +kernel
theorem dX5_takes_56 : decode cX5_takes 56 = .ok (.aload_n 0, 1) := by decide +kernel
theorem dX5_takes_57 : decode cX5_takes 57 = .ok (.invokevirtual 102, 3) := by decide +kernel
theorem dX5_takes_60 : decode cX5_takes 60 = .ok (.ifCond .eq 7, 3) := by decide +kernel
theorem dX5_takes_63 : decode cX5_takes 63 = .ok (.iconst 1, 1) := by decide +kernel
theorem dX5_takes_64 : decode cX5_takes 64 = .ok (.goto 4, 3) := by decide +kernel
theorem dX5_takes_67 : decode cX5_takes 67 = .ok (.iconst 0, 1) := by decide +kernel
theorem dX5_takes_68 : decode cX5_takes 68 = .ok (.ireturn, 1) := by decide +kernel
theorem dX5_takes_69 : decode cX5_takes 69 = .ok (.aload_n 0, 1) := by decide +kernel
theorem dX5_takes_70 : decode cX5_takes 70 = .ok (.invokevirtual 105, 3) := by decide +kernel
theorem dX5_takes_73 : decode cX5_takes 73 = .ok (.ireturn, 1) := by decide +kernel
theorem dX5_takes_74 : decode cX5_takes 74 = .ok (.aload_n 0, 1) := by decide +kernel
theorem dX5_takes_75 : decode cX5_takes 75 = .ok (.invokevirtual 108, 3) := by decide +kernel
theorem dX5_takes_78 : decode cX5_takes 78 = .ok (.ireturn, 1) := by decide +kernel
theorem dX5_takes_79 : decode cX5_takes 79 = .ok (.aload_n 0, 1) := by decide +kernel
theorem dX5_takes_80 : decode cX5_takes 80 = .ok (.invokevirtual 111, 3) := by decide +kernel
theorem dX5_takes_83 : decode cX5_takes 83 = .ok (.ireturn, 1) := by decide +kernel
theorem dX5_takes_84 : decode cX5_takes 84 = .ok (.aload_n 0, 1) := by decide +kernel
theorem dX5_takes_85 : decode cX5_takes 85 = .ok (.invokevirtual 114, 3) := by decide +kernel
theorem dX5_takes_88 : decode cX5_takes 88 = .ok (.ireturn, 1) := by decide +kernel
theorem dX5_takes_89 : decode cX5_takes 89 = .ok (.aload_n 0, 1) := by decide +kernel
theorem dX5_takes_90 : decode cX5_takes 90 = .ok (.invokevirtual 117, 3) := by decide +kernel
theorem dX5_takes_93 : decode cX5_takes 93 = .ok (.ireturn, 1) := by decide +kernel
theorem oX5_takes_0 : oP MT mX5_takes 0 (1, 1, 0, 1, []) := o_aload_n dX5_takes_0 rfl
theorem oX5_takes_1 : oP MT mX5_takes 1 (12, 3, 7, 5, []) := o_getI (M := mX5_takes) (C := RX5) (T := TX5) (ci := 5) (j := 7) (z := 5) dX5_takes_1 rfl lq_RX5_45 rfl rfl
theorem oX5_takes_4 : oP MT mX5_takes 4 (24, 40, 89, 0, [(0, 44), (1, 49), (2, 69), (3, 74), (4, 79), (5, 84)]) := o_table dX5_takes_4 rfl (by decide) (by decide) (by decide)
theorem oX5_takes_44 : oP MT mX5_takes 44 (1, 1, 0, 1, []) := o_aload_n dX5_takes_44 rfl
theorem oX5_takes_45 : oP MT mX5_takes 45 (26, 3, 0, 0, [(5, 66)]) := o_callO ((vA.cons (v_callV dX5_takes_45 (ci := 5) rfl rfl (mj := mX5_takesKind) mt_X5_takesKind cmq_X5_takesKind wq_254 wq_256 wq_257 (by decide) (by decide)) vA.nil))
theorem oX5_takes_48 : oP MT mX5_takes 48 (22, 1, 0, 0, []) := o_zret dX5_takes_48 rfl
theorem oX5_takes_49 : oP MT mX5_takes 49 (1, 1, 0, 1, []) := o_aload_n dX5_takes_49 rfl
theorem oX5_takes_50 : oP MT mX5_takes 50 (26, 3, 0, 0, [(5, 67)]) := o_callO ((vA.cons (v_callV dX5_takes_50 (ci := 5) rfl rfl (mj := mX5_takesIf) mt_X5_takesIf cmq_X5_takesIf wq_258 wq_260 wq_261 (by decide) (by decide)) vA.nil))
theorem oX5_takes_53 : oP MT mX5_takes 53 (10, 3, 1, 63, []) := o_if_ne dX5_takes_53 (by decide) (by decide)
theorem oX5_takes_56 : oP MT mX5_takes 56 (1, 1, 0, 1, []) := o_aload_n dX5_takes_56 rfl
theorem oX5_takes_57 : oP MT mX5_takes 57 (26, 3, 0, 0, [(5, 65)]) := o_callO ((vA.cons (v_callV dX5_takes_57 (ci := 5) rfl rfl (mj := mX5_takesDo) mt_X5_takesDo cmq_X5_takesDo wq_232 wq_234 wq_235 (by decide) (by decide)) vA.nil))
theorem oX5_takes_60 : oP MT mX5_takes 60 (10, 3, 0, 67, []) := o_if_eq dX5_takes_60 (by decide) (by decide)
theorem oX5_takes_63 : oP MT mX5_takes 63 (0, 1, 0, 1, []) := o_iconst dX5_takes_63 (by decide)
theorem oX5_takes_64 : oP MT mX5_takes 64 (9, 3, 68, 0, []) := o_goto dX5_takes_64 (by decide)
theorem oX5_takes_67 : oP MT mX5_takes 67 (0, 1, 0, 0, []) := o_iconst dX5_takes_67 (by decide)
theorem oX5_takes_68 : oP MT mX5_takes 68 (22, 1, 0, 0, []) := o_zret dX5_takes_68 rfl
theorem oX5_takes_69 : oP MT mX5_takes 69 (1, 1, 0, 1, []) := o_aload_n dX5_takes_69 rfl
theorem oX5_takes_70 : oP MT mX5_takes 70 (26, 3, 0, 0, [(5, 68)]) := o_callO ((vA.cons (v_callV dX5_takes_70 (ci := 5) rfl rfl (mj := mX5_takesOne) mt_X5_takesOne cmq_X5_takesOne wq_262 wq_264 wq_265 (by decide) (by decide)) vA.nil))
theorem oX5_takes_73 : oP MT mX5_takes 73 (22, 1, 0, 0, []) := o_zret dX5_takes_73 rfl
theorem oX5_takes_74 : oP MT mX5_takes 74 (1, 1, 0, 1, []) := o_aload_n dX5_takes_74 rfl
theorem oX5_takes_75 : oP MT mX5_takes 75 (26, 3, 0, 0, [(5, 69)]) := o_callO ((vA.cons (v_callV dX5_takes_75 (ci := 5) rfl rfl (mj := mX5_takesSign) mt_X5_takesSign cmq_X5_takesSign wq_266 wq_268 wq_269 (by decide) (by decide)) vA.nil))
theorem oX5_takes_78 : oP MT mX5_takes 78 (22, 1, 0, 0, []) := o_zret dX5_takes_78 rfl
theorem oX5_takes_79 : oP MT mX5_takes 79 (1, 1, 0, 1, []) := o_aload_n dX5_takes_79 rfl
theorem oX5_takes_80 : oP MT mX5_takes 80 (26, 3, 0, 0, [(5, 70)]) := o_callO ((vA.cons (v_callV dX5_takes_80 (ci := 5) rfl rfl (mj := mX5_takesRight) mt_X5_takesRight cmq_X5_takesRight wq_270 wq_272 wq_273 (by decide) (by decide)) vA.nil))
theorem oX5_takes_83 : oP MT mX5_takes 83 (22, 1, 0, 0, []) := o_zret dX5_takes_83 rfl
theorem oX5_takes_84 : oP MT mX5_takes 84 (1, 1, 0, 1, []) := o_aload_n dX5_takes_84 rfl
theorem oX5_takes_85 : oP MT mX5_takes 85 (26, 3, 0, 0, [(5, 71)]) := o_callO ((vA.cons (v_callV dX5_takes_85 (ci := 5) rfl rfl (mj := mX5_takesJoin) mt_X5_takesJoin cmq_X5_takesJoin wq_274 wq_276 wq_277 (by decide) (by decide)) vA.nil))
theorem oX5_takes_88 : oP MT mX5_takes 88 (22, 1, 0, 0, []) := o_zret dX5_takes_88 rfl
theorem oX5_takes_89 : oP MT mX5_takes 89 (1, 1, 0, 1, []) := o_aload_n dX5_takes_89 rfl
theorem oX5_takes_90 : oP MT mX5_takes 90 (26, 3, 0, 0, [(5, 72)]) := o_callO ((vA.cons (v_callV dX5_takes_90 (ci := 5) rfl rfl (mj := mX5_takesRuleEnd) mt_X5_takesRuleEnd cmq_X5_takesRuleEnd wq_278 wq_280 wq_281 (by decide) (by decide)) vA.nil))
theorem oX5_takes_93 : oP MT mX5_takes 93 (22, 1, 0, 0, []) := o_zret dX5_takes_93 rfl
def ops_X5_takes : List (Nat × aO) := [(0, (1, 1, 0, 1, [])), (1, (12, 3, 7, 5, [])), (4, (24, 40, 89, 0, [(0, 44), (1, 49), (2, 69), (3, 74), (4, 79), (5, 84)])), (44, (1, 1, 0, 1, [])), (45, (26, 3, 0, 0, [(5, 66)])), (48, (22, 1, 0, 0, [])), (49, (1, 1, 0, 1, [])), (50, (26, 3, 0, 0, [(5, 67)])), (53, (10, 3, 1, 63, [])), (56, (1, 1, 0, 1, [])), (57, (26, 3, 0, 0, [(5, 65)])), (60, (10, 3, 0, 67, [])), (63, (0, 1, 0, 1, [])), (64, (9, 3, 68, 0, [])), (67, (0, 1, 0, 0, [])), (68, (22, 1, 0, 0, [])), (69, (1, 1, 0, 1, [])), (70, (26, 3, 0, 0, [(5, 68)])), (73, (22, 1, 0, 0, [])), (74, (1, 1, 0, 1, [])), (75, (26, 3, 0, 0, [(5, 69)])), (78, (22, 1, 0, 0, [])), (79, (1, 1, 0, 1, [])), (80, (26, 3, 0, 0, [(5, 70)])), (83, (22, 1, 0, 0, [])), (84, (1, 1, 0, 1, [])), (85, (26, 3, 0, 0, [(5, 71)])), (88, (22, 1, 0, 0, [])), (89, (1, 1, 0, 1, [])), (90, (26, 3, 0, 0, [(5, 72)])), (93, (22, 1, 0, 0, []))]
theorem os_X5_takes : oA MT mX5_takes ops_X5_takes := (oA.cons oX5_takes_0 (oA.cons oX5_takes_1 (oA.cons oX5_takes_4 (oA.cons oX5_takes_44 (oA.cons oX5_takes_45 (oA.cons oX5_takes_48 (oA.cons oX5_takes_49 (oA.cons oX5_takes_50 (oA.cons oX5_takes_53 (oA.cons oX5_takes_56 (oA.cons oX5_takes_57 (oA.cons oX5_takes_60 (oA.cons oX5_takes_63 (oA.cons oX5_takes_64 (oA.cons oX5_takes_67 (oA.cons oX5_takes_68 (oA.cons oX5_takes_69 (oA.cons oX5_takes_70 (oA.cons oX5_takes_73 (oA.cons oX5_takes_74 (oA.cons oX5_takes_75 (oA.cons oX5_takes_78 (oA.cons oX5_takes_79 (oA.cons oX5_takes_80 (oA.cons oX5_takes_83 (oA.cons oX5_takes_84 (oA.cons oX5_takes_85 (oA.cons oX5_takes_88 (oA.cons oX5_takes_89 (oA.cons oX5_takes_90 (oA.cons oX5_takes_93 oA.nil)))))))))))))))))))))))))))))))
theorem dX1_mayTurn_0 : decode cX1_mayTurn 0 = .ok (.aload_n 0, 1) := by decide +kernel
theorem dX1_mayTurn_1 : decode cX1_mayTurn 1 = .ok (.iload_n 1, 1) := by decide +kernel
theorem dX1_mayTurn_2 : decode cX1_mayTurn 2 = .ok (.invokevirtual 131, 3) := by decide +kernel
theorem dX1_mayTurn_5 : decode cX1_mayTurn 5 = .ok (.ifCond .le 15, 3) := by decide +kernel
theorem dX1_mayTurn_8 : decode cX1_mayTurn 8 = .ok (.aload_n 0, 1) := by decide +kernel
theorem dX1_mayTurn_9 : decode cX1_mayTurn 9 = .ok (.iload_n 1, 1) := by decide +kernel
theorem dX1_mayTurn_10 : decode cX1_mayTurn 10 = .ok (.invokevirtual 134, 3) := by decide +kernel
theorem dX1_mayTurn_13 : decode cX1_mayTurn 13 = .ok (.ifCond .ne 7, 3) := by decide +kernel
theorem dX1_mayTurn_16 : decode cX1_mayTurn 16 = .ok (.iconst 1, 1) := by decide +kernel
theorem dX1_mayTurn_17 : decode cX1_mayTurn 17 = .ok (.goto 4, 3) := by decide +kernel
theorem dX1_mayTurn_20 : decode cX1_mayTurn 20 = .ok (.iconst 0, 1) := by decide +kernel
theorem dX1_mayTurn_21 : decode cX1_mayTurn 21 = .ok (.ireturn, 1) := by decide +kernel
theorem oX1_mayTurn_0 : oP MT mX1_mayTurn 0 (1, 1, 0, 1, []) := o_aload_n dX1_mayTurn_0 rfl
theorem oX1_mayTurn_1 : oP MT mX1_mayTurn 1 (1, 1, 1, 0, []) := o_iload_n dX1_mayTurn_1 rfl
theorem oX1_mayTurn_2 : oP MT mX1_mayTurn 2 (26, 3, 0, 1, [(1, 24)]) := o_callO ((vA.cons (v_callV dX1_mayTurn_2 (ci := 1) rfl rfl (mj := mX1_pays) mt_X1_pays cmq_X1_pays wq_126 wq_128 wq_129 (by decide) (by decide)) vA.nil))
theorem oX1_mayTurn_5 : oP MT mX1_mayTurn 5 (10, 3, 5, 20, []) := o_if_le dX1_mayTurn_5 (by decide) (by decide)
theorem oX1_mayTurn_8 : oP MT mX1_mayTurn 8 (1, 1, 0, 1, []) := o_aload_n dX1_mayTurn_8 rfl
theorem oX1_mayTurn_9 : oP MT mX1_mayTurn 9 (1, 1, 1, 0, []) := o_iload_n dX1_mayTurn_9 rfl
theorem oX1_mayTurn_10 : oP MT mX1_mayTurn 10 (26, 3, 0, 1, [(1, 25)]) := o_callO ((vA.cons (v_callV dX1_mayTurn_10 (ci := 1) rfl rfl (mj := mX1_will) mt_X1_will cmq_X1_will wq_122 wq_124 wq_125 (by decide) (by decide)) vA.nil))
theorem oX1_mayTurn_13 : oP MT mX1_mayTurn 13 (10, 3, 1, 20, []) := o_if_ne dX1_mayTurn_13 (by decide) (by decide)
theorem oX1_mayTurn_16 : oP MT mX1_mayTurn 16 (0, 1, 0, 1, []) := o_iconst dX1_mayTurn_16 (by decide)
theorem oX1_mayTurn_17 : oP MT mX1_mayTurn 17 (9, 3, 21, 0, []) := o_goto dX1_mayTurn_17 (by decide)
theorem oX1_mayTurn_20 : oP MT mX1_mayTurn 20 (0, 1, 0, 0, []) := o_iconst dX1_mayTurn_20 (by decide)
theorem oX1_mayTurn_21 : oP MT mX1_mayTurn 21 (22, 1, 0, 0, []) := o_zret dX1_mayTurn_21 rfl
def ops_X1_mayTurn : List (Nat × aO) := [(0, (1, 1, 0, 1, [])), (1, (1, 1, 1, 0, [])), (2, (26, 3, 0, 1, [(1, 24)])), (5, (10, 3, 5, 20, [])), (8, (1, 1, 0, 1, [])), (9, (1, 1, 1, 0, [])), (10, (26, 3, 0, 1, [(1, 25)])), (13, (10, 3, 1, 20, [])), (16, (0, 1, 0, 1, [])), (17, (9, 3, 21, 0, [])), (20, (0, 1, 0, 0, [])), (21, (22, 1, 0, 0, []))]
theorem os_X1_mayTurn : oA MT mX1_mayTurn ops_X1_mayTurn := (oA.cons oX1_mayTurn_0 (oA.cons oX1_mayTurn_1 (oA.cons oX1_mayTurn_2 (oA.cons oX1_mayTurn_5 (oA.cons oX1_mayTurn_8 (oA.cons oX1_mayTurn_9 (oA.cons oX1_mayTurn_10 (oA.cons oX1_mayTurn_13 (oA.cons oX1_mayTurn_16 (oA.cons oX1_mayTurn_17 (oA.cons oX1_mayTurn_20 (oA.cons oX1_mayTurn_21 oA.nil))))))))))))
theorem dX11_put_0 : decode cX11_put 0 = .ok (.iload_n 1, 1) := by decide +kernel
theorem dX11_put_1 : decode cX11_put 1 = .ok (.iconst 0, 1) := by decide +kernel
theorem dX11_put_2 : decode cX11_put 2 = .ok (.aload_n 0, 1) := by decide +kernel
theorem dX11_put_3 : decode cX11_put 3 = .ok (.arraylength, 1) := by decide +kernel
theorem dX11_put_4 : decode cX11_put 4 = .ok (.iconst 1, 1) := by decide +kernel
theorem dX11_put_5 : decode cX11_put 5 = .ok (.isub, 1) := by decide +kernel
theorem dX11_put_6 : decode cX11_put 6 = .ok (.invokestatic 90, 3) := by decide +kernel
theorem dX11_put_9 : decode cX11_put 9 = .ok (.ifCond .eq 12, 3) := by decide +kernel
theorem dX11_put_12 : decode cX11_put 12 = .ok (.iload_n 2, 1) := by decide +kernel
theorem dX11_put_13 : decode cX11_put 13 = .ok (.iconst 0, 1) := by decide +kernel
theorem dX11_put_14 : decode cX11_put 14 = .ok (.iload_n 3, 1) := by decide +kernel
theorem dX11_put_15 : decode cX11_put 15 = .ok (.invokestatic 90, 3) := by decide +kernel
theorem dX11_put_18 : decode cX11_put 18 = .ok (.ifCond .ne 5, 3) := by decide +kernel
theorem dX11_put_21 : decode cX11_put 21 = .ok (.iconst (-1), 1) := by decide +kernel
theorem dX11_put_22 : decode cX11_put 22 = .ok (.ireturn, 1) := by decide +kernel
theorem dX11_put_23 : decode cX11_put 23 = .ok (.aload_n 0, 1) := by decide +kernel
theorem dX11_put_24 : decode cX11_put 24 = .ok (.iload_n 1, 1) := by decide +kernel
theorem dX11_put_25 : decode cX11_put 25 = .ok (.iaload, 1) := by decide +kernel
theorem dX11_put_26 : decode cX11_put 26 = .ok (.istore 4, 2) := by decide +kernel
theorem dX11_put_28 : decode cX11_put 28 = .ok (.aload_n 0, 1) := by decide +kernel
theorem dX11_put_29 : decode cX11_put 29 = .ok (.iload_n 1, 1) := by decide +kernel
theorem dX11_put_30 : decode cX11_put 30 = .ok (.iload_n 2, 1) := by decide +kernel
theorem dX11_put_31 : decode cX11_put 31 = .ok (.iastore, 1) := by decide +kernel
theorem dX11_put_32 : decode cX11_put 32 = .ok (.iload 4, 2) := by decide +kernel
theorem dX11_put_34 : decode cX11_put 34 = .ok (.ireturn, 1) := by decide +kernel
theorem oX11_put_0 : oP MT mX11_put 0 (1, 1, 1, 0, []) := o_iload_n dX11_put_0 rfl
theorem oX11_put_1 : oP MT mX11_put 1 (0, 1, 0, 0, []) := o_iconst dX11_put_1 (by decide)
theorem oX11_put_2 : oP MT mX11_put 2 (1, 1, 0, 1, []) := o_aload_n dX11_put_2 rfl
theorem oX11_put_3 : oP MT mX11_put 3 (20, 1, 0, 0, []) := o_arraylength dX11_put_3
theorem oX11_put_4 : oP MT mX11_put 4 (0, 1, 0, 1, []) := o_iconst dX11_put_4 (by decide)
theorem oX11_put_5 : oP MT mX11_put 5 (4, 1, 1, 0, []) := o_isub dX11_put_5
theorem oX11_put_6 : oP MT mX11_put 6 (25, 3, 37, 3, []) := o_callS dX11_put_6 (mj := mX11_isIn) mt_X11_isIn cmq_X11_isIn wq_282 wq_144 (by decide) (by decide)
theorem oX11_put_9 : oP MT mX11_put 9 (10, 3, 0, 21, []) := o_if_eq dX11_put_9 (by decide) (by decide)
theorem oX11_put_12 : oP MT mX11_put 12 (1, 1, 2, 0, []) := o_iload_n dX11_put_12 rfl
theorem oX11_put_13 : oP MT mX11_put 13 (0, 1, 0, 0, []) := o_iconst dX11_put_13 (by decide)
theorem oX11_put_14 : oP MT mX11_put 14 (1, 1, 3, 0, []) := o_iload_n dX11_put_14 rfl
theorem oX11_put_15 : oP MT mX11_put 15 (25, 3, 37, 3, []) := o_callS dX11_put_15 (mj := mX11_isIn) mt_X11_isIn cmq_X11_isIn wq_282 wq_144 (by decide) (by decide)
theorem oX11_put_18 : oP MT mX11_put 18 (10, 3, 1, 23, []) := o_if_ne dX11_put_18 (by decide) (by decide)
theorem oX11_put_21 : oP MT mX11_put 21 (0, 1, 0, (-1), []) := o_iconst dX11_put_21 (by decide)
theorem oX11_put_22 : oP MT mX11_put 22 (21, 1, 0, 0, []) := o_iret dX11_put_22 rfl
theorem oX11_put_23 : oP MT mX11_put 23 (1, 1, 0, 1, []) := o_aload_n dX11_put_23 rfl
theorem oX11_put_24 : oP MT mX11_put 24 (1, 1, 1, 0, []) := o_iload_n dX11_put_24 rfl
theorem oX11_put_25 : oP MT mX11_put 25 (16, 1, 1, 0, []) := o_iaload dX11_put_25
theorem oX11_put_26 : oP MT mX11_put 26 (2, 2, 4, 0, []) := o_istore dX11_put_26 (by decide)
theorem oX11_put_28 : oP MT mX11_put 28 (1, 1, 0, 1, []) := o_aload_n dX11_put_28 rfl
theorem oX11_put_29 : oP MT mX11_put 29 (1, 1, 1, 0, []) := o_iload_n dX11_put_29 rfl
theorem oX11_put_30 : oP MT mX11_put 30 (1, 1, 2, 0, []) := o_iload_n dX11_put_30 rfl
theorem oX11_put_31 : oP MT mX11_put 31 (18, 1, 0, 0, []) := o_iastore dX11_put_31
theorem oX11_put_32 : oP MT mX11_put 32 (1, 2, 4, 0, []) := o_iload dX11_put_32
theorem oX11_put_34 : oP MT mX11_put 34 (21, 1, 0, 0, []) := o_iret dX11_put_34 rfl
def ops_X11_put : List (Nat × aO) := [(0, (1, 1, 1, 0, [])), (1, (0, 1, 0, 0, [])), (2, (1, 1, 0, 1, [])), (3, (20, 1, 0, 0, [])), (4, (0, 1, 0, 1, [])), (5, (4, 1, 1, 0, [])), (6, (25, 3, 37, 3, [])), (9, (10, 3, 0, 21, [])), (12, (1, 1, 2, 0, [])), (13, (0, 1, 0, 0, [])), (14, (1, 1, 3, 0, [])), (15, (25, 3, 37, 3, [])), (18, (10, 3, 1, 23, [])), (21, (0, 1, 0, (-1), [])), (22, (21, 1, 0, 0, [])), (23, (1, 1, 0, 1, [])), (24, (1, 1, 1, 0, [])), (25, (16, 1, 1, 0, [])), (26, (2, 2, 4, 0, [])), (28, (1, 1, 0, 1, [])), (29, (1, 1, 1, 0, [])), (30, (1, 1, 2, 0, [])), (31, (18, 1, 0, 0, [])), (32, (1, 2, 4, 0, [])), (34, (21, 1, 0, 0, []))]
theorem os_X11_put : oA MT mX11_put ops_X11_put := (oA.cons oX11_put_0 (oA.cons oX11_put_1 (oA.cons oX11_put_2 (oA.cons oX11_put_3 (oA.cons oX11_put_4 (oA.cons oX11_put_5 (oA.cons oX11_put_6 (oA.cons oX11_put_9 (oA.cons oX11_put_12 (oA.cons oX11_put_13 (oA.cons oX11_put_14 (oA.cons oX11_put_15 (oA.cons oX11_put_18 (oA.cons oX11_put_21 (oA.cons oX11_put_22 (oA.cons oX11_put_23 (oA.cons oX11_put_24 (oA.cons oX11_put_25 (oA.cons oX11_put_26 (oA.cons oX11_put_28 (oA.cons oX11_put_29 (oA.cons oX11_put_30 (oA.cons oX11_put_31 (oA.cons oX11_put_32 (oA.cons oX11_put_34 oA.nil)))))))))))))))))))))))))
theorem dX11_changeTurned_0 : decode cX11_changeTurned 0 = .ok (.iload_n 2, 1) := by decide +kernel
theorem dX11_changeTurned_1 : decode cX11_changeTurned 1 = .ok (.iconst 0, 1) := by decide +kernel
theorem dX11_changeTurned_2 : decode cX11_changeTurned 2 = .ok (.iconst 1, 1) := by decide +kernel
theorem dX11_changeTurned_3 : decode cX11_changeTurned 3 = .ok (.invokestatic 90, 3) := by decide +kernel
theorem dX11_changeTurned_6 : decode cX11_changeTurned 6 = .ok (.ifCond .ne 5, 3) := by decide +kernel
theorem dX11_changeTurned_9 : decode cX11_changeTurned 9 = .ok (.iconst (-1), 1) := by decide +kernel
theorem dX11_changeTurned_10 : decode cX11_changeTurned 10 = .ok (.ireturn, 1) := by decide +kernel
theorem dX11_changeTurned_11 : decode cX11_changeTurned 11 = .ok (.aload_n 0, 1) := by decide +kernel
theorem dX11_changeTurned_12 : decode cX11_changeTurned 12 = .ok (.getfield 56, 3) := by decide +kernel
theorem dX11_changeTurned_15 : decode cX11_changeTurned 15 = .ok (.iload_n 1, 1) := by decide +kernel
theorem dX11_changeTurned_16 : decode cX11_changeTurned 16 = .ok (.invokevirtual 116, 3) := by decide +kernel
theorem dX11_changeTurned_19 : decode cX11_changeTurned 19 = .ok (.ifCond .eq 7, 3) := by decide +kernel
theorem dX11_changeTurned_22 : decode cX11_changeTurned 22 = .ok (.iconst 1, 1) := by decide +kernel
theorem dX11_changeTurned_23 : decode cX11_changeTurned 23 = .ok (.goto 4, 3) := by decide +kernel
theorem dX11_changeTurned_26 : decode cX11_changeTurned 26 = .ok (.iconst 0, 1) := by decide +kernel
theorem dX11_changeTurned_27 : decode cX11_changeTurned 27 = .ok (.istore_n 3, 1) := by decide +kernel
theorem dX11_changeTurned_28 : decode cX11_changeTurned 28 = .ok (.aload_n 0, 1) := by decide +kernel
theorem dX11_changeTurned_29 : decode cX11_changeTurned 29 = .ok (.getfield 56, 3) := by decide +kernel
theorem dX11_changeTurned_32 : decode cX11_changeTurned 32 = .ok (.iload_n 1, 1) := by decide +kernel
theorem dX11_changeTurned_33 : decode cX11_changeTurned 33 = .ok (.iload_n 2, 1) := by decide +kernel
theorem dX11_changeTurned_34 : decode cX11_changeTurned 34 = .ok (.iconst 1, 1) := by decide +kernel
theorem dX11_changeTurned_35 : decode cX11_changeTurned 35 = .ok (.if_icmp .ne 7, 3) := by decide +kernel
theorem dX11_changeTurned_38 : decode cX11_changeTurned 38 = .ok (.iconst 1, 1) := by decide +kernel
theorem dX11_changeTurned_39 : decode cX11_changeTurned 39 = .ok (.goto 4, 3) := by decide +kernel
theorem dX11_changeTurned_42 : decode cX11_changeTurned 42 = .ok (.iconst 0, 1) := by decide +kernel
theorem dX11_changeTurned_43 : decode cX11_changeTurned 43 = .ok (.invokevirtual 143, 3) := by decide +kernel
theorem dX11_changeTurned_46 : decode cX11_changeTurned 46 = .ok (.iload_n 3, 1) := by decide +kernel
theorem dX11_changeTurned_47 : decode cX11_changeTurned 47 = .ok (.ireturn, 1) := by decide +kernel
theorem oX11_changeTurned_0 : oP MT mX11_changeTurned 0 (1, 1, 2, 0, []) := o_iload_n dX11_changeTurned_0 rfl
theorem oX11_changeTurned_1 : oP MT mX11_changeTurned 1 (0, 1, 0, 0, []) := o_iconst dX11_changeTurned_1 (by decide)
theorem oX11_changeTurned_2 : oP MT mX11_changeTurned 2 (0, 1, 0, 1, []) := o_iconst dX11_changeTurned_2 (by decide)
theorem oX11_changeTurned_3 : oP MT mX11_changeTurned 3 (25, 3, 37, 3, []) := o_callS dX11_changeTurned_3 (mj := mX11_isIn) mt_X11_isIn cmq_X11_isIn wq_282 wq_144 (by decide) (by decide)
theorem oX11_changeTurned_6 : oP MT mX11_changeTurned 6 (10, 3, 1, 11, []) := o_if_ne dX11_changeTurned_6 (by decide) (by decide)
theorem oX11_changeTurned_9 : oP MT mX11_changeTurned 9 (0, 1, 0, (-1), []) := o_iconst dX11_changeTurned_9 (by decide)
theorem oX11_changeTurned_10 : oP MT mX11_changeTurned 10 (21, 1, 0, 0, []) := o_iret dX11_changeTurned_10 rfl
theorem oX11_changeTurned_11 : oP MT mX11_changeTurned 11 (1, 1, 0, 1, []) := o_aload_n dX11_changeTurned_11 rfl
theorem oX11_changeTurned_12 : oP MT mX11_changeTurned 12 (13, 3, 0, 11, []) := o_getR (M := mX11_changeTurned) (C := RX11) (T := TX11) (ci := 11) (j := 0) (z := 11) dX11_changeTurned_12 rfl lq_RX11_56 rfl rfl
theorem oX11_changeTurned_15 : oP MT mX11_changeTurned 15 (1, 1, 1, 0, []) := o_iload_n dX11_changeTurned_15 rfl
theorem oX11_changeTurned_16 : oP MT mX11_changeTurned 16 (26, 3, 0, 1, [(1, 11)]) := o_callO ((vA.cons (v_callV dX11_changeTurned_16 (ci := 1) rfl rfl (mj := mX1_isTurned) mt_X1_isTurned cmq_X1_isTurned wq_283 wq_33 wq_34 (by decide) (by decide)) vA.nil))
theorem oX11_changeTurned_19 : oP MT mX11_changeTurned 19 (10, 3, 0, 26, []) := o_if_eq dX11_changeTurned_19 (by decide) (by decide)
theorem oX11_changeTurned_22 : oP MT mX11_changeTurned 22 (0, 1, 0, 1, []) := o_iconst dX11_changeTurned_22 (by decide)
theorem oX11_changeTurned_23 : oP MT mX11_changeTurned 23 (9, 3, 27, 0, []) := o_goto dX11_changeTurned_23 (by decide)
theorem oX11_changeTurned_26 : oP MT mX11_changeTurned 26 (0, 1, 0, 0, []) := o_iconst dX11_changeTurned_26 (by decide)
theorem oX11_changeTurned_27 : oP MT mX11_changeTurned 27 (2, 1, 3, 0, []) := o_istore_n dX11_changeTurned_27 rfl (by decide)
theorem oX11_changeTurned_28 : oP MT mX11_changeTurned 28 (1, 1, 0, 1, []) := o_aload_n dX11_changeTurned_28 rfl
theorem oX11_changeTurned_29 : oP MT mX11_changeTurned 29 (13, 3, 0, 11, []) := o_getR (M := mX11_changeTurned) (C := RX11) (T := TX11) (ci := 11) (j := 0) (z := 11) dX11_changeTurned_29 rfl lq_RX11_56 rfl rfl
theorem oX11_changeTurned_32 : oP MT mX11_changeTurned 32 (1, 1, 1, 0, []) := o_iload_n dX11_changeTurned_32 rfl
theorem oX11_changeTurned_33 : oP MT mX11_changeTurned 33 (1, 1, 2, 0, []) := o_iload_n dX11_changeTurned_33 rfl
theorem oX11_changeTurned_34 : oP MT mX11_changeTurned 34 (0, 1, 0, 1, []) := o_iconst dX11_changeTurned_34 (by decide)
theorem oX11_changeTurned_35 : oP MT mX11_changeTurned 35 (11, 3, 1, 42, []) := o_icmp_ne dX11_changeTurned_35 (by decide) (by decide)
theorem oX11_changeTurned_38 : oP MT mX11_changeTurned 38 (0, 1, 0, 1, []) := o_iconst dX11_changeTurned_38 (by decide)
theorem oX11_changeTurned_39 : oP MT mX11_changeTurned 39 (9, 3, 43, 0, []) := o_goto dX11_changeTurned_39 (by decide)
theorem oX11_changeTurned_42 : oP MT mX11_changeTurned 42 (0, 1, 0, 0, []) := o_iconst dX11_changeTurned_42 (by decide)
theorem oX11_changeTurned_43 : oP MT mX11_changeTurned 43 (26, 3, 0, 2, [(1, 27)]) := o_callO ((vA.cons (v_callV dX11_changeTurned_43 (ci := 1) rfl rfl (mj := mX1_setTurned) mt_X1_setTurned cmq_X1_setTurned wq_284 wq_132 wq_133 (by decide) (by decide)) vA.nil))
theorem oX11_changeTurned_46 : oP MT mX11_changeTurned 46 (1, 1, 3, 0, []) := o_iload_n dX11_changeTurned_46 rfl
theorem oX11_changeTurned_47 : oP MT mX11_changeTurned 47 (21, 1, 0, 0, []) := o_iret dX11_changeTurned_47 rfl
def ops_X11_changeTurned : List (Nat × aO) := [(0, (1, 1, 2, 0, [])), (1, (0, 1, 0, 0, [])), (2, (0, 1, 0, 1, [])), (3, (25, 3, 37, 3, [])), (6, (10, 3, 1, 11, [])), (9, (0, 1, 0, (-1), [])), (10, (21, 1, 0, 0, [])), (11, (1, 1, 0, 1, [])), (12, (13, 3, 0, 11, [])), (15, (1, 1, 1, 0, [])), (16, (26, 3, 0, 1, [(1, 11)])), (19, (10, 3, 0, 26, [])), (22, (0, 1, 0, 1, [])), (23, (9, 3, 27, 0, [])), (26, (0, 1, 0, 0, [])), (27, (2, 1, 3, 0, [])), (28, (1, 1, 0, 1, [])), (29, (13, 3, 0, 11, [])), (32, (1, 1, 1, 0, [])), (33, (1, 1, 2, 0, [])), (34, (0, 1, 0, 1, [])), (35, (11, 3, 1, 42, [])), (38, (0, 1, 0, 1, [])), (39, (9, 3, 43, 0, [])), (42, (0, 1, 0, 0, [])), (43, (26, 3, 0, 2, [(1, 27)])), (46, (1, 1, 3, 0, [])), (47, (21, 1, 0, 0, []))]
theorem os_X11_changeTurned : oA MT mX11_changeTurned ops_X11_changeTurned := (oA.cons oX11_changeTurned_0 (oA.cons oX11_changeTurned_1 (oA.cons oX11_changeTurned_2 (oA.cons oX11_changeTurned_3 (oA.cons oX11_changeTurned_6 (oA.cons oX11_changeTurned_9 (oA.cons oX11_changeTurned_10 (oA.cons oX11_changeTurned_11 (oA.cons oX11_changeTurned_12 (oA.cons oX11_changeTurned_15 (oA.cons oX11_changeTurned_16 (oA.cons oX11_changeTurned_19 (oA.cons oX11_changeTurned_22 (oA.cons oX11_changeTurned_23 (oA.cons oX11_changeTurned_26 (oA.cons oX11_changeTurned_27 (oA.cons oX11_changeTurned_28 (oA.cons oX11_changeTurned_29 (oA.cons oX11_changeTurned_32 (oA.cons oX11_changeTurned_33 (oA.cons oX11_changeTurned_34 (oA.cons oX11_changeTurned_35 (oA.cons oX11_changeTurned_38 (oA.cons oX11_changeTurned_39 (oA.cons oX11_changeTurned_42 (oA.cons oX11_changeTurned_43 (oA.cons oX11_changeTurned_46 (oA.cons oX11_changeTurned_47 oA.nil))))))))))))))))))))))))))))
theorem dX5_read_0 : decode cX5_read 0 = .ok (.aload_n 0, 1) := by decide +kernel
theorem dX5_read_1 : decode cX5_read 1 = .ok (.invokevirtual 36, 3) := by decide +kernel
theorem dX5_read_4 : decode cX5_read 4 = .ok (.iconst (-1), 1) := by decide +kernel
theorem dX5_read_5 : decode cX5_read 5 = .ok (.istore_n 1, 1) := by decide +kernel
theorem dX5_read_6 : decode cX5_read 6 = .ok (.iconst 0, 1) := by decide +kernel
theorem dX5_read_7 : decode cX5_read 7 = .ok (.istore_n 2, 1) := by decide +kernel
theorem dX5_read_8 : decode cX5_read 8 = .ok (.iconst 0, 1) := by decide +kernel
theorem dX5_read_9 : decode cX5_read 9 = .ok (.istore_n 3, 1) := by decide +kernel
theorem dX5_read_10 : decode cX5_read 10 = .ok (.iload_n 3, 1) := by decide +kernel
theorem dX5_read_11 : decode cX5_read 11 = .ok (.aload_n 0, 1) := by decide +kernel
theorem dX5_read_12 : decode cX5_read 12 = .ok (.getfield 32, 3) := by decide +kernel
theorem dX5_read_15 : decode cX5_read 15 = .ok (.if_icmp .gt 81, 3) := by decide +kernel
theorem dX5_read_18 : decode cX5_read 18 = .ok (.iload_n 2, 1) := by decide +kernel
theorem dX5_read_19 : decode cX5_read 19 = .ok (.ifCond .ne 77, 3) := by decide +kernel
theorem dX5_read_22 : decode cX5_read 22 = .ok (.aload_n 0, 1) := by decide +kernel
theorem dX5_read_23 : decode cX5_read 23 = .ok (.invokevirtual 39, 3) := by decide +kernel
theorem dX5_read_26 : decode cX5_read 26 = .ok (.aload_n 0, 1) := by decide +kernel
theorem dX5_read_27 : decode cX5_read 27 = .ok (.getfield 42, 3) := by decide +kernel
theorem dX5_read_30 : decode cX5_read 30 = .ok (.bipush (-2), 2) := by decide +kernel
theorem dX5_read_32 : decode cX5_read 32 = .ok (.if_icmp .ne 18, 3) := by decide +kernel
theorem dX5_read_35 : decode cX5_read 35 = .ok (.aload_n 0, 1) := by decide +kernel
theorem dX5_read_36 : decode cX5_read 36 = .ok (.getfield 45, 3) := by decide +kernel
theorem dX5_read_39 : decode cX5_read 39 = .ok (.ifCond .ne 7, 3) := by decide +kernel
theorem dX5_read_42 : decode cX5_read 42 = .ok (.iconst 1, 1) := by decide +kernel
theorem dX5_read_43 : decode cX5_read 43 = .ok (.goto 11, 3) := by decide +kernel
theorem dX5_read_46 : decode cX5_read 46 = .ok (.iconst 0, 1) := by decide +kernel
theorem dX5_read_47 : decode cX5_read 47 = .ok (.goto 7, 3) := by decide +kernel
theorem dX5_read_50 : decode cX5_read 50 = .ok (.aload_n 0, 1) := by decide +kernel
theorem dX5_read_51 : decode cX5_read 51 = .ok (.invokevirtual 48, 3) := by decide +kernel
theorem dX5_read_54 : decode cX5_read 54 = .ok (.istore 4, 2) := by decide +kernel
theorem dX5_read_56 : decode cX5_read 56 = .ok (.iload 4, 2) := by decide +kernel
theorem dX5_read_58 : decode cX5_read 58 = .ok (.ifCond .eq 7, 3) := by decide +kernel
theorem dX5_read_61 : decode cX5_read 61 = .ok (.iconst (-1), 1) := by decide +kernel
theorem dX5_read_62 : decode cX5_read 62 = .ok (.goto 7, 3) := by decide +kernel
theorem dX5_read_65 : decode cX5_read 65 = .ok (.aload_n 0, 1) := by decide +kernel
theorem dX5_read_66 : decode cX5_read 66 = .ok (.getfield 52, 3) := by decide +kernel
theorem dX5_read_69 : decode cX5_read 69 = .ok (.istore_n 1, 1) := by decide +kernel
theorem dX5_read_70 : decode cX5_read 70 = .ok (.iload 4, 2) := by decide +kernel
theorem dX5_read_72 : decode cX5_read 72 = .ok (.ifCond .eq 12, 3) := by decide +kernel
theorem dX5_read_75 : decode cX5_read 75 = .ok (.aload_n 0, 1) := by decide +kernel
theorem dX5_read_76 : decode cX5_read 76 = .ok (.getfield 42, 3) := by decide +kernel
theorem dX5_read_79 : decode cX5_read 79 = .ok (.bipush (-2), 2) := by decide +kernel
theorem dX5_read_81 : decode cX5_read 81 = .ok (.if_icmp .ne 7, 3) := by decide +kernel
theorem dX5_read_84 : decode cX5_read 84 = .ok (.iconst 1, 1) := by decide +kernel
theorem dX5_read_85 : decode cX5_read 85 = .ok (.goto 4, 3) := by decide +kernel
theorem dX5_read_88 : decode cX5_read 88 = .ok (.iconst 0, 1) := by decide +kernel
theorem dX5_read_89 : decode cX5_read 89 = .ok (.istore_n 2, 1) := by decide +kernel
theorem dX5_read_90 : decode cX5_read 90 = .ok (.iinc 3 1, 3) := by decide +kernel
theorem dX5_read_93 : decode cX5_read 93 = .ok (.goto (-83), 3) := by decide +kernel
theorem dX5_read_96 : decode cX5_read 96 = .ok (.aload_n 0, 1) := by decide +kernel
theorem dX5_read_97 : decode cX5_read 97 = .ok (.iconst 0, 1) := by decide +kernel
theorem dX5_read_98 : decode cX5_read 98 = .ok (.putfield 32, 3) := by decide +kernel
theorem dX5_read_101 : decode cX5_read 101 = .ok (.iload_n 1, 1) := by decide +kernel
theorem dX5_read_102 : decode cX5_read 102 = .ok (.ireturn, 1) := by decide +kernel
theorem oX5_read_0 : oP MT mX5_read 0 (1, 1, 0, 1, []) := o_aload_n dX5_read_0 rfl
theorem oX5_read_1 : oP MT mX5_read 1 (26, 3, 0, 0, [(5, 73)]) := o_callO ((vA.cons (v_callV dX5_read_1 (ci := 5) rfl rfl (mj := mX5_begin) mt_X5_begin cmq_X5_begin wq_285 wq_287 wq_288 (by decide) (by decide)) vA.nil))
theorem oX5_read_4 : oP MT mX5_read 4 (0, 1, 0, (-1), []) := o_iconst dX5_read_4 (by decide)
theorem oX5_read_5 : oP MT mX5_read 5 (2, 1, 1, 0, []) := o_istore_n dX5_read_5 rfl (by decide)
theorem oX5_read_6 : oP MT mX5_read 6 (0, 1, 0, 0, []) := o_iconst dX5_read_6 (by decide)
theorem oX5_read_7 : oP MT mX5_read 7 (2, 1, 2, 0, []) := o_istore_n dX5_read_7 rfl (by decide)
theorem oX5_read_8 : oP MT mX5_read 8 (0, 1, 0, 0, []) := o_iconst dX5_read_8 (by decide)
theorem oX5_read_9 : oP MT mX5_read 9 (2, 1, 3, 0, []) := o_istore_n dX5_read_9 rfl (by decide)
theorem oX5_read_10 : oP MT mX5_read 10 (1, 1, 3, 0, []) := o_iload_n dX5_read_10 rfl
theorem oX5_read_11 : oP MT mX5_read 11 (1, 1, 0, 1, []) := o_aload_n dX5_read_11 rfl
theorem oX5_read_12 : oP MT mX5_read 12 (12, 3, 1, 5, []) := o_getI (M := mX5_read) (C := RX5) (T := TX5) (ci := 5) (j := 1) (z := 5) dX5_read_12 rfl lq_RX5_32 rfl rfl
theorem oX5_read_15 : oP MT mX5_read 15 (11, 3, 4, 96, []) := o_icmp_gt dX5_read_15 (by decide) (by decide)
theorem oX5_read_18 : oP MT mX5_read 18 (1, 1, 2, 0, []) := o_iload_n dX5_read_18 rfl
theorem oX5_read_19 : oP MT mX5_read 19 (10, 3, 1, 96, []) := o_if_ne dX5_read_19 (by decide) (by decide)
theorem oX5_read_22 : oP MT mX5_read 22 (1, 1, 0, 1, []) := o_aload_n dX5_read_22 rfl
theorem oX5_read_23 : oP MT mX5_read 23 (26, 3, 0, 0, [(5, 75)]) := o_callO ((vA.cons (v_callV dX5_read_23 (ci := 5) rfl rfl (mj := mX5_next) mt_X5_next cmq_X5_next wq_289 wq_291 wq_292 (by decide) (by decide)) vA.nil))
theorem oX5_read_26 : oP MT mX5_read 26 (1, 1, 0, 1, []) := o_aload_n dX5_read_26 rfl
theorem oX5_read_27 : oP MT mX5_read 27 (12, 3, 5, 5, []) := o_getI (M := mX5_read) (C := RX5) (T := TX5) (ci := 5) (j := 5) (z := 5) dX5_read_27 rfl lq_RX5_42 rfl rfl
theorem oX5_read_30 : oP MT mX5_read 30 (0, 2, 0, (-2), []) := o_bipush dX5_read_30 (by decide)
theorem oX5_read_32 : oP MT mX5_read 32 (11, 3, 1, 50, []) := o_icmp_ne dX5_read_32 (by decide) (by decide)
theorem oX5_read_35 : oP MT mX5_read 35 (1, 1, 0, 1, []) := o_aload_n dX5_read_35 rfl
theorem oX5_read_36 : oP MT mX5_read 36 (12, 3, 7, 5, []) := o_getI (M := mX5_read) (C := RX5) (T := TX5) (ci := 5) (j := 7) (z := 5) dX5_read_36 rfl lq_RX5_45 rfl rfl
theorem oX5_read_39 : oP MT mX5_read 39 (10, 3, 1, 46, []) := o_if_ne dX5_read_39 (by decide) (by decide)
theorem oX5_read_42 : oP MT mX5_read 42 (0, 1, 0, 1, []) := o_iconst dX5_read_42 (by decide)
theorem oX5_read_43 : oP MT mX5_read 43 (9, 3, 54, 0, []) := o_goto dX5_read_43 (by decide)
theorem oX5_read_46 : oP MT mX5_read 46 (0, 1, 0, 0, []) := o_iconst dX5_read_46 (by decide)
theorem oX5_read_47 : oP MT mX5_read 47 (9, 3, 54, 0, []) := o_goto dX5_read_47 (by decide)
theorem oX5_read_50 : oP MT mX5_read 50 (1, 1, 0, 1, []) := o_aload_n dX5_read_50 rfl
theorem oX5_read_51 : oP MT mX5_read 51 (26, 3, 0, 0, [(5, 76)]) := o_callO ((vA.cons (v_callV dX5_read_51 (ci := 5) rfl rfl (mj := mX5_takes) mt_X5_takes cmq_X5_takes wq_293 wq_295 wq_296 (by decide) (by decide)) vA.nil))
theorem oX5_read_54 : oP MT mX5_read 54 (2, 2, 4, 0, []) := o_istore dX5_read_54 (by decide)
theorem oX5_read_56 : oP MT mX5_read 56 (1, 2, 4, 0, []) := o_iload dX5_read_56
theorem oX5_read_58 : oP MT mX5_read 58 (10, 3, 0, 65, []) := o_if_eq dX5_read_58 (by decide) (by decide)
theorem oX5_read_61 : oP MT mX5_read 61 (0, 1, 0, (-1), []) := o_iconst dX5_read_61 (by decide)
theorem oX5_read_62 : oP MT mX5_read 62 (9, 3, 69, 0, []) := o_goto dX5_read_62 (by decide)
theorem oX5_read_65 : oP MT mX5_read 65 (1, 1, 0, 1, []) := o_aload_n dX5_read_65 rfl
theorem oX5_read_66 : oP MT mX5_read 66 (12, 3, 4, 5, []) := o_getI (M := mX5_read) (C := RX5) (T := TX5) (ci := 5) (j := 4) (z := 5) dX5_read_66 rfl lq_RX5_52 rfl rfl
theorem oX5_read_69 : oP MT mX5_read 69 (2, 1, 1, 0, []) := o_istore_n dX5_read_69 rfl (by decide)
theorem oX5_read_70 : oP MT mX5_read 70 (1, 2, 4, 0, []) := o_iload dX5_read_70
theorem oX5_read_72 : oP MT mX5_read 72 (10, 3, 0, 84, []) := o_if_eq dX5_read_72 (by decide) (by decide)
theorem oX5_read_75 : oP MT mX5_read 75 (1, 1, 0, 1, []) := o_aload_n dX5_read_75 rfl
theorem oX5_read_76 : oP MT mX5_read 76 (12, 3, 5, 5, []) := o_getI (M := mX5_read) (C := RX5) (T := TX5) (ci := 5) (j := 5) (z := 5) dX5_read_76 rfl lq_RX5_42 rfl rfl
theorem oX5_read_79 : oP MT mX5_read 79 (0, 2, 0, (-2), []) := o_bipush dX5_read_79 (by decide)
theorem oX5_read_81 : oP MT mX5_read 81 (11, 3, 1, 88, []) := o_icmp_ne dX5_read_81 (by decide) (by decide)
theorem oX5_read_84 : oP MT mX5_read 84 (0, 1, 0, 1, []) := o_iconst dX5_read_84 (by decide)
theorem oX5_read_85 : oP MT mX5_read 85 (9, 3, 89, 0, []) := o_goto dX5_read_85 (by decide)
theorem oX5_read_88 : oP MT mX5_read 88 (0, 1, 0, 0, []) := o_iconst dX5_read_88 (by decide)
theorem oX5_read_89 : oP MT mX5_read 89 (2, 1, 2, 0, []) := o_istore_n dX5_read_89 rfl (by decide)
theorem oX5_read_90 : oP MT mX5_read 90 (3, 3, 3, 1, []) := o_iinc dX5_read_90 (by decide) (by decide)
theorem oX5_read_93 : oP MT mX5_read 93 (9, 3, 10, 0, []) := o_goto dX5_read_93 (by decide)
theorem oX5_read_96 : oP MT mX5_read 96 (1, 1, 0, 1, []) := o_aload_n dX5_read_96 rfl
theorem oX5_read_97 : oP MT mX5_read 97 (0, 1, 0, 0, []) := o_iconst dX5_read_97 (by decide)
theorem oX5_read_98 : oP MT mX5_read 98 (14, 3, 1, 5, []) := o_putI (M := mX5_read) (C := RX5) (T := TX5) (ci := 5) (j := 1) (z := 5) dX5_read_98 rfl lq_RX5_32 rfl rfl rfl rfl
theorem oX5_read_101 : oP MT mX5_read 101 (1, 1, 1, 0, []) := o_iload_n dX5_read_101 rfl
theorem oX5_read_102 : oP MT mX5_read 102 (21, 1, 0, 0, []) := o_iret dX5_read_102 rfl
def ops_X5_read : List (Nat × aO) := [(0, (1, 1, 0, 1, [])), (1, (26, 3, 0, 0, [(5, 73)])), (4, (0, 1, 0, (-1), [])), (5, (2, 1, 1, 0, [])), (6, (0, 1, 0, 0, [])), (7, (2, 1, 2, 0, [])), (8, (0, 1, 0, 0, [])), (9, (2, 1, 3, 0, [])), (10, (1, 1, 3, 0, [])), (11, (1, 1, 0, 1, [])), (12, (12, 3, 1, 5, [])), (15, (11, 3, 4, 96, [])), (18, (1, 1, 2, 0, [])), (19, (10, 3, 1, 96, [])), (22, (1, 1, 0, 1, [])), (23, (26, 3, 0, 0, [(5, 75)])), (26, (1, 1, 0, 1, [])), (27, (12, 3, 5, 5, [])), (30, (0, 2, 0, (-2), [])), (32, (11, 3, 1, 50, [])), (35, (1, 1, 0, 1, [])), (36, (12, 3, 7, 5, [])), (39, (10, 3, 1, 46, [])), (42, (0, 1, 0, 1, [])), (43, (9, 3, 54, 0, [])), (46, (0, 1, 0, 0, [])), (47, (9, 3, 54, 0, [])), (50, (1, 1, 0, 1, [])), (51, (26, 3, 0, 0, [(5, 76)])), (54, (2, 2, 4, 0, [])), (56, (1, 2, 4, 0, [])), (58, (10, 3, 0, 65, [])), (61, (0, 1, 0, (-1), [])), (62, (9, 3, 69, 0, [])), (65, (1, 1, 0, 1, [])), (66, (12, 3, 4, 5, [])), (69, (2, 1, 1, 0, [])), (70, (1, 2, 4, 0, [])), (72, (10, 3, 0, 84, [])), (75, (1, 1, 0, 1, [])), (76, (12, 3, 5, 5, [])), (79, (0, 2, 0, (-2), [])), (81, (11, 3, 1, 88, [])), (84, (0, 1, 0, 1, [])), (85, (9, 3, 89, 0, [])), (88, (0, 1, 0, 0, [])), (89, (2, 1, 2, 0, [])), (90, (3, 3, 3, 1, [])), (93, (9, 3, 10, 0, [])), (96, (1, 1, 0, 1, [])), (97, (0, 1, 0, 0, [])), (98, (14, 3, 1, 5, [])), (101, (1, 1, 1, 0, [])), (102, (21, 1, 0, 0, []))]
theorem os_X5_read : oA MT mX5_read ops_X5_read := (oA.cons oX5_read_0 (oA.cons oX5_read_1 (oA.cons oX5_read_4 (oA.cons oX5_read_5 (oA.cons oX5_read_6 (oA.cons oX5_read_7 (oA.cons oX5_read_8 (oA.cons oX5_read_9 (oA.cons oX5_read_10 (oA.cons oX5_read_11 (oA.cons oX5_read_12 (oA.cons oX5_read_15 (oA.cons oX5_read_18 (oA.cons oX5_read_19 (oA.cons oX5_read_22 (oA.cons oX5_read_23 (oA.cons oX5_read_26 (oA.cons oX5_read_27 (oA.cons oX5_read_30 (oA.cons oX5_read_32 (oA.cons oX5_read_35 (oA.cons oX5_read_36 (oA.cons oX5_read_39 (oA.cons oX5_read_42 (oA.cons oX5_read_43 (oA.cons oX5_read_46 (oA.cons oX5_read_47 (oA.cons oX5_read_50 (oA.cons oX5_read_51 (oA.cons oX5_read_54 (oA.cons oX5_read_56 (oA.cons oX5_read_58 (oA.cons oX5_read_61 (oA.cons oX5_read_62 (oA.cons oX5_read_65 (oA.cons oX5_read_66 (oA.cons oX5_read_69 (oA.cons oX5_read_70 (oA.cons oX5_read_72 (oA.cons oX5_read_75 (oA.cons oX5_read_76 (oA.cons oX5_read_79 (oA.cons oX5_read_81 (oA.cons oX5_read_84 (oA.cons oX5_read_85 (oA.cons oX5_read_88 (oA.cons oX5_read_89 (oA.cons oX5_read_90 (oA.cons oX5_read_93 (oA.cons oX5_read_96 (oA.cons oX5_read_97 (oA.cons oX5_read_98 (oA.cons oX5_read_101 (oA.cons oX5_read_102 oA.nil))))))))))))))))))))))))))))))))))))))))))))))))))))))
theorem dX1_goBy_0 : decode cX1_goBy 0 = .ok (.aload_n 0, 1) := by decide +kernel
theorem dX1_goBy_1 : decode cX1_goBy 1 = .ok (.iload_n 1, 1) := by decide +kernel
theorem dX1_goBy_2 : decode cX1_goBy 2 = .ok (.invokevirtual 137, 3) := by decide +kernel
theorem dX1_goBy_5 : decode cX1_goBy 5 = .ok (.aload_n 0, 1) := by decide +kernel
theorem dX1_goBy_6 : decode cX1_goBy 6 = .ok (.invokevirtual 140, 3) := by decide +kernel
theorem dX1_goBy_9 : decode cX1_goBy 9 = .ok (.iadd, 1) := by decide +kernel
theorem dX1_goBy_10 : decode cX1_goBy 10 = .ok (.ireturn, 1) := by decide +kernel
theorem oX1_goBy_0 : oP MT mX1_goBy 0 (1, 1, 0, 1, []) := o_aload_n dX1_goBy_0 rfl
theorem oX1_goBy_1 : oP MT mX1_goBy 1 (1, 1, 1, 0, []) := o_iload_n dX1_goBy_1 rfl
theorem oX1_goBy_2 : oP MT mX1_goBy 2 (26, 3, 0, 1, [(1, 29)]) := o_callO ((vA.cons (v_callV dX1_goBy_2 (ci := 1) rfl rfl (mj := mX1_tell) mt_X1_tell cmq_X1_tell wq_297 wq_299 wq_300 (by decide) (by decide)) vA.nil))
theorem oX1_goBy_5 : oP MT mX1_goBy 5 (1, 1, 0, 1, []) := o_aload_n dX1_goBy_5 rfl
theorem oX1_goBy_6 : oP MT mX1_goBy 6 (26, 3, 0, 0, [(1, 30)]) := o_callO ((vA.cons (v_callV dX1_goBy_6 (ci := 1) rfl rfl (mj := mX1_melt) mt_X1_melt cmq_X1_melt wq_301 wq_303 wq_304 (by decide) (by decide)) vA.nil))
theorem oX1_goBy_9 : oP MT mX1_goBy 9 (4, 1, 0, 0, []) := o_iadd dX1_goBy_9
theorem oX1_goBy_10 : oP MT mX1_goBy 10 (21, 1, 0, 0, []) := o_iret dX1_goBy_10 rfl
def ops_X1_goBy : List (Nat × aO) := [(0, (1, 1, 0, 1, [])), (1, (1, 1, 1, 0, [])), (2, (26, 3, 0, 1, [(1, 29)])), (5, (1, 1, 0, 1, [])), (6, (26, 3, 0, 0, [(1, 30)])), (9, (4, 1, 0, 0, [])), (10, (21, 1, 0, 0, []))]
theorem os_X1_goBy : oA MT mX1_goBy ops_X1_goBy := (oA.cons oX1_goBy_0 (oA.cons oX1_goBy_1 (oA.cons oX1_goBy_2 (oA.cons oX1_goBy_5 (oA.cons oX1_goBy_6 (oA.cons oX1_goBy_9 (oA.cons oX1_goBy_10 oA.nil)))))))
theorem dX11_scored_0 : decode cX11_scored 0 = .ok (.aload_n 0, 1) := by decide +kernel
theorem dX11_scored_1 : decode cX11_scored 1 = .ok (.getfield 56, 3) := by decide +kernel
theorem dX11_scored_4 : decode cX11_scored 4 = .ok (.dup, 1) := by decide +kernel
theorem dX11_scored_5 : decode cX11_scored 5 = .ok (.getfield 162, 3) := by decide +kernel
theorem dX11_scored_8 : decode cX11_scored 8 = .ok (.iload_n 1, 1) := by decide +kernel
theorem dX11_scored_9 : decode cX11_scored 9 = .ok (.iadd, 1) := by decide +kernel
theorem dX11_scored_10 : decode cX11_scored 10 = .ok (.putfield 162, 3) := by decide +kernel
theorem dX11_scored_13 : decode cX11_scored 13 = .ok (.iload_n 1, 1) := by decide +kernel
theorem dX11_scored_14 : decode cX11_scored 14 = .ok (.ireturn, 1) := by decide +kernel
theorem oX11_scored_0 : oP MT mX11_scored 0 (1, 1, 0, 1, []) := o_aload_n dX11_scored_0 rfl
theorem oX11_scored_1 : oP MT mX11_scored 1 (13, 3, 0, 11, []) := o_getR (M := mX11_scored) (C := RX11) (T := TX11) (ci := 11) (j := 0) (z := 11) dX11_scored_1 rfl lq_RX11_56 rfl rfl
theorem oX11_scored_4 : oP MT mX11_scored 4 (6, 1, 0, 0, []) := o_dup dX11_scored_4
theorem oX11_scored_5 : oP MT mX11_scored 5 (12, 3, 3, 1, []) := o_getI (M := mX11_scored) (C := RX1) (T := TX1) (ci := 1) (j := 3) (z := 1) dX11_scored_5 rfl lq_RX11_162 rfl rfl
theorem oX11_scored_8 : oP MT mX11_scored 8 (1, 1, 1, 0, []) := o_iload_n dX11_scored_8 rfl
theorem oX11_scored_9 : oP MT mX11_scored 9 (4, 1, 0, 0, []) := o_iadd dX11_scored_9
theorem oX11_scored_10 : oP MT mX11_scored 10 (14, 3, 3, 1, []) := o_putI (M := mX11_scored) (C := RX1) (T := TX1) (ci := 1) (j := 3) (z := 1) dX11_scored_10 rfl lq_RX11_162 rfl rfl rfl rfl
theorem oX11_scored_13 : oP MT mX11_scored 13 (1, 1, 1, 0, []) := o_iload_n dX11_scored_13 rfl
theorem oX11_scored_14 : oP MT mX11_scored 14 (21, 1, 0, 0, []) := o_iret dX11_scored_14 rfl
def ops_X11_scored : List (Nat × aO) := [(0, (1, 1, 0, 1, [])), (1, (13, 3, 0, 11, [])), (4, (6, 1, 0, 0, [])), (5, (12, 3, 3, 1, [])), (8, (1, 1, 1, 0, [])), (9, (4, 1, 0, 0, [])), (10, (14, 3, 3, 1, [])), (13, (1, 1, 1, 0, [])), (14, (21, 1, 0, 0, []))]
theorem os_X11_scored : oA MT mX11_scored ops_X11_scored := (oA.cons oX11_scored_0 (oA.cons oX11_scored_1 (oA.cons oX11_scored_4 (oA.cons oX11_scored_5 (oA.cons oX11_scored_8 (oA.cons oX11_scored_9 (oA.cons oX11_scored_10 (oA.cons oX11_scored_13 (oA.cons oX11_scored_14 oA.nil)))))))))
theorem dX1_goRest_0 : decode cX1_goRest 0 = .ok (.iconst 0, 1) := by decide +kernel
theorem dX1_goRest_1 : decode cX1_goRest 1 = .ok (.istore_n 2, 1) := by decide +kernel
theorem dX1_goRest_2 : decode cX1_goRest 2 = .ok (.iconst 0, 1) := by decide +kernel
theorem dX1_goRest_3 : decode cX1_goRest 3 = .ok (.istore_n 3, 1) := by decide +kernel
theorem dX1_goRest_4 : decode cX1_goRest 4 = .ok (.iload_n 3, 1) := by decide +kernel
theorem dX1_goRest_5 : decode cX1_goRest 5 = .ok (.iload_n 1, 1) := by decide +kernel
theorem dX1_goRest_6 : decode cX1_goRest 6 = .ok (.if_icmp .ge 32, 3) := by decide +kernel
theorem dX1_goRest_9 : decode cX1_goRest 9 = .ok (.aload_n 0, 1) := by decide +kernel
theorem dX1_goRest_10 : decode cX1_goRest 10 = .ok (.invokevirtual 153, 3) := by decide +kernel
theorem dX1_goRest_13 : decode cX1_goRest 13 = .ok (.ifCond .ne 25, 3) := by decide +kernel
theorem dX1_goRest_16 : decode cX1_goRest 16 = .ok (.iload_n 2, 1) := by decide +kernel
theorem dX1_goRest_17 : decode cX1_goRest 17 = .ok (.aload_n 0, 1) := by decide +kernel
theorem dX1_goRest_18 : decode cX1_goRest 18 = .ok (.aload_n 0, 1) := by decide +kernel
theorem dX1_goRest_19 : decode cX1_goRest 19 = .ok (.invokevirtual 157, 3) := by decide +kernel
theorem dX1_goRest_22 : decode cX1_goRest 22 = .ok (.invokevirtual 137, 3) := by decide +kernel
theorem dX1_goRest_25 : decode cX1_goRest 25 = .ok (.aload_n 0, 1) := by decide +kernel
theorem dX1_goRest_26 : decode cX1_goRest 26 = .ok (.invokevirtual 140, 3) := by decide +kernel
theorem dX1_goRest_29 : decode cX1_goRest 29 = .ok (.iadd, 1) := by decide +kernel
theorem dX1_goRest_30 : decode cX1_goRest 30 = .ok (.iadd, 1) := by decide +kernel
theorem dX1_goRest_31 : decode cX1_goRest 31 = .ok (.istore_n 2, 1) := by decide +kernel
theorem dX1_goRest_32 : decode cX1_goRest 32 = .ok (.iinc 3 1, 3) := by decide +kernel
theorem dX1_goRest_35 : decode cX1_goRest 35 = .ok (.goto (-31), 3) := by decide +kernel
theorem dX1_goRest_38 : decode cX1_goRest 38 = .ok (.iload_n 2, 1) := by decide +kernel
theorem dX1_goRest_39 : decode cX1_goRest 39 = .ok (.ireturn, 1) := by decide +kernel
theorem oX1_goRest_0 : oP MT mX1_goRest 0 (0, 1, 0, 0, []) := o_iconst dX1_goRest_0 (by decide)
theorem oX1_goRest_1 : oP MT mX1_goRest 1 (2, 1, 2, 0, []) := o_istore_n dX1_goRest_1 rfl (by decide)
theorem oX1_goRest_2 : oP MT mX1_goRest 2 (0, 1, 0, 0, []) := o_iconst dX1_goRest_2 (by decide)
theorem oX1_goRest_3 : oP MT mX1_goRest 3 (2, 1, 3, 0, []) := o_istore_n dX1_goRest_3 rfl (by decide)
theorem oX1_goRest_4 : oP MT mX1_goRest 4 (1, 1, 3, 0, []) := o_iload_n dX1_goRest_4 rfl
theorem oX1_goRest_5 : oP MT mX1_goRest 5 (1, 1, 1, 0, []) := o_iload_n dX1_goRest_5 rfl
theorem oX1_goRest_6 : oP MT mX1_goRest 6 (11, 3, 3, 38, []) := o_icmp_ge dX1_goRest_6 (by decide) (by decide)
theorem oX1_goRest_9 : oP MT mX1_goRest 9 (1, 1, 0, 1, []) := o_aload_n dX1_goRest_9 rfl
theorem oX1_goRest_10 : oP MT mX1_goRest 10 (26, 3, 0, 0, [(1, 31)]) := o_callO ((vA.cons (v_callV dX1_goRest_10 (ci := 1) rfl rfl (mj := mX1_isOver) mt_X1_isOver cmq_X1_isOver wq_305 wq_201 wq_202 (by decide) (by decide)) vA.nil))
theorem oX1_goRest_13 : oP MT mX1_goRest 13 (10, 3, 1, 38, []) := o_if_ne dX1_goRest_13 (by decide) (by decide)
theorem oX1_goRest_16 : oP MT mX1_goRest 16 (1, 1, 2, 0, []) := o_iload_n dX1_goRest_16 rfl
theorem oX1_goRest_17 : oP MT mX1_goRest 17 (1, 1, 0, 1, []) := o_aload_n dX1_goRest_17 rfl
theorem oX1_goRest_18 : oP MT mX1_goRest 18 (1, 1, 0, 1, []) := o_aload_n dX1_goRest_18 rfl
theorem oX1_goRest_19 : oP MT mX1_goRest 19 (26, 3, 0, 0, [(1, 32)]) := o_callO ((vA.cons (v_callV dX1_goRest_19 (ci := 1) rfl rfl (mj := mX1_restAct) mt_X1_restAct cmq_X1_restAct wq_306 wq_308 wq_309 (by decide) (by decide)) vA.nil))
theorem oX1_goRest_22 : oP MT mX1_goRest 22 (26, 3, 0, 1, [(1, 29)]) := o_callO ((vA.cons (v_callV dX1_goRest_22 (ci := 1) rfl rfl (mj := mX1_tell) mt_X1_tell cmq_X1_tell wq_297 wq_299 wq_300 (by decide) (by decide)) vA.nil))
theorem oX1_goRest_25 : oP MT mX1_goRest 25 (1, 1, 0, 1, []) := o_aload_n dX1_goRest_25 rfl
theorem oX1_goRest_26 : oP MT mX1_goRest 26 (26, 3, 0, 0, [(1, 30)]) := o_callO ((vA.cons (v_callV dX1_goRest_26 (ci := 1) rfl rfl (mj := mX1_melt) mt_X1_melt cmq_X1_melt wq_301 wq_303 wq_304 (by decide) (by decide)) vA.nil))
theorem oX1_goRest_29 : oP MT mX1_goRest 29 (4, 1, 0, 0, []) := o_iadd dX1_goRest_29
theorem oX1_goRest_30 : oP MT mX1_goRest 30 (4, 1, 0, 0, []) := o_iadd dX1_goRest_30
theorem oX1_goRest_31 : oP MT mX1_goRest 31 (2, 1, 2, 0, []) := o_istore_n dX1_goRest_31 rfl (by decide)
theorem oX1_goRest_32 : oP MT mX1_goRest 32 (3, 3, 3, 1, []) := o_iinc dX1_goRest_32 (by decide) (by decide)
theorem oX1_goRest_35 : oP MT mX1_goRest 35 (9, 3, 4, 0, []) := o_goto dX1_goRest_35 (by decide)
theorem oX1_goRest_38 : oP MT mX1_goRest 38 (1, 1, 2, 0, []) := o_iload_n dX1_goRest_38 rfl
theorem oX1_goRest_39 : oP MT mX1_goRest 39 (21, 1, 0, 0, []) := o_iret dX1_goRest_39 rfl
def ops_X1_goRest : List (Nat × aO) := [(0, (0, 1, 0, 0, [])), (1, (2, 1, 2, 0, [])), (2, (0, 1, 0, 0, [])), (3, (2, 1, 3, 0, [])), (4, (1, 1, 3, 0, [])), (5, (1, 1, 1, 0, [])), (6, (11, 3, 3, 38, [])), (9, (1, 1, 0, 1, [])), (10, (26, 3, 0, 0, [(1, 31)])), (13, (10, 3, 1, 38, [])), (16, (1, 1, 2, 0, [])), (17, (1, 1, 0, 1, [])), (18, (1, 1, 0, 1, [])), (19, (26, 3, 0, 0, [(1, 32)])), (22, (26, 3, 0, 1, [(1, 29)])), (25, (1, 1, 0, 1, [])), (26, (26, 3, 0, 0, [(1, 30)])), (29, (4, 1, 0, 0, [])), (30, (4, 1, 0, 0, [])), (31, (2, 1, 2, 0, [])), (32, (3, 3, 3, 1, [])), (35, (9, 3, 4, 0, [])), (38, (1, 1, 2, 0, [])), (39, (21, 1, 0, 0, []))]
theorem os_X1_goRest : oA MT mX1_goRest ops_X1_goRest := (oA.cons oX1_goRest_0 (oA.cons oX1_goRest_1 (oA.cons oX1_goRest_2 (oA.cons oX1_goRest_3 (oA.cons oX1_goRest_4 (oA.cons oX1_goRest_5 (oA.cons oX1_goRest_6 (oA.cons oX1_goRest_9 (oA.cons oX1_goRest_10 (oA.cons oX1_goRest_13 (oA.cons oX1_goRest_16 (oA.cons oX1_goRest_17 (oA.cons oX1_goRest_18 (oA.cons oX1_goRest_19 (oA.cons oX1_goRest_22 (oA.cons oX1_goRest_25 (oA.cons oX1_goRest_26 (oA.cons oX1_goRest_29 (oA.cons oX1_goRest_30 (oA.cons oX1_goRest_31 (oA.cons oX1_goRest_32 (oA.cons oX1_goRest_35 (oA.cons oX1_goRest_38 (oA.cons oX1_goRest_39 oA.nil))))))))))))))))))))))))
theorem dX11_bestValue_0 : decode cX11_bestValue 0 = .ok (.aload_n 1, 1) := by decide +kernel
theorem dX11_bestValue_1 : decode cX11_bestValue 1 = .ok (.iload_n 2, 1) := by decide +kernel
theorem dX11_bestValue_2 : decode cX11_bestValue 2 = .ok (.iaload, 1) := by decide +kernel
theorem dX11_bestValue_3 : decode cX11_bestValue 3 = .ok (.istore 4, 2) := by decide +kernel
theorem dX11_bestValue_5 : decode cX11_bestValue 5 = .ok (.iconst 0, 1) := by decide +kernel
theorem dX11_bestValue_6 : decode cX11_bestValue 6 = .ok (.istore 5, 2) := by decide +kernel
theorem dX11_bestValue_8 : decode cX11_bestValue 8 = .ok (.iconst (-1), 1) := by decide +kernel
theorem dX11_bestValue_9 : decode cX11_bestValue 9 = .ok (.istore 6, 2) := by decide +kernel
theorem dX11_bestValue_11 : decode cX11_bestValue 11 = .ok (.aload_n 0, 1) := by decide +kernel
theorem dX11_bestValue_12 : decode cX11_bestValue 12 = .ok (.getfield 56, 3) := by decide +kernel
theorem dX11_bestValue_15 : decode cX11_bestValue 15 = .ok (.iconst 0, 1) := by decide +kernel
theorem dX11_bestValue_16 : decode cX11_bestValue 16 = .ok (.invokevirtual 212, 3) := by decide +kernel
theorem dX11_bestValue_19 : decode cX11_bestValue 19 = .ok (.iconst 0, 1) := by decide +kernel
theorem dX11_bestValue_20 : decode cX11_bestValue 20 = .ok (.istore 7, 2) := by decide +kernel
theorem dX11_bestValue_22 : decode cX11_bestValue 22 = .ok (.iload 7, 2) := by decide +kernel
theorem dX11_bestValue_24 : decode cX11_bestValue 24 = .ok (.iload_n 3, 1) := by decide +kernel
theorem dX11_bestValue_25 : decode cX11_bestValue 25 = .ok (.if_icmp .gt 48, 3) := by decide +kernel
theorem dX11_bestValue_28 : decode cX11_bestValue 28 = .ok (.aload_n 1, 1) := by decide +kernel
theorem dX11_bestValue_29 : decode cX11_bestValue 29 = .ok (.iload_n 2, 1) := by decide +kernel
theorem dX11_bestValue_30 : decode cX11_bestValue 30 = .ok (.iload 7, 2) := by decide +kernel
theorem dX11_bestValue_32 : decode cX11_bestValue 32 = .ok (.iastore, 1) := by decide +kernel
theorem dX11_bestValue_33 : decode cX11_bestValue 33 = .ok (.aload_n 0, 1) := by decide +kernel
theorem dX11_bestValue_34 : decode cX11_bestValue 34 = .ok (.getfield 56, 3) := by decide +kernel
theorem dX11_bestValue_37 : decode cX11_bestValue 37 = .ok (.bipush 16, 2) := by decide +kernel
theorem dX11_bestValue_39 : decode cX11_bestValue 39 = .ok (.invokevirtual 215, 3) := by decide +kernel
theorem dX11_bestValue_42 : decode cX11_bestValue 42 = .ok (.istore 8, 2) := by decide +kernel
theorem dX11_bestValue_44 : decode cX11_bestValue 44 = .ok (.aload_n 0, 1) := by decide +kernel
theorem dX11_bestValue_45 : decode cX11_bestValue 45 = .ok (.getfield 56, 3) := by decide +kernel
theorem dX11_bestValue_48 : decode cX11_bestValue 48 = .ok (.iconst 0, 1) := by decide +kernel
theorem dX11_bestValue_49 : decode cX11_bestValue 49 = .ok (.invokevirtual 218, 3) := by decide +kernel
theorem dX11_bestValue_52 : decode cX11_bestValue 52 = .ok (.iload 8, 2) := by decide +kernel
theorem dX11_bestValue_54 : decode cX11_bestValue 54 = .ok (.iload 6, 2) := by decide +kernel
theorem dX11_bestValue_56 : decode cX11_bestValue 56 = .ok (.if_icmp .le 11, 3) := by decide +kernel
theorem dX11_bestValue_59 : decode cX11_bestValue 59 = .ok (.iload 7, 2) := by decide +kernel
theorem dX11_bestValue_61 : decode cX11_bestValue 61 = .ok (.istore 5, 2) := by decide +kernel
theorem dX11_bestValue_63 : decode cX11_bestValue 63 = .ok (.iload 8, 2) := by decide +kernel
theorem dX11_bestValue_65 : decode cX11_bestValue 65 = .ok (.istore 6, 2) := by decide +kernel
theorem dX11_bestValue_67 : decode cX11_bestValue 67 = .ok (.iinc 7 1, 3) := by decide +kernel
theorem dX11_bestValue_70 : decode cX11_bestValue 70 = .ok (.goto (-48), 3) := by decide +kernel
theorem dX11_bestValue_73 : decode cX11_bestValue 73 = .ok (.aload_n 1, 1) := by decide +kernel
theorem dX11_bestValue_74 : decode cX11_bestValue 74 = .ok (.iload_n 2, 1) := by decide +kernel
theorem dX11_bestValue_75 : decode cX11_bestValue 75 = .ok (.iload 4, 2) := by decide +kernel
theorem dX11_bestValue_77 : decode cX11_bestValue 77 = .ok (.iastore, 1) := by decide +kernel
theorem dX11_bestValue_78 : decode cX11_bestValue 78 = .ok (.iload 5, 2) := by decide +kernel
theorem dX11_bestValue_80 : decode cX11_bestValue 80 = .ok (.ireturn, 1) := by decide +kernel
theorem oX11_bestValue_0 : oP MT mX11_bestValue 0 (1, 1, 1, 1, []) := o_aload_n dX11_bestValue_0 rfl
theorem oX11_bestValue_1 : oP MT mX11_bestValue 1 (1, 1, 2, 0, []) := o_iload_n dX11_bestValue_1 rfl
theorem oX11_bestValue_2 : oP MT mX11_bestValue 2 (16, 1, 1, 0, []) := o_iaload dX11_bestValue_2
theorem oX11_bestValue_3 : oP MT mX11_bestValue 3 (2, 2, 4, 0, []) := o_istore dX11_bestValue_3 (by decide)
theorem oX11_bestValue_5 : oP MT mX11_bestValue 5 (0, 1, 0, 0, []) := o_iconst dX11_bestValue_5 (by decide)
theorem oX11_bestValue_6 : oP MT mX11_bestValue 6 (2, 2, 5, 0, []) := o_istore dX11_bestValue_6 (by decide)
theorem oX11_bestValue_8 : oP MT mX11_bestValue 8 (0, 1, 0, (-1), []) := o_iconst dX11_bestValue_8 (by decide)
theorem oX11_bestValue_9 : oP MT mX11_bestValue 9 (2, 2, 6, 0, []) := o_istore dX11_bestValue_9 (by decide)
theorem oX11_bestValue_11 : oP MT mX11_bestValue 11 (1, 1, 0, 1, []) := o_aload_n dX11_bestValue_11 rfl
theorem oX11_bestValue_12 : oP MT mX11_bestValue 12 (13, 3, 0, 11, []) := o_getR (M := mX11_bestValue) (C := RX11) (T := TX11) (ci := 11) (j := 0) (z := 11) dX11_bestValue_12 rfl lq_RX11_56 rfl rfl
theorem oX11_bestValue_15 : oP MT mX11_bestValue 15 (0, 1, 0, 0, []) := o_iconst dX11_bestValue_15 (by decide)
theorem oX11_bestValue_16 : oP MT mX11_bestValue 16 (26, 3, 0, 1, [(1, 50)]) := o_callO ((vA.cons (v_callV dX11_bestValue_16 (ci := 1) rfl rfl (mj := mX1_save) mt_X1_save cmq_X1_save wq_310 wq_312 wq_313 (by decide) (by decide)) vA.nil))
theorem oX11_bestValue_19 : oP MT mX11_bestValue 19 (0, 1, 0, 0, []) := o_iconst dX11_bestValue_19 (by decide)
theorem oX11_bestValue_20 : oP MT mX11_bestValue 20 (2, 2, 7, 0, []) := o_istore dX11_bestValue_20 (by decide)
theorem oX11_bestValue_22 : oP MT mX11_bestValue 22 (1, 2, 7, 0, []) := o_iload dX11_bestValue_22
theorem oX11_bestValue_24 : oP MT mX11_bestValue 24 (1, 1, 3, 0, []) := o_iload_n dX11_bestValue_24 rfl
theorem oX11_bestValue_25 : oP MT mX11_bestValue 25 (11, 3, 4, 73, []) := o_icmp_gt dX11_bestValue_25 (by decide) (by decide)
theorem oX11_bestValue_28 : oP MT mX11_bestValue 28 (1, 1, 1, 1, []) := o_aload_n dX11_bestValue_28 rfl
theorem oX11_bestValue_29 : oP MT mX11_bestValue 29 (1, 1, 2, 0, []) := o_iload_n dX11_bestValue_29 rfl
theorem oX11_bestValue_30 : oP MT mX11_bestValue 30 (1, 2, 7, 0, []) := o_iload dX11_bestValue_30
theorem oX11_bestValue_32 : oP MT mX11_bestValue 32 (18, 1, 0, 0, []) := o_iastore dX11_bestValue_32
theorem oX11_bestValue_33 : oP MT mX11_bestValue 33 (1, 1, 0, 1, []) := o_aload_n dX11_bestValue_33 rfl
theorem oX11_bestValue_34 : oP MT mX11_bestValue 34 (13, 3, 0, 11, []) := o_getR (M := mX11_bestValue) (C := RX11) (T := TX11) (ci := 11) (j := 0) (z := 11) dX11_bestValue_34 rfl lq_RX11_56 rfl rfl
theorem oX11_bestValue_37 : oP MT mX11_bestValue 37 (0, 2, 0, 16, []) := o_bipush dX11_bestValue_37 (by decide)
theorem oX11_bestValue_39 : oP MT mX11_bestValue 39 (26, 3, 0, 1, [(1, 83)]) := o_callO ((vA.cons (v_callV dX11_bestValue_39 (ci := 1) rfl rfl (mj := mX1_goRest) mt_X1_goRest cmq_X1_goRest wq_314 wq_316 wq_317 (by decide) (by decide)) vA.nil))
theorem oX11_bestValue_42 : oP MT mX11_bestValue 42 (2, 2, 8, 0, []) := o_istore dX11_bestValue_42 (by decide)
theorem oX11_bestValue_44 : oP MT mX11_bestValue 44 (1, 1, 0, 1, []) := o_aload_n dX11_bestValue_44 rfl
theorem oX11_bestValue_45 : oP MT mX11_bestValue 45 (13, 3, 0, 11, []) := o_getR (M := mX11_bestValue) (C := RX11) (T := TX11) (ci := 11) (j := 0) (z := 11) dX11_bestValue_45 rfl lq_RX11_56 rfl rfl
theorem oX11_bestValue_48 : oP MT mX11_bestValue 48 (0, 1, 0, 0, []) := o_iconst dX11_bestValue_48 (by decide)
theorem oX11_bestValue_49 : oP MT mX11_bestValue 49 (26, 3, 0, 1, [(1, 51)]) := o_callO ((vA.cons (v_callV dX11_bestValue_49 (ci := 1) rfl rfl (mj := mX1_restore) mt_X1_restore cmq_X1_restore wq_318 wq_320 wq_321 (by decide) (by decide)) vA.nil))
theorem oX11_bestValue_52 : oP MT mX11_bestValue 52 (1, 2, 8, 0, []) := o_iload dX11_bestValue_52
theorem oX11_bestValue_54 : oP MT mX11_bestValue 54 (1, 2, 6, 0, []) := o_iload dX11_bestValue_54
theorem oX11_bestValue_56 : oP MT mX11_bestValue 56 (11, 3, 5, 67, []) := o_icmp_le dX11_bestValue_56 (by decide) (by decide)
theorem oX11_bestValue_59 : oP MT mX11_bestValue 59 (1, 2, 7, 0, []) := o_iload dX11_bestValue_59
theorem oX11_bestValue_61 : oP MT mX11_bestValue 61 (2, 2, 5, 0, []) := o_istore dX11_bestValue_61 (by decide)
theorem oX11_bestValue_63 : oP MT mX11_bestValue 63 (1, 2, 8, 0, []) := o_iload dX11_bestValue_63
theorem oX11_bestValue_65 : oP MT mX11_bestValue 65 (2, 2, 6, 0, []) := o_istore dX11_bestValue_65 (by decide)
theorem oX11_bestValue_67 : oP MT mX11_bestValue 67 (3, 3, 7, 1, []) := o_iinc dX11_bestValue_67 (by decide) (by decide)
theorem oX11_bestValue_70 : oP MT mX11_bestValue 70 (9, 3, 22, 0, []) := o_goto dX11_bestValue_70 (by decide)
theorem oX11_bestValue_73 : oP MT mX11_bestValue 73 (1, 1, 1, 1, []) := o_aload_n dX11_bestValue_73 rfl
theorem oX11_bestValue_74 : oP MT mX11_bestValue 74 (1, 1, 2, 0, []) := o_iload_n dX11_bestValue_74 rfl
theorem oX11_bestValue_75 : oP MT mX11_bestValue 75 (1, 2, 4, 0, []) := o_iload dX11_bestValue_75
theorem oX11_bestValue_77 : oP MT mX11_bestValue 77 (18, 1, 0, 0, []) := o_iastore dX11_bestValue_77
theorem oX11_bestValue_78 : oP MT mX11_bestValue 78 (1, 2, 5, 0, []) := o_iload dX11_bestValue_78
theorem oX11_bestValue_80 : oP MT mX11_bestValue 80 (21, 1, 0, 0, []) := o_iret dX11_bestValue_80 rfl
def ops_X11_bestValue : List (Nat × aO) := [(0, (1, 1, 1, 1, [])), (1, (1, 1, 2, 0, [])), (2, (16, 1, 1, 0, [])), (3, (2, 2, 4, 0, [])), (5, (0, 1, 0, 0, [])), (6, (2, 2, 5, 0, [])), (8, (0, 1, 0, (-1), [])), (9, (2, 2, 6, 0, [])), (11, (1, 1, 0, 1, [])), (12, (13, 3, 0, 11, [])), (15, (0, 1, 0, 0, [])), (16, (26, 3, 0, 1, [(1, 50)])), (19, (0, 1, 0, 0, [])), (20, (2, 2, 7, 0, [])), (22, (1, 2, 7, 0, [])), (24, (1, 1, 3, 0, [])), (25, (11, 3, 4, 73, [])), (28, (1, 1, 1, 1, [])), (29, (1, 1, 2, 0, [])), (30, (1, 2, 7, 0, [])), (32, (18, 1, 0, 0, [])), (33, (1, 1, 0, 1, [])), (34, (13, 3, 0, 11, [])), (37, (0, 2, 0, 16, [])), (39, (26, 3, 0, 1, [(1, 83)])), (42, (2, 2, 8, 0, [])), (44, (1, 1, 0, 1, [])), (45, (13, 3, 0, 11, [])), (48, (0, 1, 0, 0, [])), (49, (26, 3, 0, 1, [(1, 51)])), (52, (1, 2, 8, 0, [])), (54, (1, 2, 6, 0, [])), (56, (11, 3, 5, 67, [])), (59, (1, 2, 7, 0, [])), (61, (2, 2, 5, 0, [])), (63, (1, 2, 8, 0, [])), (65, (2, 2, 6, 0, [])), (67, (3, 3, 7, 1, [])), (70, (9, 3, 22, 0, [])), (73, (1, 1, 1, 1, [])), (74, (1, 1, 2, 0, [])), (75, (1, 2, 4, 0, [])), (77, (18, 1, 0, 0, [])), (78, (1, 2, 5, 0, [])), (80, (21, 1, 0, 0, []))]
theorem os_X11_bestValue : oA MT mX11_bestValue ops_X11_bestValue := (oA.cons oX11_bestValue_0 (oA.cons oX11_bestValue_1 (oA.cons oX11_bestValue_2 (oA.cons oX11_bestValue_3 (oA.cons oX11_bestValue_5 (oA.cons oX11_bestValue_6 (oA.cons oX11_bestValue_8 (oA.cons oX11_bestValue_9 (oA.cons oX11_bestValue_11 (oA.cons oX11_bestValue_12 (oA.cons oX11_bestValue_15 (oA.cons oX11_bestValue_16 (oA.cons oX11_bestValue_19 (oA.cons oX11_bestValue_20 (oA.cons oX11_bestValue_22 (oA.cons oX11_bestValue_24 (oA.cons oX11_bestValue_25 (oA.cons oX11_bestValue_28 (oA.cons oX11_bestValue_29 (oA.cons oX11_bestValue_30 (oA.cons oX11_bestValue_32 (oA.cons oX11_bestValue_33 (oA.cons oX11_bestValue_34 (oA.cons oX11_bestValue_37 (oA.cons oX11_bestValue_39 (oA.cons oX11_bestValue_42 (oA.cons oX11_bestValue_44 (oA.cons oX11_bestValue_45 (oA.cons oX11_bestValue_48 (oA.cons oX11_bestValue_49 (oA.cons oX11_bestValue_52 (oA.cons oX11_bestValue_54 (oA.cons oX11_bestValue_56 (oA.cons oX11_bestValue_59 (oA.cons oX11_bestValue_61 (oA.cons oX11_bestValue_63 (oA.cons oX11_bestValue_65 (oA.cons oX11_bestValue_67 (oA.cons oX11_bestValue_70 (oA.cons oX11_bestValue_73 (oA.cons oX11_bestValue_74 (oA.cons oX11_bestValue_75 (oA.cons oX11_bestValue_77 (oA.cons oX11_bestValue_78 (oA.cons oX11_bestValue_80 oA.nil)))))))))))))))))))))))))))))))))))))))))))))
theorem dX1_allTeeth_0 : decode cX1_allTeeth 0 = .ok (.iconst 0, 1) := by decide +kernel
theorem dX1_allTeeth_1 : decode cX1_allTeeth 1 = .ok (.istore_n 1, 1) := by decide +kernel
theorem dX1_allTeeth_2 : decode cX1_allTeeth 2 = .ok (.iconst 0, 1) := by decide +kernel
theorem dX1_allTeeth_3 : decode cX1_allTeeth 3 = .ok (.istore_n 2, 1) := by decide +kernel
theorem dX1_allTeeth_4 : decode cX1_allTeeth 4 = .ok (.iload_n 2, 1) := by decide +kernel
theorem dX1_allTeeth_5 : decode cX1_allTeeth 5 = .ok (.aload_n 0, 1) := by decide +kernel
theorem dX1_allTeeth_6 : decode cX1_allTeeth 6 = .ok (.getfield 72, 3) := by decide +kernel
theorem dX1_allTeeth_9 : decode cX1_allTeeth 9 = .ok (.if_icmp .ge 18, 3) := by decide +kernel
theorem dX1_allTeeth_12 : decode cX1_allTeeth 12 = .ok (.iload_n 1, 1) := by decide +kernel
theorem dX1_allTeeth_13 : decode cX1_allTeeth 13 = .ok (.aload_n 0, 1) := by decide +kernel
theorem dX1_allTeeth_14 : decode cX1_allTeeth 14 = .ok (.getfield 31, 3) := by decide +kernel
theorem dX1_allTeeth_17 : decode cX1_allTeeth 17 = .ok (.iload_n 2, 1) := by decide +kernel
theorem dX1_allTeeth_18 : decode cX1_allTeeth 18 = .ok (.iaload, 1) := by decide +kernel
theorem dX1_allTeeth_19 : decode cX1_allTeeth 19 = .ok (.iadd, 1) := by decide +kernel
theorem dX1_allTeeth_20 : decode cX1_allTeeth 20 = .ok (.istore_n 1, 1) := by decide +kernel
theorem dX1_allTeeth_21 : decode cX1_allTeeth 21 = .ok (.iinc 2 1, 3) := by decide +kernel
theorem dX1_allTeeth_24 : decode cX1_allTeeth 24 = .ok (.goto (-20), 3) := by decide +kernel
theorem dX1_allTeeth_27 : decode cX1_allTeeth 27 = .ok (.iload_n 1, 1) := by decide +kernel
theorem dX1_allTeeth_28 : decode cX1_allTeeth 28 = .ok (.ireturn, 1) := by decide +kernel
theorem oX1_allTeeth_0 : oP MT mX1_allTeeth 0 (0, 1, 0, 0, []) := o_iconst dX1_allTeeth_0 (by decide)
theorem oX1_allTeeth_1 : oP MT mX1_allTeeth 1 (2, 1, 1, 0, []) := o_istore_n dX1_allTeeth_1 rfl (by decide)
theorem oX1_allTeeth_2 : oP MT mX1_allTeeth 2 (0, 1, 0, 0, []) := o_iconst dX1_allTeeth_2 (by decide)
theorem oX1_allTeeth_3 : oP MT mX1_allTeeth 3 (2, 1, 2, 0, []) := o_istore_n dX1_allTeeth_3 rfl (by decide)
theorem oX1_allTeeth_4 : oP MT mX1_allTeeth 4 (1, 1, 2, 0, []) := o_iload_n dX1_allTeeth_4 rfl
theorem oX1_allTeeth_5 : oP MT mX1_allTeeth 5 (1, 1, 0, 1, []) := o_aload_n dX1_allTeeth_5 rfl
theorem oX1_allTeeth_6 : oP MT mX1_allTeeth 6 (12, 3, 8, 1, []) := o_getI (M := mX1_allTeeth) (C := RX1) (T := TX1) (ci := 1) (j := 8) (z := 1) dX1_allTeeth_6 rfl lq_RX1_72 rfl rfl
theorem oX1_allTeeth_9 : oP MT mX1_allTeeth 9 (11, 3, 3, 27, []) := o_icmp_ge dX1_allTeeth_9 (by decide) (by decide)
theorem oX1_allTeeth_12 : oP MT mX1_allTeeth 12 (1, 1, 1, 0, []) := o_iload_n dX1_allTeeth_12 rfl
theorem oX1_allTeeth_13 : oP MT mX1_allTeeth 13 (1, 1, 0, 1, []) := o_aload_n dX1_allTeeth_13 rfl
theorem oX1_allTeeth_14 : oP MT mX1_allTeeth 14 (13, 3, 11, 1, []) := o_getR (M := mX1_allTeeth) (C := RX1) (T := TX1) (ci := 1) (j := 11) (z := 1) dX1_allTeeth_14 rfl lq_RX1_31 rfl rfl
theorem oX1_allTeeth_17 : oP MT mX1_allTeeth 17 (1, 1, 2, 0, []) := o_iload_n dX1_allTeeth_17 rfl
theorem oX1_allTeeth_18 : oP MT mX1_allTeeth 18 (16, 1, 1, 0, []) := o_iaload dX1_allTeeth_18
theorem oX1_allTeeth_19 : oP MT mX1_allTeeth 19 (4, 1, 0, 0, []) := o_iadd dX1_allTeeth_19
theorem oX1_allTeeth_20 : oP MT mX1_allTeeth 20 (2, 1, 1, 0, []) := o_istore_n dX1_allTeeth_20 rfl (by decide)
theorem oX1_allTeeth_21 : oP MT mX1_allTeeth 21 (3, 3, 2, 1, []) := o_iinc dX1_allTeeth_21 (by decide) (by decide)
theorem oX1_allTeeth_24 : oP MT mX1_allTeeth 24 (9, 3, 4, 0, []) := o_goto dX1_allTeeth_24 (by decide)
theorem oX1_allTeeth_27 : oP MT mX1_allTeeth 27 (1, 1, 1, 0, []) := o_iload_n dX1_allTeeth_27 rfl
theorem oX1_allTeeth_28 : oP MT mX1_allTeeth 28 (21, 1, 0, 0, []) := o_iret dX1_allTeeth_28 rfl
def ops_X1_allTeeth : List (Nat × aO) := [(0, (0, 1, 0, 0, [])), (1, (2, 1, 1, 0, [])), (2, (0, 1, 0, 0, [])), (3, (2, 1, 2, 0, [])), (4, (1, 1, 2, 0, [])), (5, (1, 1, 0, 1, [])), (6, (12, 3, 8, 1, [])), (9, (11, 3, 3, 27, [])), (12, (1, 1, 1, 0, [])), (13, (1, 1, 0, 1, [])), (14, (13, 3, 11, 1, [])), (17, (1, 1, 2, 0, [])), (18, (16, 1, 1, 0, [])), (19, (4, 1, 0, 0, [])), (20, (2, 1, 1, 0, [])), (21, (3, 3, 2, 1, [])), (24, (9, 3, 4, 0, [])), (27, (1, 1, 1, 0, [])), (28, (21, 1, 0, 0, []))]
theorem os_X1_allTeeth : oA MT mX1_allTeeth ops_X1_allTeeth := (oA.cons oX1_allTeeth_0 (oA.cons oX1_allTeeth_1 (oA.cons oX1_allTeeth_2 (oA.cons oX1_allTeeth_3 (oA.cons oX1_allTeeth_4 (oA.cons oX1_allTeeth_5 (oA.cons oX1_allTeeth_6 (oA.cons oX1_allTeeth_9 (oA.cons oX1_allTeeth_12 (oA.cons oX1_allTeeth_13 (oA.cons oX1_allTeeth_14 (oA.cons oX1_allTeeth_17 (oA.cons oX1_allTeeth_18 (oA.cons oX1_allTeeth_19 (oA.cons oX1_allTeeth_20 (oA.cons oX1_allTeeth_21 (oA.cons oX1_allTeeth_24 (oA.cons oX1_allTeeth_27 (oA.cons oX1_allTeeth_28 oA.nil)))))))))))))))))))
theorem dX1_bunchOf_0 : decode cX1_bunchOf 0 = .ok (.aload_n 0, 1) := by decide +kernel
theorem dX1_bunchOf_1 : decode cX1_bunchOf 1 = .ok (.iload_n 1, 1) := by decide +kernel
theorem dX1_bunchOf_2 : decode cX1_bunchOf 2 = .ok (.invokevirtual 113, 3) := by decide +kernel
theorem dX1_bunchOf_5 : decode cX1_bunchOf 5 = .ok (.ifCond .eq 5, 3) := by decide +kernel
theorem dX1_bunchOf_8 : decode cX1_bunchOf 8 = .ok (.iconst 0, 1) := by decide +kernel
theorem dX1_bunchOf_9 : decode cX1_bunchOf 9 = .ok (.ireturn, 1) := by decide +kernel
theorem dX1_bunchOf_10 : decode cX1_bunchOf 10 = .ok (.iconst 1, 1) := by decide +kernel
theorem dX1_bunchOf_11 : decode cX1_bunchOf 11 = .ok (.iload_n 1, 1) := by decide +kernel
theorem dX1_bunchOf_12 : decode cX1_bunchOf 12 = .ok (.ishl, 1) := by decide +kernel
theorem dX1_bunchOf_13 : decode cX1_bunchOf 13 = .ok (.istore_n 2, 1) := by decide +kernel
theorem dX1_bunchOf_14 : decode cX1_bunchOf 14 = .ok (.iconst 1, 1) := by decide +kernel
theorem dX1_bunchOf_15 : decode cX1_bunchOf 15 = .ok (.istore_n 3, 1) := by decide +kernel
theorem dX1_bunchOf_16 : decode cX1_bunchOf 16 = .ok (.iload_n 3, 1) := by decide +kernel
theorem dX1_bunchOf_17 : decode cX1_bunchOf 17 = .ok (.aload_n 0, 1) := by decide +kernel
theorem dX1_bunchOf_18 : decode cX1_bunchOf 18 = .ok (.getfield 72, 3) := by decide +kernel
theorem dX1_bunchOf_21 : decode cX1_bunchOf 21 = .ok (.if_icmp .ge 53, 3) := by decide +kernel
theorem dX1_bunchOf_24 : decode cX1_bunchOf 24 = .ok (.iconst 0, 1) := by decide +kernel
theorem dX1_bunchOf_25 : decode cX1_bunchOf 25 = .ok (.istore 4, 2) := by decide +kernel
theorem dX1_bunchOf_27 : decode cX1_bunchOf 27 = .ok (.iload 4, 2) := by decide +kernel
theorem dX1_bunchOf_29 : decode cX1_bunchOf 29 = .ok (.aload_n 0, 1) := by decide +kernel
theorem dX1_bunchOf_30 : decode cX1_bunchOf 30 = .ok (.getfield 72, 3) := by decide +kernel
theorem dX1_bunchOf_33 : decode cX1_bunchOf 33 = .ok (.if_icmp .ge 35, 3) := by decide +kernel
theorem dX1_bunchOf_36 : decode cX1_bunchOf 36 = .ok (.aload_n 0, 1) := by decide +kernel
theorem dX1_bunchOf_37 : decode cX1_bunchOf 37 = .ok (.iload 4, 2) := by decide +kernel
theorem dX1_bunchOf_39 : decode cX1_bunchOf 39 = .ok (.invokevirtual 113, 3) := by decide +kernel
theorem dX1_bunchOf_42 : decode cX1_bunchOf 42 = .ok (.ifCond .ne 20, 3) := by decide +kernel
theorem dX1_bunchOf_45 : decode cX1_bunchOf 45 = .ok (.aload_n 0, 1) := by decide +kernel
theorem dX1_bunchOf_46 : decode cX1_bunchOf 46 = .ok (.iload 4, 2) := by decide +kernel
theorem dX1_bunchOf_48 : decode cX1_bunchOf 48 = .ok (.iload_n 2, 1) := by decide +kernel
theorem dX1_bunchOf_49 : decode cX1_bunchOf 49 = .ok (.invokevirtual 164, 3) := by decide +kernel
theorem dX1_bunchOf_52 : decode cX1_bunchOf 52 = .ok (.ifCond .eq 10, 3) := by decide +kernel
theorem dX1_bunchOf_55 : decode cX1_bunchOf 55 = .ok (.iload_n 2, 1) := by decide +kernel
theorem dX1_bunchOf_56 : decode cX1_bunchOf 56 = .ok (.iconst 1, 1) := by decide +kernel
theorem dX1_bunchOf_57 : decode cX1_bunchOf 57 = .ok (.iload 4, 2) := by decide +kernel
theorem dX1_bunchOf_59 : decode cX1_bunchOf 59 = .ok (.ishl, 1) := by decide +kernel
theorem dX1_bunchOf_60 : decode cX1_bunchOf 60 = .ok (.ior, 1) := by decide +kernel
theorem dX1_bunchOf_61 : decode cX1_bunchOf 61 = .ok (.istore_n 2, 1) := by decide +kernel
theorem dX1_bunchOf_62 : decode cX1_bunchOf 62 = .ok (.iinc 4 1, 3) := by decide +kernel
theorem dX1_bunchOf_65 : decode cX1_bunchOf 65 = .ok (.goto (-38), 3) := by decide +kernel
theorem dX1_bunchOf_68 : decode cX1_bunchOf 68 = .ok (.iinc 3 1, 3) := by decide +kernel
theorem dX1_bunchOf_71 : decode cX1_bunchOf 71 = .ok (.goto (-55), 3) := by decide +kernel
theorem dX1_bunchOf_74 : decode cX1_bunchOf 74 = .ok (.iload_n 2, 1) := by decide +kernel
theorem dX1_bunchOf_75 : decode cX1_bunchOf 75 = .ok (.ireturn, 1) := by decide +kernel
theorem oX1_bunchOf_0 : oP MT mX1_bunchOf 0 (1, 1, 0, 1, []) := o_aload_n dX1_bunchOf_0 rfl
theorem oX1_bunchOf_1 : oP MT mX1_bunchOf 1 (1, 1, 1, 0, []) := o_iload_n dX1_bunchOf_1 rfl
theorem oX1_bunchOf_2 : oP MT mX1_bunchOf 2 (26, 3, 0, 1, [(1, 11)]) := o_callO ((vA.cons (v_callV dX1_bunchOf_2 (ci := 1) rfl rfl (mj := mX1_isTurned) mt_X1_isTurned cmq_X1_isTurned wq_31 wq_33 wq_34 (by decide) (by decide)) vA.nil))
theorem oX1_bunchOf_5 : oP MT mX1_bunchOf 5 (10, 3, 0, 10, []) := o_if_eq dX1_bunchOf_5 (by decide) (by decide)
theorem oX1_bunchOf_8 : oP MT mX1_bunchOf 8 (0, 1, 0, 0, []) := o_iconst dX1_bunchOf_8 (by decide)
theorem oX1_bunchOf_9 : oP MT mX1_bunchOf 9 (21, 1, 0, 0, []) := o_iret dX1_bunchOf_9 rfl
theorem oX1_bunchOf_10 : oP MT mX1_bunchOf 10 (0, 1, 0, 1, []) := o_iconst dX1_bunchOf_10 (by decide)
theorem oX1_bunchOf_11 : oP MT mX1_bunchOf 11 (1, 1, 1, 0, []) := o_iload_n dX1_bunchOf_11 rfl
theorem oX1_bunchOf_12 : oP MT mX1_bunchOf 12 (4, 1, 6, 0, []) := o_ishl dX1_bunchOf_12
theorem oX1_bunchOf_13 : oP MT mX1_bunchOf 13 (2, 1, 2, 0, []) := o_istore_n dX1_bunchOf_13 rfl (by decide)
theorem oX1_bunchOf_14 : oP MT mX1_bunchOf 14 (0, 1, 0, 1, []) := o_iconst dX1_bunchOf_14 (by decide)
theorem oX1_bunchOf_15 : oP MT mX1_bunchOf 15 (2, 1, 3, 0, []) := o_istore_n dX1_bunchOf_15 rfl (by decide)
theorem oX1_bunchOf_16 : oP MT mX1_bunchOf 16 (1, 1, 3, 0, []) := o_iload_n dX1_bunchOf_16 rfl
theorem oX1_bunchOf_17 : oP MT mX1_bunchOf 17 (1, 1, 0, 1, []) := o_aload_n dX1_bunchOf_17 rfl
theorem oX1_bunchOf_18 : oP MT mX1_bunchOf 18 (12, 3, 8, 1, []) := o_getI (M := mX1_bunchOf) (C := RX1) (T := TX1) (ci := 1) (j := 8) (z := 1) dX1_bunchOf_18 rfl lq_RX1_72 rfl rfl
theorem oX1_bunchOf_21 : oP MT mX1_bunchOf 21 (11, 3, 3, 74, []) := o_icmp_ge dX1_bunchOf_21 (by decide) (by decide)
theorem oX1_bunchOf_24 : oP MT mX1_bunchOf 24 (0, 1, 0, 0, []) := o_iconst dX1_bunchOf_24 (by decide)
theorem oX1_bunchOf_25 : oP MT mX1_bunchOf 25 (2, 2, 4, 0, []) := o_istore dX1_bunchOf_25 (by decide)
theorem oX1_bunchOf_27 : oP MT mX1_bunchOf 27 (1, 2, 4, 0, []) := o_iload dX1_bunchOf_27
theorem oX1_bunchOf_29 : oP MT mX1_bunchOf 29 (1, 1, 0, 1, []) := o_aload_n dX1_bunchOf_29 rfl
theorem oX1_bunchOf_30 : oP MT mX1_bunchOf 30 (12, 3, 8, 1, []) := o_getI (M := mX1_bunchOf) (C := RX1) (T := TX1) (ci := 1) (j := 8) (z := 1) dX1_bunchOf_30 rfl lq_RX1_72 rfl rfl
theorem oX1_bunchOf_33 : oP MT mX1_bunchOf 33 (11, 3, 3, 68, []) := o_icmp_ge dX1_bunchOf_33 (by decide) (by decide)
theorem oX1_bunchOf_36 : oP MT mX1_bunchOf 36 (1, 1, 0, 1, []) := o_aload_n dX1_bunchOf_36 rfl
theorem oX1_bunchOf_37 : oP MT mX1_bunchOf 37 (1, 2, 4, 0, []) := o_iload dX1_bunchOf_37
theorem oX1_bunchOf_39 : oP MT mX1_bunchOf 39 (26, 3, 0, 1, [(1, 11)]) := o_callO ((vA.cons (v_callV dX1_bunchOf_39 (ci := 1) rfl rfl (mj := mX1_isTurned) mt_X1_isTurned cmq_X1_isTurned wq_31 wq_33 wq_34 (by decide) (by decide)) vA.nil))
theorem oX1_bunchOf_42 : oP MT mX1_bunchOf 42 (10, 3, 1, 62, []) := o_if_ne dX1_bunchOf_42 (by decide) (by decide)
theorem oX1_bunchOf_45 : oP MT mX1_bunchOf 45 (1, 1, 0, 1, []) := o_aload_n dX1_bunchOf_45 rfl
theorem oX1_bunchOf_46 : oP MT mX1_bunchOf 46 (1, 2, 4, 0, []) := o_iload dX1_bunchOf_46
theorem oX1_bunchOf_48 : oP MT mX1_bunchOf 48 (1, 1, 2, 0, []) := o_iload_n dX1_bunchOf_48 rfl
theorem oX1_bunchOf_49 : oP MT mX1_bunchOf 49 (26, 3, 0, 2, [(1, 35)]) := o_callO ((vA.cons (v_callV dX1_bunchOf_49 (ci := 1) rfl rfl (mj := mX1_isCloseToSome) mt_X1_isCloseToSome cmq_X1_isCloseToSome wq_322 wq_324 wq_325 (by decide) (by decide)) vA.nil))
theorem oX1_bunchOf_52 : oP MT mX1_bunchOf 52 (10, 3, 0, 62, []) := o_if_eq dX1_bunchOf_52 (by decide) (by decide)
theorem oX1_bunchOf_55 : oP MT mX1_bunchOf 55 (1, 1, 2, 0, []) := o_iload_n dX1_bunchOf_55 rfl
theorem oX1_bunchOf_56 : oP MT mX1_bunchOf 56 (0, 1, 0, 1, []) := o_iconst dX1_bunchOf_56 (by decide)
theorem oX1_bunchOf_57 : oP MT mX1_bunchOf 57 (1, 2, 4, 0, []) := o_iload dX1_bunchOf_57
theorem oX1_bunchOf_59 : oP MT mX1_bunchOf 59 (4, 1, 6, 0, []) := o_ishl dX1_bunchOf_59
theorem oX1_bunchOf_60 : oP MT mX1_bunchOf 60 (4, 1, 4, 0, []) := o_ior dX1_bunchOf_60
theorem oX1_bunchOf_61 : oP MT mX1_bunchOf 61 (2, 1, 2, 0, []) := o_istore_n dX1_bunchOf_61 rfl (by decide)
theorem oX1_bunchOf_62 : oP MT mX1_bunchOf 62 (3, 3, 4, 1, []) := o_iinc dX1_bunchOf_62 (by decide) (by decide)
theorem oX1_bunchOf_65 : oP MT mX1_bunchOf 65 (9, 3, 27, 0, []) := o_goto dX1_bunchOf_65 (by decide)
theorem oX1_bunchOf_68 : oP MT mX1_bunchOf 68 (3, 3, 3, 1, []) := o_iinc dX1_bunchOf_68 (by decide) (by decide)
theorem oX1_bunchOf_71 : oP MT mX1_bunchOf 71 (9, 3, 16, 0, []) := o_goto dX1_bunchOf_71 (by decide)
theorem oX1_bunchOf_74 : oP MT mX1_bunchOf 74 (1, 1, 2, 0, []) := o_iload_n dX1_bunchOf_74 rfl
theorem oX1_bunchOf_75 : oP MT mX1_bunchOf 75 (21, 1, 0, 0, []) := o_iret dX1_bunchOf_75 rfl
def ops_X1_bunchOf : List (Nat × aO) := [(0, (1, 1, 0, 1, [])), (1, (1, 1, 1, 0, [])), (2, (26, 3, 0, 1, [(1, 11)])), (5, (10, 3, 0, 10, [])), (8, (0, 1, 0, 0, [])), (9, (21, 1, 0, 0, [])), (10, (0, 1, 0, 1, [])), (11, (1, 1, 1, 0, [])), (12, (4, 1, 6, 0, [])), (13, (2, 1, 2, 0, [])), (14, (0, 1, 0, 1, [])), (15, (2, 1, 3, 0, [])), (16, (1, 1, 3, 0, [])), (17, (1, 1, 0, 1, [])), (18, (12, 3, 8, 1, [])), (21, (11, 3, 3, 74, [])), (24, (0, 1, 0, 0, [])), (25, (2, 2, 4, 0, [])), (27, (1, 2, 4, 0, [])), (29, (1, 1, 0, 1, [])), (30, (12, 3, 8, 1, [])), (33, (11, 3, 3, 68, [])), (36, (1, 1, 0, 1, [])), (37, (1, 2, 4, 0, [])), (39, (26, 3, 0, 1, [(1, 11)])), (42, (10, 3, 1, 62, [])), (45, (1, 1, 0, 1, [])), (46, (1, 2, 4, 0, [])), (48, (1, 1, 2, 0, [])), (49, (26, 3, 0, 2, [(1, 35)])), (52, (10, 3, 0, 62, [])), (55, (1, 1, 2, 0, [])), (56, (0, 1, 0, 1, [])), (57, (1, 2, 4, 0, [])), (59, (4, 1, 6, 0, [])), (60, (4, 1, 4, 0, [])), (61, (2, 1, 2, 0, [])), (62, (3, 3, 4, 1, [])), (65, (9, 3, 27, 0, [])), (68, (3, 3, 3, 1, [])), (71, (9, 3, 16, 0, [])), (74, (1, 1, 2, 0, [])), (75, (21, 1, 0, 0, []))]
theorem os_X1_bunchOf : oA MT mX1_bunchOf ops_X1_bunchOf := (oA.cons oX1_bunchOf_0 (oA.cons oX1_bunchOf_1 (oA.cons oX1_bunchOf_2 (oA.cons oX1_bunchOf_5 (oA.cons oX1_bunchOf_8 (oA.cons oX1_bunchOf_9 (oA.cons oX1_bunchOf_10 (oA.cons oX1_bunchOf_11 (oA.cons oX1_bunchOf_12 (oA.cons oX1_bunchOf_13 (oA.cons oX1_bunchOf_14 (oA.cons oX1_bunchOf_15 (oA.cons oX1_bunchOf_16 (oA.cons oX1_bunchOf_17 (oA.cons oX1_bunchOf_18 (oA.cons oX1_bunchOf_21 (oA.cons oX1_bunchOf_24 (oA.cons oX1_bunchOf_25 (oA.cons oX1_bunchOf_27 (oA.cons oX1_bunchOf_29 (oA.cons oX1_bunchOf_30 (oA.cons oX1_bunchOf_33 (oA.cons oX1_bunchOf_36 (oA.cons oX1_bunchOf_37 (oA.cons oX1_bunchOf_39 (oA.cons oX1_bunchOf_42 (oA.cons oX1_bunchOf_45 (oA.cons oX1_bunchOf_46 (oA.cons oX1_bunchOf_48 (oA.cons oX1_bunchOf_49 (oA.cons oX1_bunchOf_52 (oA.cons oX1_bunchOf_55 (oA.cons oX1_bunchOf_56 (oA.cons oX1_bunchOf_57 (oA.cons oX1_bunchOf_59 (oA.cons oX1_bunchOf_60 (oA.cons oX1_bunchOf_61 (oA.cons oX1_bunchOf_62 (oA.cons oX1_bunchOf_65 (oA.cons oX1_bunchOf_68 (oA.cons oX1_bunchOf_71 (oA.cons oX1_bunchOf_74 (oA.cons oX1_bunchOf_75 oA.nil)))))))))))))))))))))))))))))))))))))))))))
theorem dX11_leastOf_0 : decode cX11_leastOf 0 = .ok (.iload_n 0, 1) := by decide +kernel
theorem dX11_leastOf_1 : decode cX11_leastOf 1 = .ok (.iload_n 0, 1) := by decide +kernel
theorem dX11_leastOf_2 : decode cX11_leastOf 2 = .ok (.ineg, 1) := by decide +kernel
theorem dX11_leastOf_3 : decode cX11_leastOf 3 = .ok (.iand, 1) := by decide +kernel
theorem dX11_leastOf_4 : decode cX11_leastOf 4 = .ok (.iconst 1, 1) := by decide +kernel
theorem dX11_leastOf_5 : decode cX11_leastOf 5 = .ok (.isub, 1) := by decide +kernel
theorem dX11_leastOf_6 : decode cX11_leastOf 6 = .ok (.invokestatic 288, 3) := by decide +kernel
theorem dX11_leastOf_9 : decode cX11_leastOf 9 = .ok (.ireturn, 1) := by decide +kernel
theorem oX11_leastOf_0 : oP MT mX11_leastOf 0 (1, 1, 0, 0, []) := o_iload_n dX11_leastOf_0 rfl
theorem oX11_leastOf_1 : oP MT mX11_leastOf 1 (1, 1, 0, 0, []) := o_iload_n dX11_leastOf_1 rfl
theorem oX11_leastOf_2 : oP MT mX11_leastOf 2 (5, 1, 0, 0, []) := o_ineg dX11_leastOf_2
theorem oX11_leastOf_3 : oP MT mX11_leastOf 3 (4, 1, 3, 0, []) := o_iand dX11_leastOf_3
theorem oX11_leastOf_4 : oP MT mX11_leastOf 4 (0, 1, 0, 1, []) := o_iconst dX11_leastOf_4 (by decide)
theorem oX11_leastOf_5 : oP MT mX11_leastOf 5 (4, 1, 1, 0, []) := o_isub dX11_leastOf_5
theorem oX11_leastOf_6 : oP MT mX11_leastOf 6 (25, 3, 296, 1, []) := o_callS dX11_leastOf_6 (mj := mJ6_bitCount_0f7a4) mt_J6_bitCount_0f7a4 cmq_J6_bitCount_0f7a4 wq_326 wq_329 (by decide) (by decide)
theorem oX11_leastOf_9 : oP MT mX11_leastOf 9 (21, 1, 0, 0, []) := o_iret dX11_leastOf_9 rfl
def ops_X11_leastOf : List (Nat × aO) := [(0, (1, 1, 0, 0, [])), (1, (1, 1, 0, 0, [])), (2, (5, 1, 0, 0, [])), (3, (4, 1, 3, 0, [])), (4, (0, 1, 0, 1, [])), (5, (4, 1, 1, 0, [])), (6, (25, 3, 296, 1, [])), (9, (21, 1, 0, 0, []))]
theorem os_X11_leastOf : oA MT mX11_leastOf ops_X11_leastOf := (oA.cons oX11_leastOf_0 (oA.cons oX11_leastOf_1 (oA.cons oX11_leastOf_2 (oA.cons oX11_leastOf_3 (oA.cons oX11_leastOf_4 (oA.cons oX11_leastOf_5 (oA.cons oX11_leastOf_6 (oA.cons oX11_leastOf_9 oA.nil))))))))
theorem dX11_countBunches_0 : decode cX11_countBunches 0 = .ok (.iconst 0, 1) := by decide +kernel
theorem dX11_countBunches_1 : decode cX11_countBunches 1 = .ok (.istore_n 1, 1) := by decide +kernel
theorem dX11_countBunches_2 : decode cX11_countBunches 2 = .ok (.iconst 0, 1) := by decide +kernel
theorem dX11_countBunches_3 : decode cX11_countBunches 3 = .ok (.istore_n 2, 1) := by decide +kernel
theorem dX11_countBunches_4 : decode cX11_countBunches 4 = .ok (.iload_n 2, 1) := by decide +kernel
theorem dX11_countBunches_5 : decode cX11_countBunches 5 = .ok (.aload_n 0, 1) := by decide +kernel
theorem dX11_countBunches_6 : decode cX11_countBunches 6 = .ok (.getfield 56, 3) := by decide +kernel
theorem dX11_countBunches_9 : decode cX11_countBunches 9 = .ok (.getfield 97, 3) := by decide +kernel
theorem dX11_countBunches_12 : decode cX11_countBunches 12 = .ok (.if_icmp .ge 33, 3) := by decide +kernel
theorem dX11_countBunches_15 : decode cX11_countBunches 15 = .ok (.aload_n 0, 1) := by decide +kernel
theorem dX11_countBunches_16 : decode cX11_countBunches 16 = .ok (.getfield 56, 3) := by decide +kernel
theorem dX11_countBunches_19 : decode cX11_countBunches 19 = .ok (.iload_n 2, 1) := by decide +kernel
theorem dX11_countBunches_20 : decode cX11_countBunches 20 = .ok (.invokevirtual 232, 3) := by decide +kernel
theorem dX11_countBunches_23 : decode cX11_countBunches 23 = .ok (.istore_n 3, 1) := by decide +kernel
theorem dX11_countBunches_24 : decode cX11_countBunches 24 = .ok (.iload_n 3, 1) := by decide +kernel
theorem dX11_countBunches_25 : decode cX11_countBunches 25 = .ok (.ifCond .eq 14, 3) := by decide +kernel
theorem dX11_countBunches_28 : decode cX11_countBunches 28 = .ok (.iload_n 3, 1) := by decide +kernel
theorem dX11_countBunches_29 : decode cX11_countBunches 29 = .ok (.invokestatic 235, 3) := by decide +kernel
theorem dX11_countBunches_32 : decode cX11_countBunches 32 = .ok (.iload_n 2, 1) := by decide +kernel
theorem dX11_countBunches_33 : decode cX11_countBunches 33 = .ok (.if_icmp .ne 6, 3) := by decide +kernel
theorem dX11_countBunches_36 : decode cX11_countBunches 36 = .ok (.iinc 1 1, 3) := by decide +kernel
theorem dX11_countBunches_39 : decode cX11_countBunches 39 = .ok (.iinc 2 1, 3) := by decide +kernel
theorem dX11_countBunches_42 : decode cX11_countBunches 42 = .ok (.goto (-38), 3) := by decide +kernel
theorem dX11_countBunches_45 : decode cX11_countBunches 45 = .ok (.iload_n 1, 1) := by decide +kernel
theorem dX11_countBunches_46 : decode cX11_countBunches 46 = .ok (.ireturn, 1) := by decide +kernel
theorem oX11_countBunches_0 : oP MT mX11_countBunches 0 (0, 1, 0, 0, []) := o_iconst dX11_countBunches_0 (by decide)
theorem oX11_countBunches_1 : oP MT mX11_countBunches 1 (2, 1, 1, 0, []) := o_istore_n dX11_countBunches_1 rfl (by decide)
theorem oX11_countBunches_2 : oP MT mX11_countBunches 2 (0, 1, 0, 0, []) := o_iconst dX11_countBunches_2 (by decide)
theorem oX11_countBunches_3 : oP MT mX11_countBunches 3 (2, 1, 2, 0, []) := o_istore_n dX11_countBunches_3 rfl (by decide)
theorem oX11_countBunches_4 : oP MT mX11_countBunches 4 (1, 1, 2, 0, []) := o_iload_n dX11_countBunches_4 rfl
theorem oX11_countBunches_5 : oP MT mX11_countBunches 5 (1, 1, 0, 1, []) := o_aload_n dX11_countBunches_5 rfl
theorem oX11_countBunches_6 : oP MT mX11_countBunches 6 (13, 3, 0, 11, []) := o_getR (M := mX11_countBunches) (C := RX11) (T := TX11) (ci := 11) (j := 0) (z := 11) dX11_countBunches_6 rfl lq_RX11_56 rfl rfl
theorem oX11_countBunches_9 : oP MT mX11_countBunches 9 (12, 3, 8, 1, []) := o_getI (M := mX11_countBunches) (C := RX1) (T := TX1) (ci := 1) (j := 8) (z := 1) dX11_countBunches_9 rfl lq_RX11_97 rfl rfl
theorem oX11_countBunches_12 : oP MT mX11_countBunches 12 (11, 3, 3, 45, []) := o_icmp_ge dX11_countBunches_12 (by decide) (by decide)
theorem oX11_countBunches_15 : oP MT mX11_countBunches 15 (1, 1, 0, 1, []) := o_aload_n dX11_countBunches_15 rfl
theorem oX11_countBunches_16 : oP MT mX11_countBunches 16 (13, 3, 0, 11, []) := o_getR (M := mX11_countBunches) (C := RX11) (T := TX11) (ci := 11) (j := 0) (z := 11) dX11_countBunches_16 rfl lq_RX11_56 rfl rfl
theorem oX11_countBunches_19 : oP MT mX11_countBunches 19 (1, 1, 2, 0, []) := o_iload_n dX11_countBunches_19 rfl
theorem oX11_countBunches_20 : oP MT mX11_countBunches 20 (26, 3, 0, 1, [(1, 86)]) := o_callO ((vA.cons (v_callV dX11_countBunches_20 (ci := 1) rfl rfl (mj := mX1_bunchOf) mt_X1_bunchOf cmq_X1_bunchOf wq_330 wq_332 wq_333 (by decide) (by decide)) vA.nil))
theorem oX11_countBunches_23 : oP MT mX11_countBunches 23 (2, 1, 3, 0, []) := o_istore_n dX11_countBunches_23 rfl (by decide)
theorem oX11_countBunches_24 : oP MT mX11_countBunches 24 (1, 1, 3, 0, []) := o_iload_n dX11_countBunches_24 rfl
theorem oX11_countBunches_25 : oP MT mX11_countBunches 25 (10, 3, 0, 39, []) := o_if_eq dX11_countBunches_25 (by decide) (by decide)
theorem oX11_countBunches_28 : oP MT mX11_countBunches 28 (1, 1, 3, 0, []) := o_iload_n dX11_countBunches_28 rfl
theorem oX11_countBunches_29 : oP MT mX11_countBunches 29 (25, 3, 87, 1, []) := o_callS dX11_countBunches_29 (mj := mX11_leastOf) mt_X11_leastOf cmq_X11_leastOf wq_334 wq_336 (by decide) (by decide)
theorem oX11_countBunches_32 : oP MT mX11_countBunches 32 (1, 1, 2, 0, []) := o_iload_n dX11_countBunches_32 rfl
theorem oX11_countBunches_33 : oP MT mX11_countBunches 33 (11, 3, 1, 39, []) := o_icmp_ne dX11_countBunches_33 (by decide) (by decide)
theorem oX11_countBunches_36 : oP MT mX11_countBunches 36 (3, 3, 1, 1, []) := o_iinc dX11_countBunches_36 (by decide) (by decide)
theorem oX11_countBunches_39 : oP MT mX11_countBunches 39 (3, 3, 2, 1, []) := o_iinc dX11_countBunches_39 (by decide) (by decide)
theorem oX11_countBunches_42 : oP MT mX11_countBunches 42 (9, 3, 4, 0, []) := o_goto dX11_countBunches_42 (by decide)
theorem oX11_countBunches_45 : oP MT mX11_countBunches 45 (1, 1, 1, 0, []) := o_iload_n dX11_countBunches_45 rfl
theorem oX11_countBunches_46 : oP MT mX11_countBunches 46 (21, 1, 0, 0, []) := o_iret dX11_countBunches_46 rfl
def ops_X11_countBunches : List (Nat × aO) := [(0, (0, 1, 0, 0, [])), (1, (2, 1, 1, 0, [])), (2, (0, 1, 0, 0, [])), (3, (2, 1, 2, 0, [])), (4, (1, 1, 2, 0, [])), (5, (1, 1, 0, 1, [])), (6, (13, 3, 0, 11, [])), (9, (12, 3, 8, 1, [])), (12, (11, 3, 3, 45, [])), (15, (1, 1, 0, 1, [])), (16, (13, 3, 0, 11, [])), (19, (1, 1, 2, 0, [])), (20, (26, 3, 0, 1, [(1, 86)])), (23, (2, 1, 3, 0, [])), (24, (1, 1, 3, 0, [])), (25, (10, 3, 0, 39, [])), (28, (1, 1, 3, 0, [])), (29, (25, 3, 87, 1, [])), (32, (1, 1, 2, 0, [])), (33, (11, 3, 1, 39, [])), (36, (3, 3, 1, 1, [])), (39, (3, 3, 2, 1, [])), (42, (9, 3, 4, 0, [])), (45, (1, 1, 1, 0, [])), (46, (21, 1, 0, 0, []))]
theorem os_X11_countBunches : oA MT mX11_countBunches ops_X11_countBunches := (oA.cons oX11_countBunches_0 (oA.cons oX11_countBunches_1 (oA.cons oX11_countBunches_2 (oA.cons oX11_countBunches_3 (oA.cons oX11_countBunches_4 (oA.cons oX11_countBunches_5 (oA.cons oX11_countBunches_6 (oA.cons oX11_countBunches_9 (oA.cons oX11_countBunches_12 (oA.cons oX11_countBunches_15 (oA.cons oX11_countBunches_16 (oA.cons oX11_countBunches_19 (oA.cons oX11_countBunches_20 (oA.cons oX11_countBunches_23 (oA.cons oX11_countBunches_24 (oA.cons oX11_countBunches_25 (oA.cons oX11_countBunches_28 (oA.cons oX11_countBunches_29 (oA.cons oX11_countBunches_32 (oA.cons oX11_countBunches_33 (oA.cons oX11_countBunches_36 (oA.cons oX11_countBunches_39 (oA.cons oX11_countBunches_42 (oA.cons oX11_countBunches_45 (oA.cons oX11_countBunches_46 oA.nil)))))))))))))))))))))))))
theorem dX11_isPlan_0 : decode cX11_isPlan 0 = .ok (.iload_n 0, 1) := by decide +kernel
theorem dX11_isPlan_1 : decode cX11_isPlan 1 = .ok (.iconst 0, 1) := by decide +kernel
theorem dX11_isPlan_2 : decode cX11_isPlan 2 = .ok (.iconst 4, 1) := by decide +kernel
theorem dX11_isPlan_3 : decode cX11_isPlan 3 = .ok (.invokestatic 90, 3) := by decide +kernel
theorem dX11_isPlan_6 : decode cX11_isPlan 6 = .ok (.ireturn, 1) := by decide +kernel
theorem oX11_isPlan_0 : oP MT mX11_isPlan 0 (1, 1, 0, 0, []) := o_iload_n dX11_isPlan_0 rfl
theorem oX11_isPlan_1 : oP MT mX11_isPlan 1 (0, 1, 0, 0, []) := o_iconst dX11_isPlan_1 (by decide)
theorem oX11_isPlan_2 : oP MT mX11_isPlan 2 (0, 1, 0, 4, []) := o_iconst dX11_isPlan_2 (by decide)
theorem oX11_isPlan_3 : oP MT mX11_isPlan 3 (25, 3, 37, 3, []) := o_callS dX11_isPlan_3 (mj := mX11_isIn) mt_X11_isIn cmq_X11_isIn wq_282 wq_144 (by decide) (by decide)
theorem oX11_isPlan_6 : oP MT mX11_isPlan 6 (22, 1, 0, 0, []) := o_zret dX11_isPlan_6 rfl
def ops_X11_isPlan : List (Nat × aO) := [(0, (1, 1, 0, 0, [])), (1, (0, 1, 0, 0, [])), (2, (0, 1, 0, 4, [])), (3, (25, 3, 37, 3, [])), (6, (22, 1, 0, 0, []))]
theorem os_X11_isPlan : oA MT mX11_isPlan ops_X11_isPlan := (oA.cons oX11_isPlan_0 (oA.cons oX11_isPlan_1 (oA.cons oX11_isPlan_2 (oA.cons oX11_isPlan_3 (oA.cons oX11_isPlan_6 oA.nil)))))
theorem dX4_seek_0 : decode cX4_seek 0 = .ok (.aload_n 0, 1) := by decide +kernel
theorem dX4_seek_1 : decode cX4_seek 1 = .ok (.getfield 9, 3) := by decide +kernel
theorem dX4_seek_4 : decode cX4_seek 4 = .ok (.iload_n 1, 1) := by decide +kernel
theorem dX4_seek_5 : decode cX4_seek 5 = .ok (.iconst 0, 1) := by decide +kernel
theorem dX4_seek_6 : decode cX4_seek 6 = .ok (.iastore, 1) := by decide +kernel
theorem dX4_seek_7 : decode cX4_seek 7 = .ok (.aload_n 0, 1) := by decide +kernel
theorem dX4_seek_8 : decode cX4_seek 8 = .ok (.getfield 15, 3) := by decide +kernel
theorem dX4_seek_11 : decode cX4_seek 11 = .ok (.iload_n 1, 1) := by decide +kernel
theorem dX4_seek_12 : decode cX4_seek 12 = .ok (.iconst 1, 1) := by decide +kernel
theorem dX4_seek_13 : decode cX4_seek 13 = .ok (.iastore, 1) := by decide +kernel
theorem dX4_seek_14 : decode cX4_seek 14 = .ok (.aload_n 0, 1) := by decide +kernel
theorem dX4_seek_15 : decode cX4_seek 15 = .ok (.getfield 18, 3) := by decide +kernel
theorem dX4_seek_18 : decode cX4_seek 18 = .ok (.iload_n 1, 1) := by decide +kernel
theorem dX4_seek_19 : decode cX4_seek 19 = .ok (.iconst 0, 1) := by decide +kernel
theorem dX4_seek_20 : decode cX4_seek 20 = .ok (.iastore, 1) := by decide +kernel
theorem dX4_seek_21 : decode cX4_seek 21 = .ok (.aload_n 0, 1) := by decide +kernel
theorem dX4_seek_22 : decode cX4_seek 22 = .ok (.iload_n 1, 1) := by decide +kernel
theorem dX4_seek_23 : decode cX4_seek 23 = .ok (.iload_n 2, 1) := by decide +kernel
theorem dX4_seek_24 : decode cX4_seek 24 = .ok (.invokevirtual 31, 3) := by decide +kernel
theorem dX4_seek_27 : decode cX4_seek 27 = .ok (.ifCond .eq 4, 3) := by decide +kernel
theorem dX4_seek_30 : decode cX4_seek 30 = .ok (.return_, 1) := by decide +kernel
theorem dX4_seek_31 : decode cX4_seek 31 = .ok (.aload_n 0, 1) := by decide +kernel
theorem dX4_seek_32 : decode cX4_seek 32 = .ok (.getfield 9, 3) := by decide +kernel
theorem dX4_seek_35 : decode cX4_seek 35 = .ok (.iload_n 1, 1) := by decide +kernel
theorem dX4_seek_36 : decode cX4_seek 36 = .ok (.iconst (-1), 1) := by decide +kernel
theorem dX4_seek_37 : decode cX4_seek 37 = .ok (.iastore, 1) := by decide +kernel
theorem dX4_seek_38 : decode cX4_seek 38 = .ok (.iconst 0, 1) := by decide +kernel
theorem dX4_seek_39 : decode cX4_seek 39 = .ok (.istore_n 3, 1) := by decide +kernel
theorem dX4_seek_40 : decode cX4_seek 40 = .ok (.iconst 0, 1) := by decide +kernel
theorem dX4_seek_41 : decode cX4_seek 41 = .ok (.istore 4, 2) := by decide +kernel
theorem dX4_seek_43 : decode cX4_seek 43 = .ok (.aload_n 0, 1) := by decide +kernel
theorem dX4_seek_44 : decode cX4_seek 44 = .ok (.getfield 21, 3) := by decide +kernel
theorem dX4_seek_47 : decode cX4_seek 47 = .ok (.iload_n 1, 1) := by decide +kernel
theorem dX4_seek_48 : decode cX4_seek 48 = .ok (.invokevirtual 35, 3) := by decide +kernel
theorem dX4_seek_51 : decode cX4_seek 51 = .ok (.iconst 0, 1) := by decide +kernel
theorem dX4_seek_52 : decode cX4_seek 52 = .ok (.istore 5, 2) := by decide +kernel
theorem dX4_seek_54 : decode cX4_seek 54 = .ok (.iload 5, 2) := by decide +kernel
theorem dX4_seek_56 : decode cX4_seek 56 = .ok (.aload_n 0, 1) := by decide +kernel
theorem dX4_seek_57 : decode cX4_seek 57 = .ok (.getfield 21, 3) := by decide +kernel
theorem dX4_seek_60 : decode cX4_seek 60 = .ok (.getfield 39, 3) := by decide +kernel
theorem dX4_seek_63 : decode cX4_seek 63 = .ok (.if_icmp .gt 145, 3) := by decide +kernel
theorem dX4_seek_66 : decode cX4_seek 66 = .ok (.aload_n 0, 1) := by decide +kernel
theorem dX4_seek_67 : decode cX4_seek 67 = .ok (.getfield 21, 3) := by decide +kernel
theorem dX4_seek_70 : decode cX4_seek 70 = .ok (.iload 5, 2) := by decide +kernel
theorem dX4_seek_72 : decode cX4_seek 72 = .ok (.invokevirtual 43, 3) := by decide +kernel
theorem dX4_seek_75 : decode cX4_seek 75 = .ok (.istore 6, 2) := by decide +kernel
theorem dX4_seek_77 : decode cX4_seek 77 = .ok (.iload 5, 2) := by decide +kernel
theorem dX4_seek_79 : decode cX4_seek 79 = .ok (.ifCond .eq 8, 3) := by decide +kernel
theorem dX4_seek_82 : decode cX4_seek 82 = .ok (.iload 6, 2) := by decide +kernel
theorem dX4_seek_84 : decode cX4_seek 84 = .ok (.ifCond .le 109, 3) := by decide +kernel
theorem dX4_seek_87 : decode cX4_seek 87 = .ok (.iload 6, 2) := by decide +kernel
theorem dX4_seek_89 : decode cX4_seek 89 = .ok (.aload_n 0, 1) := by decide +kernel
theorem dX4_seek_90 : decode cX4_seek 90 = .ok (.getfield 21, 3) := by decide +kernel
theorem dX4_seek_93 : decode cX4_seek 93 = .ok (.invokevirtual 47, 3) := by decide +kernel
theorem dX4_seek_96 : decode cX4_seek 96 = .ok (.iadd, 1) := by decide +kernel
theorem dX4_seek_97 : decode cX4_seek 97 = .ok (.istore 7, 2) := by decide +kernel
theorem dX4_seek_99 : decode cX4_seek 99 = .ok (.aload_n 0, 1) := by decide +kernel
theorem dX4_seek_100 : decode cX4_seek 100 = .ok (.iload_n 1, 1) := by decide +kernel
theorem dX4_seek_101 : decode cX4_seek 101 = .ok (.iconst 1, 1) := by decide +kernel
theorem dX4_seek_102 : decode cX4_seek 102 = .ok (.iadd, 1) := by decide +kernel
theorem dX4_seek_103 : decode cX4_seek 103 = .ok (.iload_n 2, 1) := by decide +kernel
theorem dX4_seek_104 : decode cX4_seek 104 = .ok (.iconst 1, 1) := by decide +kernel
theorem dX4_seek_105 : decode cX4_seek 105 = .ok (.isub, 1) := by decide +kernel
theorem dX4_seek_106 : decode cX4_seek 106 = .ok (.invokevirtual 51, 3) := by decide +kernel
theorem dX4_seek_109 : decode cX4_seek 109 = .ok (.aload_n 0, 1) := by decide +kernel
theorem dX4_seek_110 : decode cX4_seek 110 = .ok (.getfield 21, 3) := by decide +kernel
theorem dX4_seek_113 : decode cX4_seek 113 = .ok (.iload_n 1, 1) := by decide +kernel
theorem dX4_seek_114 : decode cX4_seek 114 = .ok (.invokevirtual 55, 3) := by decide +kernel
theorem dX4_seek_117 : decode cX4_seek 117 = .ok (.iload 7, 2) := by decide +kernel
theorem dX4_seek_119 : decode cX4_seek 119 = .ok (.aload_n 0, 1) := by decide +kernel
theorem dX4_seek_120 : decode cX4_seek 120 = .ok (.getfield 9, 3) := by decide +kernel
theorem dX4_seek_123 : decode cX4_seek 123 = .ok (.iload_n 1, 1) := by decide +kernel
theorem dX4_seek_124 : decode cX4_seek 124 = .ok (.iconst 1, 1) := by decide +kernel
theorem dX4_seek_125 : decode cX4_seek 125 = .ok (.iadd, 1) := by decide +kernel
theorem dX4_seek_126 : decode cX4_seek 126 = .ok (.iaload, 1) := by decide +kernel
theorem dX4_seek_127 : decode cX4_seek 127 = .ok (.iadd, 1) := by decide +kernel
theorem dX4_seek_128 : decode cX4_seek 128 = .ok (.istore 7, 2) := by decide +kernel
theorem dX4_seek_130 : decode cX4_seek 130 = .ok (.aload_n 0, 1) := by decide +kernel
theorem dX4_seek_131 : decode cX4_seek 131 = .ok (.iload_n 1, 1) := by decide +kernel
theorem dX4_seek_132 : decode cX4_seek 132 = .ok (.iload 7, 2) := by decide +kernel
theorem dX4_seek_134 : decode cX4_seek 134 = .ok (.aload_n 0, 1) := by decide +kernel
theorem dX4_seek_135 : decode cX4_seek 135 = .ok (.getfield 15, 3) := by decide +kernel
theorem dX4_seek_138 : decode cX4_seek 138 = .ok (.iload_n 1, 1) := by decide +kernel
theorem dX4_seek_139 : decode cX4_seek 139 = .ok (.iconst 1, 1) := by decide +kernel
theorem dX4_seek_140 : decode cX4_seek 140 = .ok (.iadd, 1) := by decide +kernel
theorem dX4_seek_141 : decode cX4_seek 141 = .ok (.iaload, 1) := by decide +kernel
theorem dX4_seek_142 : decode cX4_seek 142 = .ok (.iload 5, 2) := by decide +kernel
theorem dX4_seek_144 : decode cX4_seek 144 = .ok (.aload_n 0, 1) := by decide +kernel
theorem dX4_seek_145 : decode cX4_seek 145 = .ok (.getfield 18, 3) := by decide +kernel
theorem dX4_seek_148 : decode cX4_seek 148 = .ok (.iload_n 1, 1) := by decide +kernel
theorem dX4_seek_149 : decode cX4_seek 149 = .ok (.iconst 1, 1) := by decide +kernel
theorem dX4_seek_150 : decode cX4_seek 150 = .ok (.iadd, 1) := by decide +kernel
theorem dX4_seek_151 : decode cX4_seek 151 = .ok (.iaload, 1) := by decide +kernel
theorem dX4_seek_152 : decode cX4_seek 152 = .ok (.iconst 3, 1) := by decide +kernel
theorem dX4_seek_153 : decode cX4_seek 153 = .ok (.ishl, 1) := by decide +kernel
theorem dX4_seek_154 : decode cX4_seek 154 = .ok (.ior, 1) := by decide +kernel
theorem dX4_seek_155 : decode cX4_seek 155 = .ok (.invokevirtual 58, 3) := by decide +kernel
theorem dX4_seek_158 : decode cX4_seek 158 = .ok (.iload 5, 2) := by decide +kernel
theorem dX4_seek_160 : decode cX4_seek 160 = .ok (.ifCond .ne 8, 3) := by decide +kernel
theorem dX4_seek_163 : decode cX4_seek 163 = .ok (.iload 7, 2) := by decide +kernel
theorem dX4_seek_165 : decode cX4_seek 165 = .ok (.goto 4, 3) := by decide +kernel
theorem dX4_seek_168 : decode cX4_seek 168 = .ok (.iload_n 3, 1) := by decide +kernel
theorem dX4_seek_169 : decode cX4_seek 169 = .ok (.istore_n 3, 1) := by decide +kernel
theorem dX4_seek_170 : decode cX4_seek 170 = .ok (.iload 5, 2) := by decide +kernel
theorem dX4_seek_172 : decode cX4_seek 172 = .ok (.ifCond .ne 14, 3) := by decide +kernel
theorem dX4_seek_175 : decode cX4_seek 175 = .ok (.aload_n 0, 1) := by decide +kernel
theorem dX4_seek_176 : decode cX4_seek 176 = .ok (.getfield 15, 3) := by decide +kernel
theorem dX4_seek_179 : decode cX4_seek 179 = .ok (.iload_n 1, 1) := by decide +kernel
theorem dX4_seek_180 : decode cX4_seek 180 = .ok (.iconst 1, 1) := by decide +kernel
theorem dX4_seek_181 : decode cX4_seek 181 = .ok (.iadd, 1) := by decide +kernel
theorem dX4_seek_182 : decode cX4_seek 182 = .ok (.iaload, 1) := by decide +kernel
theorem dX4_seek_183 : decode cX4_seek 183 = .ok (.goto 5, 3) := by decide +kernel
theorem dX4_seek_186 : decode cX4_seek 186 = .ok (.iload 4, 2) := by decide +kernel
theorem dX4_seek_188 : decode cX4_seek 188 = .ok (.istore 4, 2) := by decide +kernel
theorem dX4_seek_190 : decode cX4_seek 190 = .ok (.goto 12, 3) := by decide +kernel
theorem dX4_seek_193 : decode cX4_seek 193 = .ok (.aload_n 0, 1) := by decide +kernel
theorem dX4_seek_194 : decode cX4_seek 194 = .ok (.iload_n 1, 1) := by decide +kernel
theorem dX4_seek_195 : decode cX4_seek 195 = .ok (.iload_n 3, 1) := by decide +kernel
theorem dX4_seek_196 : decode cX4_seek 196 = .ok (.iload 4, 2) := by decide +kernel
theorem dX4_seek_198 : decode cX4_seek 198 = .ok (.iconst 0, 1) := by decide +kernel
theorem dX4_seek_199 : decode cX4_seek 199 = .ok (.invokevirtual 58, 3) := by decide +kernel
theorem dX4_seek_202 : decode cX4_seek 202 = .ok (.iinc 5 1, 3) := by decide +kernel
theorem dX4_seek_205 : decode cX4_seek 205 = .ok (.goto (-151), 3) := by decide +kernel
theorem dX4_seek_208 : decode cX4_seek 208 = .ok (.return_, 1) := by decide +kernel
theorem oX4_seek_0 : oP MT mX4_seek 0 (1, 1, 0, 1, []) := o_aload_n dX4_seek_0 rfl
theorem oX4_seek_1 : oP MT mX4_seek 1 (13, 3, 1, 4, []) := o_getR (M := mX4_seek) (C := RX4) (T := TX4) (ci := 4) (j := 1) (z := 4) dX4_seek_1 rfl lq_RX4_9 rfl rfl
theorem oX4_seek_4 : oP MT mX4_seek 4 (1, 1, 1, 0, []) := o_iload_n dX4_seek_4 rfl
theorem oX4_seek_5 : oP MT mX4_seek 5 (0, 1, 0, 0, []) := o_iconst dX4_seek_5 (by decide)
theorem oX4_seek_6 : oP MT mX4_seek 6 (18, 1, 0, 0, []) := o_iastore dX4_seek_6
theorem oX4_seek_7 : oP MT mX4_seek 7 (1, 1, 0, 1, []) := o_aload_n dX4_seek_7 rfl
theorem oX4_seek_8 : oP MT mX4_seek 8 (13, 3, 2, 4, []) := o_getR (M := mX4_seek) (C := RX4) (T := TX4) (ci := 4) (j := 2) (z := 4) dX4_seek_8 rfl lq_RX4_15 rfl rfl
theorem oX4_seek_11 : oP MT mX4_seek 11 (1, 1, 1, 0, []) := o_iload_n dX4_seek_11 rfl
theorem oX4_seek_12 : oP MT mX4_seek 12 (0, 1, 0, 1, []) := o_iconst dX4_seek_12 (by decide)
theorem oX4_seek_13 : oP MT mX4_seek 13 (18, 1, 0, 0, []) := o_iastore dX4_seek_13
theorem oX4_seek_14 : oP MT mX4_seek 14 (1, 1, 0, 1, []) := o_aload_n dX4_seek_14 rfl
theorem oX4_seek_15 : oP MT mX4_seek 15 (13, 3, 3, 4, []) := o_getR (M := mX4_seek) (C := RX4) (T := TX4) (ci := 4) (j := 3) (z := 4) dX4_seek_15 rfl lq_RX4_18 rfl rfl
theorem oX4_seek_18 : oP MT mX4_seek 18 (1, 1, 1, 0, []) := o_iload_n dX4_seek_18 rfl
theorem oX4_seek_19 : oP MT mX4_seek 19 (0, 1, 0, 0, []) := o_iconst dX4_seek_19 (by decide)
theorem oX4_seek_20 : oP MT mX4_seek 20 (18, 1, 0, 0, []) := o_iastore dX4_seek_20
theorem oX4_seek_21 : oP MT mX4_seek 21 (1, 1, 0, 1, []) := o_aload_n dX4_seek_21 rfl
theorem oX4_seek_22 : oP MT mX4_seek 22 (1, 1, 1, 0, []) := o_iload_n dX4_seek_22 rfl
theorem oX4_seek_23 : oP MT mX4_seek 23 (1, 1, 2, 0, []) := o_iload_n dX4_seek_23 rfl
theorem oX4_seek_24 : oP MT mX4_seek 24 (26, 3, 0, 2, [(4, 49)]) := o_callO ((vA.cons (v_callV dX4_seek_24 (ci := 4) rfl rfl (mj := mX4_isLast) mt_X4_isLast cmq_X4_isLast wq_337 wq_340 wq_341 (by decide) (by decide)) vA.nil))
theorem oX4_seek_27 : oP MT mX4_seek 27 (10, 3, 0, 31, []) := o_if_eq dX4_seek_27 (by decide) (by decide)
theorem oX4_seek_30 : oP MT mX4_seek 30 (23, 1, 0, 0, []) := o_vret dX4_seek_30 rfl
theorem oX4_seek_31 : oP MT mX4_seek 31 (1, 1, 0, 1, []) := o_aload_n dX4_seek_31 rfl
theorem oX4_seek_32 : oP MT mX4_seek 32 (13, 3, 1, 4, []) := o_getR (M := mX4_seek) (C := RX4) (T := TX4) (ci := 4) (j := 1) (z := 4) dX4_seek_32 rfl lq_RX4_9 rfl rfl
theorem oX4_seek_35 : oP MT mX4_seek 35 (1, 1, 1, 0, []) := o_iload_n dX4_seek_35 rfl
theorem oX4_seek_36 : oP MT mX4_seek 36 (0, 1, 0, (-1), []) := o_iconst dX4_seek_36 (by decide)
theorem oX4_seek_37 : oP MT mX4_seek 37 (18, 1, 0, 0, []) := o_iastore dX4_seek_37
theorem oX4_seek_38 : oP MT mX4_seek 38 (0, 1, 0, 0, []) := o_iconst dX4_seek_38 (by decide)
theorem oX4_seek_39 : oP MT mX4_seek 39 (2, 1, 3, 0, []) := o_istore_n dX4_seek_39 rfl (by decide)
theorem oX4_seek_40 : oP MT mX4_seek 40 (0, 1, 0, 0, []) := o_iconst dX4_seek_40 (by decide)
theorem oX4_seek_41 : oP MT mX4_seek 41 (2, 2, 4, 0, []) := o_istore dX4_seek_41 (by decide)
theorem oX4_seek_43 : oP MT mX4_seek 43 (1, 1, 0, 1, []) := o_aload_n dX4_seek_43 rfl
theorem oX4_seek_44 : oP MT mX4_seek 44 (13, 3, 0, 4, []) := o_getR (M := mX4_seek) (C := RX4) (T := TX4) (ci := 4) (j := 0) (z := 4) dX4_seek_44 rfl lq_RX4_21 rfl rfl
theorem oX4_seek_47 : oP MT mX4_seek 47 (1, 1, 1, 0, []) := o_iload_n dX4_seek_47 rfl
theorem oX4_seek_48 : oP MT mX4_seek 48 (26, 3, 0, 1, [(1, 50)]) := o_callO ((vA.cons (v_callV dX4_seek_48 (ci := 1) rfl rfl (mj := mX1_save) mt_X1_save cmq_X1_save wq_342 wq_312 wq_313 (by decide) (by decide)) vA.nil))
theorem oX4_seek_51 : oP MT mX4_seek 51 (0, 1, 0, 0, []) := o_iconst dX4_seek_51 (by decide)
theorem oX4_seek_52 : oP MT mX4_seek 52 (2, 2, 5, 0, []) := o_istore dX4_seek_52 (by decide)
theorem oX4_seek_54 : oP MT mX4_seek 54 (1, 2, 5, 0, []) := o_iload dX4_seek_54
theorem oX4_seek_56 : oP MT mX4_seek 56 (1, 1, 0, 1, []) := o_aload_n dX4_seek_56 rfl
theorem oX4_seek_57 : oP MT mX4_seek 57 (13, 3, 0, 4, []) := o_getR (M := mX4_seek) (C := RX4) (T := TX4) (ci := 4) (j := 0) (z := 4) dX4_seek_57 rfl lq_RX4_21 rfl rfl
theorem oX4_seek_60 : oP MT mX4_seek 60 (12, 3, 8, 1, []) := o_getI (M := mX4_seek) (C := RX1) (T := TX1) (ci := 1) (j := 8) (z := 1) dX4_seek_60 rfl lq_RX4_39 rfl rfl
theorem oX4_seek_63 : oP MT mX4_seek 63 (11, 3, 4, 208, []) := o_icmp_gt dX4_seek_63 (by decide) (by decide)
theorem oX4_seek_66 : oP MT mX4_seek 66 (1, 1, 0, 1, []) := o_aload_n dX4_seek_66 rfl
theorem oX4_seek_67 : oP MT mX4_seek 67 (13, 3, 0, 4, []) := o_getR (M := mX4_seek) (C := RX4) (T := TX4) (ci := 4) (j := 0) (z := 4) dX4_seek_67 rfl lq_RX4_21 rfl rfl
theorem oX4_seek_70 : oP MT mX4_seek 70 (1, 2, 5, 0, []) := o_iload dX4_seek_70
theorem oX4_seek_72 : oP MT mX4_seek 72 (26, 3, 0, 1, [(1, 29)]) := o_callO ((vA.cons (v_callV dX4_seek_72 (ci := 1) rfl rfl (mj := mX1_tell) mt_X1_tell cmq_X1_tell wq_343 wq_299 wq_300 (by decide) (by decide)) vA.nil))
theorem oX4_seek_75 : oP MT mX4_seek 75 (2, 2, 6, 0, []) := o_istore dX4_seek_75 (by decide)
theorem oX4_seek_77 : oP MT mX4_seek 77 (1, 2, 5, 0, []) := o_iload dX4_seek_77
theorem oX4_seek_79 : oP MT mX4_seek 79 (10, 3, 0, 87, []) := o_if_eq dX4_seek_79 (by decide) (by decide)
theorem oX4_seek_82 : oP MT mX4_seek 82 (1, 2, 6, 0, []) := o_iload dX4_seek_82
theorem oX4_seek_84 : oP MT mX4_seek 84 (10, 3, 5, 193, []) := o_if_le dX4_seek_84 (by decide) (by decide)
theorem oX4_seek_87 : oP MT mX4_seek 87 (1, 2, 6, 0, []) := o_iload dX4_seek_87
theorem oX4_seek_89 : oP MT mX4_seek 89 (1, 1, 0, 1, []) := o_aload_n dX4_seek_89 rfl
theorem oX4_seek_90 : oP MT mX4_seek 90 (13, 3, 0, 4, []) := o_getR (M := mX4_seek) (C := RX4) (T := TX4) (ci := 4) (j := 0) (z := 4) dX4_seek_90 rfl lq_RX4_21 rfl rfl
theorem oX4_seek_93 : oP MT mX4_seek 93 (26, 3, 0, 0, [(1, 30)]) := o_callO ((vA.cons (v_callV dX4_seek_93 (ci := 1) rfl rfl (mj := mX1_melt) mt_X1_melt cmq_X1_melt wq_344 wq_303 wq_304 (by decide) (by decide)) vA.nil))
theorem oX4_seek_96 : oP MT mX4_seek 96 (4, 1, 0, 0, []) := o_iadd dX4_seek_96
theorem oX4_seek_97 : oP MT mX4_seek 97 (2, 2, 7, 0, []) := o_istore dX4_seek_97 (by decide)
theorem oX4_seek_99 : oP MT mX4_seek 99 (1, 1, 0, 1, []) := o_aload_n dX4_seek_99 rfl
theorem oX4_seek_100 : oP MT mX4_seek 100 (1, 1, 1, 0, []) := o_iload_n dX4_seek_100 rfl
theorem oX4_seek_101 : oP MT mX4_seek 101 (0, 1, 0, 1, []) := o_iconst dX4_seek_101 (by decide)
theorem oX4_seek_102 : oP MT mX4_seek 102 (4, 1, 0, 0, []) := o_iadd dX4_seek_102
theorem oX4_seek_103 : oP MT mX4_seek 103 (1, 1, 2, 0, []) := o_iload_n dX4_seek_103 rfl
theorem oX4_seek_104 : oP MT mX4_seek 104 (0, 1, 0, 1, []) := o_iconst dX4_seek_104 (by decide)
theorem oX4_seek_105 : oP MT mX4_seek 105 (4, 1, 1, 0, []) := o_isub dX4_seek_105
theorem oX4_seek_106 : oP MT mX4_seek 106 (26, 3, 0, 2, [(4, 90)]) := o_callO ((vA.cons (v_callV dX4_seek_106 (ci := 4) rfl rfl (mj := mX4_seek) mt_X4_seek cmq_X4_seek wq_345 wq_347 wq_348 (by decide) (by decide)) vA.nil))
theorem oX4_seek_109 : oP MT mX4_seek 109 (1, 1, 0, 1, []) := o_aload_n dX4_seek_109 rfl
theorem oX4_seek_110 : oP MT mX4_seek 110 (13, 3, 0, 4, []) := o_getR (M := mX4_seek) (C := RX4) (T := TX4) (ci := 4) (j := 0) (z := 4) dX4_seek_110 rfl lq_RX4_21 rfl rfl
theorem oX4_seek_113 : oP MT mX4_seek 113 (1, 1, 1, 0, []) := o_iload_n dX4_seek_113 rfl
theorem oX4_seek_114 : oP MT mX4_seek 114 (26, 3, 0, 1, [(1, 51)]) := o_callO ((vA.cons (v_callV dX4_seek_114 (ci := 1) rfl rfl (mj := mX1_restore) mt_X1_restore cmq_X1_restore wq_349 wq_320 wq_321 (by decide) (by decide)) vA.nil))
theorem oX4_seek_117 : oP MT mX4_seek 117 (1, 2, 7, 0, []) := o_iload dX4_seek_117
theorem oX4_seek_119 : oP MT mX4_seek 119 (1, 1, 0, 1, []) := o_aload_n dX4_seek_119 rfl
theorem oX4_seek_120 : oP MT mX4_seek 120 (13, 3, 1, 4, []) := o_getR (M := mX4_seek) (C := RX4) (T := TX4) (ci := 4) (j := 1) (z := 4) dX4_seek_120 rfl lq_RX4_9 rfl rfl
theorem oX4_seek_123 : oP MT mX4_seek 123 (1, 1, 1, 0, []) := o_iload_n dX4_seek_123 rfl
theorem oX4_seek_124 : oP MT mX4_seek 124 (0, 1, 0, 1, []) := o_iconst dX4_seek_124 (by decide)
theorem oX4_seek_125 : oP MT mX4_seek 125 (4, 1, 0, 0, []) := o_iadd dX4_seek_125
theorem oX4_seek_126 : oP MT mX4_seek 126 (16, 1, 1, 0, []) := o_iaload dX4_seek_126
theorem oX4_seek_127 : oP MT mX4_seek 127 (4, 1, 0, 0, []) := o_iadd dX4_seek_127
theorem oX4_seek_128 : oP MT mX4_seek 128 (2, 2, 7, 0, []) := o_istore dX4_seek_128 (by decide)
theorem oX4_seek_130 : oP MT mX4_seek 130 (1, 1, 0, 1, []) := o_aload_n dX4_seek_130 rfl
theorem oX4_seek_131 : oP MT mX4_seek 131 (1, 1, 1, 0, []) := o_iload_n dX4_seek_131 rfl
theorem oX4_seek_132 : oP MT mX4_seek 132 (1, 2, 7, 0, []) := o_iload dX4_seek_132
theorem oX4_seek_134 : oP MT mX4_seek 134 (1, 1, 0, 1, []) := o_aload_n dX4_seek_134 rfl
theorem oX4_seek_135 : oP MT mX4_seek 135 (13, 3, 2, 4, []) := o_getR (M := mX4_seek) (C := RX4) (T := TX4) (ci := 4) (j := 2) (z := 4) dX4_seek_135 rfl lq_RX4_15 rfl rfl
theorem oX4_seek_138 : oP MT mX4_seek 138 (1, 1, 1, 0, []) := o_iload_n dX4_seek_138 rfl
theorem oX4_seek_139 : oP MT mX4_seek 139 (0, 1, 0, 1, []) := o_iconst dX4_seek_139 (by decide)
theorem oX4_seek_140 : oP MT mX4_seek 140 (4, 1, 0, 0, []) := o_iadd dX4_seek_140
theorem oX4_seek_141 : oP MT mX4_seek 141 (16, 1, 1, 0, []) := o_iaload dX4_seek_141
theorem oX4_seek_142 : oP MT mX4_seek 142 (1, 2, 5, 0, []) := o_iload dX4_seek_142
theorem oX4_seek_144 : oP MT mX4_seek 144 (1, 1, 0, 1, []) := o_aload_n dX4_seek_144 rfl
theorem oX4_seek_145 : oP MT mX4_seek 145 (13, 3, 3, 4, []) := o_getR (M := mX4_seek) (C := RX4) (T := TX4) (ci := 4) (j := 3) (z := 4) dX4_seek_145 rfl lq_RX4_18 rfl rfl
theorem oX4_seek_148 : oP MT mX4_seek 148 (1, 1, 1, 0, []) := o_iload_n dX4_seek_148 rfl
theorem oX4_seek_149 : oP MT mX4_seek 149 (0, 1, 0, 1, []) := o_iconst dX4_seek_149 (by decide)
theorem oX4_seek_150 : oP MT mX4_seek 150 (4, 1, 0, 0, []) := o_iadd dX4_seek_150
theorem oX4_seek_151 : oP MT mX4_seek 151 (16, 1, 1, 0, []) := o_iaload dX4_seek_151
theorem oX4_seek_152 : oP MT mX4_seek 152 (0, 1, 0, 3, []) := o_iconst dX4_seek_152 (by decide)
theorem oX4_seek_153 : oP MT mX4_seek 153 (4, 1, 6, 0, []) := o_ishl dX4_seek_153
theorem oX4_seek_154 : oP MT mX4_seek 154 (4, 1, 4, 0, []) := o_ior dX4_seek_154
theorem oX4_seek_155 : oP MT mX4_seek 155 (26, 3, 0, 4, [(4, 52)]) := o_callO ((vA.cons (v_callV dX4_seek_155 (ci := 4) rfl rfl (mj := mX4_weigh) mt_X4_weigh cmq_X4_weigh wq_350 wq_352 wq_353 (by decide) (by decide)) vA.nil))
theorem oX4_seek_158 : oP MT mX4_seek 158 (1, 2, 5, 0, []) := o_iload dX4_seek_158
theorem oX4_seek_160 : oP MT mX4_seek 160 (10, 3, 1, 168, []) := o_if_ne dX4_seek_160 (by decide) (by decide)
theorem oX4_seek_163 : oP MT mX4_seek 163 (1, 2, 7, 0, []) := o_iload dX4_seek_163
theorem oX4_seek_165 : oP MT mX4_seek 165 (9, 3, 169, 0, []) := o_goto dX4_seek_165 (by decide)
theorem oX4_seek_168 : oP MT mX4_seek 168 (1, 1, 3, 0, []) := o_iload_n dX4_seek_168 rfl
theorem oX4_seek_169 : oP MT mX4_seek 169 (2, 1, 3, 0, []) := o_istore_n dX4_seek_169 rfl (by decide)
theorem oX4_seek_170 : oP MT mX4_seek 170 (1, 2, 5, 0, []) := o_iload dX4_seek_170
theorem oX4_seek_172 : oP MT mX4_seek 172 (10, 3, 1, 186, []) := o_if_ne dX4_seek_172 (by decide) (by decide)
theorem oX4_seek_175 : oP MT mX4_seek 175 (1, 1, 0, 1, []) := o_aload_n dX4_seek_175 rfl
theorem oX4_seek_176 : oP MT mX4_seek 176 (13, 3, 2, 4, []) := o_getR (M := mX4_seek) (C := RX4) (T := TX4) (ci := 4) (j := 2) (z := 4) dX4_seek_176 rfl lq_RX4_15 rfl rfl
theorem oX4_seek_179 : oP MT mX4_seek 179 (1, 1, 1, 0, []) := o_iload_n dX4_seek_179 rfl
theorem oX4_seek_180 : oP MT mX4_seek 180 (0, 1, 0, 1, []) := o_iconst dX4_seek_180 (by decide)
theorem oX4_seek_181 : oP MT mX4_seek 181 (4, 1, 0, 0, []) := o_iadd dX4_seek_181
theorem oX4_seek_182 : oP MT mX4_seek 182 (16, 1, 1, 0, []) := o_iaload dX4_seek_182
theorem oX4_seek_183 : oP MT mX4_seek 183 (9, 3, 188, 0, []) := o_goto dX4_seek_183 (by decide)
theorem oX4_seek_186 : oP MT mX4_seek 186 (1, 2, 4, 0, []) := o_iload dX4_seek_186
theorem oX4_seek_188 : oP MT mX4_seek 188 (2, 2, 4, 0, []) := o_istore dX4_seek_188 (by decide)
theorem oX4_seek_190 : oP MT mX4_seek 190 (9, 3, 202, 0, []) := o_goto dX4_seek_190 (by decide)
theorem oX4_seek_193 : oP MT mX4_seek 193 (1, 1, 0, 1, []) := o_aload_n dX4_seek_193 rfl
theorem oX4_seek_194 : oP MT mX4_seek 194 (1, 1, 1, 0, []) := o_iload_n dX4_seek_194 rfl
theorem oX4_seek_195 : oP MT mX4_seek 195 (1, 1, 3, 0, []) := o_iload_n dX4_seek_195 rfl
theorem oX4_seek_196 : oP MT mX4_seek 196 (1, 2, 4, 0, []) := o_iload dX4_seek_196
theorem oX4_seek_198 : oP MT mX4_seek 198 (0, 1, 0, 0, []) := o_iconst dX4_seek_198 (by decide)
theorem oX4_seek_199 : oP MT mX4_seek 199 (26, 3, 0, 4, [(4, 52)]) := o_callO ((vA.cons (v_callV dX4_seek_199 (ci := 4) rfl rfl (mj := mX4_weigh) mt_X4_weigh cmq_X4_weigh wq_350 wq_352 wq_353 (by decide) (by decide)) vA.nil))
theorem oX4_seek_202 : oP MT mX4_seek 202 (3, 3, 5, 1, []) := o_iinc dX4_seek_202 (by decide) (by decide)
theorem oX4_seek_205 : oP MT mX4_seek 205 (9, 3, 54, 0, []) := o_goto dX4_seek_205 (by decide)
theorem oX4_seek_208 : oP MT mX4_seek 208 (23, 1, 0, 0, []) := o_vret dX4_seek_208 rfl
def ops_X4_seek : List (Nat × aO) := [(0, (1, 1, 0, 1, [])), (1, (13, 3, 1, 4, [])), (4, (1, 1, 1, 0, [])), (5, (0, 1, 0, 0, [])), (6, (18, 1, 0, 0, [])), (7, (1, 1, 0, 1, [])), (8, (13, 3, 2, 4, [])), (11, (1, 1, 1, 0, [])), (12, (0, 1, 0, 1, [])), (13, (18, 1, 0, 0, [])), (14, (1, 1, 0, 1, [])), (15, (13, 3, 3, 4, [])), (18, (1, 1, 1, 0, [])), (19, (0, 1, 0, 0, [])), (20, (18, 1, 0, 0, [])), (21, (1, 1, 0, 1, [])), (22, (1, 1, 1, 0, [])), (23, (1, 1, 2, 0, [])), (24, (26, 3, 0, 2, [(4, 49)])), (27, (10, 3, 0, 31, [])), (30, (23, 1, 0, 0, [])), (31, (1, 1, 0, 1, [])), (32, (13, 3, 1, 4, [])), (35, (1, 1, 1, 0, [])), (36, (0, 1, 0, (-1), [])), (37, (18, 1, 0, 0, [])), (38, (0, 1, 0, 0, [])), (39, (2, 1, 3, 0, [])), (40, (0, 1, 0, 0, [])), (41, (2, 2, 4, 0, [])), (43, (1, 1, 0, 1, [])), (44, (13, 3, 0, 4, [])), (47, (1, 1, 1, 0, [])), (48, (26, 3, 0, 1, [(1, 50)])), (51, (0, 1, 0, 0, [])), (52, (2, 2, 5, 0, [])), (54, (1, 2, 5, 0, [])), (56, (1, 1, 0, 1, [])), (57, (13, 3, 0, 4, [])), (60, (12, 3, 8, 1, [])), (63, (11, 3, 4, 208, [])), (66, (1, 1, 0, 1, [])), (67, (13, 3, 0, 4, [])), (70, (1, 2, 5, 0, [])), (72, (26, 3, 0, 1, [(1, 29)])), (75, (2, 2, 6, 0, [])), (77, (1, 2, 5, 0, [])), (79, (10, 3, 0, 87, [])), (82, (1, 2, 6, 0, [])), (84, (10, 3, 5, 193, [])), (87, (1, 2, 6, 0, [])), (89, (1, 1, 0, 1, [])), (90, (13, 3, 0, 4, [])), (93, (26, 3, 0, 0, [(1, 30)])), (96, (4, 1, 0, 0, [])), (97, (2, 2, 7, 0, [])), (99, (1, 1, 0, 1, [])), (100, (1, 1, 1, 0, [])), (101, (0, 1, 0, 1, [])), (102, (4, 1, 0, 0, [])), (103, (1, 1, 2, 0, [])), (104, (0, 1, 0, 1, [])), (105, (4, 1, 1, 0, [])), (106, (26, 3, 0, 2, [(4, 90)])), (109, (1, 1, 0, 1, [])), (110, (13, 3, 0, 4, [])), (113, (1, 1, 1, 0, [])), (114, (26, 3, 0, 1, [(1, 51)])), (117, (1, 2, 7, 0, [])), (119, (1, 1, 0, 1, [])), (120, (13, 3, 1, 4, [])), (123, (1, 1, 1, 0, [])), (124, (0, 1, 0, 1, [])), (125, (4, 1, 0, 0, [])), (126, (16, 1, 1, 0, [])), (127, (4, 1, 0, 0, [])), (128, (2, 2, 7, 0, [])), (130, (1, 1, 0, 1, [])), (131, (1, 1, 1, 0, [])), (132, (1, 2, 7, 0, [])), (134, (1, 1, 0, 1, [])), (135, (13, 3, 2, 4, [])), (138, (1, 1, 1, 0, [])), (139, (0, 1, 0, 1, [])), (140, (4, 1, 0, 0, [])), (141, (16, 1, 1, 0, [])), (142, (1, 2, 5, 0, [])), (144, (1, 1, 0, 1, [])), (145, (13, 3, 3, 4, [])), (148, (1, 1, 1, 0, [])), (149, (0, 1, 0, 1, [])), (150, (4, 1, 0, 0, [])), (151, (16, 1, 1, 0, [])), (152, (0, 1, 0, 3, [])), (153, (4, 1, 6, 0, [])), (154, (4, 1, 4, 0, [])), (155, (26, 3, 0, 4, [(4, 52)])), (158, (1, 2, 5, 0, [])), (160, (10, 3, 1, 168, [])), (163, (1, 2, 7, 0, [])), (165, (9, 3, 169, 0, [])), (168, (1, 1, 3, 0, [])), (169, (2, 1, 3, 0, [])), (170, (1, 2, 5, 0, [])), (172, (10, 3, 1, 186, [])), (175, (1, 1, 0, 1, [])), (176, (13, 3, 2, 4, [])), (179, (1, 1, 1, 0, [])), (180, (0, 1, 0, 1, [])), (181, (4, 1, 0, 0, [])), (182, (16, 1, 1, 0, [])), (183, (9, 3, 188, 0, [])), (186, (1, 2, 4, 0, [])), (188, (2, 2, 4, 0, [])), (190, (9, 3, 202, 0, [])), (193, (1, 1, 0, 1, [])), (194, (1, 1, 1, 0, [])), (195, (1, 1, 3, 0, [])), (196, (1, 2, 4, 0, [])), (198, (0, 1, 0, 0, [])), (199, (26, 3, 0, 4, [(4, 52)])), (202, (3, 3, 5, 1, [])), (205, (9, 3, 54, 0, [])), (208, (23, 1, 0, 0, []))]
theorem os_X4_seek : oA MT mX4_seek ops_X4_seek := (oA.cons oX4_seek_0 (oA.cons oX4_seek_1 (oA.cons oX4_seek_4 (oA.cons oX4_seek_5 (oA.cons oX4_seek_6 (oA.cons oX4_seek_7 (oA.cons oX4_seek_8 (oA.cons oX4_seek_11 (oA.cons oX4_seek_12 (oA.cons oX4_seek_13 (oA.cons oX4_seek_14 (oA.cons oX4_seek_15 (oA.cons oX4_seek_18 (oA.cons oX4_seek_19 (oA.cons oX4_seek_20 (oA.cons oX4_seek_21 (oA.cons oX4_seek_22 (oA.cons oX4_seek_23 (oA.cons oX4_seek_24 (oA.cons oX4_seek_27 (oA.cons oX4_seek_30 (oA.cons oX4_seek_31 (oA.cons oX4_seek_32 (oA.cons oX4_seek_35 (oA.cons oX4_seek_36 (oA.cons oX4_seek_37 (oA.cons oX4_seek_38 (oA.cons oX4_seek_39 (oA.cons oX4_seek_40 (oA.cons oX4_seek_41 (oA.cons oX4_seek_43 (oA.cons oX4_seek_44 (oA.cons oX4_seek_47 (oA.cons oX4_seek_48 (oA.cons oX4_seek_51 (oA.cons oX4_seek_52 (oA.cons oX4_seek_54 (oA.cons oX4_seek_56 (oA.cons oX4_seek_57 (oA.cons oX4_seek_60 (oA.cons oX4_seek_63 (oA.cons oX4_seek_66 (oA.cons oX4_seek_67 (oA.cons oX4_seek_70 (oA.cons oX4_seek_72 (oA.cons oX4_seek_75 (oA.cons oX4_seek_77 (oA.cons oX4_seek_79 (oA.cons oX4_seek_82 (oA.cons oX4_seek_84 (oA.cons oX4_seek_87 (oA.cons oX4_seek_89 (oA.cons oX4_seek_90 (oA.cons oX4_seek_93 (oA.cons oX4_seek_96 (oA.cons oX4_seek_97 (oA.cons oX4_seek_99 (oA.cons oX4_seek_100 (oA.cons oX4_seek_101 (oA.cons oX4_seek_102 (oA.cons oX4_seek_103 (oA.cons oX4_seek_104 (oA.cons oX4_seek_105 (oA.cons oX4_seek_106 (oA.cons oX4_seek_109 (oA.cons oX4_seek_110 (oA.cons oX4_seek_113 (oA.cons oX4_seek_114 (oA.cons oX4_seek_117 (oA.cons oX4_seek_119 (oA.cons oX4_seek_120 (oA.cons oX4_seek_123 (oA.cons oX4_seek_124 (oA.cons oX4_seek_125 (oA.cons oX4_seek_126 (oA.cons oX4_seek_127 (oA.cons oX4_seek_128 (oA.cons oX4_seek_130 (oA.cons oX4_seek_131 (oA.cons oX4_seek_132 (oA.cons oX4_seek_134 (oA.cons oX4_seek_135 (oA.cons oX4_seek_138 (oA.cons oX4_seek_139 (oA.cons oX4_seek_140 (oA.cons oX4_seek_141 (oA.cons oX4_seek_142 (oA.cons oX4_seek_144 (oA.cons oX4_seek_145 (oA.cons oX4_seek_148 (oA.cons oX4_seek_149 (oA.cons oX4_seek_150 (oA.cons oX4_seek_151 (oA.cons oX4_seek_152 (oA.cons oX4_seek_153 (oA.cons oX4_seek_154 (oA.cons oX4_seek_155 (oA.cons oX4_seek_158 (oA.cons oX4_seek_160 (oA.cons oX4_seek_163 (oA.cons oX4_seek_165 (oA.cons oX4_seek_168 (oA.cons oX4_seek_169 (oA.cons oX4_seek_170 (oA.cons oX4_seek_172 (oA.cons oX4_seek_175 (oA.cons oX4_seek_176 (oA.cons oX4_seek_179 (oA.cons oX4_seek_180 (oA.cons oX4_seek_181 (oA.cons oX4_seek_182 (oA.cons oX4_seek_183 (oA.cons oX4_seek_186 (oA.cons oX4_seek_188 (oA.cons oX4_seek_190 (oA.cons oX4_seek_193 (oA.cons oX4_seek_194 (oA.cons oX4_seek_195 (oA.cons oX4_seek_196 (oA.cons oX4_seek_198 (oA.cons oX4_seek_199 (oA.cons oX4_seek_202 (oA.cons oX4_seek_205 (oA.cons oX4_seek_208 oA.nil))))))))))))))))))))))))))))))))))))))))))))))))))))))))))))))))))))))))))))))))))))))))))))))))))))))))))))))))))))))))))))
theorem dX1_haltsOf_0 : decode cX1_haltsOf 0 = .ok (.iconst 0, 1) := by decide +kernel
theorem dX1_haltsOf_1 : decode cX1_haltsOf 1 = .ok (.iload_n 1, 1) := by decide +kernel
theorem dX1_haltsOf_2 : decode cX1_haltsOf 2 = .ok (.aload_n 0, 1) := by decide +kernel
theorem dX1_haltsOf_3 : decode cX1_haltsOf 3 = .ok (.getfield 9, 3) := by decide +kernel
theorem dX1_haltsOf_6 : decode cX1_haltsOf 6 = .ok (.aload_n 0, 1) := by decide +kernel
theorem dX1_haltsOf_7 : decode cX1_haltsOf 7 = .ok (.getfield 60, 3) := by decide +kernel
theorem dX1_haltsOf_10 : decode cX1_haltsOf 10 = .ok (.isub, 1) := by decide +kernel
theorem dX1_haltsOf_11 : decode cX1_haltsOf 11 = .ok (.invokestatic 85, 3) := by decide +kernel
theorem dX1_haltsOf_14 : decode cX1_haltsOf 14 = .ok (.invokestatic 91, 3) := by decide +kernel
theorem dX1_haltsOf_17 : decode cX1_haltsOf 17 = .ok (.ireturn, 1) := by decide +kernel
theorem oX1_haltsOf_0 : oP MT mX1_haltsOf 0 (0, 1, 0, 0, []) := o_iconst dX1_haltsOf_0 (by decide)
theorem oX1_haltsOf_1 : oP MT mX1_haltsOf 1 (1, 1, 1, 0, []) := o_iload_n dX1_haltsOf_1 rfl
theorem oX1_haltsOf_2 : oP MT mX1_haltsOf 2 (1, 1, 0, 1, []) := o_aload_n dX1_haltsOf_2 rfl
theorem oX1_haltsOf_3 : oP MT mX1_haltsOf 3 (12, 3, 2, 1, []) := o_getI (M := mX1_haltsOf) (C := RX1) (T := TX1) (ci := 1) (j := 2) (z := 1) dX1_haltsOf_3 rfl lq_RX1_9 rfl rfl
theorem oX1_haltsOf_6 : oP MT mX1_haltsOf 6 (1, 1, 0, 1, []) := o_aload_n dX1_haltsOf_6 rfl
theorem oX1_haltsOf_7 : oP MT mX1_haltsOf 7 (12, 3, 1, 1, []) := o_getI (M := mX1_haltsOf) (C := RX1) (T := TX1) (ci := 1) (j := 1) (z := 1) dX1_haltsOf_7 rfl lq_RX1_60 rfl rfl
theorem oX1_haltsOf_10 : oP MT mX1_haltsOf 10 (4, 1, 1, 0, []) := o_isub dX1_haltsOf_10
theorem oX1_haltsOf_11 : oP MT mX1_haltsOf 11 (27, 3, 1, 0, []) := o_min dX1_haltsOf_11 wq_134 wq_40 wq_17 wq_41
theorem oX1_haltsOf_14 : oP MT mX1_haltsOf 14 (27, 3, 0, 0, []) := o_max dX1_haltsOf_14 wq_117 wq_16 wq_17 wq_18
theorem oX1_haltsOf_17 : oP MT mX1_haltsOf 17 (21, 1, 0, 0, []) := o_iret dX1_haltsOf_17 rfl
def ops_X1_haltsOf : List (Nat × aO) := [(0, (0, 1, 0, 0, [])), (1, (1, 1, 1, 0, [])), (2, (1, 1, 0, 1, [])), (3, (12, 3, 2, 1, [])), (6, (1, 1, 0, 1, [])), (7, (12, 3, 1, 1, [])), (10, (4, 1, 1, 0, [])), (11, (27, 3, 1, 0, [])), (14, (27, 3, 0, 0, [])), (17, (21, 1, 0, 0, []))]
theorem os_X1_haltsOf : oA MT mX1_haltsOf ops_X1_haltsOf := (oA.cons oX1_haltsOf_0 (oA.cons oX1_haltsOf_1 (oA.cons oX1_haltsOf_2 (oA.cons oX1_haltsOf_3 (oA.cons oX1_haltsOf_6 (oA.cons oX1_haltsOf_7 (oA.cons oX1_haltsOf_10 (oA.cons oX1_haltsOf_11 (oA.cons oX1_haltsOf_14 (oA.cons oX1_haltsOf_17 oA.nil))))))))))
theorem dX11_isKeySet_0 : decode cX11_isKeySet 0 = .ok (.iload_n 1, 1) := by decide +kernel
theorem dX11_isKeySet_1 : decode cX11_isKeySet 1 = .ok (.iconst 0, 1) := by decide +kernel
theorem dX11_isKeySet_2 : decode cX11_isKeySet 2 = .ok (.iconst 1, 1) := by decide +kernel
theorem dX11_isKeySet_3 : decode cX11_isKeySet 3 = .ok (.aload_n 0, 1) := by decide +kernel
theorem dX11_isKeySet_4 : decode cX11_isKeySet 4 = .ok (.getfield 56, 3) := by decide +kernel
theorem dX11_isKeySet_7 : decode cX11_isKeySet 7 = .ok (.getfield 97, 3) := by decide +kernel
theorem dX11_isKeySet_10 : decode cX11_isKeySet 10 = .ok (.ishl, 1) := by decide +kernel
theorem dX11_isKeySet_11 : decode cX11_isKeySet 11 = .ok (.iconst 1, 1) := by decide +kernel
theorem dX11_isKeySet_12 : decode cX11_isKeySet 12 = .ok (.isub, 1) := by decide +kernel
theorem dX11_isKeySet_13 : decode cX11_isKeySet 13 = .ok (.invokestatic 90, 3) := by decide +kernel
theorem dX11_isKeySet_16 : decode cX11_isKeySet 16 = .ok (.ireturn, 1) := by decide +kernel
theorem oX11_isKeySet_0 : oP MT mX11_isKeySet 0 (1, 1, 1, 0, []) := o_iload_n dX11_isKeySet_0 rfl
theorem oX11_isKeySet_1 : oP MT mX11_isKeySet 1 (0, 1, 0, 0, []) := o_iconst dX11_isKeySet_1 (by decide)
theorem oX11_isKeySet_2 : oP MT mX11_isKeySet 2 (0, 1, 0, 1, []) := o_iconst dX11_isKeySet_2 (by decide)
theorem oX11_isKeySet_3 : oP MT mX11_isKeySet 3 (1, 1, 0, 1, []) := o_aload_n dX11_isKeySet_3 rfl
theorem oX11_isKeySet_4 : oP MT mX11_isKeySet 4 (13, 3, 0, 11, []) := o_getR (M := mX11_isKeySet) (C := RX11) (T := TX11) (ci := 11) (j := 0) (z := 11) dX11_isKeySet_4 rfl lq_RX11_56 rfl rfl
theorem oX11_isKeySet_7 : oP MT mX11_isKeySet 7 (12, 3, 8, 1, []) := o_getI (M := mX11_isKeySet) (C := RX1) (T := TX1) (ci := 1) (j := 8) (z := 1) dX11_isKeySet_7 rfl lq_RX11_97 rfl rfl
theorem oX11_isKeySet_10 : oP MT mX11_isKeySet 10 (4, 1, 6, 0, []) := o_ishl dX11_isKeySet_10
theorem oX11_isKeySet_11 : oP MT mX11_isKeySet 11 (0, 1, 0, 1, []) := o_iconst dX11_isKeySet_11 (by decide)
theorem oX11_isKeySet_12 : oP MT mX11_isKeySet 12 (4, 1, 1, 0, []) := o_isub dX11_isKeySet_12
theorem oX11_isKeySet_13 : oP MT mX11_isKeySet 13 (25, 3, 37, 3, []) := o_callS dX11_isKeySet_13 (mj := mX11_isIn) mt_X11_isIn cmq_X11_isIn wq_282 wq_144 (by decide) (by decide)
theorem oX11_isKeySet_16 : oP MT mX11_isKeySet 16 (22, 1, 0, 0, []) := o_zret dX11_isKeySet_16 rfl
def ops_X11_isKeySet : List (Nat × aO) := [(0, (1, 1, 1, 0, [])), (1, (0, 1, 0, 0, [])), (2, (0, 1, 0, 1, [])), (3, (1, 1, 0, 1, [])), (4, (13, 3, 0, 11, [])), (7, (12, 3, 8, 1, [])), (10, (4, 1, 6, 0, [])), (11, (0, 1, 0, 1, [])), (12, (4, 1, 1, 0, [])), (13, (25, 3, 37, 3, [])), (16, (22, 1, 0, 0, []))]
theorem os_X11_isKeySet : oA MT mX11_isKeySet ops_X11_isKeySet := (oA.cons oX11_isKeySet_0 (oA.cons oX11_isKeySet_1 (oA.cons oX11_isKeySet_2 (oA.cons oX11_isKeySet_3 (oA.cons oX11_isKeySet_4 (oA.cons oX11_isKeySet_7 (oA.cons oX11_isKeySet_10 (oA.cons oX11_isKeySet_11 (oA.cons oX11_isKeySet_12 (oA.cons oX11_isKeySet_13 (oA.cons oX11_isKeySet_16 oA.nil)))))))))))
theorem dX4_fewest_0 : decode cX4_fewest 0 = .ok (.iload_n 3, 1) := by decide +kernel
theorem dX4_fewest_1 : decode cX4_fewest 1 = .ok (.aload_n 0, 1) := by decide +kernel
theorem dX4_fewest_2 : decode cX4_fewest 2 = .ok (.getfield 21, 3) := by decide +kernel
theorem dX4_fewest_5 : decode cX4_fewest 5 = .ok (.getfield 62, 3) := by decide +kernel
theorem dX4_fewest_8 : decode cX4_fewest 8 = .ok (.iconst (-1), 1) := by decide +kernel
theorem dX4_fewest_9 : decode cX4_fewest 9 = .ok (.ixor, 1) := by decide +kernel
theorem dX4_fewest_10 : decode cX4_fewest 10 = .ok (.iand, 1) := by decide +kernel
theorem dX4_fewest_11 : decode cX4_fewest 11 = .ok (.ifCond .ne 5, 3) := by decide +kernel
theorem dX4_fewest_14 : decode cX4_fewest 14 = .ok (.iconst 0, 1) := by decide +kernel
theorem dX4_fewest_15 : decode cX4_fewest 15 = .ok (.ireturn, 1) := by decide +kernel
theorem dX4_fewest_16 : decode cX4_fewest 16 = .ok (.aload_n 0, 1) := by decide +kernel
theorem dX4_fewest_17 : decode cX4_fewest 17 = .ok (.iload_n 1, 1) := by decide +kernel
theorem dX4_fewest_18 : decode cX4_fewest 18 = .ok (.iload_n 2, 1) := by decide +kernel
theorem dX4_fewest_19 : decode cX4_fewest 19 = .ok (.invokevirtual 31, 3) := by decide +kernel
theorem dX4_fewest_22 : decode cX4_fewest 22 = .ok (.ifCond .eq 5, 3) := by decide +kernel
theorem dX4_fewest_25 : decode cX4_fewest 25 = .ok (.iconst 5, 1) := by decide +kernel
theorem dX4_fewest_26 : decode cX4_fewest 26 = .ok (.ireturn, 1) := by decide +kernel
theorem dX4_fewest_27 : decode cX4_fewest 27 = .ok (.iconst 5, 1) := by decide +kernel
theorem dX4_fewest_28 : decode cX4_fewest 28 = .ok (.istore 4, 2) := by decide +kernel
theorem dX4_fewest_30 : decode cX4_fewest 30 = .ok (.aload_n 0, 1) := by decide +kernel
theorem dX4_fewest_31 : decode cX4_fewest 31 = .ok (.getfield 21, 3) := by decide +kernel
theorem dX4_fewest_34 : decode cX4_fewest 34 = .ok (.iload_n 1, 1) := by decide +kernel
theorem dX4_fewest_35 : decode cX4_fewest 35 = .ok (.invokevirtual 35, 3) := by decide +kernel
theorem dX4_fewest_38 : decode cX4_fewest 38 = .ok (.iconst 0, 1) := by decide +kernel
theorem dX4_fewest_39 : decode cX4_fewest 39 = .ok (.istore 5, 2) := by decide +kernel
theorem dX4_fewest_41 : decode cX4_fewest 41 = .ok (.iload 5, 2) := by decide +kernel
theorem dX4_fewest_43 : decode cX4_fewest 43 = .ok (.aload_n 0, 1) := by decide +kernel
theorem dX4_fewest_44 : decode cX4_fewest 44 = .ok (.getfield 21, 3) := by decide +kernel
theorem dX4_fewest_47 : decode cX4_fewest 47 = .ok (.getfield 39, 3) := by decide +kernel
theorem dX4_fewest_50 : decode cX4_fewest 50 = .ok (.if_icmp .gt 79, 3) := by decide +kernel
theorem dX4_fewest_53 : decode cX4_fewest 53 = .ok (.aload_n 0, 1) := by decide +kernel
theorem dX4_fewest_54 : decode cX4_fewest 54 = .ok (.getfield 21, 3) := by decide +kernel
theorem dX4_fewest_57 : decode cX4_fewest 57 = .ok (.iload 5, 2) := by decide +kernel
theorem dX4_fewest_59 : decode cX4_fewest 59 = .ok (.invokevirtual 43, 3) := by decide +kernel
theorem dX4_fewest_62 : decode cX4_fewest 62 = .ok (.istore 6, 2) := by decide +kernel
theorem dX4_fewest_64 : decode cX4_fewest 64 = .ok (.iload 5, 2) := by decide +kernel
theorem dX4_fewest_66 : decode cX4_fewest 66 = .ok (.ifCond .eq 8, 3) := by decide +kernel
theorem dX4_fewest_69 : decode cX4_fewest 69 = .ok (.iload 6, 2) := by decide +kernel
theorem dX4_fewest_71 : decode cX4_fewest 71 = .ok (.ifCond .le 52, 3) := by decide +kernel
theorem dX4_fewest_74 : decode cX4_fewest 74 = .ok (.aload_n 0, 1) := by decide +kernel
theorem dX4_fewest_75 : decode cX4_fewest 75 = .ok (.getfield 21, 3) := by decide +kernel
theorem dX4_fewest_78 : decode cX4_fewest 78 = .ok (.invokevirtual 47, 3) := by decide +kernel
theorem dX4_fewest_81 : decode cX4_fewest 81 = .ok (.pop, 1) := by decide +kernel
theorem dX4_fewest_82 : decode cX4_fewest 82 = .ok (.aload_n 0, 1) := by decide +kernel
theorem dX4_fewest_83 : decode cX4_fewest 83 = .ok (.iload_n 1, 1) := by decide +kernel
theorem dX4_fewest_84 : decode cX4_fewest 84 = .ok (.iconst 1, 1) := by decide +kernel
theorem dX4_fewest_85 : decode cX4_fewest 85 = .ok (.iadd, 1) := by decide +kernel
theorem dX4_fewest_86 : decode cX4_fewest 86 = .ok (.iload_n 2, 1) := by decide +kernel
theorem dX4_fewest_87 : decode cX4_fewest 87 = .ok (.iconst 1, 1) := by decide +kernel
theorem dX4_fewest_88 : decode cX4_fewest 88 = .ok (.isub, 1) := by decide +kernel
theorem dX4_fewest_89 : decode cX4_fewest 89 = .ok (.iload_n 3, 1) := by decide +kernel
theorem dX4_fewest_90 : decode cX4_fewest 90 = .ok (.invokevirtual 65, 3) := by decide +kernel
theorem dX4_fewest_93 : decode cX4_fewest 93 = .ok (.iload 5, 2) := by decide +kernel
theorem dX4_fewest_95 : decode cX4_fewest 95 = .ok (.ifCond .ne 7, 3) := by decide +kernel
theorem dX4_fewest_98 : decode cX4_fewest 98 = .ok (.iconst 0, 1) := by decide +kernel
theorem dX4_fewest_99 : decode cX4_fewest 99 = .ok (.goto 4, 3) := by decide +kernel
theorem dX4_fewest_102 : decode cX4_fewest 102 = .ok (.iconst 1, 1) := by decide +kernel
theorem dX4_fewest_103 : decode cX4_fewest 103 = .ok (.iadd, 1) := by decide +kernel
theorem dX4_fewest_104 : decode cX4_fewest 104 = .ok (.istore 7, 2) := by decide +kernel
theorem dX4_fewest_106 : decode cX4_fewest 106 = .ok (.iload 4, 2) := by decide +kernel
theorem dX4_fewest_108 : decode cX4_fewest 108 = .ok (.iload 7, 2) := by decide +kernel
theorem dX4_fewest_110 : decode cX4_fewest 110 = .ok (.invokestatic 69, 3) := by decide +kernel
theorem dX4_fewest_113 : decode cX4_fewest 113 = .ok (.istore 4, 2) := by decide +kernel
theorem dX4_fewest_115 : decode cX4_fewest 115 = .ok (.aload_n 0, 1) := by decide +kernel
theorem dX4_fewest_116 : decode cX4_fewest 116 = .ok (.getfield 21, 3) := by decide +kernel
theorem dX4_fewest_119 : decode cX4_fewest 119 = .ok (.iload_n 1, 1) := by decide +kernel
theorem dX4_fewest_120 : decode cX4_fewest 120 = .ok (.invokevirtual 55, 3) := by decide +kernel
theorem dX4_fewest_123 : decode cX4_fewest 123 = .ok (.iinc 5 1, 3) := by decide +kernel
theorem dX4_fewest_126 : decode cX4_fewest 126 = .ok (.goto (-85), 3) := by decide +kernel
theorem dX4_fewest_129 : decode cX4_fewest 129 = .ok (.iload 4, 2) := by decide +kernel
theorem dX4_fewest_131 : decode cX4_fewest 131 = .ok (.ireturn, 1) := by decide +kernel
theorem oX4_fewest_0 : oP MT mX4_fewest 0 (1, 1, 3, 0, []) := o_iload_n dX4_fewest_0 rfl
theorem oX4_fewest_1 : oP MT mX4_fewest 1 (1, 1, 0, 1, []) := o_aload_n dX4_fewest_1 rfl
theorem oX4_fewest_2 : oP MT mX4_fewest 2 (13, 3, 0, 4, []) := o_getR (M := mX4_fewest) (C := RX4) (T := TX4) (ci := 4) (j := 0) (z := 4) dX4_fewest_2 rfl lq_RX4_21 rfl rfl
theorem oX4_fewest_5 : oP MT mX4_fewest 5 (12, 3, 9, 1, []) := o_getI (M := mX4_fewest) (C := RX1) (T := TX1) (ci := 1) (j := 9) (z := 1) dX4_fewest_5 rfl lq_RX4_62 rfl rfl
theorem oX4_fewest_8 : oP MT mX4_fewest 8 (0, 1, 0, (-1), []) := o_iconst dX4_fewest_8 (by decide)
theorem oX4_fewest_9 : oP MT mX4_fewest 9 (4, 1, 5, 0, []) := o_ixor dX4_fewest_9
theorem oX4_fewest_10 : oP MT mX4_fewest 10 (4, 1, 3, 0, []) := o_iand dX4_fewest_10
theorem oX4_fewest_11 : oP MT mX4_fewest 11 (10, 3, 1, 16, []) := o_if_ne dX4_fewest_11 (by decide) (by decide)
theorem oX4_fewest_14 : oP MT mX4_fewest 14 (0, 1, 0, 0, []) := o_iconst dX4_fewest_14 (by decide)
theorem oX4_fewest_15 : oP MT mX4_fewest 15 (21, 1, 0, 0, []) := o_iret dX4_fewest_15 rfl
theorem oX4_fewest_16 : oP MT mX4_fewest 16 (1, 1, 0, 1, []) := o_aload_n dX4_fewest_16 rfl
theorem oX4_fewest_17 : oP MT mX4_fewest 17 (1, 1, 1, 0, []) := o_iload_n dX4_fewest_17 rfl
theorem oX4_fewest_18 : oP MT mX4_fewest 18 (1, 1, 2, 0, []) := o_iload_n dX4_fewest_18 rfl
theorem oX4_fewest_19 : oP MT mX4_fewest 19 (26, 3, 0, 2, [(4, 49)]) := o_callO ((vA.cons (v_callV dX4_fewest_19 (ci := 4) rfl rfl (mj := mX4_isLast) mt_X4_isLast cmq_X4_isLast wq_337 wq_340 wq_341 (by decide) (by decide)) vA.nil))
theorem oX4_fewest_22 : oP MT mX4_fewest 22 (10, 3, 0, 27, []) := o_if_eq dX4_fewest_22 (by decide) (by decide)
theorem oX4_fewest_25 : oP MT mX4_fewest 25 (0, 1, 0, 5, []) := o_iconst dX4_fewest_25 (by decide)
theorem oX4_fewest_26 : oP MT mX4_fewest 26 (21, 1, 0, 0, []) := o_iret dX4_fewest_26 rfl
theorem oX4_fewest_27 : oP MT mX4_fewest 27 (0, 1, 0, 5, []) := o_iconst dX4_fewest_27 (by decide)
theorem oX4_fewest_28 : oP MT mX4_fewest 28 (2, 2, 4, 0, []) := o_istore dX4_fewest_28 (by decide)
theorem oX4_fewest_30 : oP MT mX4_fewest 30 (1, 1, 0, 1, []) := o_aload_n dX4_fewest_30 rfl
theorem oX4_fewest_31 : oP MT mX4_fewest 31 (13, 3, 0, 4, []) := o_getR (M := mX4_fewest) (C := RX4) (T := TX4) (ci := 4) (j := 0) (z := 4) dX4_fewest_31 rfl lq_RX4_21 rfl rfl
theorem oX4_fewest_34 : oP MT mX4_fewest 34 (1, 1, 1, 0, []) := o_iload_n dX4_fewest_34 rfl
theorem oX4_fewest_35 : oP MT mX4_fewest 35 (26, 3, 0, 1, [(1, 50)]) := o_callO ((vA.cons (v_callV dX4_fewest_35 (ci := 1) rfl rfl (mj := mX1_save) mt_X1_save cmq_X1_save wq_342 wq_312 wq_313 (by decide) (by decide)) vA.nil))
theorem oX4_fewest_38 : oP MT mX4_fewest 38 (0, 1, 0, 0, []) := o_iconst dX4_fewest_38 (by decide)
theorem oX4_fewest_39 : oP MT mX4_fewest 39 (2, 2, 5, 0, []) := o_istore dX4_fewest_39 (by decide)
theorem oX4_fewest_41 : oP MT mX4_fewest 41 (1, 2, 5, 0, []) := o_iload dX4_fewest_41
theorem oX4_fewest_43 : oP MT mX4_fewest 43 (1, 1, 0, 1, []) := o_aload_n dX4_fewest_43 rfl
theorem oX4_fewest_44 : oP MT mX4_fewest 44 (13, 3, 0, 4, []) := o_getR (M := mX4_fewest) (C := RX4) (T := TX4) (ci := 4) (j := 0) (z := 4) dX4_fewest_44 rfl lq_RX4_21 rfl rfl
theorem oX4_fewest_47 : oP MT mX4_fewest 47 (12, 3, 8, 1, []) := o_getI (M := mX4_fewest) (C := RX1) (T := TX1) (ci := 1) (j := 8) (z := 1) dX4_fewest_47 rfl lq_RX4_39 rfl rfl
theorem oX4_fewest_50 : oP MT mX4_fewest 50 (11, 3, 4, 129, []) := o_icmp_gt dX4_fewest_50 (by decide) (by decide)
theorem oX4_fewest_53 : oP MT mX4_fewest 53 (1, 1, 0, 1, []) := o_aload_n dX4_fewest_53 rfl
theorem oX4_fewest_54 : oP MT mX4_fewest 54 (13, 3, 0, 4, []) := o_getR (M := mX4_fewest) (C := RX4) (T := TX4) (ci := 4) (j := 0) (z := 4) dX4_fewest_54 rfl lq_RX4_21 rfl rfl
theorem oX4_fewest_57 : oP MT mX4_fewest 57 (1, 2, 5, 0, []) := o_iload dX4_fewest_57
theorem oX4_fewest_59 : oP MT mX4_fewest 59 (26, 3, 0, 1, [(1, 29)]) := o_callO ((vA.cons (v_callV dX4_fewest_59 (ci := 1) rfl rfl (mj := mX1_tell) mt_X1_tell cmq_X1_tell wq_343 wq_299 wq_300 (by decide) (by decide)) vA.nil))
theorem oX4_fewest_62 : oP MT mX4_fewest 62 (2, 2, 6, 0, []) := o_istore dX4_fewest_62 (by decide)
theorem oX4_fewest_64 : oP MT mX4_fewest 64 (1, 2, 5, 0, []) := o_iload dX4_fewest_64
theorem oX4_fewest_66 : oP MT mX4_fewest 66 (10, 3, 0, 74, []) := o_if_eq dX4_fewest_66 (by decide) (by decide)
theorem oX4_fewest_69 : oP MT mX4_fewest 69 (1, 2, 6, 0, []) := o_iload dX4_fewest_69
theorem oX4_fewest_71 : oP MT mX4_fewest 71 (10, 3, 5, 123, []) := o_if_le dX4_fewest_71 (by decide) (by decide)
theorem oX4_fewest_74 : oP MT mX4_fewest 74 (1, 1, 0, 1, []) := o_aload_n dX4_fewest_74 rfl
theorem oX4_fewest_75 : oP MT mX4_fewest 75 (13, 3, 0, 4, []) := o_getR (M := mX4_fewest) (C := RX4) (T := TX4) (ci := 4) (j := 0) (z := 4) dX4_fewest_75 rfl lq_RX4_21 rfl rfl
theorem oX4_fewest_78 : oP MT mX4_fewest 78 (26, 3, 0, 0, [(1, 30)]) := o_callO ((vA.cons (v_callV dX4_fewest_78 (ci := 1) rfl rfl (mj := mX1_melt) mt_X1_melt cmq_X1_melt wq_344 wq_303 wq_304 (by decide) (by decide)) vA.nil))
theorem oX4_fewest_81 : oP MT mX4_fewest 81 (8, 1, 0, 0, []) := o_pop dX4_fewest_81
theorem oX4_fewest_82 : oP MT mX4_fewest 82 (1, 1, 0, 1, []) := o_aload_n dX4_fewest_82 rfl
theorem oX4_fewest_83 : oP MT mX4_fewest 83 (1, 1, 1, 0, []) := o_iload_n dX4_fewest_83 rfl
theorem oX4_fewest_84 : oP MT mX4_fewest 84 (0, 1, 0, 1, []) := o_iconst dX4_fewest_84 (by decide)
theorem oX4_fewest_85 : oP MT mX4_fewest 85 (4, 1, 0, 0, []) := o_iadd dX4_fewest_85
theorem oX4_fewest_86 : oP MT mX4_fewest 86 (1, 1, 2, 0, []) := o_iload_n dX4_fewest_86 rfl
theorem oX4_fewest_87 : oP MT mX4_fewest 87 (0, 1, 0, 1, []) := o_iconst dX4_fewest_87 (by decide)
theorem oX4_fewest_88 : oP MT mX4_fewest 88 (4, 1, 1, 0, []) := o_isub dX4_fewest_88
theorem oX4_fewest_89 : oP MT mX4_fewest 89 (1, 1, 3, 0, []) := o_iload_n dX4_fewest_89 rfl
theorem oX4_fewest_90 : oP MT mX4_fewest 90 (26, 3, 0, 3, [(4, 93)]) := o_callO ((vA.cons (v_callV dX4_fewest_90 (ci := 4) rfl rfl (mj := mX4_fewest) mt_X4_fewest cmq_X4_fewest wq_354 wq_356 wq_357 (by decide) (by decide)) vA.nil))
theorem oX4_fewest_93 : oP MT mX4_fewest 93 (1, 2, 5, 0, []) := o_iload dX4_fewest_93
theorem oX4_fewest_95 : oP MT mX4_fewest 95 (10, 3, 1, 102, []) := o_if_ne dX4_fewest_95 (by decide) (by decide)
theorem oX4_fewest_98 : oP MT mX4_fewest 98 (0, 1, 0, 0, []) := o_iconst dX4_fewest_98 (by decide)
theorem oX4_fewest_99 : oP MT mX4_fewest 99 (9, 3, 103, 0, []) := o_goto dX4_fewest_99 (by decide)
theorem oX4_fewest_102 : oP MT mX4_fewest 102 (0, 1, 0, 1, []) := o_iconst dX4_fewest_102 (by decide)
theorem oX4_fewest_103 : oP MT mX4_fewest 103 (4, 1, 0, 0, []) := o_iadd dX4_fewest_103
theorem oX4_fewest_104 : oP MT mX4_fewest 104 (2, 2, 7, 0, []) := o_istore dX4_fewest_104 (by decide)
theorem oX4_fewest_106 : oP MT mX4_fewest 106 (1, 2, 4, 0, []) := o_iload dX4_fewest_106
theorem oX4_fewest_108 : oP MT mX4_fewest 108 (1, 2, 7, 0, []) := o_iload dX4_fewest_108
theorem oX4_fewest_110 : oP MT mX4_fewest 110 (27, 3, 1, 0, []) := o_min dX4_fewest_110 wq_358 wq_40 wq_17 wq_41
theorem oX4_fewest_113 : oP MT mX4_fewest 113 (2, 2, 4, 0, []) := o_istore dX4_fewest_113 (by decide)
theorem oX4_fewest_115 : oP MT mX4_fewest 115 (1, 1, 0, 1, []) := o_aload_n dX4_fewest_115 rfl
theorem oX4_fewest_116 : oP MT mX4_fewest 116 (13, 3, 0, 4, []) := o_getR (M := mX4_fewest) (C := RX4) (T := TX4) (ci := 4) (j := 0) (z := 4) dX4_fewest_116 rfl lq_RX4_21 rfl rfl
theorem oX4_fewest_119 : oP MT mX4_fewest 119 (1, 1, 1, 0, []) := o_iload_n dX4_fewest_119 rfl
theorem oX4_fewest_120 : oP MT mX4_fewest 120 (26, 3, 0, 1, [(1, 51)]) := o_callO ((vA.cons (v_callV dX4_fewest_120 (ci := 1) rfl rfl (mj := mX1_restore) mt_X1_restore cmq_X1_restore wq_349 wq_320 wq_321 (by decide) (by decide)) vA.nil))
theorem oX4_fewest_123 : oP MT mX4_fewest 123 (3, 3, 5, 1, []) := o_iinc dX4_fewest_123 (by decide) (by decide)
theorem oX4_fewest_126 : oP MT mX4_fewest 126 (9, 3, 41, 0, []) := o_goto dX4_fewest_126 (by decide)
theorem oX4_fewest_129 : oP MT mX4_fewest 129 (1, 2, 4, 0, []) := o_iload dX4_fewest_129
theorem oX4_fewest_131 : oP MT mX4_fewest 131 (21, 1, 0, 0, []) := o_iret dX4_fewest_131 rfl
def ops_X4_fewest : List (Nat × aO) := [(0, (1, 1, 3, 0, [])), (1, (1, 1, 0, 1, [])), (2, (13, 3, 0, 4, [])), (5, (12, 3, 9, 1, [])), (8, (0, 1, 0, (-1), [])), (9, (4, 1, 5, 0, [])), (10, (4, 1, 3, 0, [])), (11, (10, 3, 1, 16, [])), (14, (0, 1, 0, 0, [])), (15, (21, 1, 0, 0, [])), (16, (1, 1, 0, 1, [])), (17, (1, 1, 1, 0, [])), (18, (1, 1, 2, 0, [])), (19, (26, 3, 0, 2, [(4, 49)])), (22, (10, 3, 0, 27, [])), (25, (0, 1, 0, 5, [])), (26, (21, 1, 0, 0, [])), (27, (0, 1, 0, 5, [])), (28, (2, 2, 4, 0, [])), (30, (1, 1, 0, 1, [])), (31, (13, 3, 0, 4, [])), (34, (1, 1, 1, 0, [])), (35, (26, 3, 0, 1, [(1, 50)])), (38, (0, 1, 0, 0, [])), (39, (2, 2, 5, 0, [])), (41, (1, 2, 5, 0, [])), (43, (1, 1, 0, 1, [])), (44, (13, 3, 0, 4, [])), (47, (12, 3, 8, 1, [])), (50, (11, 3, 4, 129, [])), (53, (1, 1, 0, 1, [])), (54, (13, 3, 0, 4, [])), (57, (1, 2, 5, 0, [])), (59, (26, 3, 0, 1, [(1, 29)])), (62, (2, 2, 6, 0, [])), (64, (1, 2, 5, 0, [])), (66, (10, 3, 0, 74, [])), (69, (1, 2, 6, 0, [])), (71, (10, 3, 5, 123, [])), (74, (1, 1, 0, 1, [])), (75, (13, 3, 0, 4, [])), (78, (26, 3, 0, 0, [(1, 30)])), (81, (8, 1, 0, 0, [])), (82, (1, 1, 0, 1, [])), (83, (1, 1, 1, 0, [])), (84, (0, 1, 0, 1, [])), (85, (4, 1, 0, 0, [])), (86, (1, 1, 2, 0, [])), (87, (0, 1, 0, 1, [])), (88, (4, 1, 1, 0, [])), (89, (1, 1, 3, 0, [])), (90, (26, 3, 0, 3, [(4, 93)])), (93, (1, 2, 5, 0, [])), (95, (10, 3, 1, 102, [])), (98, (0, 1, 0, 0, [])), (99, (9, 3, 103, 0, [])), (102, (0, 1, 0, 1, [])), (103, (4, 1, 0, 0, [])), (104, (2, 2, 7, 0, [])), (106, (1, 2, 4, 0, [])), (108, (1, 2, 7, 0, [])), (110, (27, 3, 1, 0, [])), (113, (2, 2, 4, 0, [])), (115, (1, 1, 0, 1, [])), (116, (13, 3, 0, 4, [])), (119, (1, 1, 1, 0, [])), (120, (26, 3, 0, 1, [(1, 51)])), (123, (3, 3, 5, 1, [])), (126, (9, 3, 41, 0, [])), (129, (1, 2, 4, 0, [])), (131, (21, 1, 0, 0, []))]
theorem os_X4_fewest : oA MT mX4_fewest ops_X4_fewest := (oA.cons oX4_fewest_0 (oA.cons oX4_fewest_1 (oA.cons oX4_fewest_2 (oA.cons oX4_fewest_5 (oA.cons oX4_fewest_8 (oA.cons oX4_fewest_9 (oA.cons oX4_fewest_10 (oA.cons oX4_fewest_11 (oA.cons oX4_fewest_14 (oA.cons oX4_fewest_15 (oA.cons oX4_fewest_16 (oA.cons oX4_fewest_17 (oA.cons oX4_fewest_18 (oA.cons oX4_fewest_19 (oA.cons oX4_fewest_22 (oA.cons oX4_fewest_25 (oA.cons oX4_fewest_26 (oA.cons oX4_fewest_27 (oA.cons oX4_fewest_28 (oA.cons oX4_fewest_30 (oA.cons oX4_fewest_31 (oA.cons oX4_fewest_34 (oA.cons oX4_fewest_35 (oA.cons oX4_fewest_38 (oA.cons oX4_fewest_39 (oA.cons oX4_fewest_41 (oA.cons oX4_fewest_43 (oA.cons oX4_fewest_44 (oA.cons oX4_fewest_47 (oA.cons oX4_fewest_50 (oA.cons oX4_fewest_53 (oA.cons oX4_fewest_54 (oA.cons oX4_fewest_57 (oA.cons oX4_fewest_59 (oA.cons oX4_fewest_62 (oA.cons oX4_fewest_64 (oA.cons oX4_fewest_66 (oA.cons oX4_fewest_69 (oA.cons oX4_fewest_71 (oA.cons oX4_fewest_74 (oA.cons oX4_fewest_75 (oA.cons oX4_fewest_78 (oA.cons oX4_fewest_81 (oA.cons oX4_fewest_82 (oA.cons oX4_fewest_83 (oA.cons oX4_fewest_84 (oA.cons oX4_fewest_85 (oA.cons oX4_fewest_86 (oA.cons oX4_fewest_87 (oA.cons oX4_fewest_88 (oA.cons oX4_fewest_89 (oA.cons oX4_fewest_90 (oA.cons oX4_fewest_93 (oA.cons oX4_fewest_95 (oA.cons oX4_fewest_98 (oA.cons oX4_fewest_99 (oA.cons oX4_fewest_102 (oA.cons oX4_fewest_103 (oA.cons oX4_fewest_104 (oA.cons oX4_fewest_106 (oA.cons oX4_fewest_108 (oA.cons oX4_fewest_110 (oA.cons oX4_fewest_113 (oA.cons oX4_fewest_115 (oA.cons oX4_fewest_116 (oA.cons oX4_fewest_119 (oA.cons oX4_fewest_120 (oA.cons oX4_fewest_123 (oA.cons oX4_fewest_126 (oA.cons oX4_fewest_129 (oA.cons oX4_fewest_131 oA.nil)))))))))))))))))))))))))))))))))))))))))))))))))))))))))))))))))))))))
theorem dX4_reach_0 : decode cX4_reach 0 = .ok (.aload_n 0, 1) := by decide +kernel
theorem dX4_reach_1 : decode cX4_reach 1 = .ok (.getfield 21, 3) := by decide +kernel
theorem dX4_reach_4 : decode cX4_reach 4 = .ok (.getfield 62, 3) := by decide +kernel
theorem dX4_reach_7 : decode cX4_reach 7 = .ok (.istore_n 3, 1) := by decide +kernel
theorem dX4_reach_8 : decode cX4_reach 8 = .ok (.aload_n 0, 1) := by decide +kernel
theorem dX4_reach_9 : decode cX4_reach 9 = .ok (.iload_n 1, 1) := by decide +kernel
theorem dX4_reach_10 : decode cX4_reach 10 = .ok (.iload_n 2, 1) := by decide +kernel
theorem dX4_reach_11 : decode cX4_reach 11 = .ok (.invokevirtual 31, 3) := by decide +kernel
theorem dX4_reach_14 : decode cX4_reach 14 = .ok (.ifCond .eq 5, 3) := by decide +kernel
theorem dX4_reach_17 : decode cX4_reach 17 = .ok (.iload_n 3, 1) := by decide +kernel
theorem dX4_reach_18 : decode cX4_reach 18 = .ok (.ireturn, 1) := by decide +kernel
theorem dX4_reach_19 : decode cX4_reach 19 = .ok (.aload_n 0, 1) := by decide +kernel
theorem dX4_reach_20 : decode cX4_reach 20 = .ok (.getfield 21, 3) := by decide +kernel
theorem dX4_reach_23 : decode cX4_reach 23 = .ok (.iload_n 1, 1) := by decide +kernel
theorem dX4_reach_24 : decode cX4_reach 24 = .ok (.invokevirtual 35, 3) := by decide +kernel
theorem dX4_reach_27 : decode cX4_reach 27 = .ok (.iconst 0, 1) := by decide +kernel
theorem dX4_reach_28 : decode cX4_reach 28 = .ok (.istore 4, 2) := by decide +kernel
theorem dX4_reach_30 : decode cX4_reach 30 = .ok (.iload 4, 2) := by decide +kernel
theorem dX4_reach_32 : decode cX4_reach 32 = .ok (.aload_n 0, 1) := by decide +kernel
theorem dX4_reach_33 : decode cX4_reach 33 = .ok (.getfield 21, 3) := by decide +kernel
theorem dX4_reach_36 : decode cX4_reach 36 = .ok (.getfield 39, 3) := by decide +kernel
theorem dX4_reach_39 : decode cX4_reach 39 = .ok (.if_icmp .gt 59, 3) := by decide +kernel
theorem dX4_reach_42 : decode cX4_reach 42 = .ok (.aload_n 0, 1) := by decide +kernel
theorem dX4_reach_43 : decode cX4_reach 43 = .ok (.getfield 21, 3) := by decide +kernel
theorem dX4_reach_46 : decode cX4_reach 46 = .ok (.iload 4, 2) := by decide +kernel
theorem dX4_reach_48 : decode cX4_reach 48 = .ok (.invokevirtual 43, 3) := by decide +kernel
theorem dX4_reach_51 : decode cX4_reach 51 = .ok (.istore 5, 2) := by decide +kernel
theorem dX4_reach_53 : decode cX4_reach 53 = .ok (.iload 4, 2) := by decide +kernel
theorem dX4_reach_55 : decode cX4_reach 55 = .ok (.ifCond .eq 8, 3) := by decide +kernel
theorem dX4_reach_58 : decode cX4_reach 58 = .ok (.iload 5, 2) := by decide +kernel
theorem dX4_reach_60 : decode cX4_reach 60 = .ok (.ifCond .le 32, 3) := by decide +kernel
theorem dX4_reach_63 : decode cX4_reach 63 = .ok (.aload_n 0, 1) := by decide +kernel
theorem dX4_reach_64 : decode cX4_reach 64 = .ok (.getfield 21, 3) := by decide +kernel
theorem dX4_reach_67 : decode cX4_reach 67 = .ok (.invokevirtual 47, 3) := by decide +kernel
theorem dX4_reach_70 : decode cX4_reach 70 = .ok (.pop, 1) := by decide +kernel
theorem dX4_reach_71 : decode cX4_reach 71 = .ok (.iload_n 3, 1) := by decide +kernel
theorem dX4_reach_72 : decode cX4_reach 72 = .ok (.aload_n 0, 1) := by decide +kernel
theorem dX4_reach_73 : decode cX4_reach 73 = .ok (.iload_n 1, 1) := by decide +kernel
theorem dX4_reach_74 : decode cX4_reach 74 = .ok (.iconst 1, 1) := by decide +kernel
theorem dX4_reach_75 : decode cX4_reach 75 = .ok (.iadd, 1) := by decide +kernel
theorem dX4_reach_76 : decode cX4_reach 76 = .ok (.iload_n 2, 1) := by decide +kernel
theorem dX4_reach_77 : decode cX4_reach 77 = .ok (.iconst 1, 1) := by decide +kernel
theorem dX4_reach_78 : decode cX4_reach 78 = .ok (.isub, 1) := by decide +kernel
theorem dX4_reach_79 : decode cX4_reach 79 = .ok (.invokevirtual 75, 3) := by decide +kernel
theorem dX4_reach_82 : decode cX4_reach 82 = .ok (.ior, 1) := by decide +kernel
theorem dX4_reach_83 : decode cX4_reach 83 = .ok (.istore_n 3, 1) := by decide +kernel
theorem dX4_reach_84 : decode cX4_reach 84 = .ok (.aload_n 0, 1) := by decide +kernel
theorem dX4_reach_85 : decode cX4_reach 85 = .ok (.getfield 21, 3) := by decide +kernel
theorem dX4_reach_88 : decode cX4_reach 88 = .ok (.iload_n 1, 1) := by decide +kernel
theorem dX4_reach_89 : decode cX4_reach 89 = .ok (.invokevirtual 55, 3) := by decide +kernel
theorem dX4_reach_92 : decode cX4_reach 92 = .ok (.iinc 4 1, 3) := by decide +kernel
theorem dX4_reach_95 : decode cX4_reach 95 = .ok (.goto (-65), 3) := by decide +kernel
theorem dX4_reach_98 : decode cX4_reach 98 = .ok (.iload_n 3, 1) := by decide +kernel
theorem dX4_reach_99 : decode cX4_reach 99 = .ok (.ireturn, 1) := by decide +kernel
theorem oX4_reach_0 : oP MT mX4_reach 0 (1, 1, 0, 1, []) := o_aload_n dX4_reach_0 rfl
theorem oX4_reach_1 : oP MT mX4_reach 1 (13, 3, 0, 4, []) := o_getR (M := mX4_reach) (C := RX4) (T := TX4) (ci := 4) (j := 0) (z := 4) dX4_reach_1 rfl lq_RX4_21 rfl rfl
theorem oX4_reach_4 : oP MT mX4_reach 4 (12, 3, 9, 1, []) := o_getI (M := mX4_reach) (C := RX1) (T := TX1) (ci := 1) (j := 9) (z := 1) dX4_reach_4 rfl lq_RX4_62 rfl rfl
theorem oX4_reach_7 : oP MT mX4_reach 7 (2, 1, 3, 0, []) := o_istore_n dX4_reach_7 rfl (by decide)
theorem oX4_reach_8 : oP MT mX4_reach 8 (1, 1, 0, 1, []) := o_aload_n dX4_reach_8 rfl
theorem oX4_reach_9 : oP MT mX4_reach 9 (1, 1, 1, 0, []) := o_iload_n dX4_reach_9 rfl
theorem oX4_reach_10 : oP MT mX4_reach 10 (1, 1, 2, 0, []) := o_iload_n dX4_reach_10 rfl
theorem oX4_reach_11 : oP MT mX4_reach 11 (26, 3, 0, 2, [(4, 49)]) := o_callO ((vA.cons (v_callV dX4_reach_11 (ci := 4) rfl rfl (mj := mX4_isLast) mt_X4_isLast cmq_X4_isLast wq_337 wq_340 wq_341 (by decide) (by decide)) vA.nil))
theorem oX4_reach_14 : oP MT mX4_reach 14 (10, 3, 0, 19, []) := o_if_eq dX4_reach_14 (by decide) (by decide)
theorem oX4_reach_17 : oP MT mX4_reach 17 (1, 1, 3, 0, []) := o_iload_n dX4_reach_17 rfl
theorem oX4_reach_18 : oP MT mX4_reach 18 (21, 1, 0, 0, []) := o_iret dX4_reach_18 rfl
theorem oX4_reach_19 : oP MT mX4_reach 19 (1, 1, 0, 1, []) := o_aload_n dX4_reach_19 rfl
theorem oX4_reach_20 : oP MT mX4_reach 20 (13, 3, 0, 4, []) := o_getR (M := mX4_reach) (C := RX4) (T := TX4) (ci := 4) (j := 0) (z := 4) dX4_reach_20 rfl lq_RX4_21 rfl rfl
theorem oX4_reach_23 : oP MT mX4_reach 23 (1, 1, 1, 0, []) := o_iload_n dX4_reach_23 rfl
theorem oX4_reach_24 : oP MT mX4_reach 24 (26, 3, 0, 1, [(1, 50)]) := o_callO ((vA.cons (v_callV dX4_reach_24 (ci := 1) rfl rfl (mj := mX1_save) mt_X1_save cmq_X1_save wq_342 wq_312 wq_313 (by decide) (by decide)) vA.nil))
theorem oX4_reach_27 : oP MT mX4_reach 27 (0, 1, 0, 0, []) := o_iconst dX4_reach_27 (by decide)
theorem oX4_reach_28 : oP MT mX4_reach 28 (2, 2, 4, 0, []) := o_istore dX4_reach_28 (by decide)
theorem oX4_reach_30 : oP MT mX4_reach 30 (1, 2, 4, 0, []) := o_iload dX4_reach_30
theorem oX4_reach_32 : oP MT mX4_reach 32 (1, 1, 0, 1, []) := o_aload_n dX4_reach_32 rfl
theorem oX4_reach_33 : oP MT mX4_reach 33 (13, 3, 0, 4, []) := o_getR (M := mX4_reach) (C := RX4) (T := TX4) (ci := 4) (j := 0) (z := 4) dX4_reach_33 rfl lq_RX4_21 rfl rfl
theorem oX4_reach_36 : oP MT mX4_reach 36 (12, 3, 8, 1, []) := o_getI (M := mX4_reach) (C := RX1) (T := TX1) (ci := 1) (j := 8) (z := 1) dX4_reach_36 rfl lq_RX4_39 rfl rfl
theorem oX4_reach_39 : oP MT mX4_reach 39 (11, 3, 4, 98, []) := o_icmp_gt dX4_reach_39 (by decide) (by decide)
theorem oX4_reach_42 : oP MT mX4_reach 42 (1, 1, 0, 1, []) := o_aload_n dX4_reach_42 rfl
theorem oX4_reach_43 : oP MT mX4_reach 43 (13, 3, 0, 4, []) := o_getR (M := mX4_reach) (C := RX4) (T := TX4) (ci := 4) (j := 0) (z := 4) dX4_reach_43 rfl lq_RX4_21 rfl rfl
theorem oX4_reach_46 : oP MT mX4_reach 46 (1, 2, 4, 0, []) := o_iload dX4_reach_46
theorem oX4_reach_48 : oP MT mX4_reach 48 (26, 3, 0, 1, [(1, 29)]) := o_callO ((vA.cons (v_callV dX4_reach_48 (ci := 1) rfl rfl (mj := mX1_tell) mt_X1_tell cmq_X1_tell wq_343 wq_299 wq_300 (by decide) (by decide)) vA.nil))
theorem oX4_reach_51 : oP MT mX4_reach 51 (2, 2, 5, 0, []) := o_istore dX4_reach_51 (by decide)
theorem oX4_reach_53 : oP MT mX4_reach 53 (1, 2, 4, 0, []) := o_iload dX4_reach_53
theorem oX4_reach_55 : oP MT mX4_reach 55 (10, 3, 0, 63, []) := o_if_eq dX4_reach_55 (by decide) (by decide)
theorem oX4_reach_58 : oP MT mX4_reach 58 (1, 2, 5, 0, []) := o_iload dX4_reach_58
theorem oX4_reach_60 : oP MT mX4_reach 60 (10, 3, 5, 92, []) := o_if_le dX4_reach_60 (by decide) (by decide)
theorem oX4_reach_63 : oP MT mX4_reach 63 (1, 1, 0, 1, []) := o_aload_n dX4_reach_63 rfl
theorem oX4_reach_64 : oP MT mX4_reach 64 (13, 3, 0, 4, []) := o_getR (M := mX4_reach) (C := RX4) (T := TX4) (ci := 4) (j := 0) (z := 4) dX4_reach_64 rfl lq_RX4_21 rfl rfl
theorem oX4_reach_67 : oP MT mX4_reach 67 (26, 3, 0, 0, [(1, 30)]) := o_callO ((vA.cons (v_callV dX4_reach_67 (ci := 1) rfl rfl (mj := mX1_melt) mt_X1_melt cmq_X1_melt wq_344 wq_303 wq_304 (by decide) (by decide)) vA.nil))
theorem oX4_reach_70 : oP MT mX4_reach 70 (8, 1, 0, 0, []) := o_pop dX4_reach_70
theorem oX4_reach_71 : oP MT mX4_reach 71 (1, 1, 3, 0, []) := o_iload_n dX4_reach_71 rfl
theorem oX4_reach_72 : oP MT mX4_reach 72 (1, 1, 0, 1, []) := o_aload_n dX4_reach_72 rfl
theorem oX4_reach_73 : oP MT mX4_reach 73 (1, 1, 1, 0, []) := o_iload_n dX4_reach_73 rfl
theorem oX4_reach_74 : oP MT mX4_reach 74 (0, 1, 0, 1, []) := o_iconst dX4_reach_74 (by decide)
theorem oX4_reach_75 : oP MT mX4_reach 75 (4, 1, 0, 0, []) := o_iadd dX4_reach_75
theorem oX4_reach_76 : oP MT mX4_reach 76 (1, 1, 2, 0, []) := o_iload_n dX4_reach_76 rfl
theorem oX4_reach_77 : oP MT mX4_reach 77 (0, 1, 0, 1, []) := o_iconst dX4_reach_77 (by decide)
theorem oX4_reach_78 : oP MT mX4_reach 78 (4, 1, 1, 0, []) := o_isub dX4_reach_78
theorem oX4_reach_79 : oP MT mX4_reach 79 (26, 3, 0, 2, [(4, 94)]) := o_callO ((vA.cons (v_callV dX4_reach_79 (ci := 4) rfl rfl (mj := mX4_reach) mt_X4_reach cmq_X4_reach wq_359 wq_361 wq_362 (by decide) (by decide)) vA.nil))
theorem oX4_reach_82 : oP MT mX4_reach 82 (4, 1, 4, 0, []) := o_ior dX4_reach_82
theorem oX4_reach_83 : oP MT mX4_reach 83 (2, 1, 3, 0, []) := o_istore_n dX4_reach_83 rfl (by decide)
theorem oX4_reach_84 : oP MT mX4_reach 84 (1, 1, 0, 1, []) := o_aload_n dX4_reach_84 rfl
theorem oX4_reach_85 : oP MT mX4_reach 85 (13, 3, 0, 4, []) := o_getR (M := mX4_reach) (C := RX4) (T := TX4) (ci := 4) (j := 0) (z := 4) dX4_reach_85 rfl lq_RX4_21 rfl rfl
theorem oX4_reach_88 : oP MT mX4_reach 88 (1, 1, 1, 0, []) := o_iload_n dX4_reach_88 rfl
theorem oX4_reach_89 : oP MT mX4_reach 89 (26, 3, 0, 1, [(1, 51)]) := o_callO ((vA.cons (v_callV dX4_reach_89 (ci := 1) rfl rfl (mj := mX1_restore) mt_X1_restore cmq_X1_restore wq_349 wq_320 wq_321 (by decide) (by decide)) vA.nil))
theorem oX4_reach_92 : oP MT mX4_reach 92 (3, 3, 4, 1, []) := o_iinc dX4_reach_92 (by decide) (by decide)
theorem oX4_reach_95 : oP MT mX4_reach 95 (9, 3, 30, 0, []) := o_goto dX4_reach_95 (by decide)
theorem oX4_reach_98 : oP MT mX4_reach 98 (1, 1, 3, 0, []) := o_iload_n dX4_reach_98 rfl
theorem oX4_reach_99 : oP MT mX4_reach 99 (21, 1, 0, 0, []) := o_iret dX4_reach_99 rfl
def ops_X4_reach : List (Nat × aO) := [(0, (1, 1, 0, 1, [])), (1, (13, 3, 0, 4, [])), (4, (12, 3, 9, 1, [])), (7, (2, 1, 3, 0, [])), (8, (1, 1, 0, 1, [])), (9, (1, 1, 1, 0, [])), (10, (1, 1, 2, 0, [])), (11, (26, 3, 0, 2, [(4, 49)])), (14, (10, 3, 0, 19, [])), (17, (1, 1, 3, 0, [])), (18, (21, 1, 0, 0, [])), (19, (1, 1, 0, 1, [])), (20, (13, 3, 0, 4, [])), (23, (1, 1, 1, 0, [])), (24, (26, 3, 0, 1, [(1, 50)])), (27, (0, 1, 0, 0, [])), (28, (2, 2, 4, 0, [])), (30, (1, 2, 4, 0, [])), (32, (1, 1, 0, 1, [])), (33, (13, 3, 0, 4, [])), (36, (12, 3, 8, 1, [])), (39, (11, 3, 4, 98, [])), (42, (1, 1, 0, 1, [])), (43, (13, 3, 0, 4, [])), (46, (1, 2, 4, 0, [])), (48, (26, 3, 0, 1, [(1, 29)])), (51, (2, 2, 5, 0, [])), (53, (1, 2, 4, 0, [])), (55, (10, 3, 0, 63, [])), (58, (1, 2, 5, 0, [])), (60, (10, 3, 5, 92, [])), (63, (1, 1, 0, 1, [])), (64, (13, 3, 0, 4, [])), (67, (26, 3, 0, 0, [(1, 30)])), (70, (8, 1, 0, 0, [])), (71, (1, 1, 3, 0, [])), (72, (1, 1, 0, 1, [])), (73, (1, 1, 1, 0, [])), (74, (0, 1, 0, 1, [])), (75, (4, 1, 0, 0, [])), (76, (1, 1, 2, 0, [])), (77, (0, 1, 0, 1, [])), (78, (4, 1, 1, 0, [])), (79, (26, 3, 0, 2, [(4, 94)])), (82, (4, 1, 4, 0, [])), (83, (2, 1, 3, 0, [])), (84, (1, 1, 0, 1, [])), (85, (13, 3, 0, 4, [])), (88, (1, 1, 1, 0, [])), (89, (26, 3, 0, 1, [(1, 51)])), (92, (3, 3, 4, 1, [])), (95, (9, 3, 30, 0, [])), (98, (1, 1, 3, 0, [])), (99, (21, 1, 0, 0, []))]
theorem os_X4_reach : oA MT mX4_reach ops_X4_reach := (oA.cons oX4_reach_0 (oA.cons oX4_reach_1 (oA.cons oX4_reach_4 (oA.cons oX4_reach_7 (oA.cons oX4_reach_8 (oA.cons oX4_reach_9 (oA.cons oX4_reach_10 (oA.cons oX4_reach_11 (oA.cons oX4_reach_14 (oA.cons oX4_reach_17 (oA.cons oX4_reach_18 (oA.cons oX4_reach_19 (oA.cons oX4_reach_20 (oA.cons oX4_reach_23 (oA.cons oX4_reach_24 (oA.cons oX4_reach_27 (oA.cons oX4_reach_28 (oA.cons oX4_reach_30 (oA.cons oX4_reach_32 (oA.cons oX4_reach_33 (oA.cons oX4_reach_36 (oA.cons oX4_reach_39 (oA.cons oX4_reach_42 (oA.cons oX4_reach_43 (oA.cons oX4_reach_46 (oA.cons oX4_reach_48 (oA.cons oX4_reach_51 (oA.cons oX4_reach_53 (oA.cons oX4_reach_55 (oA.cons oX4_reach_58 (oA.cons oX4_reach_60 (oA.cons oX4_reach_63 (oA.cons oX4_reach_64 (oA.cons oX4_reach_67 (oA.cons oX4_reach_70 (oA.cons oX4_reach_71 (oA.cons oX4_reach_72 (oA.cons oX4_reach_73 (oA.cons oX4_reach_74 (oA.cons oX4_reach_75 (oA.cons oX4_reach_76 (oA.cons oX4_reach_77 (oA.cons oX4_reach_78 (oA.cons oX4_reach_79 (oA.cons oX4_reach_82 (oA.cons oX4_reach_83 (oA.cons oX4_reach_84 (oA.cons oX4_reach_85 (oA.cons oX4_reach_88 (oA.cons oX4_reach_89 (oA.cons oX4_reach_92 (oA.cons oX4_reach_95 (oA.cons oX4_reach_98 (oA.cons oX4_reach_99 oA.nil))))))))))))))))))))))))))))))))))))))))))))))))))))))
theorem dX4_duel_0 : decode cX4_duel 0 = .ok (.aload_n 0, 1) := by decide +kernel
theorem dX4_duel_1 : decode cX4_duel 1 = .ok (.getfield 18, 3) := by decide +kernel
theorem dX4_duel_4 : decode cX4_duel 4 = .ok (.iload_n 1, 1) := by decide +kernel
theorem dX4_duel_5 : decode cX4_duel 5 = .ok (.iconst 0, 1) := by decide +kernel
theorem dX4_duel_6 : decode cX4_duel 6 = .ok (.iastore, 1) := by decide +kernel
theorem dX4_duel_7 : decode cX4_duel 7 = .ok (.aload_n 0, 1) := by decide +kernel
theorem dX4_duel_8 : decode cX4_duel 8 = .ok (.iload_n 1, 1) := by decide +kernel
theorem dX4_duel_9 : decode cX4_duel 9 = .ok (.iload_n 2, 1) := by decide +kernel
theorem dX4_duel_10 : decode cX4_duel 10 = .ok (.invokevirtual 31, 3) := by decide +kernel
theorem dX4_duel_13 : decode cX4_duel 13 = .ok (.ifCond .eq 5, 3) := by decide +kernel
theorem dX4_duel_16 : decode cX4_duel 16 = .ok (.iconst 0, 1) := by decide +kernel
theorem dX4_duel_17 : decode cX4_duel 17 = .ok (.ireturn, 1) := by decide +kernel
theorem dX4_duel_18 : decode cX4_duel 18 = .ok (.iload_n 1, 1) := by decide +kernel
theorem dX4_duel_19 : decode cX4_duel 19 = .ok (.iconst 2, 1) := by decide +kernel
theorem dX4_duel_20 : decode cX4_duel 20 = .ok (.irem, 1) := by decide +kernel
theorem dX4_duel_21 : decode cX4_duel 21 = .ok (.ifCond .ne 7, 3) := by decide +kernel
theorem dX4_duel_24 : decode cX4_duel 24 = .ok (.iconst 1, 1) := by decide +kernel
theorem dX4_duel_25 : decode cX4_duel 25 = .ok (.goto 4, 3) := by decide +kernel
theorem dX4_duel_28 : decode cX4_duel 28 = .ok (.iconst 0, 1) := by decide +kernel
theorem dX4_duel_29 : decode cX4_duel 29 = .ok (.istore_n 3, 1) := by decide +kernel
theorem dX4_duel_30 : decode cX4_duel 30 = .ok (.iconst 0, 1) := by decide +kernel
theorem dX4_duel_31 : decode cX4_duel 31 = .ok (.istore 4, 2) := by decide +kernel
theorem dX4_duel_33 : decode cX4_duel 33 = .ok (.aload_n 0, 1) := by decide +kernel
theorem dX4_duel_34 : decode cX4_duel 34 = .ok (.getfield 21, 3) := by decide +kernel
theorem dX4_duel_37 : decode cX4_duel 37 = .ok (.iload_n 1, 1) := by decide +kernel
theorem dX4_duel_38 : decode cX4_duel 38 = .ok (.invokevirtual 35, 3) := by decide +kernel
theorem dX4_duel_41 : decode cX4_duel 41 = .ok (.iconst 0, 1) := by decide +kernel
theorem dX4_duel_42 : decode cX4_duel 42 = .ok (.istore 5, 2) := by decide +kernel
theorem dX4_duel_44 : decode cX4_duel 44 = .ok (.iload 5, 2) := by decide +kernel
theorem dX4_duel_46 : decode cX4_duel 46 = .ok (.aload_n 0, 1) := by decide +kernel
theorem dX4_duel_47 : decode cX4_duel 47 = .ok (.getfield 21, 3) := by decide +kernel
theorem dX4_duel_50 : decode cX4_duel 50 = .ok (.getfield 39, 3) := by decide +kernel
theorem dX4_duel_53 : decode cX4_duel 53 = .ok (.if_icmp .gt 103, 3) := by decide +kernel
theorem dX4_duel_56 : decode cX4_duel 56 = .ok (.aload_n 0, 1) := by decide +kernel
theorem dX4_duel_57 : decode cX4_duel 57 = .ok (.getfield 21, 3) := by decide +kernel
theorem dX4_duel_60 : decode cX4_duel 60 = .ok (.iload 5, 2) := by decide +kernel
theorem dX4_duel_62 : decode cX4_duel 62 = .ok (.invokevirtual 43, 3) := by decide +kernel
theorem dX4_duel_65 : decode cX4_duel 65 = .ok (.istore 6, 2) := by decide +kernel
theorem dX4_duel_67 : decode cX4_duel 67 = .ok (.iload 5, 2) := by decide +kernel
theorem dX4_duel_69 : decode cX4_duel 69 = .ok (.ifCond .eq 8, 3) := by decide +kernel
theorem dX4_duel_72 : decode cX4_duel 72 = .ok (.iload 6, 2) := by decide +kernel
theorem dX4_duel_74 : decode cX4_duel 74 = .ok (.ifCond .le 76, 3) := by decide +kernel
theorem dX4_duel_77 : decode cX4_duel 77 = .ok (.iload 6, 2) := by decide +kernel
theorem dX4_duel_79 : decode cX4_duel 79 = .ok (.aload_n 0, 1) := by decide +kernel
theorem dX4_duel_80 : decode cX4_duel 80 = .ok (.getfield 21, 3) := by decide +kernel
theorem dX4_duel_83 : decode cX4_duel 83 = .ok (.invokevirtual 47, 3) := by decide +kernel
theorem dX4_duel_86 : decode cX4_duel 86 = .ok (.iadd, 1) := by decide +kernel
theorem dX4_duel_87 : decode cX4_duel 87 = .ok (.istore 7, 2) := by decide +kernel
theorem dX4_duel_89 : decode cX4_duel 89 = .ok (.iload 7, 2) := by decide +kernel
theorem dX4_duel_91 : decode cX4_duel 91 = .ok (.aload_n 0, 1) := by decide +kernel
theorem dX4_duel_92 : decode cX4_duel 92 = .ok (.iload_n 1, 1) := by decide +kernel
theorem dX4_duel_93 : decode cX4_duel 93 = .ok (.iconst 1, 1) := by decide +kernel
theorem dX4_duel_94 : decode cX4_duel 94 = .ok (.iadd, 1) := by decide +kernel
theorem dX4_duel_95 : decode cX4_duel 95 = .ok (.iload_n 2, 1) := by decide +kernel
theorem dX4_duel_96 : decode cX4_duel 96 = .ok (.iconst 1, 1) := by decide +kernel
theorem dX4_duel_97 : decode cX4_duel 97 = .ok (.isub, 1) := by decide +kernel
theorem dX4_duel_98 : decode cX4_duel 98 = .ok (.invokevirtual 78, 3) := by decide +kernel
theorem dX4_duel_101 : decode cX4_duel 101 = .ok (.iadd, 1) := by decide +kernel
theorem dX4_duel_102 : decode cX4_duel 102 = .ok (.istore 7, 2) := by decide +kernel
theorem dX4_duel_104 : decode cX4_duel 104 = .ok (.aload_n 0, 1) := by decide +kernel
theorem dX4_duel_105 : decode cX4_duel 105 = .ok (.getfield 21, 3) := by decide +kernel
theorem dX4_duel_108 : decode cX4_duel 108 = .ok (.iload_n 1, 1) := by decide +kernel
theorem dX4_duel_109 : decode cX4_duel 109 = .ok (.invokevirtual 55, 3) := by decide +kernel
theorem dX4_duel_112 : decode cX4_duel 112 = .ok (.iload 5, 2) := by decide +kernel
theorem dX4_duel_114 : decode cX4_duel 114 = .ok (.ifCond .eq 24, 3) := by decide +kernel
theorem dX4_duel_117 : decode cX4_duel 117 = .ok (.iload_n 3, 1) := by decide +kernel
theorem dX4_duel_118 : decode cX4_duel 118 = .ok (.ifCond .eq 13, 3) := by decide +kernel
theorem dX4_duel_121 : decode cX4_duel 121 = .ok (.iload 7, 2) := by decide +kernel
theorem dX4_duel_123 : decode cX4_duel 123 = .ok (.iload 4, 2) := by decide +kernel
theorem dX4_duel_125 : decode cX4_duel 125 = .ok (.if_icmp .le 25, 3) := by decide +kernel
theorem dX4_duel_128 : decode cX4_duel 128 = .ok (.goto 10, 3) := by decide +kernel
theorem dX4_duel_131 : decode cX4_duel 131 = .ok (.iload 7, 2) := by decide +kernel
theorem dX4_duel_133 : decode cX4_duel 133 = .ok (.iload 4, 2) := by decide +kernel
theorem dX4_duel_135 : decode cX4_duel 135 = .ok (.if_icmp .ge 15, 3) := by decide +kernel
theorem dX4_duel_138 : decode cX4_duel 138 = .ok (.iload 7, 2) := by decide +kernel
theorem dX4_duel_140 : decode cX4_duel 140 = .ok (.istore 4, 2) := by decide +kernel
theorem dX4_duel_142 : decode cX4_duel 142 = .ok (.aload_n 0, 1) := by decide +kernel
theorem dX4_duel_143 : decode cX4_duel 143 = .ok (.getfield 18, 3) := by decide +kernel
theorem dX4_duel_146 : decode cX4_duel 146 = .ok (.iload_n 1, 1) := by decide +kernel
theorem dX4_duel_147 : decode cX4_duel 147 = .ok (.iload 5, 2) := by decide +kernel
theorem dX4_duel_149 : decode cX4_duel 149 = .ok (.iastore, 1) := by decide +kernel
theorem dX4_duel_150 : decode cX4_duel 150 = .ok (.iinc 5 1, 3) := by decide +kernel
theorem dX4_duel_153 : decode cX4_duel 153 = .ok (.goto (-109), 3) := by decide +kernel
theorem dX4_duel_156 : decode cX4_duel 156 = .ok (.iload 4, 2) := by decide +kernel
theorem dX4_duel_158 : decode cX4_duel 158 = .ok (.ireturn, 1) := by decide +kernel
theorem oX4_duel_0 : oP MT mX4_duel 0 (1, 1, 0, 1, []) := o_aload_n dX4_duel_0 rfl
theorem oX4_duel_1 : oP MT mX4_duel 1 (13, 3, 3, 4, []) := o_getR (M := mX4_duel) (C := RX4) (T := TX4) (ci := 4) (j := 3) (z := 4) dX4_duel_1 rfl lq_RX4_18 rfl rfl
theorem oX4_duel_4 : oP MT mX4_duel 4 (1, 1, 1, 0, []) := o_iload_n dX4_duel_4 rfl
theorem oX4_duel_5 : oP MT mX4_duel 5 (0, 1, 0, 0, []) := o_iconst dX4_duel_5 (by decide)
theorem oX4_duel_6 : oP MT mX4_duel 6 (18, 1, 0, 0, []) := o_iastore dX4_duel_6
theorem oX4_duel_7 : oP MT mX4_duel 7 (1, 1, 0, 1, []) := o_aload_n dX4_duel_7 rfl
theorem oX4_duel_8 : oP MT mX4_duel 8 (1, 1, 1, 0, []) := o_iload_n dX4_duel_8 rfl
theorem oX4_duel_9 : oP MT mX4_duel 9 (1, 1, 2, 0, []) := o_iload_n dX4_duel_9 rfl
theorem oX4_duel_10 : oP MT mX4_duel 10 (26, 3, 0, 2, [(4, 49)]) := o_callO ((vA.cons (v_callV dX4_duel_10 (ci := 4) rfl rfl (mj := mX4_isLast) mt_X4_isLast cmq_X4_isLast wq_337 wq_340 wq_341 (by decide) (by decide)) vA.nil))
theorem oX4_duel_13 : oP MT mX4_duel 13 (10, 3, 0, 18, []) := o_if_eq dX4_duel_13 (by decide) (by decide)
theorem oX4_duel_16 : oP MT mX4_duel 16 (0, 1, 0, 0, []) := o_iconst dX4_duel_16 (by decide)
theorem oX4_duel_17 : oP MT mX4_duel 17 (21, 1, 0, 0, []) := o_iret dX4_duel_17 rfl
theorem oX4_duel_18 : oP MT mX4_duel 18 (1, 1, 1, 0, []) := o_iload_n dX4_duel_18 rfl
theorem oX4_duel_19 : oP MT mX4_duel 19 (0, 1, 0, 2, []) := o_iconst dX4_duel_19 (by decide)
theorem oX4_duel_20 : oP MT mX4_duel 20 (4, 1, 10, 0, []) := o_irem dX4_duel_20
theorem oX4_duel_21 : oP MT mX4_duel 21 (10, 3, 1, 28, []) := o_if_ne dX4_duel_21 (by decide) (by decide)
theorem oX4_duel_24 : oP MT mX4_duel 24 (0, 1, 0, 1, []) := o_iconst dX4_duel_24 (by decide)
theorem oX4_duel_25 : oP MT mX4_duel 25 (9, 3, 29, 0, []) := o_goto dX4_duel_25 (by decide)
theorem oX4_duel_28 : oP MT mX4_duel 28 (0, 1, 0, 0, []) := o_iconst dX4_duel_28 (by decide)
theorem oX4_duel_29 : oP MT mX4_duel 29 (2, 1, 3, 0, []) := o_istore_n dX4_duel_29 rfl (by decide)
theorem oX4_duel_30 : oP MT mX4_duel 30 (0, 1, 0, 0, []) := o_iconst dX4_duel_30 (by decide)
theorem oX4_duel_31 : oP MT mX4_duel 31 (2, 2, 4, 0, []) := o_istore dX4_duel_31 (by decide)
theorem oX4_duel_33 : oP MT mX4_duel 33 (1, 1, 0, 1, []) := o_aload_n dX4_duel_33 rfl
theorem oX4_duel_34 : oP MT mX4_duel 34 (13, 3, 0, 4, []) := o_getR (M := mX4_duel) (C := RX4) (T := TX4) (ci := 4) (j := 0) (z := 4) dX4_duel_34 rfl lq_RX4_21 rfl rfl
theorem oX4_duel_37 : oP MT mX4_duel 37 (1, 1, 1, 0, []) := o_iload_n dX4_duel_37 rfl
theorem oX4_duel_38 : oP MT mX4_duel 38 (26, 3, 0, 1, [(1, 50)]) := o_callO ((vA.cons (v_callV dX4_duel_38 (ci := 1) rfl rfl (mj := mX1_save) mt_X1_save cmq_X1_save wq_342 wq_312 wq_313 (by decide) (by decide)) vA.nil))
theorem oX4_duel_41 : oP MT mX4_duel 41 (0, 1, 0, 0, []) := o_iconst dX4_duel_41 (by decide)
theorem oX4_duel_42 : oP MT mX4_duel 42 (2, 2, 5, 0, []) := o_istore dX4_duel_42 (by decide)
theorem oX4_duel_44 : oP MT mX4_duel 44 (1, 2, 5, 0, []) := o_iload dX4_duel_44
theorem oX4_duel_46 : oP MT mX4_duel 46 (1, 1, 0, 1, []) := o_aload_n dX4_duel_46 rfl
theorem oX4_duel_47 : oP MT mX4_duel 47 (13, 3, 0, 4, []) := o_getR (M := mX4_duel) (C := RX4) (T := TX4) (ci := 4) (j := 0) (z := 4) dX4_duel_47 rfl lq_RX4_21 rfl rfl
theorem oX4_duel_50 : oP MT mX4_duel 50 (12, 3, 8, 1, []) := o_getI (M := mX4_duel) (C := RX1) (T := TX1) (ci := 1) (j := 8) (z := 1) dX4_duel_50 rfl lq_RX4_39 rfl rfl
theorem oX4_duel_53 : oP MT mX4_duel 53 (11, 3, 4, 156, []) := o_icmp_gt dX4_duel_53 (by decide) (by decide)
theorem oX4_duel_56 : oP MT mX4_duel 56 (1, 1, 0, 1, []) := o_aload_n dX4_duel_56 rfl
theorem oX4_duel_57 : oP MT mX4_duel 57 (13, 3, 0, 4, []) := o_getR (M := mX4_duel) (C := RX4) (T := TX4) (ci := 4) (j := 0) (z := 4) dX4_duel_57 rfl lq_RX4_21 rfl rfl
theorem oX4_duel_60 : oP MT mX4_duel 60 (1, 2, 5, 0, []) := o_iload dX4_duel_60
theorem oX4_duel_62 : oP MT mX4_duel 62 (26, 3, 0, 1, [(1, 29)]) := o_callO ((vA.cons (v_callV dX4_duel_62 (ci := 1) rfl rfl (mj := mX1_tell) mt_X1_tell cmq_X1_tell wq_343 wq_299 wq_300 (by decide) (by decide)) vA.nil))
theorem oX4_duel_65 : oP MT mX4_duel 65 (2, 2, 6, 0, []) := o_istore dX4_duel_65 (by decide)
theorem oX4_duel_67 : oP MT mX4_duel 67 (1, 2, 5, 0, []) := o_iload dX4_duel_67
theorem oX4_duel_69 : oP MT mX4_duel 69 (10, 3, 0, 77, []) := o_if_eq dX4_duel_69 (by decide) (by decide)
theorem oX4_duel_72 : oP MT mX4_duel 72 (1, 2, 6, 0, []) := o_iload dX4_duel_72
theorem oX4_duel_74 : oP MT mX4_duel 74 (10, 3, 5, 150, []) := o_if_le dX4_duel_74 (by decide) (by decide)
theorem oX4_duel_77 : oP MT mX4_duel 77 (1, 2, 6, 0, []) := o_iload dX4_duel_77
theorem oX4_duel_79 : oP MT mX4_duel 79 (1, 1, 0, 1, []) := o_aload_n dX4_duel_79 rfl
theorem oX4_duel_80 : oP MT mX4_duel 80 (13, 3, 0, 4, []) := o_getR (M := mX4_duel) (C := RX4) (T := TX4) (ci := 4) (j := 0) (z := 4) dX4_duel_80 rfl lq_RX4_21 rfl rfl
theorem oX4_duel_83 : oP MT mX4_duel 83 (26, 3, 0, 0, [(1, 30)]) := o_callO ((vA.cons (v_callV dX4_duel_83 (ci := 1) rfl rfl (mj := mX1_melt) mt_X1_melt cmq_X1_melt wq_344 wq_303 wq_304 (by decide) (by decide)) vA.nil))
theorem oX4_duel_86 : oP MT mX4_duel 86 (4, 1, 0, 0, []) := o_iadd dX4_duel_86
theorem oX4_duel_87 : oP MT mX4_duel 87 (2, 2, 7, 0, []) := o_istore dX4_duel_87 (by decide)
theorem oX4_duel_89 : oP MT mX4_duel 89 (1, 2, 7, 0, []) := o_iload dX4_duel_89
theorem oX4_duel_91 : oP MT mX4_duel 91 (1, 1, 0, 1, []) := o_aload_n dX4_duel_91 rfl
theorem oX4_duel_92 : oP MT mX4_duel 92 (1, 1, 1, 0, []) := o_iload_n dX4_duel_92 rfl
theorem oX4_duel_93 : oP MT mX4_duel 93 (0, 1, 0, 1, []) := o_iconst dX4_duel_93 (by decide)
theorem oX4_duel_94 : oP MT mX4_duel 94 (4, 1, 0, 0, []) := o_iadd dX4_duel_94
theorem oX4_duel_95 : oP MT mX4_duel 95 (1, 1, 2, 0, []) := o_iload_n dX4_duel_95 rfl
theorem oX4_duel_96 : oP MT mX4_duel 96 (0, 1, 0, 1, []) := o_iconst dX4_duel_96 (by decide)
theorem oX4_duel_97 : oP MT mX4_duel 97 (4, 1, 1, 0, []) := o_isub dX4_duel_97
theorem oX4_duel_98 : oP MT mX4_duel 98 (26, 3, 0, 2, [(4, 95)]) := o_callO ((vA.cons (v_callV dX4_duel_98 (ci := 4) rfl rfl (mj := mX4_duel) mt_X4_duel cmq_X4_duel wq_363 wq_365 wq_366 (by decide) (by decide)) vA.nil))
theorem oX4_duel_101 : oP MT mX4_duel 101 (4, 1, 0, 0, []) := o_iadd dX4_duel_101
theorem oX4_duel_102 : oP MT mX4_duel 102 (2, 2, 7, 0, []) := o_istore dX4_duel_102 (by decide)
theorem oX4_duel_104 : oP MT mX4_duel 104 (1, 1, 0, 1, []) := o_aload_n dX4_duel_104 rfl
theorem oX4_duel_105 : oP MT mX4_duel 105 (13, 3, 0, 4, []) := o_getR (M := mX4_duel) (C := RX4) (T := TX4) (ci := 4) (j := 0) (z := 4) dX4_duel_105 rfl lq_RX4_21 rfl rfl
theorem oX4_duel_108 : oP MT mX4_duel 108 (1, 1, 1, 0, []) := o_iload_n dX4_duel_108 rfl
theorem oX4_duel_109 : oP MT mX4_duel 109 (26, 3, 0, 1, [(1, 51)]) := o_callO ((vA.cons (v_callV dX4_duel_109 (ci := 1) rfl rfl (mj := mX1_restore) mt_X1_restore cmq_X1_restore wq_349 wq_320 wq_321 (by decide) (by decide)) vA.nil))
theorem oX4_duel_112 : oP MT mX4_duel 112 (1, 2, 5, 0, []) := o_iload dX4_duel_112
theorem oX4_duel_114 : oP MT mX4_duel 114 (10, 3, 0, 138, []) := o_if_eq dX4_duel_114 (by decide) (by decide)
theorem oX4_duel_117 : oP MT mX4_duel 117 (1, 1, 3, 0, []) := o_iload_n dX4_duel_117 rfl
theorem oX4_duel_118 : oP MT mX4_duel 118 (10, 3, 0, 131, []) := o_if_eq dX4_duel_118 (by decide) (by decide)
theorem oX4_duel_121 : oP MT mX4_duel 121 (1, 2, 7, 0, []) := o_iload dX4_duel_121
theorem oX4_duel_123 : oP MT mX4_duel 123 (1, 2, 4, 0, []) := o_iload dX4_duel_123
theorem oX4_duel_125 : oP MT mX4_duel 125 (11, 3, 5, 150, []) := o_icmp_le dX4_duel_125 (by decide) (by decide)
theorem oX4_duel_128 : oP MT mX4_duel 128 (9, 3, 138, 0, []) := o_goto dX4_duel_128 (by decide)
theorem oX4_duel_131 : oP MT mX4_duel 131 (1, 2, 7, 0, []) := o_iload dX4_duel_131
theorem oX4_duel_133 : oP MT mX4_duel 133 (1, 2, 4, 0, []) := o_iload dX4_duel_133
theorem oX4_duel_135 : oP MT mX4_duel 135 (11, 3, 3, 150, []) := o_icmp_ge dX4_duel_135 (by decide) (by decide)
theorem oX4_duel_138 : oP MT mX4_duel 138 (1, 2, 7, 0, []) := o_iload dX4_duel_138
theorem oX4_duel_140 : oP MT mX4_duel 140 (2, 2, 4, 0, []) := o_istore dX4_duel_140 (by decide)
theorem oX4_duel_142 : oP MT mX4_duel 142 (1, 1, 0, 1, []) := o_aload_n dX4_duel_142 rfl
theorem oX4_duel_143 : oP MT mX4_duel 143 (13, 3, 3, 4, []) := o_getR (M := mX4_duel) (C := RX4) (T := TX4) (ci := 4) (j := 3) (z := 4) dX4_duel_143 rfl lq_RX4_18 rfl rfl
theorem oX4_duel_146 : oP MT mX4_duel 146 (1, 1, 1, 0, []) := o_iload_n dX4_duel_146 rfl
theorem oX4_duel_147 : oP MT mX4_duel 147 (1, 2, 5, 0, []) := o_iload dX4_duel_147
theorem oX4_duel_149 : oP MT mX4_duel 149 (18, 1, 0, 0, []) := o_iastore dX4_duel_149
theorem oX4_duel_150 : oP MT mX4_duel 150 (3, 3, 5, 1, []) := o_iinc dX4_duel_150 (by decide) (by decide)
theorem oX4_duel_153 : oP MT mX4_duel 153 (9, 3, 44, 0, []) := o_goto dX4_duel_153 (by decide)
theorem oX4_duel_156 : oP MT mX4_duel 156 (1, 2, 4, 0, []) := o_iload dX4_duel_156
theorem oX4_duel_158 : oP MT mX4_duel 158 (21, 1, 0, 0, []) := o_iret dX4_duel_158 rfl
def ops_X4_duel : List (Nat × aO) := [(0, (1, 1, 0, 1, [])), (1, (13, 3, 3, 4, [])), (4, (1, 1, 1, 0, [])), (5, (0, 1, 0, 0, [])), (6, (18, 1, 0, 0, [])), (7, (1, 1, 0, 1, [])), (8, (1, 1, 1, 0, [])), (9, (1, 1, 2, 0, [])), (10, (26, 3, 0, 2, [(4, 49)])), (13, (10, 3, 0, 18, [])), (16, (0, 1, 0, 0, [])), (17, (21, 1, 0, 0, [])), (18, (1, 1, 1, 0, [])), (19, (0, 1, 0, 2, [])), (20, (4, 1, 10, 0, [])), (21, (10, 3, 1, 28, [])), (24, (0, 1, 0, 1, [])), (25, (9, 3, 29, 0, [])), (28, (0, 1, 0, 0, [])), (29, (2, 1, 3, 0, [])), (30, (0, 1, 0, 0, [])), (31, (2, 2, 4, 0, [])), (33, (1, 1, 0, 1, [])), (34, (13, 3, 0, 4, [])), (37, (1, 1, 1, 0, [])), (38, (26, 3, 0, 1, [(1, 50)])), (41, (0, 1, 0, 0, [])), (42, (2, 2, 5, 0, [])), (44, (1, 2, 5, 0, [])), (46, (1, 1, 0, 1, [])), (47, (13, 3, 0, 4, [])), (50, (12, 3, 8, 1, [])), (53, (11, 3, 4, 156, [])), (56, (1, 1, 0, 1, [])), (57, (13, 3, 0, 4, [])), (60, (1, 2, 5, 0, [])), (62, (26, 3, 0, 1, [(1, 29)])), (65, (2, 2, 6, 0, [])), (67, (1, 2, 5, 0, [])), (69, (10, 3, 0, 77, [])), (72, (1, 2, 6, 0, [])), (74, (10, 3, 5, 150, [])), (77, (1, 2, 6, 0, [])), (79, (1, 1, 0, 1, [])), (80, (13, 3, 0, 4, [])), (83, (26, 3, 0, 0, [(1, 30)])), (86, (4, 1, 0, 0, [])), (87, (2, 2, 7, 0, [])), (89, (1, 2, 7, 0, [])), (91, (1, 1, 0, 1, [])), (92, (1, 1, 1, 0, [])), (93, (0, 1, 0, 1, [])), (94, (4, 1, 0, 0, [])), (95, (1, 1, 2, 0, [])), (96, (0, 1, 0, 1, [])), (97, (4, 1, 1, 0, [])), (98, (26, 3, 0, 2, [(4, 95)])), (101, (4, 1, 0, 0, [])), (102, (2, 2, 7, 0, [])), (104, (1, 1, 0, 1, [])), (105, (13, 3, 0, 4, [])), (108, (1, 1, 1, 0, [])), (109, (26, 3, 0, 1, [(1, 51)])), (112, (1, 2, 5, 0, [])), (114, (10, 3, 0, 138, [])), (117, (1, 1, 3, 0, [])), (118, (10, 3, 0, 131, [])), (121, (1, 2, 7, 0, [])), (123, (1, 2, 4, 0, [])), (125, (11, 3, 5, 150, [])), (128, (9, 3, 138, 0, [])), (131, (1, 2, 7, 0, [])), (133, (1, 2, 4, 0, [])), (135, (11, 3, 3, 150, [])), (138, (1, 2, 7, 0, [])), (140, (2, 2, 4, 0, [])), (142, (1, 1, 0, 1, [])), (143, (13, 3, 3, 4, [])), (146, (1, 1, 1, 0, [])), (147, (1, 2, 5, 0, [])), (149, (18, 1, 0, 0, [])), (150, (3, 3, 5, 1, [])), (153, (9, 3, 44, 0, [])), (156, (1, 2, 4, 0, [])), (158, (21, 1, 0, 0, []))]
theorem os_X4_duel : oA MT mX4_duel ops_X4_duel := (oA.cons oX4_duel_0 (oA.cons oX4_duel_1 (oA.cons oX4_duel_4 (oA.cons oX4_duel_5 (oA.cons oX4_duel_6 (oA.cons oX4_duel_7 (oA.cons oX4_duel_8 (oA.cons oX4_duel_9 (oA.cons oX4_duel_10 (oA.cons oX4_duel_13 (oA.cons oX4_duel_16 (oA.cons oX4_duel_17 (oA.cons oX4_duel_18 (oA.cons oX4_duel_19 (oA.cons oX4_duel_20 (oA.cons oX4_duel_21 (oA.cons oX4_duel_24 (oA.cons oX4_duel_25 (oA.cons oX4_duel_28 (oA.cons oX4_duel_29 (oA.cons oX4_duel_30 (oA.cons oX4_duel_31 (oA.cons oX4_duel_33 (oA.cons oX4_duel_34 (oA.cons oX4_duel_37 (oA.cons oX4_duel_38 (oA.cons oX4_duel_41 (oA.cons oX4_duel_42 (oA.cons oX4_duel_44 (oA.cons oX4_duel_46 (oA.cons oX4_duel_47 (oA.cons oX4_duel_50 (oA.cons oX4_duel_53 (oA.cons oX4_duel_56 (oA.cons oX4_duel_57 (oA.cons oX4_duel_60 (oA.cons oX4_duel_62 (oA.cons oX4_duel_65 (oA.cons oX4_duel_67 (oA.cons oX4_duel_69 (oA.cons oX4_duel_72 (oA.cons oX4_duel_74 (oA.cons oX4_duel_77 (oA.cons oX4_duel_79 (oA.cons oX4_duel_80 (oA.cons oX4_duel_83 (oA.cons oX4_duel_86 (oA.cons oX4_duel_87 (oA.cons oX4_duel_89 (oA.cons oX4_duel_91 (oA.cons oX4_duel_92 (oA.cons oX4_duel_93 (oA.cons oX4_duel_94 (oA.cons oX4_duel_95 (oA.cons oX4_duel_96 (oA.cons oX4_duel_97 (oA.cons oX4_duel_98 (oA.cons oX4_duel_101 (oA.cons oX4_duel_102 (oA.cons oX4_duel_104 (oA.cons oX4_duel_105 (oA.cons oX4_duel_108 (oA.cons oX4_duel_109 (oA.cons oX4_duel_112 (oA.cons oX4_duel_114 (oA.cons oX4_duel_117 (oA.cons oX4_duel_118 (oA.cons oX4_duel_121 (oA.cons oX4_duel_123 (oA.cons oX4_duel_125 (oA.cons oX4_duel_128 (oA.cons oX4_duel_131 (oA.cons oX4_duel_133 (oA.cons oX4_duel_135 (oA.cons oX4_duel_138 (oA.cons oX4_duel_140 (oA.cons oX4_duel_142 (oA.cons oX4_duel_143 (oA.cons oX4_duel_146 (oA.cons oX4_duel_147 (oA.cons oX4_duel_149 (oA.cons oX4_duel_150 (oA.cons oX4_duel_153 (oA.cons oX4_duel_156 (oA.cons oX4_duel_158 oA.nil)))))))))))))))))))))))))))))))))))))))))))))))))))))))))))))))))))))))))))))))))))))
theorem dX11_loneKind_0 : decode cX11_loneKind 0 = .ok (.iconst 1, 1) := by decide +kernel
theorem dX11_loneKind_1 : decode cX11_loneKind 1 = .ok (.iload_n 0, 1) := by decide +kernel
theorem dX11_loneKind_2 : decode cX11_loneKind 2 = .ok (.bipush 100, 2) := by decide +kernel
theorem dX11_loneKind_4 : decode cX11_loneKind 4 = .ok (.idiv, 1) := by decide +kernel
theorem dX11_loneKind_5 : decode cX11_loneKind 5 = .ok (.iadd, 1) := by decide +kernel
theorem dX11_loneKind_6 : decode cX11_loneKind 6 = .ok (.ireturn, 1) := by decide +kernel
theorem oX11_loneKind_0 : oP MT mX11_loneKind 0 (0, 1, 0, 1, []) := o_iconst dX11_loneKind_0 (by decide)
theorem oX11_loneKind_1 : oP MT mX11_loneKind 1 (1, 1, 0, 0, []) := o_iload_n dX11_loneKind_1 rfl
theorem oX11_loneKind_2 : oP MT mX11_loneKind 2 (0, 2, 0, 100, []) := o_bipush dX11_loneKind_2 (by decide)
theorem oX11_loneKind_4 : oP MT mX11_loneKind 4 (4, 1, 9, 0, []) := o_idiv dX11_loneKind_4
theorem oX11_loneKind_5 : oP MT mX11_loneKind 5 (4, 1, 0, 0, []) := o_iadd dX11_loneKind_5
theorem oX11_loneKind_6 : oP MT mX11_loneKind 6 (21, 1, 0, 0, []) := o_iret dX11_loneKind_6 rfl
def ops_X11_loneKind : List (Nat × aO) := [(0, (0, 1, 0, 1, [])), (1, (1, 1, 0, 0, [])), (2, (0, 2, 0, 100, [])), (4, (4, 1, 9, 0, [])), (5, (4, 1, 0, 0, [])), (6, (21, 1, 0, 0, []))]
theorem os_X11_loneKind : oA MT mX11_loneKind ops_X11_loneKind := (oA.cons oX11_loneKind_0 (oA.cons oX11_loneKind_1 (oA.cons oX11_loneKind_2 (oA.cons oX11_loneKind_4 (oA.cons oX11_loneKind_5 (oA.cons oX11_loneKind_6 oA.nil))))))
theorem dX11_loneStraw_0 : decode cX11_loneStraw 0 = .ok (.iload_n 0, 1) := by decide +kernel
theorem dX11_loneStraw_1 : decode cX11_loneStraw 1 = .ok (.bipush 10, 2) := by decide +kernel
theorem dX11_loneStraw_3 : decode cX11_loneStraw 3 = .ok (.idiv, 1) := by decide +kernel
theorem dX11_loneStraw_4 : decode cX11_loneStraw 4 = .ok (.bipush 10, 2) := by decide +kernel
theorem dX11_loneStraw_6 : decode cX11_loneStraw 6 = .ok (.irem, 1) := by decide +kernel
theorem dX11_loneStraw_7 : decode cX11_loneStraw 7 = .ok (.ireturn, 1) := by decide +kernel
theorem oX11_loneStraw_0 : oP MT mX11_loneStraw 0 (1, 1, 0, 0, []) := o_iload_n dX11_loneStraw_0 rfl
theorem oX11_loneStraw_1 : oP MT mX11_loneStraw 1 (0, 2, 0, 10, []) := o_bipush dX11_loneStraw_1 (by decide)
theorem oX11_loneStraw_3 : oP MT mX11_loneStraw 3 (4, 1, 9, 0, []) := o_idiv dX11_loneStraw_3
theorem oX11_loneStraw_4 : oP MT mX11_loneStraw 4 (0, 2, 0, 10, []) := o_bipush dX11_loneStraw_4 (by decide)
theorem oX11_loneStraw_6 : oP MT mX11_loneStraw 6 (4, 1, 10, 0, []) := o_irem dX11_loneStraw_6
theorem oX11_loneStraw_7 : oP MT mX11_loneStraw 7 (21, 1, 0, 0, []) := o_iret dX11_loneStraw_7 rfl
def ops_X11_loneStraw : List (Nat × aO) := [(0, (1, 1, 0, 0, [])), (1, (0, 2, 0, 10, [])), (3, (4, 1, 9, 0, [])), (4, (0, 2, 0, 10, [])), (6, (4, 1, 10, 0, [])), (7, (21, 1, 0, 0, []))]
theorem os_X11_loneStraw : oA MT mX11_loneStraw ops_X11_loneStraw := (oA.cons oX11_loneStraw_0 (oA.cons oX11_loneStraw_1 (oA.cons oX11_loneStraw_3 (oA.cons oX11_loneStraw_4 (oA.cons oX11_loneStraw_6 (oA.cons oX11_loneStraw_7 oA.nil))))))
theorem dX11_loneTeeth_0 : decode cX11_loneTeeth 0 = .ok (.bipush 9, 2) := by decide +kernel
theorem dX11_loneTeeth_2 : decode cX11_loneTeeth 2 = .ok (.bipush 10, 2) := by decide +kernel
theorem dX11_loneTeeth_4 : decode cX11_loneTeeth 4 = .ok (.iload_n 0, 1) := by decide +kernel
theorem dX11_loneTeeth_5 : decode cX11_loneTeeth 5 = .ok (.bipush 10, 2) := by decide +kernel
theorem dX11_loneTeeth_7 : decode cX11_loneTeeth 7 = .ok (.irem, 1) := by decide +kernel
theorem dX11_loneTeeth_8 : decode cX11_loneTeeth 8 = .ok (.imul, 1) := by decide +kernel
theorem dX11_loneTeeth_9 : decode cX11_loneTeeth 9 = .ok (.iadd, 1) := by decide +kernel
theorem dX11_loneTeeth_10 : decode cX11_loneTeeth 10 = .ok (.ireturn, 1) := by decide +kernel
theorem oX11_loneTeeth_0 : oP MT mX11_loneTeeth 0 (0, 2, 0, 9, []) := o_bipush dX11_loneTeeth_0 (by decide)
theorem oX11_loneTeeth_2 : oP MT mX11_loneTeeth 2 (0, 2, 0, 10, []) := o_bipush dX11_loneTeeth_2 (by decide)
theorem oX11_loneTeeth_4 : oP MT mX11_loneTeeth 4 (1, 1, 0, 0, []) := o_iload_n dX11_loneTeeth_4 rfl
theorem oX11_loneTeeth_5 : oP MT mX11_loneTeeth 5 (0, 2, 0, 10, []) := o_bipush dX11_loneTeeth_5 (by decide)
theorem oX11_loneTeeth_7 : oP MT mX11_loneTeeth 7 (4, 1, 10, 0, []) := o_irem dX11_loneTeeth_7
theorem oX11_loneTeeth_8 : oP MT mX11_loneTeeth 8 (4, 1, 2, 0, []) := o_imul dX11_loneTeeth_8
theorem oX11_loneTeeth_9 : oP MT mX11_loneTeeth 9 (4, 1, 0, 0, []) := o_iadd dX11_loneTeeth_9
theorem oX11_loneTeeth_10 : oP MT mX11_loneTeeth 10 (21, 1, 0, 0, []) := o_iret dX11_loneTeeth_10 rfl
def ops_X11_loneTeeth : List (Nat × aO) := [(0, (0, 2, 0, 9, [])), (2, (0, 2, 0, 10, [])), (4, (1, 1, 0, 0, [])), (5, (0, 2, 0, 10, [])), (7, (4, 1, 10, 0, [])), (8, (4, 1, 2, 0, [])), (9, (4, 1, 0, 0, [])), (10, (21, 1, 0, 0, []))]
theorem os_X11_loneTeeth : oA MT mX11_loneTeeth ops_X11_loneTeeth := (oA.cons oX11_loneTeeth_0 (oA.cons oX11_loneTeeth_2 (oA.cons oX11_loneTeeth_4 (oA.cons oX11_loneTeeth_5 (oA.cons oX11_loneTeeth_7 (oA.cons oX11_loneTeeth_8 (oA.cons oX11_loneTeeth_9 (oA.cons oX11_loneTeeth_10 oA.nil))))))))
theorem dX1_misfits_0 : decode cX1_misfits 0 = .ok (.iconst 0, 1) := by decide +kernel
theorem dX1_misfits_1 : decode cX1_misfits 1 = .ok (.istore 4, 2) := by decide +kernel
theorem dX1_misfits_3 : decode cX1_misfits 3 = .ok (.iload_n 3, 1) := by decide +kernel
theorem dX1_misfits_4 : decode cX1_misfits 4 = .ok (.istore 5, 2) := by decide +kernel
theorem dX1_misfits_6 : decode cX1_misfits 6 = .ok (.iconst 0, 1) := by decide +kernel
theorem dX1_misfits_7 : decode cX1_misfits 7 = .ok (.istore 6, 2) := by decide +kernel
theorem dX1_misfits_9 : decode cX1_misfits 9 = .ok (.iload 6, 2) := by decide +kernel
theorem dX1_misfits_11 : decode cX1_misfits 11 = .ok (.bipush 16, 2) := by decide +kernel
theorem dX1_misfits_13 : decode cX1_misfits 13 = .ok (.if_icmp .ge 83, 3) := by decide +kernel
theorem dX1_misfits_16 : decode cX1_misfits 16 = .ok (.aload_n 0, 1) := by decide +kernel
theorem dX1_misfits_17 : decode cX1_misfits 17 = .ok (.getfield 56, 3) := by decide +kernel
theorem dX1_misfits_20 : decode cX1_misfits 20 = .ok (.iload_n 1, 1) := by decide +kernel
theorem dX1_misfits_21 : decode cX1_misfits 21 = .ok (.aaload, 1) := by decide +kernel
theorem dX1_misfits_22 : decode cX1_misfits 22 = .ok (.iload 5, 2) := by decide +kernel
theorem dX1_misfits_24 : decode cX1_misfits 24 = .ok (.iload_n 2, 1) := by decide +kernel
theorem dX1_misfits_25 : decode cX1_misfits 25 = .ok (.iconst 0, 1) := by decide +kernel
theorem dX1_misfits_26 : decode cX1_misfits 26 = .ok (.invokevirtual 117, 3) := by decide +kernel
theorem dX1_misfits_29 : decode cX1_misfits 29 = .ok (.istore 7, 2) := by decide +kernel
theorem dX1_misfits_31 : decode cX1_misfits 31 = .ok (.iload 4, 2) := by decide +kernel
theorem dX1_misfits_33 : decode cX1_misfits 33 = .ok (.aload_n 0, 1) := by decide +kernel
theorem dX1_misfits_34 : decode cX1_misfits 34 = .ok (.iload 6, 2) := by decide +kernel
theorem dX1_misfits_36 : decode cX1_misfits 36 = .ok (.iload 5, 2) := by decide +kernel
theorem dX1_misfits_38 : decode cX1_misfits 38 = .ok (.iload 7, 2) := by decide +kernel
theorem dX1_misfits_40 : decode cX1_misfits 40 = .ok (.invokevirtual 169, 3) := by decide +kernel
theorem dX1_misfits_43 : decode cX1_misfits 43 = .ok (.ior, 1) := by decide +kernel
theorem dX1_misfits_44 : decode cX1_misfits 44 = .ok (.istore 4, 2) := by decide +kernel
theorem dX1_misfits_46 : decode cX1_misfits 46 = .ok (.aload_n 0, 1) := by decide +kernel
theorem dX1_misfits_47 : decode cX1_misfits 47 = .ok (.getfield 56, 3) := by decide +kernel
theorem dX1_misfits_50 : decode cX1_misfits 50 = .ok (.iload_n 1, 1) := by decide +kernel
theorem dX1_misfits_51 : decode cX1_misfits 51 = .ok (.aaload, 1) := by decide +kernel
theorem dX1_misfits_52 : decode cX1_misfits 52 = .ok (.aload_n 0, 1) := by decide +kernel
theorem dX1_misfits_53 : decode cX1_misfits 53 = .ok (.iload 6, 2) := by decide +kernel
theorem dX1_misfits_55 : decode cX1_misfits 55 = .ok (.invokevirtual 98, 3) := by decide +kernel
theorem dX1_misfits_58 : decode cX1_misfits 58 = .ok (.aload_n 0, 1) := by decide +kernel
theorem dX1_misfits_59 : decode cX1_misfits 59 = .ok (.iload 6, 2) := by decide +kernel
theorem dX1_misfits_61 : decode cX1_misfits 61 = .ok (.invokevirtual 101, 3) := by decide +kernel
theorem dX1_misfits_64 : decode cX1_misfits 64 = .ok (.iload 6, 2) := by decide +kernel
theorem dX1_misfits_66 : decode cX1_misfits 66 = .ok (.invokevirtual 104, 3) := by decide +kernel
theorem dX1_misfits_69 : decode cX1_misfits 69 = .ok (.iload_n 2, 1) := by decide +kernel
theorem dX1_misfits_70 : decode cX1_misfits 70 = .ok (.iconst 3, 1) := by decide +kernel
theorem dX1_misfits_71 : decode cX1_misfits 71 = .ok (.idiv, 1) := by decide +kernel
theorem dX1_misfits_72 : decode cX1_misfits 72 = .ok (.isub, 1) := by decide +kernel
theorem dX1_misfits_73 : decode cX1_misfits 73 = .ok (.istore 8, 2) := by decide +kernel
theorem dX1_misfits_75 : decode cX1_misfits 75 = .ok (.iconst 0, 1) := by decide +kernel
theorem dX1_misfits_76 : decode cX1_misfits 76 = .ok (.iload 5, 2) := by decide +kernel
theorem dX1_misfits_78 : decode cX1_misfits 78 = .ok (.iconst 0, 1) := by decide +kernel
theorem dX1_misfits_79 : decode cX1_misfits 79 = .ok (.iload 8, 2) := by decide +kernel
theorem dX1_misfits_81 : decode cX1_misfits 81 = .ok (.invokestatic 91, 3) := by decide +kernel
theorem dX1_misfits_84 : decode cX1_misfits 84 = .ok (.isub, 1) := by decide +kernel
theorem dX1_misfits_85 : decode cX1_misfits 85 = .ok (.invokestatic 91, 3) := by decide +kernel
theorem dX1_misfits_88 : decode cX1_misfits 88 = .ok (.istore 5, 2) := by decide +kernel
theorem dX1_misfits_90 : decode cX1_misfits 90 = .ok (.iinc 6 1, 3) := by decide +kernel
theorem dX1_misfits_93 : decode cX1_misfits 93 = .ok (.goto (-84), 3) := by decide +kernel
theorem dX1_misfits_96 : decode cX1_misfits 96 = .ok (.iload 4, 2) := by decide +kernel
theorem dX1_misfits_98 : decode cX1_misfits 98 = .ok (.ireturn, 1) := by decide +kernel
theorem oX1_misfits_0 : oP MT mX1_misfits 0 (0, 1, 0, 0, []) := o_iconst dX1_misfits_0 (by decide)
theorem oX1_misfits_1 : oP MT mX1_misfits 1 (2, 2, 4, 0, []) := o_istore dX1_misfits_1 (by decide)
theorem oX1_misfits_3 : oP MT mX1_misfits 3 (1, 1, 3, 0, []) := o_iload_n dX1_misfits_3 rfl
theorem oX1_misfits_4 : oP MT mX1_misfits 4 (2, 2, 5, 0, []) := o_istore dX1_misfits_4 (by decide)
theorem oX1_misfits_6 : oP MT mX1_misfits 6 (0, 1, 0, 0, []) := o_iconst dX1_misfits_6 (by decide)
theorem oX1_misfits_7 : oP MT mX1_misfits 7 (2, 2, 6, 0, []) := o_istore dX1_misfits_7 (by decide)
theorem oX1_misfits_9 : oP MT mX1_misfits 9 (1, 2, 6, 0, []) := o_iload dX1_misfits_9
theorem oX1_misfits_11 : oP MT mX1_misfits 11 (0, 2, 0, 16, []) := o_bipush dX1_misfits_11 (by decide)
theorem oX1_misfits_13 : oP MT mX1_misfits 13 (11, 3, 3, 96, []) := o_icmp_ge dX1_misfits_13 (by decide) (by decide)
theorem oX1_misfits_16 : oP MT mX1_misfits 16 (1, 1, 0, 1, []) := o_aload_n dX1_misfits_16 rfl
theorem oX1_misfits_17 : oP MT mX1_misfits 17 (13, 3, 0, 1, []) := o_getR (M := mX1_misfits) (C := RX1) (T := TX1) (ci := 1) (j := 0) (z := 1) dX1_misfits_17 rfl lq_RX1_56 rfl rfl
theorem oX1_misfits_20 : oP MT mX1_misfits 20 (1, 1, 1, 0, []) := o_iload_n dX1_misfits_20 rfl
theorem oX1_misfits_21 : oP MT mX1_misfits 21 (17, 1, 0, 0, []) := o_aaload dX1_misfits_21
theorem oX1_misfits_22 : oP MT mX1_misfits 22 (1, 2, 5, 0, []) := o_iload dX1_misfits_22
theorem oX1_misfits_24 : oP MT mX1_misfits 24 (1, 1, 2, 0, []) := o_iload_n dX1_misfits_24 rfl
theorem oX1_misfits_25 : oP MT mX1_misfits 25 (0, 1, 0, 0, []) := o_iconst dX1_misfits_25 (by decide)
theorem oX1_misfits_26 : oP MT mX1_misfits 26 (26, 3, 0, 3, [(2, 12), (3, 13), (7, 14), (8, 15), (9, 16), (10, 17)]) := o_callO ((vA.cons (v_callU dX1_misfits_26 (ci := 2) rfl rfl (mj := mX2_shape) mt_X2_shape cmq_X2_shape wq_49 wq_50 wq_51 wq_52 wq_53 wq_54 (by decide) (by decide) (by decide)) (vA.cons (v_callV dX1_misfits_26 (ci := 3) rfl rfl (mj := mX3_shape) mt_X3_shape cmq_X3_shape wq_49 wq_51 wq_55 (by decide) (by decide)) (vA.cons (v_callU dX1_misfits_26 (ci := 7) rfl rfl (mj := mX7_shape) mt_X7_shape cmq_X7_shape wq_49 wq_50 wq_51 wq_52 wq_56 wq_38 (by decide) (by decide) (by decide)) (vA.cons (v_callU dX1_misfits_26 (ci := 8) rfl rfl (mj := mX8_shape) mt_X8_shape cmq_X8_shape wq_49 wq_50 wq_51 wq_52 wq_57 wq_45 (by decide) (by decide) (by decide)) (vA.cons (v_callU dX1_misfits_26 (ci := 9) rfl rfl (mj := mX9_shape) mt_X9_shape cmq_X9_shape wq_49 wq_50 wq_51 wq_52 wq_60 wq_61 (by decide) (by decide) (by decide)) (vA.cons (v_callU dX1_misfits_26 (ci := 10) rfl rfl (mj := mX10_shape) mt_X10_shape cmq_X10_shape wq_49 wq_50 wq_51 wq_52 wq_64 wq_65 (by decide) (by decide) (by decide)) vA.nil)))))))
theorem oX1_misfits_29 : oP MT mX1_misfits 29 (2, 2, 7, 0, []) := o_istore dX1_misfits_29 (by decide)
theorem oX1_misfits_31 : oP MT mX1_misfits 31 (1, 2, 4, 0, []) := o_iload dX1_misfits_31
theorem oX1_misfits_33 : oP MT mX1_misfits 33 (1, 1, 0, 1, []) := o_aload_n dX1_misfits_33 rfl
theorem oX1_misfits_34 : oP MT mX1_misfits 34 (1, 2, 6, 0, []) := o_iload dX1_misfits_34
theorem oX1_misfits_36 : oP MT mX1_misfits 36 (1, 2, 5, 0, []) := o_iload dX1_misfits_36
theorem oX1_misfits_38 : oP MT mX1_misfits 38 (1, 2, 7, 0, []) := o_iload dX1_misfits_38
theorem oX1_misfits_40 : oP MT mX1_misfits 40 (26, 3, 0, 3, [(1, 36)]) := o_callO ((vA.cons (v_callV dX1_misfits_40 (ci := 1) rfl rfl (mj := mX1_misfitsAt) mt_X1_misfitsAt cmq_X1_misfitsAt wq_367 wq_369 wq_370 (by decide) (by decide)) vA.nil))
theorem oX1_misfits_43 : oP MT mX1_misfits 43 (4, 1, 4, 0, []) := o_ior dX1_misfits_43
theorem oX1_misfits_44 : oP MT mX1_misfits 44 (2, 2, 4, 0, []) := o_istore dX1_misfits_44 (by decide)
theorem oX1_misfits_46 : oP MT mX1_misfits 46 (1, 1, 0, 1, []) := o_aload_n dX1_misfits_46 rfl
theorem oX1_misfits_47 : oP MT mX1_misfits 47 (13, 3, 0, 1, []) := o_getR (M := mX1_misfits) (C := RX1) (T := TX1) (ci := 1) (j := 0) (z := 1) dX1_misfits_47 rfl lq_RX1_56 rfl rfl
theorem oX1_misfits_50 : oP MT mX1_misfits 50 (1, 1, 1, 0, []) := o_iload_n dX1_misfits_50 rfl
theorem oX1_misfits_51 : oP MT mX1_misfits 51 (17, 1, 0, 0, []) := o_aaload dX1_misfits_51
theorem oX1_misfits_52 : oP MT mX1_misfits 52 (1, 1, 0, 1, []) := o_aload_n dX1_misfits_52 rfl
theorem oX1_misfits_53 : oP MT mX1_misfits 53 (1, 2, 6, 0, []) := o_iload dX1_misfits_53
theorem oX1_misfits_55 : oP MT mX1_misfits 55 (26, 3, 0, 1, [(1, 1)]) := o_callO ((vA.cons (v_callV dX1_misfits_55 (ci := 1) rfl rfl (mj := mX1_heatAt) mt_X1_heatAt cmq_X1_heatAt wq_88 wq_90 wq_91 (by decide) (by decide)) vA.nil))
theorem oX1_misfits_58 : oP MT mX1_misfits 58 (1, 1, 0, 1, []) := o_aload_n dX1_misfits_58 rfl
theorem oX1_misfits_59 : oP MT mX1_misfits 59 (1, 2, 6, 0, []) := o_iload dX1_misfits_59
theorem oX1_misfits_61 : oP MT mX1_misfits 61 (26, 3, 0, 1, [(1, 3)]) := o_callO ((vA.cons (v_callV dX1_misfits_61 (ci := 1) rfl rfl (mj := mX1_shadeAt) mt_X1_shadeAt cmq_X1_shadeAt wq_96 wq_98 wq_99 (by decide) (by decide)) vA.nil))
theorem oX1_misfits_64 : oP MT mX1_misfits 64 (1, 2, 6, 0, []) := o_iload dX1_misfits_64
theorem oX1_misfits_66 : oP MT mX1_misfits 66 (26, 3, 0, 3, [(2, 4), (3, 5), (7, 6), (8, 7), (9, 8), (10, 9)]) := o_callO ((vA.cons (v_callU dX1_misfits_66 (ci := 2) rfl rfl (mj := mX2_melts) mt_X2_melts cmq_X2_melts wq_101 wq_12 wq_14 wq_9 wq_102 wq_103 (by decide) (by decide) (by decide)) (vA.cons (v_callV dX1_misfits_66 (ci := 3) rfl rfl (mj := mX3_melts) mt_X3_melts cmq_X3_melts wq_101 wq_14 wq_104 (by decide) (by decide)) (vA.cons (v_callU dX1_misfits_66 (ci := 7) rfl rfl (mj := mX7_melts) mt_X7_melts cmq_X7_melts wq_101 wq_12 wq_14 wq_9 wq_105 wq_24 (by decide) (by decide) (by decide)) (vA.cons (v_callU dX1_misfits_66 (ci := 8) rfl rfl (mj := mX8_melts) mt_X8_melts cmq_X8_melts wq_101 wq_12 wq_14 wq_9 wq_106 wq_30 (by decide) (by decide) (by decide)) (vA.cons (v_callU dX1_misfits_66 (ci := 9) rfl rfl (mj := mX9_melts) mt_X9_melts cmq_X9_melts wq_101 wq_12 wq_14 wq_9 wq_108 wq_109 (by decide) (by decide) (by decide)) (vA.cons (v_callU dX1_misfits_66 (ci := 10) rfl rfl (mj := mX10_melts) mt_X10_melts cmq_X10_melts wq_101 wq_12 wq_14 wq_9 wq_111 wq_112 (by decide) (by decide) (by decide)) vA.nil)))))))
theorem oX1_misfits_69 : oP MT mX1_misfits 69 (1, 1, 2, 0, []) := o_iload_n dX1_misfits_69 rfl
theorem oX1_misfits_70 : oP MT mX1_misfits 70 (0, 1, 0, 3, []) := o_iconst dX1_misfits_70 (by decide)
theorem oX1_misfits_71 : oP MT mX1_misfits 71 (4, 1, 9, 0, []) := o_idiv dX1_misfits_71
theorem oX1_misfits_72 : oP MT mX1_misfits 72 (4, 1, 1, 0, []) := o_isub dX1_misfits_72
theorem oX1_misfits_73 : oP MT mX1_misfits 73 (2, 2, 8, 0, []) := o_istore dX1_misfits_73 (by decide)
theorem oX1_misfits_75 : oP MT mX1_misfits 75 (0, 1, 0, 0, []) := o_iconst dX1_misfits_75 (by decide)
theorem oX1_misfits_76 : oP MT mX1_misfits 76 (1, 2, 5, 0, []) := o_iload dX1_misfits_76
theorem oX1_misfits_78 : oP MT mX1_misfits 78 (0, 1, 0, 0, []) := o_iconst dX1_misfits_78 (by decide)
theorem oX1_misfits_79 : oP MT mX1_misfits 79 (1, 2, 8, 0, []) := o_iload dX1_misfits_79
theorem oX1_misfits_81 : oP MT mX1_misfits 81 (27, 3, 0, 0, []) := o_max dX1_misfits_81 wq_117 wq_16 wq_17 wq_18
theorem oX1_misfits_84 : oP MT mX1_misfits 84 (4, 1, 1, 0, []) := o_isub dX1_misfits_84
theorem oX1_misfits_85 : oP MT mX1_misfits 85 (27, 3, 0, 0, []) := o_max dX1_misfits_85 wq_117 wq_16 wq_17 wq_18
theorem oX1_misfits_88 : oP MT mX1_misfits 88 (2, 2, 5, 0, []) := o_istore dX1_misfits_88 (by decide)
theorem oX1_misfits_90 : oP MT mX1_misfits 90 (3, 3, 6, 1, []) := o_iinc dX1_misfits_90 (by decide) (by decide)
theorem oX1_misfits_93 : oP MT mX1_misfits 93 (9, 3, 9, 0, []) := o_goto dX1_misfits_93 (by decide)
theorem oX1_misfits_96 : oP MT mX1_misfits 96 (1, 2, 4, 0, []) := o_iload dX1_misfits_96
theorem oX1_misfits_98 : oP MT mX1_misfits 98 (21, 1, 0, 0, []) := o_iret dX1_misfits_98 rfl
def ops_X1_misfits : List (Nat × aO) := [(0, (0, 1, 0, 0, [])), (1, (2, 2, 4, 0, [])), (3, (1, 1, 3, 0, [])), (4, (2, 2, 5, 0, [])), (6, (0, 1, 0, 0, [])), (7, (2, 2, 6, 0, [])), (9, (1, 2, 6, 0, [])), (11, (0, 2, 0, 16, [])), (13, (11, 3, 3, 96, [])), (16, (1, 1, 0, 1, [])), (17, (13, 3, 0, 1, [])), (20, (1, 1, 1, 0, [])), (21, (17, 1, 0, 0, [])), (22, (1, 2, 5, 0, [])), (24, (1, 1, 2, 0, [])), (25, (0, 1, 0, 0, [])), (26, (26, 3, 0, 3, [(2, 12), (3, 13), (7, 14), (8, 15), (9, 16), (10, 17)])), (29, (2, 2, 7, 0, [])), (31, (1, 2, 4, 0, [])), (33, (1, 1, 0, 1, [])), (34, (1, 2, 6, 0, [])), (36, (1, 2, 5, 0, [])), (38, (1, 2, 7, 0, [])), (40, (26, 3, 0, 3, [(1, 36)])), (43, (4, 1, 4, 0, [])), (44, (2, 2, 4, 0, [])), (46, (1, 1, 0, 1, [])), (47, (13, 3, 0, 1, [])), (50, (1, 1, 1, 0, [])), (51, (17, 1, 0, 0, [])), (52, (1, 1, 0, 1, [])), (53, (1, 2, 6, 0, [])), (55, (26, 3, 0, 1, [(1, 1)])), (58, (1, 1, 0, 1, [])), (59, (1, 2, 6, 0, [])), (61, (26, 3, 0, 1, [(1, 3)])), (64, (1, 2, 6, 0, [])), (66, (26, 3, 0, 3, [(2, 4), (3, 5), (7, 6), (8, 7), (9, 8), (10, 9)])), (69, (1, 1, 2, 0, [])), (70, (0, 1, 0, 3, [])), (71, (4, 1, 9, 0, [])), (72, (4, 1, 1, 0, [])), (73, (2, 2, 8, 0, [])), (75, (0, 1, 0, 0, [])), (76, (1, 2, 5, 0, [])), (78, (0, 1, 0, 0, [])), (79, (1, 2, 8, 0, [])), (81, (27, 3, 0, 0, [])), (84, (4, 1, 1, 0, [])), (85, (27, 3, 0, 0, [])), (88, (2, 2, 5, 0, [])), (90, (3, 3, 6, 1, [])), (93, (9, 3, 9, 0, [])), (96, (1, 2, 4, 0, [])), (98, (21, 1, 0, 0, []))]
theorem os_X1_misfits : oA MT mX1_misfits ops_X1_misfits := (oA.cons oX1_misfits_0 (oA.cons oX1_misfits_1 (oA.cons oX1_misfits_3 (oA.cons oX1_misfits_4 (oA.cons oX1_misfits_6 (oA.cons oX1_misfits_7 (oA.cons oX1_misfits_9 (oA.cons oX1_misfits_11 (oA.cons oX1_misfits_13 (oA.cons oX1_misfits_16 (oA.cons oX1_misfits_17 (oA.cons oX1_misfits_20 (oA.cons oX1_misfits_21 (oA.cons oX1_misfits_22 (oA.cons oX1_misfits_24 (oA.cons oX1_misfits_25 (oA.cons oX1_misfits_26 (oA.cons oX1_misfits_29 (oA.cons oX1_misfits_31 (oA.cons oX1_misfits_33 (oA.cons oX1_misfits_34 (oA.cons oX1_misfits_36 (oA.cons oX1_misfits_38 (oA.cons oX1_misfits_40 (oA.cons oX1_misfits_43 (oA.cons oX1_misfits_44 (oA.cons oX1_misfits_46 (oA.cons oX1_misfits_47 (oA.cons oX1_misfits_50 (oA.cons oX1_misfits_51 (oA.cons oX1_misfits_52 (oA.cons oX1_misfits_53 (oA.cons oX1_misfits_55 (oA.cons oX1_misfits_58 (oA.cons oX1_misfits_59 (oA.cons oX1_misfits_61 (oA.cons oX1_misfits_64 (oA.cons oX1_misfits_66 (oA.cons oX1_misfits_69 (oA.cons oX1_misfits_70 (oA.cons oX1_misfits_71 (oA.cons oX1_misfits_72 (oA.cons oX1_misfits_73 (oA.cons oX1_misfits_75 (oA.cons oX1_misfits_76 (oA.cons oX1_misfits_78 (oA.cons oX1_misfits_79 (oA.cons oX1_misfits_81 (oA.cons oX1_misfits_84 (oA.cons oX1_misfits_85 (oA.cons oX1_misfits_88 (oA.cons oX1_misfits_90 (oA.cons oX1_misfits_93 (oA.cons oX1_misfits_96 (oA.cons oX1_misfits_98 oA.nil)))))))))))))))))))))))))))))))))))))))))))))))))))))))
theorem dX1_goLots_0 : decode cX1_goLots 0 = .ok (.iconst 0, 1) := by decide +kernel
theorem dX1_goLots_1 : decode cX1_goLots 1 = .ok (.istore_n 1, 1) := by decide +kernel
theorem dX1_goLots_2 : decode cX1_goLots 2 = .ok (.iconst 0, 1) := by decide +kernel
theorem dX1_goLots_3 : decode cX1_goLots 3 = .ok (.istore_n 2, 1) := by decide +kernel
theorem dX1_goLots_4 : decode cX1_goLots 4 = .ok (.iload_n 2, 1) := by decide +kernel
theorem dX1_goLots_5 : decode cX1_goLots 5 = .ok (.bipush 16, 2) := by decide +kernel
theorem dX1_goLots_7 : decode cX1_goLots 7 = .ok (.if_icmp .ge 32, 3) := by decide +kernel
theorem dX1_goLots_10 : decode cX1_goLots 10 = .ok (.aload_n 0, 1) := by decide +kernel
theorem dX1_goLots_11 : decode cX1_goLots 11 = .ok (.invokevirtual 153, 3) := by decide +kernel
theorem dX1_goLots_14 : decode cX1_goLots 14 = .ok (.ifCond .ne 25, 3) := by decide +kernel
theorem dX1_goLots_17 : decode cX1_goLots 17 = .ok (.iload_n 1, 1) := by decide +kernel
theorem dX1_goLots_18 : decode cX1_goLots 18 = .ok (.aload_n 0, 1) := by decide +kernel
theorem dX1_goLots_19 : decode cX1_goLots 19 = .ok (.aload_n 0, 1) := by decide +kernel
theorem dX1_goLots_20 : decode cX1_goLots 20 = .ok (.invokevirtual 161, 3) := by decide +kernel
theorem dX1_goLots_23 : decode cX1_goLots 23 = .ok (.invokevirtual 137, 3) := by decide +kernel
theorem dX1_goLots_26 : decode cX1_goLots 26 = .ok (.aload_n 0, 1) := by decide +kernel
theorem dX1_goLots_27 : decode cX1_goLots 27 = .ok (.invokevirtual 140, 3) := by decide +kernel
theorem dX1_goLots_30 : decode cX1_goLots 30 = .ok (.iadd, 1) := by decide +kernel
theorem dX1_goLots_31 : decode cX1_goLots 31 = .ok (.iadd, 1) := by decide +kernel
theorem dX1_goLots_32 : decode cX1_goLots 32 = .ok (.istore_n 1, 1) := by decide +kernel
theorem dX1_goLots_33 : decode cX1_goLots 33 = .ok (.iinc 2 1, 3) := by decide +kernel
theorem dX1_goLots_36 : decode cX1_goLots 36 = .ok (.goto (-32), 3) := by decide +kernel
theorem dX1_goLots_39 : decode cX1_goLots 39 = .ok (.iload_n 1, 1) := by decide +kernel
theorem dX1_goLots_40 : decode cX1_goLots 40 = .ok (.ireturn, 1) := by decide +kernel
theorem oX1_goLots_0 : oP MT mX1_goLots 0 (0, 1, 0, 0, []) := o_iconst dX1_goLots_0 (by decide)
theorem oX1_goLots_1 : oP MT mX1_goLots 1 (2, 1, 1, 0, []) := o_istore_n dX1_goLots_1 rfl (by decide)
theorem oX1_goLots_2 : oP MT mX1_goLots 2 (0, 1, 0, 0, []) := o_iconst dX1_goLots_2 (by decide)
theorem oX1_goLots_3 : oP MT mX1_goLots 3 (2, 1, 2, 0, []) := o_istore_n dX1_goLots_3 rfl (by decide)
theorem oX1_goLots_4 : oP MT mX1_goLots 4 (1, 1, 2, 0, []) := o_iload_n dX1_goLots_4 rfl
theorem oX1_goLots_5 : oP MT mX1_goLots 5 (0, 2, 0, 16, []) := o_bipush dX1_goLots_5 (by decide)
theorem oX1_goLots_7 : oP MT mX1_goLots 7 (11, 3, 3, 39, []) := o_icmp_ge dX1_goLots_7 (by decide) (by decide)
theorem oX1_goLots_10 : oP MT mX1_goLots 10 (1, 1, 0, 1, []) := o_aload_n dX1_goLots_10 rfl
theorem oX1_goLots_11 : oP MT mX1_goLots 11 (26, 3, 0, 0, [(1, 31)]) := o_callO ((vA.cons (v_callV dX1_goLots_11 (ci := 1) rfl rfl (mj := mX1_isOver) mt_X1_isOver cmq_X1_isOver wq_305 wq_201 wq_202 (by decide) (by decide)) vA.nil))
theorem oX1_goLots_14 : oP MT mX1_goLots 14 (10, 3, 1, 39, []) := o_if_ne dX1_goLots_14 (by decide) (by decide)
theorem oX1_goLots_17 : oP MT mX1_goLots 17 (1, 1, 1, 0, []) := o_iload_n dX1_goLots_17 rfl
theorem oX1_goLots_18 : oP MT mX1_goLots 18 (1, 1, 0, 1, []) := o_aload_n dX1_goLots_18 rfl
theorem oX1_goLots_19 : oP MT mX1_goLots 19 (1, 1, 0, 1, []) := o_aload_n dX1_goLots_19 rfl
theorem oX1_goLots_20 : oP MT mX1_goLots 20 (26, 3, 0, 0, [(1, 33)]) := o_callO ((vA.cons (v_callV dX1_goLots_20 (ci := 1) rfl rfl (mj := mX1_drawAct) mt_X1_drawAct cmq_X1_drawAct wq_371 wq_373 wq_374 (by decide) (by decide)) vA.nil))
theorem oX1_goLots_23 : oP MT mX1_goLots 23 (26, 3, 0, 1, [(1, 29)]) := o_callO ((vA.cons (v_callV dX1_goLots_23 (ci := 1) rfl rfl (mj := mX1_tell) mt_X1_tell cmq_X1_tell wq_297 wq_299 wq_300 (by decide) (by decide)) vA.nil))
theorem oX1_goLots_26 : oP MT mX1_goLots 26 (1, 1, 0, 1, []) := o_aload_n dX1_goLots_26 rfl
theorem oX1_goLots_27 : oP MT mX1_goLots 27 (26, 3, 0, 0, [(1, 30)]) := o_callO ((vA.cons (v_callV dX1_goLots_27 (ci := 1) rfl rfl (mj := mX1_melt) mt_X1_melt cmq_X1_melt wq_301 wq_303 wq_304 (by decide) (by decide)) vA.nil))
theorem oX1_goLots_30 : oP MT mX1_goLots 30 (4, 1, 0, 0, []) := o_iadd dX1_goLots_30
theorem oX1_goLots_31 : oP MT mX1_goLots 31 (4, 1, 0, 0, []) := o_iadd dX1_goLots_31
theorem oX1_goLots_32 : oP MT mX1_goLots 32 (2, 1, 1, 0, []) := o_istore_n dX1_goLots_32 rfl (by decide)
theorem oX1_goLots_33 : oP MT mX1_goLots 33 (3, 3, 2, 1, []) := o_iinc dX1_goLots_33 (by decide) (by decide)
theorem oX1_goLots_36 : oP MT mX1_goLots 36 (9, 3, 4, 0, []) := o_goto dX1_goLots_36 (by decide)
theorem oX1_goLots_39 : oP MT mX1_goLots 39 (1, 1, 1, 0, []) := o_iload_n dX1_goLots_39 rfl
theorem oX1_goLots_40 : oP MT mX1_goLots 40 (21, 1, 0, 0, []) := o_iret dX1_goLots_40 rfl
def ops_X1_goLots : List (Nat × aO) := [(0, (0, 1, 0, 0, [])), (1, (2, 1, 1, 0, [])), (2, (0, 1, 0, 0, [])), (3, (2, 1, 2, 0, [])), (4, (1, 1, 2, 0, [])), (5, (0, 2, 0, 16, [])), (7, (11, 3, 3, 39, [])), (10, (1, 1, 0, 1, [])), (11, (26, 3, 0, 0, [(1, 31)])), (14, (10, 3, 1, 39, [])), (17, (1, 1, 1, 0, [])), (18, (1, 1, 0, 1, [])), (19, (1, 1, 0, 1, [])), (20, (26, 3, 0, 0, [(1, 33)])), (23, (26, 3, 0, 1, [(1, 29)])), (26, (1, 1, 0, 1, [])), (27, (26, 3, 0, 0, [(1, 30)])), (30, (4, 1, 0, 0, [])), (31, (4, 1, 0, 0, [])), (32, (2, 1, 1, 0, [])), (33, (3, 3, 2, 1, [])), (36, (9, 3, 4, 0, [])), (39, (1, 1, 1, 0, [])), (40, (21, 1, 0, 0, []))]
theorem os_X1_goLots : oA MT mX1_goLots ops_X1_goLots := (oA.cons oX1_goLots_0 (oA.cons oX1_goLots_1 (oA.cons oX1_goLots_2 (oA.cons oX1_goLots_3 (oA.cons oX1_goLots_4 (oA.cons oX1_goLots_5 (oA.cons oX1_goLots_7 (oA.cons oX1_goLots_10 (oA.cons oX1_goLots_11 (oA.cons oX1_goLots_14 (oA.cons oX1_goLots_17 (oA.cons oX1_goLots_18 (oA.cons oX1_goLots_19 (oA.cons oX1_goLots_20 (oA.cons oX1_goLots_23 (oA.cons oX1_goLots_26 (oA.cons oX1_goLots_27 (oA.cons oX1_goLots_30 (oA.cons oX1_goLots_31 (oA.cons oX1_goLots_32 (oA.cons oX1_goLots_33 (oA.cons oX1_goLots_36 (oA.cons oX1_goLots_39 (oA.cons oX1_goLots_40 oA.nil))))))))))))))))))))))))
theorem dX1_isAct_0 : decode cX1_isAct 0 = .ok (.iload_n 1, 1) := by decide +kernel
theorem dX1_isAct_1 : decode cX1_isAct 1 = .ok (.ifCond .lt 15, 3) := by decide +kernel
theorem dX1_isAct_4 : decode cX1_isAct 4 = .ok (.iload_n 1, 1) := by decide +kernel
theorem dX1_isAct_5 : decode cX1_isAct 5 = .ok (.aload_n 0, 1) := by decide +kernel
theorem dX1_isAct_6 : decode cX1_isAct 6 = .ok (.getfield 72, 3) := by decide +kernel
theorem dX1_isAct_9 : decode cX1_isAct 9 = .ok (.if_icmp .gt 7, 3) := by decide +kernel
theorem dX1_isAct_12 : decode cX1_isAct 12 = .ok (.iconst 1, 1) := by decide +kernel
theorem dX1_isAct_13 : decode cX1_isAct 13 = .ok (.goto 4, 3) := by decide +kernel
theorem dX1_isAct_16 : decode cX1_isAct 16 = .ok (.iconst 0, 1) := by decide +kernel
theorem dX1_isAct_17 : decode cX1_isAct 17 = .ok (.ireturn, 1) := by decide +kernel
theorem oX1_isAct_0 : oP MT mX1_isAct 0 (1, 1, 1, 0, []) := o_iload_n dX1_isAct_0 rfl
theorem oX1_isAct_1 : oP MT mX1_isAct 1 (10, 3, 2, 16, []) := o_if_lt dX1_isAct_1 (by decide) (by decide)
theorem oX1_isAct_4 : oP MT mX1_isAct 4 (1, 1, 1, 0, []) := o_iload_n dX1_isAct_4 rfl
theorem oX1_isAct_5 : oP MT mX1_isAct 5 (1, 1, 0, 1, []) := o_aload_n dX1_isAct_5 rfl
theorem oX1_isAct_6 : oP MT mX1_isAct 6 (12, 3, 8, 1, []) := o_getI (M := mX1_isAct) (C := RX1) (T := TX1) (ci := 1) (j := 8) (z := 1) dX1_isAct_6 rfl lq_RX1_72 rfl rfl
theorem oX1_isAct_9 : oP MT mX1_isAct 9 (11, 3, 4, 16, []) := o_icmp_gt dX1_isAct_9 (by decide) (by decide)
theorem oX1_isAct_12 : oP MT mX1_isAct 12 (0, 1, 0, 1, []) := o_iconst dX1_isAct_12 (by decide)
theorem oX1_isAct_13 : oP MT mX1_isAct 13 (9, 3, 17, 0, []) := o_goto dX1_isAct_13 (by decide)
theorem oX1_isAct_16 : oP MT mX1_isAct 16 (0, 1, 0, 0, []) := o_iconst dX1_isAct_16 (by decide)
theorem oX1_isAct_17 : oP MT mX1_isAct 17 (22, 1, 0, 0, []) := o_zret dX1_isAct_17 rfl
def ops_X1_isAct : List (Nat × aO) := [(0, (1, 1, 1, 0, [])), (1, (10, 3, 2, 16, [])), (4, (1, 1, 1, 0, [])), (5, (1, 1, 0, 1, [])), (6, (12, 3, 8, 1, [])), (9, (11, 3, 4, 16, [])), (12, (0, 1, 0, 1, [])), (13, (9, 3, 17, 0, [])), (16, (0, 1, 0, 0, [])), (17, (22, 1, 0, 0, []))]
theorem os_X1_isAct : oA MT mX1_isAct ops_X1_isAct := (oA.cons oX1_isAct_0 (oA.cons oX1_isAct_1 (oA.cons oX1_isAct_4 (oA.cons oX1_isAct_5 (oA.cons oX1_isAct_6 (oA.cons oX1_isAct_9 (oA.cons oX1_isAct_12 (oA.cons oX1_isAct_13 (oA.cons oX1_isAct_16 (oA.cons oX1_isAct_17 oA.nil))))))))))
theorem dX11_isRowRight_0 : decode cX11_isRowRight 0 = .ok (.aload_n 0, 1) := by decide +kernel
theorem dX11_isRowRight_1 : decode cX11_isRowRight 1 = .ok (.getfield 56, 3) := by decide +kernel
theorem dX11_isRowRight_4 : decode cX11_isRowRight 4 = .ok (.invokevirtual 168, 3) := by decide +kernel
theorem dX11_isRowRight_7 : decode cX11_isRowRight 7 = .ok (.ifCond .ne 19, 3) := by decide +kernel
theorem dX11_isRowRight_10 : decode cX11_isRowRight 10 = .ok (.aload_n 0, 1) := by decide +kernel
theorem dX11_isRowRight_11 : decode cX11_isRowRight 11 = .ok (.getfield 56, 3) := by decide +kernel
theorem dX11_isRowRight_14 : decode cX11_isRowRight 14 = .ok (.aload_n 0, 1) := by decide +kernel
theorem dX11_isRowRight_15 : decode cX11_isRowRight 15 = .ok (.getfield 9, 3) := by decide +kernel
theorem dX11_isRowRight_18 : decode cX11_isRowRight 18 = .ok (.iload_n 1, 1) := by decide +kernel
theorem dX11_isRowRight_19 : decode cX11_isRowRight 19 = .ok (.iaload, 1) := by decide +kernel
theorem dX11_isRowRight_20 : decode cX11_isRowRight 20 = .ok (.invokevirtual 316, 3) := by decide +kernel
theorem dX11_isRowRight_23 : decode cX11_isRowRight 23 = .ok (.ifCond .ne 5, 3) := by decide +kernel
theorem dX11_isRowRight_26 : decode cX11_isRowRight 26 = .ok (.iconst 0, 1) := by decide +kernel
theorem dX11_isRowRight_27 : decode cX11_isRowRight 27 = .ok (.ireturn, 1) := by decide +kernel
theorem dX11_isRowRight_28 : decode cX11_isRowRight 28 = .ok (.aload_n 0, 1) := by decide +kernel
theorem dX11_isRowRight_29 : decode cX11_isRowRight 29 = .ok (.getfield 56, 3) := by decide +kernel
theorem dX11_isRowRight_32 : decode cX11_isRowRight 32 = .ok (.aload_n 0, 1) := by decide +kernel
theorem dX11_isRowRight_33 : decode cX11_isRowRight 33 = .ok (.getfield 9, 3) := by decide +kernel
theorem dX11_isRowRight_36 : decode cX11_isRowRight 36 = .ok (.iload_n 1, 1) := by decide +kernel
theorem dX11_isRowRight_37 : decode cX11_isRowRight 37 = .ok (.iaload, 1) := by decide +kernel
theorem dX11_isRowRight_38 : decode cX11_isRowRight 38 = .ok (.invokevirtual 206, 3) := by decide +kernel
theorem dX11_isRowRight_41 : decode cX11_isRowRight 41 = .ok (.istore_n 2, 1) := by decide +kernel
theorem dX11_isRowRight_42 : decode cX11_isRowRight 42 = .ok (.aload_n 0, 1) := by decide +kernel
theorem dX11_isRowRight_43 : decode cX11_isRowRight 43 = .ok (.getfield 9, 3) := by decide +kernel
theorem dX11_isRowRight_46 : decode cX11_isRowRight 46 = .ok (.iload_n 1, 1) := by decide +kernel
theorem dX11_isRowRight_47 : decode cX11_isRowRight 47 = .ok (.iconst 1, 1) := by decide +kernel
theorem dX11_isRowRight_48 : decode cX11_isRowRight 48 = .ok (.iadd, 1) := by decide +kernel
theorem dX11_isRowRight_49 : decode cX11_isRowRight 49 = .ok (.iaload, 1) := by decide +kernel
theorem dX11_isRowRight_50 : decode cX11_isRowRight 50 = .ok (.iload_n 2, 1) := by decide +kernel
theorem dX11_isRowRight_51 : decode cX11_isRowRight 51 = .ok (.if_icmp .ne 25, 3) := by decide +kernel
theorem dX11_isRowRight_54 : decode cX11_isRowRight 54 = .ok (.aload_n 0, 1) := by decide +kernel
theorem dX11_isRowRight_55 : decode cX11_isRowRight 55 = .ok (.getfield 9, 3) := by decide +kernel
theorem dX11_isRowRight_58 : decode cX11_isRowRight 58 = .ok (.iload_n 1, 1) := by decide +kernel
theorem dX11_isRowRight_59 : decode cX11_isRowRight 59 = .ok (.iconst 2, 1) := by decide +kernel
theorem dX11_isRowRight_60 : decode cX11_isRowRight 60 = .ok (.iadd, 1) := by decide +kernel
theorem dX11_isRowRight_61 : decode cX11_isRowRight 61 = .ok (.iaload, 1) := by decide +kernel
theorem dX11_isRowRight_62 : decode cX11_isRowRight 62 = .ok (.aload_n 0, 1) := by decide +kernel
theorem dX11_isRowRight_63 : decode cX11_isRowRight 63 = .ok (.getfield 56, 3) := by decide +kernel
theorem dX11_isRowRight_66 : decode cX11_isRowRight 66 = .ok (.getfield 165, 3) := by decide +kernel
theorem dX11_isRowRight_69 : decode cX11_isRowRight 69 = .ok (.if_icmp .ne 7, 3) := by decide +kernel
theorem dX11_isRowRight_72 : decode cX11_isRowRight 72 = .ok (.iconst 1, 1) := by decide +kernel
theorem dX11_isRowRight_73 : decode cX11_isRowRight 73 = .ok (.goto 4, 3) := by decide +kernel
theorem dX11_isRowRight_76 : decode cX11_isRowRight 76 = .ok (.iconst 0, 1) := by decide +kernel
theorem dX11_isRowRight_77 : decode cX11_isRowRight 77 = .ok (.ireturn, 1) := by decide +kernel
theorem oX11_isRowRight_0 : oP MT mX11_isRowRight 0 (1, 1, 0, 1, []) := o_aload_n dX11_isRowRight_0 rfl
theorem oX11_isRowRight_1 : oP MT mX11_isRowRight 1 (13, 3, 0, 11, []) := o_getR (M := mX11_isRowRight) (C := RX11) (T := TX11) (ci := 11) (j := 0) (z := 11) dX11_isRowRight_1 rfl lq_RX11_56 rfl rfl
theorem oX11_isRowRight_4 : oP MT mX11_isRowRight 4 (26, 3, 0, 0, [(1, 31)]) := o_callO ((vA.cons (v_callV dX11_isRowRight_4 (ci := 1) rfl rfl (mj := mX1_isOver) mt_X1_isOver cmq_X1_isOver wq_375 wq_201 wq_202 (by decide) (by decide)) vA.nil))
theorem oX11_isRowRight_7 : oP MT mX11_isRowRight 7 (10, 3, 1, 26, []) := o_if_ne dX11_isRowRight_7 (by decide) (by decide)
theorem oX11_isRowRight_10 : oP MT mX11_isRowRight 10 (1, 1, 0, 1, []) := o_aload_n dX11_isRowRight_10 rfl
theorem oX11_isRowRight_11 : oP MT mX11_isRowRight 11 (13, 3, 0, 11, []) := o_getR (M := mX11_isRowRight) (C := RX11) (T := TX11) (ci := 11) (j := 0) (z := 11) dX11_isRowRight_11 rfl lq_RX11_56 rfl rfl
theorem oX11_isRowRight_14 : oP MT mX11_isRowRight 14 (1, 1, 0, 1, []) := o_aload_n dX11_isRowRight_14 rfl
theorem oX11_isRowRight_15 : oP MT mX11_isRowRight 15 (13, 3, 6, 11, []) := o_getR (M := mX11_isRowRight) (C := RX11) (T := TX11) (ci := 11) (j := 6) (z := 11) dX11_isRowRight_15 rfl lq_RX11_9 rfl rfl
theorem oX11_isRowRight_18 : oP MT mX11_isRowRight 18 (1, 1, 1, 0, []) := o_iload_n dX11_isRowRight_18 rfl
theorem oX11_isRowRight_19 : oP MT mX11_isRowRight 19 (16, 1, 1, 0, []) := o_iaload dX11_isRowRight_19
theorem oX11_isRowRight_20 : oP MT mX11_isRowRight 20 (26, 3, 0, 1, [(1, 101)]) := o_callO ((vA.cons (v_callV dX11_isRowRight_20 (ci := 1) rfl rfl (mj := mX1_isAct) mt_X1_isAct cmq_X1_isAct wq_376 wq_378 wq_379 (by decide) (by decide)) vA.nil))
theorem oX11_isRowRight_23 : oP MT mX11_isRowRight 23 (10, 3, 1, 28, []) := o_if_ne dX11_isRowRight_23 (by decide) (by decide)
theorem oX11_isRowRight_26 : oP MT mX11_isRowRight 26 (0, 1, 0, 0, []) := o_iconst dX11_isRowRight_26 (by decide)
theorem oX11_isRowRight_27 : oP MT mX11_isRowRight 27 (22, 1, 0, 0, []) := o_zret dX11_isRowRight_27 rfl
theorem oX11_isRowRight_28 : oP MT mX11_isRowRight 28 (1, 1, 0, 1, []) := o_aload_n dX11_isRowRight_28 rfl
theorem oX11_isRowRight_29 : oP MT mX11_isRowRight 29 (13, 3, 0, 11, []) := o_getR (M := mX11_isRowRight) (C := RX11) (T := TX11) (ci := 11) (j := 0) (z := 11) dX11_isRowRight_29 rfl lq_RX11_56 rfl rfl
theorem oX11_isRowRight_32 : oP MT mX11_isRowRight 32 (1, 1, 0, 1, []) := o_aload_n dX11_isRowRight_32 rfl
theorem oX11_isRowRight_33 : oP MT mX11_isRowRight 33 (13, 3, 6, 11, []) := o_getR (M := mX11_isRowRight) (C := RX11) (T := TX11) (ci := 11) (j := 6) (z := 11) dX11_isRowRight_33 rfl lq_RX11_9 rfl rfl
theorem oX11_isRowRight_36 : oP MT mX11_isRowRight 36 (1, 1, 1, 0, []) := o_iload_n dX11_isRowRight_36 rfl
theorem oX11_isRowRight_37 : oP MT mX11_isRowRight 37 (16, 1, 1, 0, []) := o_iaload dX11_isRowRight_37
theorem oX11_isRowRight_38 : oP MT mX11_isRowRight 38 (26, 3, 0, 1, [(1, 81)]) := o_callO ((vA.cons (v_callV dX11_isRowRight_38 (ci := 1) rfl rfl (mj := mX1_goBy) mt_X1_goBy cmq_X1_goBy wq_380 wq_382 wq_383 (by decide) (by decide)) vA.nil))
theorem oX11_isRowRight_41 : oP MT mX11_isRowRight 41 (2, 1, 2, 0, []) := o_istore_n dX11_isRowRight_41 rfl (by decide)
theorem oX11_isRowRight_42 : oP MT mX11_isRowRight 42 (1, 1, 0, 1, []) := o_aload_n dX11_isRowRight_42 rfl
theorem oX11_isRowRight_43 : oP MT mX11_isRowRight 43 (13, 3, 6, 11, []) := o_getR (M := mX11_isRowRight) (C := RX11) (T := TX11) (ci := 11) (j := 6) (z := 11) dX11_isRowRight_43 rfl lq_RX11_9 rfl rfl
theorem oX11_isRowRight_46 : oP MT mX11_isRowRight 46 (1, 1, 1, 0, []) := o_iload_n dX11_isRowRight_46 rfl
theorem oX11_isRowRight_47 : oP MT mX11_isRowRight 47 (0, 1, 0, 1, []) := o_iconst dX11_isRowRight_47 (by decide)
theorem oX11_isRowRight_48 : oP MT mX11_isRowRight 48 (4, 1, 0, 0, []) := o_iadd dX11_isRowRight_48
theorem oX11_isRowRight_49 : oP MT mX11_isRowRight 49 (16, 1, 1, 0, []) := o_iaload dX11_isRowRight_49
theorem oX11_isRowRight_50 : oP MT mX11_isRowRight 50 (1, 1, 2, 0, []) := o_iload_n dX11_isRowRight_50 rfl
theorem oX11_isRowRight_51 : oP MT mX11_isRowRight 51 (11, 3, 1, 76, []) := o_icmp_ne dX11_isRowRight_51 (by decide) (by decide)
theorem oX11_isRowRight_54 : oP MT mX11_isRowRight 54 (1, 1, 0, 1, []) := o_aload_n dX11_isRowRight_54 rfl
theorem oX11_isRowRight_55 : oP MT mX11_isRowRight 55 (13, 3, 6, 11, []) := o_getR (M := mX11_isRowRight) (C := RX11) (T := TX11) (ci := 11) (j := 6) (z := 11) dX11_isRowRight_55 rfl lq_RX11_9 rfl rfl
theorem oX11_isRowRight_58 : oP MT mX11_isRowRight 58 (1, 1, 1, 0, []) := o_iload_n dX11_isRowRight_58 rfl
theorem oX11_isRowRight_59 : oP MT mX11_isRowRight 59 (0, 1, 0, 2, []) := o_iconst dX11_isRowRight_59 (by decide)
theorem oX11_isRowRight_60 : oP MT mX11_isRowRight 60 (4, 1, 0, 0, []) := o_iadd dX11_isRowRight_60
theorem oX11_isRowRight_61 : oP MT mX11_isRowRight 61 (16, 1, 1, 0, []) := o_iaload dX11_isRowRight_61
theorem oX11_isRowRight_62 : oP MT mX11_isRowRight 62 (1, 1, 0, 1, []) := o_aload_n dX11_isRowRight_62 rfl
theorem oX11_isRowRight_63 : oP MT mX11_isRowRight 63 (13, 3, 0, 11, []) := o_getR (M := mX11_isRowRight) (C := RX11) (T := TX11) (ci := 11) (j := 0) (z := 11) dX11_isRowRight_63 rfl lq_RX11_56 rfl rfl
theorem oX11_isRowRight_66 : oP MT mX11_isRowRight 66 (12, 3, 9, 1, []) := o_getI (M := mX11_isRowRight) (C := RX1) (T := TX1) (ci := 1) (j := 9) (z := 1) dX11_isRowRight_66 rfl lq_RX11_165 rfl rfl
theorem oX11_isRowRight_69 : oP MT mX11_isRowRight 69 (11, 3, 1, 76, []) := o_icmp_ne dX11_isRowRight_69 (by decide) (by decide)
theorem oX11_isRowRight_72 : oP MT mX11_isRowRight 72 (0, 1, 0, 1, []) := o_iconst dX11_isRowRight_72 (by decide)
theorem oX11_isRowRight_73 : oP MT mX11_isRowRight 73 (9, 3, 77, 0, []) := o_goto dX11_isRowRight_73 (by decide)
theorem oX11_isRowRight_76 : oP MT mX11_isRowRight 76 (0, 1, 0, 0, []) := o_iconst dX11_isRowRight_76 (by decide)
theorem oX11_isRowRight_77 : oP MT mX11_isRowRight 77 (22, 1, 0, 0, []) := o_zret dX11_isRowRight_77 rfl
def ops_X11_isRowRight : List (Nat × aO) := [(0, (1, 1, 0, 1, [])), (1, (13, 3, 0, 11, [])), (4, (26, 3, 0, 0, [(1, 31)])), (7, (10, 3, 1, 26, [])), (10, (1, 1, 0, 1, [])), (11, (13, 3, 0, 11, [])), (14, (1, 1, 0, 1, [])), (15, (13, 3, 6, 11, [])), (18, (1, 1, 1, 0, [])), (19, (16, 1, 1, 0, [])), (20, (26, 3, 0, 1, [(1, 101)])), (23, (10, 3, 1, 28, [])), (26, (0, 1, 0, 0, [])), (27, (22, 1, 0, 0, [])), (28, (1, 1, 0, 1, [])), (29, (13, 3, 0, 11, [])), (32, (1, 1, 0, 1, [])), (33, (13, 3, 6, 11, [])), (36, (1, 1, 1, 0, [])), (37, (16, 1, 1, 0, [])), (38, (26, 3, 0, 1, [(1, 81)])), (41, (2, 1, 2, 0, [])), (42, (1, 1, 0, 1, [])), (43, (13, 3, 6, 11, [])), (46, (1, 1, 1, 0, [])), (47, (0, 1, 0, 1, [])), (48, (4, 1, 0, 0, [])), (49, (16, 1, 1, 0, [])), (50, (1, 1, 2, 0, [])), (51, (11, 3, 1, 76, [])), (54, (1, 1, 0, 1, [])), (55, (13, 3, 6, 11, [])), (58, (1, 1, 1, 0, [])), (59, (0, 1, 0, 2, [])), (60, (4, 1, 0, 0, [])), (61, (16, 1, 1, 0, [])), (62, (1, 1, 0, 1, [])), (63, (13, 3, 0, 11, [])), (66, (12, 3, 9, 1, [])), (69, (11, 3, 1, 76, [])), (72, (0, 1, 0, 1, [])), (73, (9, 3, 77, 0, [])), (76, (0, 1, 0, 0, [])), (77, (22, 1, 0, 0, []))]
theorem os_X11_isRowRight : oA MT mX11_isRowRight ops_X11_isRowRight := (oA.cons oX11_isRowRight_0 (oA.cons oX11_isRowRight_1 (oA.cons oX11_isRowRight_4 (oA.cons oX11_isRowRight_7 (oA.cons oX11_isRowRight_10 (oA.cons oX11_isRowRight_11 (oA.cons oX11_isRowRight_14 (oA.cons oX11_isRowRight_15 (oA.cons oX11_isRowRight_18 (oA.cons oX11_isRowRight_19 (oA.cons oX11_isRowRight_20 (oA.cons oX11_isRowRight_23 (oA.cons oX11_isRowRight_26 (oA.cons oX11_isRowRight_27 (oA.cons oX11_isRowRight_28 (oA.cons oX11_isRowRight_29 (oA.cons oX11_isRowRight_32 (oA.cons oX11_isRowRight_33 (oA.cons oX11_isRowRight_36 (oA.cons oX11_isRowRight_37 (oA.cons oX11_isRowRight_38 (oA.cons oX11_isRowRight_41 (oA.cons oX11_isRowRight_42 (oA.cons oX11_isRowRight_43 (oA.cons oX11_isRowRight_46 (oA.cons oX11_isRowRight_47 (oA.cons oX11_isRowRight_48 (oA.cons oX11_isRowRight_49 (oA.cons oX11_isRowRight_50 (oA.cons oX11_isRowRight_51 (oA.cons oX11_isRowRight_54 (oA.cons oX11_isRowRight_55 (oA.cons oX11_isRowRight_58 (oA.cons oX11_isRowRight_59 (oA.cons oX11_isRowRight_60 (oA.cons oX11_isRowRight_61 (oA.cons oX11_isRowRight_62 (oA.cons oX11_isRowRight_63 (oA.cons oX11_isRowRight_66 (oA.cons oX11_isRowRight_69 (oA.cons oX11_isRowRight_72 (oA.cons oX11_isRowRight_73 (oA.cons oX11_isRowRight_76 (oA.cons oX11_isRowRight_77 oA.nil))))))))))))))))))))))))))))))))))))))))))))
theorem dX11_isPlace_0 : decode cX11_isPlace 0 = .ok (.iload_n 0, 1) := by decide +kernel
theorem dX11_isPlace_1 : decode cX11_isPlace 1 = .ok (.iconst 0, 1) := by decide +kernel
theorem dX11_isPlace_2 : decode cX11_isPlace 2 = .ok (.iconst 3, 1) := by decide +kernel
theorem dX11_isPlace_3 : decode cX11_isPlace 3 = .ok (.invokestatic 90, 3) := by decide +kernel
theorem dX11_isPlace_6 : decode cX11_isPlace 6 = .ok (.ireturn, 1) := by decide +kernel
theorem oX11_isPlace_0 : oP MT mX11_isPlace 0 (1, 1, 0, 0, []) := o_iload_n dX11_isPlace_0 rfl
theorem oX11_isPlace_1 : oP MT mX11_isPlace 1 (0, 1, 0, 0, []) := o_iconst dX11_isPlace_1 (by decide)
theorem oX11_isPlace_2 : oP MT mX11_isPlace 2 (0, 1, 0, 3, []) := o_iconst dX11_isPlace_2 (by decide)
theorem oX11_isPlace_3 : oP MT mX11_isPlace 3 (25, 3, 37, 3, []) := o_callS dX11_isPlace_3 (mj := mX11_isIn) mt_X11_isIn cmq_X11_isIn wq_282 wq_144 (by decide) (by decide)
theorem oX11_isPlace_6 : oP MT mX11_isPlace 6 (22, 1, 0, 0, []) := o_zret dX11_isPlace_6 rfl
def ops_X11_isPlace : List (Nat × aO) := [(0, (1, 1, 0, 0, [])), (1, (0, 1, 0, 0, [])), (2, (0, 1, 0, 3, [])), (3, (25, 3, 37, 3, [])), (6, (22, 1, 0, 0, []))]
theorem os_X11_isPlace : oA MT mX11_isPlace ops_X11_isPlace := (oA.cons oX11_isPlace_0 (oA.cons oX11_isPlace_1 (oA.cons oX11_isPlace_2 (oA.cons oX11_isPlace_3 (oA.cons oX11_isPlace_6 oA.nil)))))
theorem dX11_refusalOf_0 : decode cX11_refusalOf 0 = .ok (.aload_n 0, 1) := by decide +kernel
theorem dX11_refusalOf_1 : decode cX11_refusalOf 1 = .ok (.getfield 13, 3) := by decide +kernel
theorem dX11_refusalOf_4 : decode cX11_refusalOf 4 = .ok (.iload_n 1, 1) := by decide +kernel
theorem dX11_refusalOf_5 : decode cX11_refusalOf 5 = .ok (.iaload, 1) := by decide +kernel
theorem dX11_refusalOf_6 : decode cX11_refusalOf 6 = .ok (.iconst (-1), 1) := by decide +kernel
theorem dX11_refusalOf_7 : decode cX11_refusalOf 7 = .ok (.if_icmp .ne 6, 3) := by decide +kernel
theorem dX11_refusalOf_10 : decode cX11_refusalOf 10 = .ok (.bipush (-11), 2) := by decide +kernel
theorem dX11_refusalOf_12 : decode cX11_refusalOf 12 = .ok (.ireturn, 1) := by decide +kernel
theorem dX11_refusalOf_13 : decode cX11_refusalOf 13 = .ok (.aload_n 0, 1) := by decide +kernel
theorem dX11_refusalOf_14 : decode cX11_refusalOf 14 = .ok (.getfield 13, 3) := by decide +kernel
theorem dX11_refusalOf_17 : decode cX11_refusalOf 17 = .ok (.iload_n 1, 1) := by decide +kernel
theorem dX11_refusalOf_18 : decode cX11_refusalOf 18 = .ok (.iaload, 1) := by decide +kernel
theorem dX11_refusalOf_19 : decode cX11_refusalOf 19 = .ok (.iload_n 2, 1) := by decide +kernel
theorem dX11_refusalOf_20 : decode cX11_refusalOf 20 = .ok (.if_icmp .ne 7, 3) := by decide +kernel
theorem dX11_refusalOf_23 : decode cX11_refusalOf 23 = .ok (.iconst 0, 1) := by decide +kernel
theorem dX11_refusalOf_24 : decode cX11_refusalOf 24 = .ok (.goto 5, 3) := by decide +kernel
theorem dX11_refusalOf_27 : decode cX11_refusalOf 27 = .ok (.bipush (-13), 2) := by decide +kernel
theorem dX11_refusalOf_29 : decode cX11_refusalOf 29 = .ok (.ireturn, 1) := by decide +kernel
theorem oX11_refusalOf_0 : oP MT mX11_refusalOf 0 (1, 1, 0, 1, []) := o_aload_n dX11_refusalOf_0 rfl
theorem oX11_refusalOf_1 : oP MT mX11_refusalOf 1 (13, 3, 8, 11, []) := o_getR (M := mX11_refusalOf) (C := RX11) (T := TX11) (ci := 11) (j := 8) (z := 11) dX11_refusalOf_1 rfl lq_RX11_13 rfl rfl
theorem oX11_refusalOf_4 : oP MT mX11_refusalOf 4 (1, 1, 1, 0, []) := o_iload_n dX11_refusalOf_4 rfl
theorem oX11_refusalOf_5 : oP MT mX11_refusalOf 5 (16, 1, 1, 0, []) := o_iaload dX11_refusalOf_5
theorem oX11_refusalOf_6 : oP MT mX11_refusalOf 6 (0, 1, 0, (-1), []) := o_iconst dX11_refusalOf_6 (by decide)
theorem oX11_refusalOf_7 : oP MT mX11_refusalOf 7 (11, 3, 1, 13, []) := o_icmp_ne dX11_refusalOf_7 (by decide) (by decide)
theorem oX11_refusalOf_10 : oP MT mX11_refusalOf 10 (0, 2, 0, (-11), []) := o_bipush dX11_refusalOf_10 (by decide)
theorem oX11_refusalOf_12 : oP MT mX11_refusalOf 12 (21, 1, 0, 0, []) := o_iret dX11_refusalOf_12 rfl
theorem oX11_refusalOf_13 : oP MT mX11_refusalOf 13 (1, 1, 0, 1, []) := o_aload_n dX11_refusalOf_13 rfl
theorem oX11_refusalOf_14 : oP MT mX11_refusalOf 14 (13, 3, 8, 11, []) := o_getR (M := mX11_refusalOf) (C := RX11) (T := TX11) (ci := 11) (j := 8) (z := 11) dX11_refusalOf_14 rfl lq_RX11_13 rfl rfl
theorem oX11_refusalOf_17 : oP MT mX11_refusalOf 17 (1, 1, 1, 0, []) := o_iload_n dX11_refusalOf_17 rfl
theorem oX11_refusalOf_18 : oP MT mX11_refusalOf 18 (16, 1, 1, 0, []) := o_iaload dX11_refusalOf_18
theorem oX11_refusalOf_19 : oP MT mX11_refusalOf 19 (1, 1, 2, 0, []) := o_iload_n dX11_refusalOf_19 rfl
theorem oX11_refusalOf_20 : oP MT mX11_refusalOf 20 (11, 3, 1, 27, []) := o_icmp_ne dX11_refusalOf_20 (by decide) (by decide)
theorem oX11_refusalOf_23 : oP MT mX11_refusalOf 23 (0, 1, 0, 0, []) := o_iconst dX11_refusalOf_23 (by decide)
theorem oX11_refusalOf_24 : oP MT mX11_refusalOf 24 (9, 3, 29, 0, []) := o_goto dX11_refusalOf_24 (by decide)
theorem oX11_refusalOf_27 : oP MT mX11_refusalOf 27 (0, 2, 0, (-13), []) := o_bipush dX11_refusalOf_27 (by decide)
theorem oX11_refusalOf_29 : oP MT mX11_refusalOf 29 (21, 1, 0, 0, []) := o_iret dX11_refusalOf_29 rfl
def ops_X11_refusalOf : List (Nat × aO) := [(0, (1, 1, 0, 1, [])), (1, (13, 3, 8, 11, [])), (4, (1, 1, 1, 0, [])), (5, (16, 1, 1, 0, [])), (6, (0, 1, 0, (-1), [])), (7, (11, 3, 1, 13, [])), (10, (0, 2, 0, (-11), [])), (12, (21, 1, 0, 0, [])), (13, (1, 1, 0, 1, [])), (14, (13, 3, 8, 11, [])), (17, (1, 1, 1, 0, [])), (18, (16, 1, 1, 0, [])), (19, (1, 1, 2, 0, [])), (20, (11, 3, 1, 27, [])), (23, (0, 1, 0, 0, [])), (24, (9, 3, 29, 0, [])), (27, (0, 2, 0, (-13), [])), (29, (21, 1, 0, 0, []))]
theorem os_X11_refusalOf : oA MT mX11_refusalOf ops_X11_refusalOf := (oA.cons oX11_refusalOf_0 (oA.cons oX11_refusalOf_1 (oA.cons oX11_refusalOf_4 (oA.cons oX11_refusalOf_5 (oA.cons oX11_refusalOf_6 (oA.cons oX11_refusalOf_7 (oA.cons oX11_refusalOf_10 (oA.cons oX11_refusalOf_12 (oA.cons oX11_refusalOf_13 (oA.cons oX11_refusalOf_14 (oA.cons oX11_refusalOf_17 (oA.cons oX11_refusalOf_18 (oA.cons oX11_refusalOf_19 (oA.cons oX11_refusalOf_20 (oA.cons oX11_refusalOf_23 (oA.cons oX11_refusalOf_24 (oA.cons oX11_refusalOf_27 (oA.cons oX11_refusalOf_29 oA.nil))))))))))))))))))
theorem dX11_isItem_0 : decode cX11_isItem 0 = .ok (.iload_n 2, 1) := by decide +kernel
theorem dX11_isItem_1 : decode cX11_isItem 1 = .ok (.iconst 0, 1) := by decide +kernel
theorem dX11_isItem_2 : decode cX11_isItem 2 = .ok (.aload_n 0, 1) := by decide +kernel
theorem dX11_isItem_3 : decode cX11_isItem 3 = .ok (.getfield 16, 3) := by decide +kernel
theorem dX11_isItem_6 : decode cX11_isItem 6 = .ok (.iload_n 1, 1) := by decide +kernel
theorem dX11_isItem_7 : decode cX11_isItem 7 = .ok (.iaload, 1) := by decide +kernel
theorem dX11_isItem_8 : decode cX11_isItem 8 = .ok (.iconst 1, 1) := by decide +kernel
theorem dX11_isItem_9 : decode cX11_isItem 9 = .ok (.isub, 1) := by decide +kernel
theorem dX11_isItem_10 : decode cX11_isItem 10 = .ok (.invokestatic 90, 3) := by decide +kernel
theorem dX11_isItem_13 : decode cX11_isItem 13 = .ok (.ireturn, 1) := by decide +kernel
theorem oX11_isItem_0 : oP MT mX11_isItem 0 (1, 1, 2, 0, []) := o_iload_n dX11_isItem_0 rfl
theorem oX11_isItem_1 : oP MT mX11_isItem 1 (0, 1, 0, 0, []) := o_iconst dX11_isItem_1 (by decide)
theorem oX11_isItem_2 : oP MT mX11_isItem 2 (1, 1, 0, 1, []) := o_aload_n dX11_isItem_2 rfl
theorem oX11_isItem_3 : oP MT mX11_isItem 3 (13, 3, 9, 11, []) := o_getR (M := mX11_isItem) (C := RX11) (T := TX11) (ci := 11) (j := 9) (z := 11) dX11_isItem_3 rfl lq_RX11_16 rfl rfl
theorem oX11_isItem_6 : oP MT mX11_isItem 6 (1, 1, 1, 0, []) := o_iload_n dX11_isItem_6 rfl
theorem oX11_isItem_7 : oP MT mX11_isItem 7 (16, 1, 1, 0, []) := o_iaload dX11_isItem_7
theorem oX11_isItem_8 : oP MT mX11_isItem 8 (0, 1, 0, 1, []) := o_iconst dX11_isItem_8 (by decide)
theorem oX11_isItem_9 : oP MT mX11_isItem 9 (4, 1, 1, 0, []) := o_isub dX11_isItem_9
theorem oX11_isItem_10 : oP MT mX11_isItem 10 (25, 3, 37, 3, []) := o_callS dX11_isItem_10 (mj := mX11_isIn) mt_X11_isIn cmq_X11_isIn wq_282 wq_144 (by decide) (by decide)
theorem oX11_isItem_13 : oP MT mX11_isItem 13 (22, 1, 0, 0, []) := o_zret dX11_isItem_13 rfl
def ops_X11_isItem : List (Nat × aO) := [(0, (1, 1, 2, 0, [])), (1, (0, 1, 0, 0, [])), (2, (1, 1, 0, 1, [])), (3, (13, 3, 9, 11, [])), (6, (1, 1, 1, 0, [])), (7, (16, 1, 1, 0, [])), (8, (0, 1, 0, 1, [])), (9, (4, 1, 1, 0, [])), (10, (25, 3, 37, 3, [])), (13, (22, 1, 0, 0, []))]
theorem os_X11_isItem : oA MT mX11_isItem ops_X11_isItem := (oA.cons oX11_isItem_0 (oA.cons oX11_isItem_1 (oA.cons oX11_isItem_2 (oA.cons oX11_isItem_3 (oA.cons oX11_isItem_6 (oA.cons oX11_isItem_7 (oA.cons oX11_isItem_8 (oA.cons oX11_isItem_9 (oA.cons oX11_isItem_10 (oA.cons oX11_isItem_13 oA.nil))))))))))
theorem dX11_goItems_0 : decode cX11_goItems 0 = .ok (.iconst 0, 1) := by decide +kernel
theorem dX11_goItems_1 : decode cX11_goItems 1 = .ok (.istore 4, 2) := by decide +kernel
theorem dX11_goItems_3 : decode cX11_goItems 3 = .ok (.iconst 0, 1) := by decide +kernel
theorem dX11_goItems_4 : decode cX11_goItems 4 = .ok (.istore 5, 2) := by decide +kernel
theorem dX11_goItems_6 : decode cX11_goItems 6 = .ok (.iload 5, 2) := by decide +kernel
theorem dX11_goItems_8 : decode cX11_goItems 8 = .ok (.iload_n 3, 1) := by decide +kernel
theorem dX11_goItems_9 : decode cX11_goItems 9 = .ok (.if_icmp .ge 76, 3) := by decide +kernel
theorem dX11_goItems_12 : decode cX11_goItems 12 = .ok (.aload_n 0, 1) := by decide +kernel
theorem dX11_goItems_13 : decode cX11_goItems 13 = .ok (.iload_n 1, 1) := by decide +kernel
theorem dX11_goItems_14 : decode cX11_goItems 14 = .ok (.iload_n 2, 1) := by decide +kernel
theorem dX11_goItems_15 : decode cX11_goItems 15 = .ok (.iload 5, 2) := by decide +kernel
theorem dX11_goItems_17 : decode cX11_goItems 17 = .ok (.iadd, 1) := by decide +kernel
theorem dX11_goItems_18 : decode cX11_goItems 18 = .ok (.invokevirtual 322, 3) := by decide +kernel
theorem dX11_goItems_21 : decode cX11_goItems 21 = .ok (.ifCond .ne 6, 3) := by decide +kernel
theorem dX11_goItems_24 : decode cX11_goItems 24 = .ok (.bipush (-12), 2) := by decide +kernel
theorem dX11_goItems_26 : decode cX11_goItems 26 = .ok (.ireturn, 1) := by decide +kernel
theorem dX11_goItems_27 : decode cX11_goItems 27 = .ok (.aload_n 0, 1) := by decide +kernel
theorem dX11_goItems_28 : decode cX11_goItems 28 = .ok (.getfield 21, 3) := by decide +kernel
theorem dX11_goItems_31 : decode cX11_goItems 31 = .ok (.iload_n 1, 1) := by decide +kernel
theorem dX11_goItems_32 : decode cX11_goItems 32 = .ok (.aaload, 1) := by decide +kernel
theorem dX11_goItems_33 : decode cX11_goItems 33 = .ok (.iload_n 2, 1) := by decide +kernel
theorem dX11_goItems_34 : decode cX11_goItems 34 = .ok (.iload 5, 2) := by decide +kernel
theorem dX11_goItems_36 : decode cX11_goItems 36 = .ok (.iadd, 1) := by decide +kernel
theorem dX11_goItems_37 : decode cX11_goItems 37 = .ok (.iaload, 1) := by decide +kernel
theorem dX11_goItems_38 : decode cX11_goItems 38 = .ok (.istore 6, 2) := by decide +kernel
theorem dX11_goItems_40 : decode cX11_goItems 40 = .ok (.aload_n 0, 1) := by decide +kernel
theorem dX11_goItems_41 : decode cX11_goItems 41 = .ok (.getfield 56, 3) := by decide +kernel
theorem dX11_goItems_44 : decode cX11_goItems 44 = .ok (.iload 6, 2) := by decide +kernel
theorem dX11_goItems_46 : decode cX11_goItems 46 = .ok (.invokevirtual 316, 3) := by decide +kernel
theorem dX11_goItems_49 : decode cX11_goItems 49 = .ok (.ifCond .eq 13, 3) := by decide +kernel
theorem dX11_goItems_52 : decode cX11_goItems 52 = .ok (.aload_n 0, 1) := by decide +kernel
theorem dX11_goItems_53 : decode cX11_goItems 53 = .ok (.getfield 56, 3) := by decide +kernel
theorem dX11_goItems_56 : decode cX11_goItems 56 = .ok (.invokevirtual 168, 3) := by decide +kernel
theorem dX11_goItems_59 : decode cX11_goItems 59 = .ok (.ifCond .eq 6, 3) := by decide +kernel
theorem dX11_goItems_62 : decode cX11_goItems 62 = .ok (.bipush (-4), 2) := by decide +kernel
theorem dX11_goItems_64 : decode cX11_goItems 64 = .ok (.ireturn, 1) := by decide +kernel
theorem dX11_goItems_65 : decode cX11_goItems 65 = .ok (.iload 4, 2) := by decide +kernel
theorem dX11_goItems_67 : decode cX11_goItems 67 = .ok (.aload_n 0, 1) := by decide +kernel
theorem dX11_goItems_68 : decode cX11_goItems 68 = .ok (.getfield 56, 3) := by decide +kernel
theorem dX11_goItems_71 : decode cX11_goItems 71 = .ok (.iload 6, 2) := by decide +kernel
theorem dX11_goItems_73 : decode cX11_goItems 73 = .ok (.invokevirtual 206, 3) := by decide +kernel
theorem dX11_goItems_76 : decode cX11_goItems 76 = .ok (.iadd, 1) := by decide +kernel
theorem dX11_goItems_77 : decode cX11_goItems 77 = .ok (.istore 4, 2) := by decide +kernel
theorem dX11_goItems_79 : decode cX11_goItems 79 = .ok (.iinc 5 1, 3) := by decide +kernel
theorem dX11_goItems_82 : decode cX11_goItems 82 = .ok (.goto (-76), 3) := by decide +kernel
theorem dX11_goItems_85 : decode cX11_goItems 85 = .ok (.iload 4, 2) := by decide +kernel
theorem dX11_goItems_87 : decode cX11_goItems 87 = .ok (.ireturn, 1) := by decide +kernel
theorem oX11_goItems_0 : oP MT mX11_goItems 0 (0, 1, 0, 0, []) := o_iconst dX11_goItems_0 (by decide)
theorem oX11_goItems_1 : oP MT mX11_goItems 1 (2, 2, 4, 0, []) := o_istore dX11_goItems_1 (by decide)
theorem oX11_goItems_3 : oP MT mX11_goItems 3 (0, 1, 0, 0, []) := o_iconst dX11_goItems_3 (by decide)
theorem oX11_goItems_4 : oP MT mX11_goItems 4 (2, 2, 5, 0, []) := o_istore dX11_goItems_4 (by decide)
theorem oX11_goItems_6 : oP MT mX11_goItems 6 (1, 2, 5, 0, []) := o_iload dX11_goItems_6
theorem oX11_goItems_8 : oP MT mX11_goItems 8 (1, 1, 3, 0, []) := o_iload_n dX11_goItems_8 rfl
theorem oX11_goItems_9 : oP MT mX11_goItems 9 (11, 3, 3, 85, []) := o_icmp_ge dX11_goItems_9 (by decide) (by decide)
theorem oX11_goItems_12 : oP MT mX11_goItems 12 (1, 1, 0, 1, []) := o_aload_n dX11_goItems_12 rfl
theorem oX11_goItems_13 : oP MT mX11_goItems 13 (1, 1, 1, 0, []) := o_iload_n dX11_goItems_13 rfl
theorem oX11_goItems_14 : oP MT mX11_goItems 14 (1, 1, 2, 0, []) := o_iload_n dX11_goItems_14 rfl
theorem oX11_goItems_15 : oP MT mX11_goItems 15 (1, 2, 5, 0, []) := o_iload dX11_goItems_15
theorem oX11_goItems_17 : oP MT mX11_goItems 17 (4, 1, 0, 0, []) := o_iadd dX11_goItems_17
theorem oX11_goItems_18 : oP MT mX11_goItems 18 (26, 3, 0, 2, [(11, 105)]) := o_callO ((vA.cons (v_callV dX11_goItems_18 (ci := 11) rfl rfl (mj := mX11_isItem) mt_X11_isItem cmq_X11_isItem wq_384 wq_386 wq_387 (by decide) (by decide)) vA.nil))
theorem oX11_goItems_21 : oP MT mX11_goItems 21 (10, 3, 1, 27, []) := o_if_ne dX11_goItems_21 (by decide) (by decide)
theorem oX11_goItems_24 : oP MT mX11_goItems 24 (0, 2, 0, (-12), []) := o_bipush dX11_goItems_24 (by decide)
theorem oX11_goItems_26 : oP MT mX11_goItems 26 (21, 1, 0, 0, []) := o_iret dX11_goItems_26 rfl
theorem oX11_goItems_27 : oP MT mX11_goItems 27 (1, 1, 0, 1, []) := o_aload_n dX11_goItems_27 rfl
theorem oX11_goItems_28 : oP MT mX11_goItems 28 (13, 3, 10, 11, []) := o_getR (M := mX11_goItems) (C := RX11) (T := TX11) (ci := 11) (j := 10) (z := 11) dX11_goItems_28 rfl lq_RX11_21 rfl rfl
theorem oX11_goItems_31 : oP MT mX11_goItems 31 (1, 1, 1, 0, []) := o_iload_n dX11_goItems_31 rfl
theorem oX11_goItems_32 : oP MT mX11_goItems 32 (17, 1, 0, 0, []) := o_aaload dX11_goItems_32
theorem oX11_goItems_33 : oP MT mX11_goItems 33 (1, 1, 2, 0, []) := o_iload_n dX11_goItems_33 rfl
theorem oX11_goItems_34 : oP MT mX11_goItems 34 (1, 2, 5, 0, []) := o_iload dX11_goItems_34
theorem oX11_goItems_36 : oP MT mX11_goItems 36 (4, 1, 0, 0, []) := o_iadd dX11_goItems_36
theorem oX11_goItems_37 : oP MT mX11_goItems 37 (16, 1, 1, 0, []) := o_iaload dX11_goItems_37
theorem oX11_goItems_38 : oP MT mX11_goItems 38 (2, 2, 6, 0, []) := o_istore dX11_goItems_38 (by decide)
theorem oX11_goItems_40 : oP MT mX11_goItems 40 (1, 1, 0, 1, []) := o_aload_n dX11_goItems_40 rfl
theorem oX11_goItems_41 : oP MT mX11_goItems 41 (13, 3, 0, 11, []) := o_getR (M := mX11_goItems) (C := RX11) (T := TX11) (ci := 11) (j := 0) (z := 11) dX11_goItems_41 rfl lq_RX11_56 rfl rfl
theorem oX11_goItems_44 : oP MT mX11_goItems 44 (1, 2, 6, 0, []) := o_iload dX11_goItems_44
theorem oX11_goItems_46 : oP MT mX11_goItems 46 (26, 3, 0, 1, [(1, 101)]) := o_callO ((vA.cons (v_callV dX11_goItems_46 (ci := 1) rfl rfl (mj := mX1_isAct) mt_X1_isAct cmq_X1_isAct wq_376 wq_378 wq_379 (by decide) (by decide)) vA.nil))
theorem oX11_goItems_49 : oP MT mX11_goItems 49 (10, 3, 0, 62, []) := o_if_eq dX11_goItems_49 (by decide) (by decide)
theorem oX11_goItems_52 : oP MT mX11_goItems 52 (1, 1, 0, 1, []) := o_aload_n dX11_goItems_52 rfl
theorem oX11_goItems_53 : oP MT mX11_goItems 53 (13, 3, 0, 11, []) := o_getR (M := mX11_goItems) (C := RX11) (T := TX11) (ci := 11) (j := 0) (z := 11) dX11_goItems_53 rfl lq_RX11_56 rfl rfl
theorem oX11_goItems_56 : oP MT mX11_goItems 56 (26, 3, 0, 0, [(1, 31)]) := o_callO ((vA.cons (v_callV dX11_goItems_56 (ci := 1) rfl rfl (mj := mX1_isOver) mt_X1_isOver cmq_X1_isOver wq_375 wq_201 wq_202 (by decide) (by decide)) vA.nil))
theorem oX11_goItems_59 : oP MT mX11_goItems 59 (10, 3, 0, 65, []) := o_if_eq dX11_goItems_59 (by decide) (by decide)
theorem oX11_goItems_62 : oP MT mX11_goItems 62 (0, 2, 0, (-4), []) := o_bipush dX11_goItems_62 (by decide)
theorem oX11_goItems_64 : oP MT mX11_goItems 64 (21, 1, 0, 0, []) := o_iret dX11_goItems_64 rfl
theorem oX11_goItems_65 : oP MT mX11_goItems 65 (1, 2, 4, 0, []) := o_iload dX11_goItems_65
theorem oX11_goItems_67 : oP MT mX11_goItems 67 (1, 1, 0, 1, []) := o_aload_n dX11_goItems_67 rfl
theorem oX11_goItems_68 : oP MT mX11_goItems 68 (13, 3, 0, 11, []) := o_getR (M := mX11_goItems) (C := RX11) (T := TX11) (ci := 11) (j := 0) (z := 11) dX11_goItems_68 rfl lq_RX11_56 rfl rfl
theorem oX11_goItems_71 : oP MT mX11_goItems 71 (1, 2, 6, 0, []) := o_iload dX11_goItems_71
theorem oX11_goItems_73 : oP MT mX11_goItems 73 (26, 3, 0, 1, [(1, 81)]) := o_callO ((vA.cons (v_callV dX11_goItems_73 (ci := 1) rfl rfl (mj := mX1_goBy) mt_X1_goBy cmq_X1_goBy wq_380 wq_382 wq_383 (by decide) (by decide)) vA.nil))
theorem oX11_goItems_76 : oP MT mX11_goItems 76 (4, 1, 0, 0, []) := o_iadd dX11_goItems_76
theorem oX11_goItems_77 : oP MT mX11_goItems 77 (2, 2, 4, 0, []) := o_istore dX11_goItems_77 (by decide)
theorem oX11_goItems_79 : oP MT mX11_goItems 79 (3, 3, 5, 1, []) := o_iinc dX11_goItems_79 (by decide) (by decide)
theorem oX11_goItems_82 : oP MT mX11_goItems 82 (9, 3, 6, 0, []) := o_goto dX11_goItems_82 (by decide)
theorem oX11_goItems_85 : oP MT mX11_goItems 85 (1, 2, 4, 0, []) := o_iload dX11_goItems_85
theorem oX11_goItems_87 : oP MT mX11_goItems 87 (21, 1, 0, 0, []) := o_iret dX11_goItems_87 rfl
def ops_X11_goItems : List (Nat × aO) := [(0, (0, 1, 0, 0, [])), (1, (2, 2, 4, 0, [])), (3, (0, 1, 0, 0, [])), (4, (2, 2, 5, 0, [])), (6, (1, 2, 5, 0, [])), (8, (1, 1, 3, 0, [])), (9, (11, 3, 3, 85, [])), (12, (1, 1, 0, 1, [])), (13, (1, 1, 1, 0, [])), (14, (1, 1, 2, 0, [])), (15, (1, 2, 5, 0, [])), (17, (4, 1, 0, 0, [])), (18, (26, 3, 0, 2, [(11, 105)])), (21, (10, 3, 1, 27, [])), (24, (0, 2, 0, (-12), [])), (26, (21, 1, 0, 0, [])), (27, (1, 1, 0, 1, [])), (28, (13, 3, 10, 11, [])), (31, (1, 1, 1, 0, [])), (32, (17, 1, 0, 0, [])), (33, (1, 1, 2, 0, [])), (34, (1, 2, 5, 0, [])), (36, (4, 1, 0, 0, [])), (37, (16, 1, 1, 0, [])), (38, (2, 2, 6, 0, [])), (40, (1, 1, 0, 1, [])), (41, (13, 3, 0, 11, [])), (44, (1, 2, 6, 0, [])), (46, (26, 3, 0, 1, [(1, 101)])), (49, (10, 3, 0, 62, [])), (52, (1, 1, 0, 1, [])), (53, (13, 3, 0, 11, [])), (56, (26, 3, 0, 0, [(1, 31)])), (59, (10, 3, 0, 65, [])), (62, (0, 2, 0, (-4), [])), (64, (21, 1, 0, 0, [])), (65, (1, 2, 4, 0, [])), (67, (1, 1, 0, 1, [])), (68, (13, 3, 0, 11, [])), (71, (1, 2, 6, 0, [])), (73, (26, 3, 0, 1, [(1, 81)])), (76, (4, 1, 0, 0, [])), (77, (2, 2, 4, 0, [])), (79, (3, 3, 5, 1, [])), (82, (9, 3, 6, 0, [])), (85, (1, 2, 4, 0, [])), (87, (21, 1, 0, 0, []))]
theorem os_X11_goItems : oA MT mX11_goItems ops_X11_goItems := (oA.cons oX11_goItems_0 (oA.cons oX11_goItems_1 (oA.cons oX11_goItems_3 (oA.cons oX11_goItems_4 (oA.cons oX11_goItems_6 (oA.cons oX11_goItems_8 (oA.cons oX11_goItems_9 (oA.cons oX11_goItems_12 (oA.cons oX11_goItems_13 (oA.cons oX11_goItems_14 (oA.cons oX11_goItems_15 (oA.cons oX11_goItems_17 (oA.cons oX11_goItems_18 (oA.cons oX11_goItems_21 (oA.cons oX11_goItems_24 (oA.cons oX11_goItems_26 (oA.cons oX11_goItems_27 (oA.cons oX11_goItems_28 (oA.cons oX11_goItems_31 (oA.cons oX11_goItems_32 (oA.cons oX11_goItems_33 (oA.cons oX11_goItems_34 (oA.cons oX11_goItems_36 (oA.cons oX11_goItems_37 (oA.cons oX11_goItems_38 (oA.cons oX11_goItems_40 (oA.cons oX11_goItems_41 (oA.cons oX11_goItems_44 (oA.cons oX11_goItems_46 (oA.cons oX11_goItems_49 (oA.cons oX11_goItems_52 (oA.cons oX11_goItems_53 (oA.cons oX11_goItems_56 (oA.cons oX11_goItems_59 (oA.cons oX11_goItems_62 (oA.cons oX11_goItems_64 (oA.cons oX11_goItems_65 (oA.cons oX11_goItems_67 (oA.cons oX11_goItems_68 (oA.cons oX11_goItems_71 (oA.cons oX11_goItems_73 (oA.cons oX11_goItems_76 (oA.cons oX11_goItems_77 (oA.cons oX11_goItems_79 (oA.cons oX11_goItems_82 (oA.cons oX11_goItems_85 (oA.cons oX11_goItems_87 oA.nil)))))))))))))))))))))))))))))))))))))))))))))))
theorem dX11_holdsKey_0 : decode cX11_holdsKey 0 = .ok (.aload_n 0, 1) := by decide +kernel
theorem dX11_holdsKey_1 : decode cX11_holdsKey 1 = .ok (.getfield 24, 3) := by decide +kernel
theorem dX11_holdsKey_4 : decode cX11_holdsKey 4 = .ok (.iload_n 1, 1) := by decide +kernel
theorem dX11_holdsKey_5 : decode cX11_holdsKey 5 = .ok (.iaload, 1) := by decide +kernel
theorem dX11_holdsKey_6 : decode cX11_holdsKey 6 = .ok (.ifCond .ne 23, 3) := by decide +kernel
theorem dX11_holdsKey_9 : decode cX11_holdsKey 9 = .ok (.aload_n 0, 1) := by decide +kernel
theorem dX11_holdsKey_10 : decode cX11_holdsKey 10 = .ok (.getfield 56, 3) := by decide +kernel
theorem dX11_holdsKey_13 : decode cX11_holdsKey 13 = .ok (.aload_n 0, 1) := by decide +kernel
theorem dX11_holdsKey_14 : decode cX11_holdsKey 14 = .ok (.getfield 27, 3) := by decide +kernel
theorem dX11_holdsKey_17 : decode cX11_holdsKey 17 = .ok (.iload_n 1, 1) := by decide +kernel
theorem dX11_holdsKey_18 : decode cX11_holdsKey 18 = .ok (.iaload, 1) := by decide +kernel
theorem dX11_holdsKey_19 : decode cX11_holdsKey 19 = .ok (.invokevirtual 113, 3) := by decide +kernel
theorem dX11_holdsKey_22 : decode cX11_holdsKey 22 = .ok (.ifCond .eq 7, 3) := by decide +kernel
theorem dX11_holdsKey_25 : decode cX11_holdsKey 25 = .ok (.iconst 1, 1) := by decide +kernel
theorem dX11_holdsKey_26 : decode cX11_holdsKey 26 = .ok (.goto 4, 3) := by decide +kernel
theorem dX11_holdsKey_29 : decode cX11_holdsKey 29 = .ok (.iconst 0, 1) := by decide +kernel
theorem dX11_holdsKey_30 : decode cX11_holdsKey 30 = .ok (.ireturn, 1) := by decide +kernel
theorem oX11_holdsKey_0 : oP MT mX11_holdsKey 0 (1, 1, 0, 1, []) := o_aload_n dX11_holdsKey_0 rfl
theorem oX11_holdsKey_1 : oP MT mX11_holdsKey 1 (13, 3, 11, 11, []) := o_getR (M := mX11_holdsKey) (C := RX11) (T := TX11) (ci := 11) (j := 11) (z := 11) dX11_holdsKey_1 rfl lq_RX11_24 rfl rfl
theorem oX11_holdsKey_4 : oP MT mX11_holdsKey 4 (1, 1, 1, 0, []) := o_iload_n dX11_holdsKey_4 rfl
theorem oX11_holdsKey_5 : oP MT mX11_holdsKey 5 (16, 1, 1, 0, []) := o_iaload dX11_holdsKey_5
theorem oX11_holdsKey_6 : oP MT mX11_holdsKey 6 (10, 3, 1, 29, []) := o_if_ne dX11_holdsKey_6 (by decide) (by decide)
theorem oX11_holdsKey_9 : oP MT mX11_holdsKey 9 (1, 1, 0, 1, []) := o_aload_n dX11_holdsKey_9 rfl
theorem oX11_holdsKey_10 : oP MT mX11_holdsKey 10 (13, 3, 0, 11, []) := o_getR (M := mX11_holdsKey) (C := RX11) (T := TX11) (ci := 11) (j := 0) (z := 11) dX11_holdsKey_10 rfl lq_RX11_56 rfl rfl
theorem oX11_holdsKey_13 : oP MT mX11_holdsKey 13 (1, 1, 0, 1, []) := o_aload_n dX11_holdsKey_13 rfl
theorem oX11_holdsKey_14 : oP MT mX11_holdsKey 14 (13, 3, 12, 11, []) := o_getR (M := mX11_holdsKey) (C := RX11) (T := TX11) (ci := 11) (j := 12) (z := 11) dX11_holdsKey_14 rfl lq_RX11_27 rfl rfl
theorem oX11_holdsKey_17 : oP MT mX11_holdsKey 17 (1, 1, 1, 0, []) := o_iload_n dX11_holdsKey_17 rfl
theorem oX11_holdsKey_18 : oP MT mX11_holdsKey 18 (16, 1, 1, 0, []) := o_iaload dX11_holdsKey_18
theorem oX11_holdsKey_19 : oP MT mX11_holdsKey 19 (26, 3, 0, 1, [(1, 26)]) := o_callO ((vA.cons (v_callV dX11_holdsKey_19 (ci := 1) rfl rfl (mj := mX1_isKey) mt_X1_isKey cmq_X1_isKey wq_388 wq_120 wq_121 (by decide) (by decide)) vA.nil))
theorem oX11_holdsKey_22 : oP MT mX11_holdsKey 22 (10, 3, 0, 29, []) := o_if_eq dX11_holdsKey_22 (by decide) (by decide)
theorem oX11_holdsKey_25 : oP MT mX11_holdsKey 25 (0, 1, 0, 1, []) := o_iconst dX11_holdsKey_25 (by decide)
theorem oX11_holdsKey_26 : oP MT mX11_holdsKey 26 (9, 3, 30, 0, []) := o_goto dX11_holdsKey_26 (by decide)
theorem oX11_holdsKey_29 : oP MT mX11_holdsKey 29 (0, 1, 0, 0, []) := o_iconst dX11_holdsKey_29 (by decide)
theorem oX11_holdsKey_30 : oP MT mX11_holdsKey 30 (22, 1, 0, 0, []) := o_zret dX11_holdsKey_30 rfl
def ops_X11_holdsKey : List (Nat × aO) := [(0, (1, 1, 0, 1, [])), (1, (13, 3, 11, 11, [])), (4, (1, 1, 1, 0, [])), (5, (16, 1, 1, 0, [])), (6, (10, 3, 1, 29, [])), (9, (1, 1, 0, 1, [])), (10, (13, 3, 0, 11, [])), (13, (1, 1, 0, 1, [])), (14, (13, 3, 12, 11, [])), (17, (1, 1, 1, 0, [])), (18, (16, 1, 1, 0, [])), (19, (26, 3, 0, 1, [(1, 26)])), (22, (10, 3, 0, 29, [])), (25, (0, 1, 0, 1, [])), (26, (9, 3, 30, 0, [])), (29, (0, 1, 0, 0, [])), (30, (22, 1, 0, 0, []))]
theorem os_X11_holdsKey : oA MT mX11_holdsKey ops_X11_holdsKey := (oA.cons oX11_holdsKey_0 (oA.cons oX11_holdsKey_1 (oA.cons oX11_holdsKey_4 (oA.cons oX11_holdsKey_5 (oA.cons oX11_holdsKey_6 (oA.cons oX11_holdsKey_9 (oA.cons oX11_holdsKey_10 (oA.cons oX11_holdsKey_13 (oA.cons oX11_holdsKey_14 (oA.cons oX11_holdsKey_17 (oA.cons oX11_holdsKey_18 (oA.cons oX11_holdsKey_19 (oA.cons oX11_holdsKey_22 (oA.cons oX11_holdsKey_25 (oA.cons oX11_holdsKey_26 (oA.cons oX11_holdsKey_29 (oA.cons oX11_holdsKey_30 oA.nil)))))))))))))))))
theorem dX0_begin_0 : decode cX0_begin 0 = .ok (.aload_n 0, 1) := by decide +kernel
theorem dX0_begin_1 : decode cX0_begin 1 = .ok (.iload_n 1, 1) := by decide +kernel
theorem dX0_begin_2 : decode cX0_begin 2 = .ok (.putfield 15, 3) := by decide +kernel
theorem dX0_begin_5 : decode cX0_begin 5 = .ok (.aload_n 0, 1) := by decide +kernel
theorem dX0_begin_6 : decode cX0_begin 6 = .ok (.iload_n 2, 1) := by decide +kernel
theorem dX0_begin_7 : decode cX0_begin 7 = .ok (.putfield 19, 3) := by decide +kernel
theorem dX0_begin_10 : decode cX0_begin 10 = .ok (.aload_n 0, 1) := by decide +kernel
theorem dX0_begin_11 : decode cX0_begin 11 = .ok (.iconst 0, 1) := by decide +kernel
theorem dX0_begin_12 : decode cX0_begin 12 = .ok (.putfield 22, 3) := by decide +kernel
theorem dX0_begin_15 : decode cX0_begin 15 = .ok (.aload_n 0, 1) := by decide +kernel
theorem dX0_begin_16 : decode cX0_begin 16 = .ok (.iconst 0, 1) := by decide +kernel
theorem dX0_begin_17 : decode cX0_begin 17 = .ok (.putfield 26, 3) := by decide +kernel
theorem dX0_begin_20 : decode cX0_begin 20 = .ok (.return_, 1) := by decide +kernel
theorem oX0_begin_0 : oP MT mX0_begin 0 (1, 1, 0, 1, []) := o_aload_n dX0_begin_0 rfl
theorem oX0_begin_1 : oP MT mX0_begin 1 (1, 1, 1, 0, []) := o_iload_n dX0_begin_1 rfl
theorem oX0_begin_2 : oP MT mX0_begin 2 (14, 3, 0, 0, []) := o_putI (M := mX0_begin) (C := RX0) (T := TX0) (ci := 0) (j := 0) (z := 0) dX0_begin_2 rfl lq_RX0_15 rfl rfl rfl rfl
theorem oX0_begin_5 : oP MT mX0_begin 5 (1, 1, 0, 1, []) := o_aload_n dX0_begin_5 rfl
theorem oX0_begin_6 : oP MT mX0_begin 6 (1, 1, 2, 0, []) := o_iload_n dX0_begin_6 rfl
theorem oX0_begin_7 : oP MT mX0_begin 7 (14, 3, 1, 0, []) := o_putI (M := mX0_begin) (C := RX0) (T := TX0) (ci := 0) (j := 1) (z := 0) dX0_begin_7 rfl lq_RX0_19 rfl rfl rfl rfl
theorem oX0_begin_10 : oP MT mX0_begin 10 (1, 1, 0, 1, []) := o_aload_n dX0_begin_10 rfl
theorem oX0_begin_11 : oP MT mX0_begin 11 (0, 1, 0, 0, []) := o_iconst dX0_begin_11 (by decide)
theorem oX0_begin_12 : oP MT mX0_begin 12 (15, 3, 2, 0, []) := o_putZ (M := mX0_begin) (C := RX0) (T := TX0) (ci := 0) (j := 2) (z := 0) dX0_begin_12 rfl lq_RX0_22 rfl rfl rfl rfl
theorem oX0_begin_15 : oP MT mX0_begin 15 (1, 1, 0, 1, []) := o_aload_n dX0_begin_15 rfl
theorem oX0_begin_16 : oP MT mX0_begin 16 (0, 1, 0, 0, []) := o_iconst dX0_begin_16 (by decide)
theorem oX0_begin_17 : oP MT mX0_begin 17 (14, 3, 3, 0, []) := o_putI (M := mX0_begin) (C := RX0) (T := TX0) (ci := 0) (j := 3) (z := 0) dX0_begin_17 rfl lq_RX0_26 rfl rfl rfl rfl
theorem oX0_begin_20 : oP MT mX0_begin 20 (23, 1, 0, 0, []) := o_vret dX0_begin_20 rfl
def ops_X0_begin : List (Nat × aO) := [(0, (1, 1, 0, 1, [])), (1, (1, 1, 1, 0, [])), (2, (14, 3, 0, 0, [])), (5, (1, 1, 0, 1, [])), (6, (1, 1, 2, 0, [])), (7, (14, 3, 1, 0, [])), (10, (1, 1, 0, 1, [])), (11, (0, 1, 0, 0, [])), (12, (15, 3, 2, 0, [])), (15, (1, 1, 0, 1, [])), (16, (0, 1, 0, 0, [])), (17, (14, 3, 3, 0, [])), (20, (23, 1, 0, 0, []))]
theorem os_X0_begin : oA MT mX0_begin ops_X0_begin := (oA.cons oX0_begin_0 (oA.cons oX0_begin_1 (oA.cons oX0_begin_2 (oA.cons oX0_begin_5 (oA.cons oX0_begin_6 (oA.cons oX0_begin_7 (oA.cons oX0_begin_10 (oA.cons oX0_begin_11 (oA.cons oX0_begin_12 (oA.cons oX0_begin_15 (oA.cons oX0_begin_16 (oA.cons oX0_begin_17 (oA.cons oX0_begin_20 oA.nil)))))))))))))
theorem dX3_fits_0 : decode cX3_fits 0 = .ok (.aload_n 2, 1) := by decide +kernel
theorem dX3_fits_1 : decode cX3_fits 1 = .ok (.bipush 13, 2) := by decide +kernel
theorem dX3_fits_3 : decode cX3_fits 3 = .ok (.invokevirtual 7, 3) := by decide +kernel
theorem dX3_fits_6 : decode cX3_fits 6 = .ok (.aload_n 0, 1) := by decide +kernel
theorem dX3_fits_7 : decode cX3_fits 7 = .ok (.iload_n 1, 1) := by decide +kernel
theorem dX3_fits_8 : decode cX3_fits 8 = .ok (.aload_n 2, 1) := by decide +kernel
theorem dX3_fits_9 : decode cX3_fits 9 = .ok (.invokevirtual 30, 3) := by decide +kernel
theorem dX3_fits_12 : decode cX3_fits 12 = .ok (.istore_n 3, 1) := by decide +kernel
theorem dX3_fits_13 : decode cX3_fits 13 = .ok (.iload_n 3, 1) := by decide +kernel
theorem dX3_fits_14 : decode cX3_fits 14 = .ok (.aload_n 0, 1) := by decide +kernel
theorem dX3_fits_15 : decode cX3_fits 15 = .ok (.iload_n 1, 1) := by decide +kernel
theorem dX3_fits_16 : decode cX3_fits 16 = .ok (.aload_n 2, 1) := by decide +kernel
theorem dX3_fits_17 : decode cX3_fits 17 = .ok (.invokevirtual 33, 3) := by decide +kernel
theorem dX3_fits_20 : decode cX3_fits 20 = .ok (.iadd, 1) := by decide +kernel
theorem dX3_fits_21 : decode cX3_fits 21 = .ok (.ireturn, 1) := by decide +kernel
theorem oX3_fits_0 : oP MT mX3_fits 0 (1, 1, 2, 1, []) := o_aload_n dX3_fits_0 rfl
theorem oX3_fits_1 : oP MT mX3_fits 1 (0, 2, 0, 13, []) := o_bipush dX3_fits_1 (by decide)
theorem oX3_fits_3 : oP MT mX3_fits 3 (26, 3, 0, 1, [(0, 38)]) := o_callO ((vA.cons (v_callV dX3_fits_3 (ci := 0) rfl rfl (mj := mX0_ran) mt_X0_ran cmq_X0_ran wq_155 wq_148 wq_149 (by decide) (by decide)) vA.nil))
theorem oX3_fits_6 : oP MT mX3_fits 6 (1, 1, 0, 1, []) := o_aload_n dX3_fits_6 rfl
theorem oX3_fits_7 : oP MT mX3_fits 7 (1, 1, 1, 0, []) := o_iload_n dX3_fits_7 rfl
theorem oX3_fits_8 : oP MT mX3_fits 8 (1, 1, 2, 1, []) := o_aload_n dX3_fits_8 rfl
theorem oX3_fits_9 : oP MT mX3_fits 9 (26, 3, 0, 2, [(2, 42), (3, 42), (7, 42), (8, 46), (9, 47), (10, 46)]) := o_callO ((vA.cons (v_callU dX3_fits_9 (ci := 2) rfl rfl (mj := mX3_turns) mt_X3_turns cmq_X3_turns wq_389 wq_185 wq_186 wq_183 wq_390 wq_186 (by decide) (by decide) (by decide)) (vA.cons (v_callV dX3_fits_9 (ci := 3) rfl rfl (mj := mX3_turns) mt_X3_turns cmq_X3_turns wq_389 wq_186 wq_391 (by decide) (by decide)) (vA.cons (v_callU dX3_fits_9 (ci := 7) rfl rfl (mj := mX3_turns) mt_X3_turns cmq_X3_turns wq_389 wq_185 wq_186 wq_183 wq_392 wq_186 (by decide) (by decide) (by decide)) (vA.cons (v_callU dX3_fits_9 (ci := 8) rfl rfl (mj := mX8_turns) mt_X8_turns cmq_X8_turns wq_389 wq_185 wq_186 wq_183 wq_394 wq_395 (by decide) (by decide) (by decide)) (vA.cons (v_callU dX3_fits_9 (ci := 9) rfl rfl (mj := mX9_turns) mt_X9_turns cmq_X9_turns wq_389 wq_185 wq_186 wq_183 wq_397 wq_398 (by decide) (by decide) (by decide)) (vA.cons (v_callU dX3_fits_9 (ci := 10) rfl rfl (mj := mX8_turns) mt_X8_turns cmq_X8_turns wq_389 wq_185 wq_186 wq_183 wq_399 wq_395 (by decide) (by decide) (by decide)) vA.nil)))))))
theorem oX3_fits_12 : oP MT mX3_fits 12 (2, 1, 3, 0, []) := o_istore_n dX3_fits_12 rfl (by decide)
theorem oX3_fits_13 : oP MT mX3_fits 13 (1, 1, 3, 0, []) := o_iload_n dX3_fits_13 rfl
theorem oX3_fits_14 : oP MT mX3_fits 14 (1, 1, 0, 1, []) := o_aload_n dX3_fits_14 rfl
theorem oX3_fits_15 : oP MT mX3_fits 15 (1, 1, 1, 0, []) := o_iload_n dX3_fits_15 rfl
theorem oX3_fits_16 : oP MT mX3_fits 16 (1, 1, 2, 1, []) := o_aload_n dX3_fits_16 rfl
theorem oX3_fits_17 : oP MT mX3_fits 17 (26, 3, 0, 2, [(2, 44), (3, 44), (7, 43), (8, 44), (9, 48), (10, 44)]) := o_callO ((vA.cons (v_callU dX3_fits_17 (ci := 2) rfl rfl (mj := mX3_halves) mt_X3_halves cmq_X3_halves wq_400 wq_175 wq_177 wq_173 wq_401 wq_177 (by decide) (by decide) (by decide)) (vA.cons (v_callV dX3_fits_17 (ci := 3) rfl rfl (mj := mX3_halves) mt_X3_halves cmq_X3_halves wq_400 wq_177 wq_402 (by decide) (by decide)) (vA.cons (v_callU dX3_fits_17 (ci := 7) rfl rfl (mj := mX7_halves) mt_X7_halves cmq_X7_halves wq_400 wq_175 wq_177 wq_173 wq_403 wq_195 (by decide) (by decide) (by decide)) (vA.cons (v_callU dX3_fits_17 (ci := 8) rfl rfl (mj := mX3_halves) mt_X3_halves cmq_X3_halves wq_400 wq_175 wq_177 wq_173 wq_404 wq_177 (by decide) (by decide) (by decide)) (vA.cons (v_callU dX3_fits_17 (ci := 9) rfl rfl (mj := mX9_halves) mt_X9_halves cmq_X9_halves wq_400 wq_175 wq_177 wq_173 wq_406 wq_407 (by decide) (by decide) (by decide)) (vA.cons (v_callU dX3_fits_17 (ci := 10) rfl rfl (mj := mX3_halves) mt_X3_halves cmq_X3_halves wq_400 wq_175 wq_177 wq_173 wq_408 wq_177 (by decide) (by decide) (by decide)) vA.nil)))))))
theorem oX3_fits_20 : oP MT mX3_fits 20 (4, 1, 0, 0, []) := o_iadd dX3_fits_20
theorem oX3_fits_21 : oP MT mX3_fits 21 (21, 1, 0, 0, []) := o_iret dX3_fits_21 rfl
def ops_X3_fits : List (Nat × aO) := [(0, (1, 1, 2, 1, [])), (1, (0, 2, 0, 13, [])), (3, (26, 3, 0, 1, [(0, 38)])), (6, (1, 1, 0, 1, [])), (7, (1, 1, 1, 0, [])), (8, (1, 1, 2, 1, [])), (9, (26, 3, 0, 2, [(2, 42), (3, 42), (7, 42), (8, 46), (9, 47), (10, 46)])), (12, (2, 1, 3, 0, [])), (13, (1, 1, 3, 0, [])), (14, (1, 1, 0, 1, [])), (15, (1, 1, 1, 0, [])), (16, (1, 1, 2, 1, [])), (17, (26, 3, 0, 2, [(2, 44), (3, 44), (7, 43), (8, 44), (9, 48), (10, 44)])), (20, (4, 1, 0, 0, [])), (21, (21, 1, 0, 0, []))]
theorem os_X3_fits : oA MT mX3_fits ops_X3_fits := (oA.cons oX3_fits_0 (oA.cons oX3_fits_1 (oA.cons oX3_fits_3 (oA.cons oX3_fits_6 (oA.cons oX3_fits_7 (oA.cons oX3_fits_8 (oA.cons oX3_fits_9 (oA.cons oX3_fits_12 (oA.cons oX3_fits_13 (oA.cons oX3_fits_14 (oA.cons oX3_fits_15 (oA.cons oX3_fits_16 (oA.cons oX3_fits_17 (oA.cons oX3_fits_20 (oA.cons oX3_fits_21 oA.nil)))))))))))))))
theorem dX10_fits_0 : decode cX10_fits 0 = .ok (.aload_n 2, 1) := by decide +kernel
theorem dX10_fits_1 : decode cX10_fits 1 = .ok (.bipush 51, 2) := by decide +kernel
theorem dX10_fits_3 : decode cX10_fits 3 = .ok (.invokevirtual 20, 3) := by decide +kernel
theorem dX10_fits_6 : decode cX10_fits 6 = .ok (.aload_n 0, 1) := by decide +kernel
theorem dX10_fits_7 : decode cX10_fits 7 = .ok (.iload_n 1, 1) := by decide +kernel
theorem dX10_fits_8 : decode cX10_fits 8 = .ok (.aload_n 2, 1) := by decide +kernel
theorem dX10_fits_9 : decode cX10_fits 9 = .ok (.invokespecial 30, 3) := by decide +kernel
theorem dX10_fits_12 : decode cX10_fits 12 = .ok (.istore_n 3, 1) := by decide +kernel
theorem dX10_fits_13 : decode cX10_fits 13 = .ok (.iload_n 3, 1) := by decide +kernel
theorem dX10_fits_14 : decode cX10_fits 14 = .ok (.aload_n 0, 1) := by decide +kernel
theorem dX10_fits_15 : decode cX10_fits 15 = .ok (.aload_n 2, 1) := by decide +kernel
theorem dX10_fits_16 : decode cX10_fits 16 = .ok (.getfield 33, 3) := by decide +kernel
theorem dX10_fits_19 : decode cX10_fits 19 = .ok (.aload_n 2, 1) := by decide +kernel
theorem dX10_fits_20 : decode cX10_fits 20 = .ok (.invokevirtual 37, 3) := by decide +kernel
theorem dX10_fits_23 : decode cX10_fits 23 = .ok (.ixor, 1) := by decide +kernel
theorem dX10_fits_24 : decode cX10_fits 24 = .ok (.ireturn, 1) := by decide +kernel
theorem oX10_fits_0 : oP MT mX10_fits 0 (1, 1, 2, 1, []) := o_aload_n dX10_fits_0 rfl
theorem oX10_fits_1 : oP MT mX10_fits 1 (0, 2, 0, 51, []) := o_bipush dX10_fits_1 (by decide)
theorem oX10_fits_3 : oP MT mX10_fits 3 (26, 3, 0, 1, [(0, 38)]) := o_callO ((vA.cons (v_callV dX10_fits_3 (ci := 0) rfl rfl (mj := mX0_ran) mt_X0_ran cmq_X0_ran wq_156 wq_148 wq_149 (by decide) (by decide)) vA.nil))
theorem oX10_fits_6 : oP MT mX10_fits 6 (1, 1, 0, 1, []) := o_aload_n dX10_fits_6 rfl
theorem oX10_fits_7 : oP MT mX10_fits 7 (1, 1, 1, 0, []) := o_iload_n dX10_fits_7 rfl
theorem oX10_fits_8 : oP MT mX10_fits 8 (1, 1, 2, 1, []) := o_aload_n dX10_fits_8 rfl
theorem oX10_fits_9 : oP MT mX10_fits 9 (26, 3, 0, 2, [(10, 109)]) := o_callO ((vA.cons (v_callSO (xm := ⟨"IceKeys$Sleeve", "fits", "(ILIceKeys$Deed;)I"⟩) dX10_fits_9 (ci := 10) rfl rfl (mj := mX3_fits) mt_X3_fits cmq_X3_fits wq_410 wq_411 wq_159 wq_160 wq_412 (by decide) rfl (by decide) (by decide)) vA.nil))
theorem oX10_fits_12 : oP MT mX10_fits 12 (2, 1, 3, 0, []) := o_istore_n dX10_fits_12 rfl (by decide)
theorem oX10_fits_13 : oP MT mX10_fits 13 (1, 1, 3, 0, []) := o_iload_n dX10_fits_13 rfl
theorem oX10_fits_14 : oP MT mX10_fits 14 (1, 1, 0, 1, []) := o_aload_n dX10_fits_14 rfl
theorem oX10_fits_15 : oP MT mX10_fits 15 (1, 1, 2, 1, []) := o_aload_n dX10_fits_15 rfl
theorem oX10_fits_16 : oP MT mX10_fits 16 (12, 3, 1, 0, []) := o_getI (M := mX10_fits) (C := RX0) (T := TX0) (ci := 0) (j := 1) (z := 0) dX10_fits_16 rfl lq_RX10_33 rfl rfl
theorem oX10_fits_19 : oP MT mX10_fits 19 (1, 1, 2, 1, []) := o_aload_n dX10_fits_19 rfl
theorem oX10_fits_20 : oP MT mX10_fits 20 (26, 3, 0, 2, [(10, 46)]) := o_callO ((vA.cons (v_callUI (xm := ⟨"IceKeys$Third", "turns", "(ILIceKeys$Deed;)I"⟩) dX10_fits_20 (ci := 10) rfl rfl (mj := mX8_turns) mt_X8_turns cmq_X8_turns wq_413 wq_414 wq_415 wq_395 rfl (by decide) (by decide)) vA.nil))
theorem oX10_fits_23 : oP MT mX10_fits 23 (4, 1, 5, 0, []) := o_ixor dX10_fits_23
theorem oX10_fits_24 : oP MT mX10_fits 24 (21, 1, 0, 0, []) := o_iret dX10_fits_24 rfl
def ops_X10_fits : List (Nat × aO) := [(0, (1, 1, 2, 1, [])), (1, (0, 2, 0, 51, [])), (3, (26, 3, 0, 1, [(0, 38)])), (6, (1, 1, 0, 1, [])), (7, (1, 1, 1, 0, [])), (8, (1, 1, 2, 1, [])), (9, (26, 3, 0, 2, [(10, 109)])), (12, (2, 1, 3, 0, [])), (13, (1, 1, 3, 0, [])), (14, (1, 1, 0, 1, [])), (15, (1, 1, 2, 1, [])), (16, (12, 3, 1, 0, [])), (19, (1, 1, 2, 1, [])), (20, (26, 3, 0, 2, [(10, 46)])), (23, (4, 1, 5, 0, [])), (24, (21, 1, 0, 0, []))]
theorem os_X10_fits : oA MT mX10_fits ops_X10_fits := (oA.cons oX10_fits_0 (oA.cons oX10_fits_1 (oA.cons oX10_fits_3 (oA.cons oX10_fits_6 (oA.cons oX10_fits_7 (oA.cons oX10_fits_8 (oA.cons oX10_fits_9 (oA.cons oX10_fits_12 (oA.cons oX10_fits_13 (oA.cons oX10_fits_14 (oA.cons oX10_fits_15 (oA.cons oX10_fits_16 (oA.cons oX10_fits_19 (oA.cons oX10_fits_20 (oA.cons oX10_fits_23 (oA.cons oX10_fits_24 oA.nil))))))))))))))))
theorem dX1_copyFrom_0 : decode cX1_copyFrom 0 = .ok (.aload_n 0, 1) := by decide +kernel
theorem dX1_copyFrom_1 : decode cX1_copyFrom 1 = .ok (.aload_n 1, 1) := by decide +kernel
theorem dX1_copyFrom_2 : decode cX1_copyFrom 2 = .ok (.getfield 60, 3) := by decide +kernel
theorem dX1_copyFrom_5 : decode cX1_copyFrom 5 = .ok (.putfield 60, 3) := by decide +kernel
theorem dX1_copyFrom_8 : decode cX1_copyFrom 8 = .ok (.aload_n 0, 1) := by decide +kernel
theorem dX1_copyFrom_9 : decode cX1_copyFrom 9 = .ok (.aload_n 1, 1) := by decide +kernel
theorem dX1_copyFrom_10 : decode cX1_copyFrom 10 = .ok (.getfield 9, 3) := by decide +kernel
theorem dX1_copyFrom_13 : decode cX1_copyFrom 13 = .ok (.putfield 9, 3) := by decide +kernel
theorem dX1_copyFrom_16 : decode cX1_copyFrom 16 = .ok (.aload_n 0, 1) := by decide +kernel
theorem dX1_copyFrom_17 : decode cX1_copyFrom 17 = .ok (.aload_n 1, 1) := by decide +kernel
theorem dX1_copyFrom_18 : decode cX1_copyFrom 18 = .ok (.getfield 63, 3) := by decide +kernel
theorem dX1_copyFrom_21 : decode cX1_copyFrom 21 = .ok (.putfield 63, 3) := by decide +kernel
theorem dX1_copyFrom_24 : decode cX1_copyFrom 24 = .ok (.aload_n 0, 1) := by decide +kernel
theorem dX1_copyFrom_25 : decode cX1_copyFrom 25 = .ok (.aload_n 1, 1) := by decide +kernel
theorem dX1_copyFrom_26 : decode cX1_copyFrom 26 = .ok (.getfield 15, 3) := by decide +kernel
theorem dX1_copyFrom_29 : decode cX1_copyFrom 29 = .ok (.putfield 15, 3) := by decide +kernel
theorem dX1_copyFrom_32 : decode cX1_copyFrom 32 = .ok (.aload_n 1, 1) := by decide +kernel
theorem dX1_copyFrom_33 : decode cX1_copyFrom 33 = .ok (.getfield 18, 3) := by decide +kernel
theorem dX1_copyFrom_36 : decode cX1_copyFrom 36 = .ok (.iconst 0, 1) := by decide +kernel
theorem dX1_copyFrom_37 : decode cX1_copyFrom 37 = .ok (.aload_n 0, 1) := by decide +kernel
theorem dX1_copyFrom_38 : decode cX1_copyFrom 38 = .ok (.getfield 18, 3) := by decide +kernel
theorem dX1_copyFrom_41 : decode cX1_copyFrom 41 = .ok (.iconst 0, 1) := by decide +kernel
theorem dX1_copyFrom_42 : decode cX1_copyFrom 42 = .ok (.bipush 16, 2) := by decide +kernel
theorem dX1_copyFrom_44 : decode cX1_copyFrom 44 = .ok (.invokestatic 66, 3) := by decide +kernel
theorem dX1_copyFrom_47 : decode cX1_copyFrom 47 = .ok (.aload_n 1, 1) := by decide +kernel
theorem dX1_copyFrom_48 : decode cX1_copyFrom 48 = .ok (.getfield 22, 3) := by decide +kernel
theorem dX1_copyFrom_51 : decode cX1_copyFrom 51 = .ok (.iconst 0, 1) := by decide +kernel
theorem dX1_copyFrom_52 : decode cX1_copyFrom 52 = .ok (.aload_n 0, 1) := by decide +kernel
theorem dX1_copyFrom_53 : decode cX1_copyFrom 53 = .ok (.getfield 22, 3) := by decide +kernel
theorem dX1_copyFrom_56 : decode cX1_copyFrom 56 = .ok (.iconst 0, 1) := by decide +kernel
theorem dX1_copyFrom_57 : decode cX1_copyFrom 57 = .ok (.bipush 6, 2) := by decide +kernel
theorem dX1_copyFrom_59 : decode cX1_copyFrom 59 = .ok (.invokestatic 66, 3) := by decide +kernel
theorem dX1_copyFrom_62 : decode cX1_copyFrom 62 = .ok (.aload_n 1, 1) := by decide +kernel
theorem dX1_copyFrom_63 : decode cX1_copyFrom 63 = .ok (.getfield 25, 3) := by decide +kernel
theorem dX1_copyFrom_66 : decode cX1_copyFrom 66 = .ok (.iconst 0, 1) := by decide +kernel
theorem dX1_copyFrom_67 : decode cX1_copyFrom 67 = .ok (.aload_n 0, 1) := by decide +kernel
theorem dX1_copyFrom_68 : decode cX1_copyFrom 68 = .ok (.getfield 25, 3) := by decide +kernel
theorem dX1_copyFrom_71 : decode cX1_copyFrom 71 = .ok (.iconst 0, 1) := by decide +kernel
theorem dX1_copyFrom_72 : decode cX1_copyFrom 72 = .ok (.bipush 6, 2) := by decide +kernel
theorem dX1_copyFrom_74 : decode cX1_copyFrom 74 = .ok (.invokestatic 66, 3) := by decide +kernel
theorem dX1_copyFrom_77 : decode cX1_copyFrom 77 = .ok (.aload_n 0, 1) := by decide +kernel
theorem dX1_copyFrom_78 : decode cX1_copyFrom 78 = .ok (.aload_n 1, 1) := by decide +kernel
theorem dX1_copyFrom_79 : decode cX1_copyFrom 79 = .ok (.getfield 72, 3) := by decide +kernel
theorem dX1_copyFrom_82 : decode cX1_copyFrom 82 = .ok (.putfield 72, 3) := by decide +kernel
theorem dX1_copyFrom_85 : decode cX1_copyFrom 85 = .ok (.aload_n 0, 1) := by decide +kernel
theorem dX1_copyFrom_86 : decode cX1_copyFrom 86 = .ok (.aload_n 1, 1) := by decide +kernel
theorem dX1_copyFrom_87 : decode cX1_copyFrom 87 = .ok (.getfield 75, 3) := by decide +kernel
theorem dX1_copyFrom_90 : decode cX1_copyFrom 90 = .ok (.putfield 75, 3) := by decide +kernel
theorem dX1_copyFrom_93 : decode cX1_copyFrom 93 = .ok (.aload_n 1, 1) := by decide +kernel
theorem dX1_copyFrom_94 : decode cX1_copyFrom 94 = .ok (.getfield 28, 3) := by decide +kernel
theorem dX1_copyFrom_97 : decode cX1_copyFrom 97 = .ok (.iconst 0, 1) := by decide +kernel
theorem dX1_copyFrom_98 : decode cX1_copyFrom 98 = .ok (.aload_n 0, 1) := by decide +kernel
theorem dX1_copyFrom_99 : decode cX1_copyFrom 99 = .ok (.getfield 28, 3) := by decide +kernel
theorem dX1_copyFrom_102 : decode cX1_copyFrom 102 = .ok (.iconst 0, 1) := by decide +kernel
theorem dX1_copyFrom_103 : decode cX1_copyFrom 103 = .ok (.bipush 6, 2) := by decide +kernel
theorem dX1_copyFrom_105 : decode cX1_copyFrom 105 = .ok (.invokestatic 66, 3) := by decide +kernel
theorem dX1_copyFrom_108 : decode cX1_copyFrom 108 = .ok (.aload_n 1, 1) := by decide +kernel
theorem dX1_copyFrom_109 : decode cX1_copyFrom 109 = .ok (.getfield 31, 3) := by decide +kernel
theorem dX1_copyFrom_112 : decode cX1_copyFrom 112 = .ok (.iconst 0, 1) := by decide +kernel
theorem dX1_copyFrom_113 : decode cX1_copyFrom 113 = .ok (.aload_n 0, 1) := by decide +kernel
theorem dX1_copyFrom_114 : decode cX1_copyFrom 114 = .ok (.getfield 31, 3) := by decide +kernel
theorem dX1_copyFrom_117 : decode cX1_copyFrom 117 = .ok (.iconst 0, 1) := by decide +kernel
theorem dX1_copyFrom_118 : decode cX1_copyFrom 118 = .ok (.bipush 6, 2) := by decide +kernel
theorem dX1_copyFrom_120 : decode cX1_copyFrom 120 = .ok (.invokestatic 66, 3) := by decide +kernel
theorem dX1_copyFrom_123 : decode cX1_copyFrom 123 = .ok (.aload_n 1, 1) := by decide +kernel
theorem dX1_copyFrom_124 : decode cX1_copyFrom 124 = .ok (.getfield 34, 3) := by decide +kernel
theorem dX1_copyFrom_127 : decode cX1_copyFrom 127 = .ok (.iconst 0, 1) := by decide +kernel
theorem dX1_copyFrom_128 : decode cX1_copyFrom 128 = .ok (.aload_n 0, 1) := by decide +kernel
theorem dX1_copyFrom_129 : decode cX1_copyFrom 129 = .ok (.getfield 34, 3) := by decide +kernel
theorem dX1_copyFrom_132 : decode cX1_copyFrom 132 = .ok (.iconst 0, 1) := by decide +kernel
theorem dX1_copyFrom_133 : decode cX1_copyFrom 133 = .ok (.bipush 6, 2) := by decide +kernel
theorem dX1_copyFrom_135 : decode cX1_copyFrom 135 = .ok (.invokestatic 66, 3) := by decide +kernel
theorem dX1_copyFrom_138 : decode cX1_copyFrom 138 = .ok (.aload_n 1, 1) := by decide +kernel
theorem dX1_copyFrom_139 : decode cX1_copyFrom 139 = .ok (.getfield 37, 3) := by decide +kernel
theorem dX1_copyFrom_142 : decode cX1_copyFrom 142 = .ok (.iconst 0, 1) := by decide +kernel
theorem dX1_copyFrom_143 : decode cX1_copyFrom 143 = .ok (.aload_n 0, 1) := by decide +kernel
theorem dX1_copyFrom_144 : decode cX1_copyFrom 144 = .ok (.getfield 37, 3) := by decide +kernel
theorem dX1_copyFrom_147 : decode cX1_copyFrom 147 = .ok (.iconst 0, 1) := by decide +kernel
theorem dX1_copyFrom_148 : decode cX1_copyFrom 148 = .ok (.bipush 6, 2) := by decide +kernel
theorem dX1_copyFrom_150 : decode cX1_copyFrom 150 = .ok (.invokestatic 66, 3) := by decide +kernel
theorem dX1_copyFrom_153 : decode cX1_copyFrom 153 = .ok (.aload_n 0, 1) := by decide +kernel
theorem dX1_copyFrom_154 : decode cX1_copyFrom 154 = .ok (.getfield 43, 3) := by decide +kernel
theorem dX1_copyFrom_157 : decode cX1_copyFrom 157 = .ok (.aload_n 1, 1) := by decide +kernel
theorem dX1_copyFrom_158 : decode cX1_copyFrom 158 = .ok (.getfield 43, 3) := by decide +kernel
theorem dX1_copyFrom_161 : decode cX1_copyFrom 161 = .ok (.invokevirtual 78, 3) := by decide +kernel
theorem dX1_copyFrom_164 : decode cX1_copyFrom 164 = .ok (.aload_n 1, 1) := by decide +kernel
theorem dX1_copyFrom_165 : decode cX1_copyFrom 165 = .ok (.getfield 47, 3) := by decide +kernel
theorem dX1_copyFrom_168 : decode cX1_copyFrom 168 = .ok (.iconst 0, 1) := by decide +kernel
theorem dX1_copyFrom_169 : decode cX1_copyFrom 169 = .ok (.aload_n 0, 1) := by decide +kernel
theorem dX1_copyFrom_170 : decode cX1_copyFrom 170 = .ok (.getfield 47, 3) := by decide +kernel
theorem dX1_copyFrom_173 : decode cX1_copyFrom 173 = .ok (.iconst 0, 1) := by decide +kernel
theorem dX1_copyFrom_174 : decode cX1_copyFrom 174 = .ok (.bipush 24, 2) := by decide +kernel
theorem dX1_copyFrom_176 : decode cX1_copyFrom 176 = .ok (.invokestatic 66, 3) := by decide +kernel
theorem dX1_copyFrom_179 : decode cX1_copyFrom 179 = .ok (.aload_n 0, 1) := by decide +kernel
theorem dX1_copyFrom_180 : decode cX1_copyFrom 180 = .ok (.aload_n 1, 1) := by decide +kernel
theorem dX1_copyFrom_181 : decode cX1_copyFrom 181 = .ok (.getfield 82, 3) := by decide +kernel
theorem dX1_copyFrom_184 : decode cX1_copyFrom 184 = .ok (.putfield 82, 3) := by decide +kernel
theorem dX1_copyFrom_187 : decode cX1_copyFrom 187 = .ok (.return_, 1) := by decide +kernel
theorem oX1_copyFrom_0 : oP MT mX1_copyFrom 0 (1, 1, 0, 1, []) := o_aload_n dX1_copyFrom_0 rfl
theorem oX1_copyFrom_1 : oP MT mX1_copyFrom 1 (1, 1, 1, 1, []) := o_aload_n dX1_copyFrom_1 rfl
theorem oX1_copyFrom_2 : oP MT mX1_copyFrom 2 (12, 3, 1, 1, []) := o_getI (M := mX1_copyFrom) (C := RX1) (T := TX1) (ci := 1) (j := 1) (z := 1) dX1_copyFrom_2 rfl lq_RX1_60 rfl rfl
theorem oX1_copyFrom_5 : oP MT mX1_copyFrom 5 (14, 3, 1, 1, []) := o_putI (M := mX1_copyFrom) (C := RX1) (T := TX1) (ci := 1) (j := 1) (z := 1) dX1_copyFrom_5 rfl lq_RX1_60 rfl rfl rfl rfl
theorem oX1_copyFrom_8 : oP MT mX1_copyFrom 8 (1, 1, 0, 1, []) := o_aload_n dX1_copyFrom_8 rfl
theorem oX1_copyFrom_9 : oP MT mX1_copyFrom 9 (1, 1, 1, 1, []) := o_aload_n dX1_copyFrom_9 rfl
theorem oX1_copyFrom_10 : oP MT mX1_copyFrom 10 (12, 3, 2, 1, []) := o_getI (M := mX1_copyFrom) (C := RX1) (T := TX1) (ci := 1) (j := 2) (z := 1) dX1_copyFrom_10 rfl lq_RX1_9 rfl rfl
theorem oX1_copyFrom_13 : oP MT mX1_copyFrom 13 (14, 3, 2, 1, []) := o_putI (M := mX1_copyFrom) (C := RX1) (T := TX1) (ci := 1) (j := 2) (z := 1) dX1_copyFrom_13 rfl lq_RX1_9 rfl rfl rfl rfl
theorem oX1_copyFrom_16 : oP MT mX1_copyFrom 16 (1, 1, 0, 1, []) := o_aload_n dX1_copyFrom_16 rfl
theorem oX1_copyFrom_17 : oP MT mX1_copyFrom 17 (1, 1, 1, 1, []) := o_aload_n dX1_copyFrom_17 rfl
theorem oX1_copyFrom_18 : oP MT mX1_copyFrom 18 (12, 3, 3, 1, []) := o_getI (M := mX1_copyFrom) (C := RX1) (T := TX1) (ci := 1) (j := 3) (z := 1) dX1_copyFrom_18 rfl lq_RX1_63 rfl rfl
theorem oX1_copyFrom_21 : oP MT mX1_copyFrom 21 (14, 3, 3, 1, []) := o_putI (M := mX1_copyFrom) (C := RX1) (T := TX1) (ci := 1) (j := 3) (z := 1) dX1_copyFrom_21 rfl lq_RX1_63 rfl rfl rfl rfl
theorem oX1_copyFrom_24 : oP MT mX1_copyFrom 24 (1, 1, 0, 1, []) := o_aload_n dX1_copyFrom_24 rfl
theorem oX1_copyFrom_25 : oP MT mX1_copyFrom 25 (1, 1, 1, 1, []) := o_aload_n dX1_copyFrom_25 rfl
theorem oX1_copyFrom_26 : oP MT mX1_copyFrom 26 (12, 3, 4, 1, []) := o_getI (M := mX1_copyFrom) (C := RX1) (T := TX1) (ci := 1) (j := 4) (z := 1) dX1_copyFrom_26 rfl lq_RX1_15 rfl rfl
theorem oX1_copyFrom_29 : oP MT mX1_copyFrom 29 (14, 3, 4, 1, []) := o_putI (M := mX1_copyFrom) (C := RX1) (T := TX1) (ci := 1) (j := 4) (z := 1) dX1_copyFrom_29 rfl lq_RX1_15 rfl rfl rfl rfl
theorem oX1_copyFrom_32 : oP MT mX1_copyFrom 32 (1, 1, 1, 1, []) := o_aload_n dX1_copyFrom_32 rfl
theorem oX1_copyFrom_33 : oP MT mX1_copyFrom 33 (13, 3, 5, 1, []) := o_getR (M := mX1_copyFrom) (C := RX1) (T := TX1) (ci := 1) (j := 5) (z := 1) dX1_copyFrom_33 rfl lq_RX1_18 rfl rfl
theorem oX1_copyFrom_36 : oP MT mX1_copyFrom 36 (0, 1, 0, 0, []) := o_iconst dX1_copyFrom_36 (by decide)
theorem oX1_copyFrom_37 : oP MT mX1_copyFrom 37 (1, 1, 0, 1, []) := o_aload_n dX1_copyFrom_37 rfl
theorem oX1_copyFrom_38 : oP MT mX1_copyFrom 38 (13, 3, 5, 1, []) := o_getR (M := mX1_copyFrom) (C := RX1) (T := TX1) (ci := 1) (j := 5) (z := 1) dX1_copyFrom_38 rfl lq_RX1_18 rfl rfl
theorem oX1_copyFrom_41 : oP MT mX1_copyFrom 41 (0, 1, 0, 0, []) := o_iconst dX1_copyFrom_41 (by decide)
theorem oX1_copyFrom_42 : oP MT mX1_copyFrom 42 (0, 2, 0, 16, []) := o_bipush dX1_copyFrom_42 (by decide)
theorem oX1_copyFrom_44 : oP MT mX1_copyFrom 44 (29, 3, 0, 0, []) := o_copy dX1_copyFrom_44 wq_203 wq_1 wq_2 wq_3
theorem oX1_copyFrom_47 : oP MT mX1_copyFrom 47 (1, 1, 1, 1, []) := o_aload_n dX1_copyFrom_47 rfl
theorem oX1_copyFrom_48 : oP MT mX1_copyFrom 48 (13, 3, 6, 1, []) := o_getR (M := mX1_copyFrom) (C := RX1) (T := TX1) (ci := 1) (j := 6) (z := 1) dX1_copyFrom_48 rfl lq_RX1_22 rfl rfl
theorem oX1_copyFrom_51 : oP MT mX1_copyFrom 51 (0, 1, 0, 0, []) := o_iconst dX1_copyFrom_51 (by decide)
theorem oX1_copyFrom_52 : oP MT mX1_copyFrom 52 (1, 1, 0, 1, []) := o_aload_n dX1_copyFrom_52 rfl
theorem oX1_copyFrom_53 : oP MT mX1_copyFrom 53 (13, 3, 6, 1, []) := o_getR (M := mX1_copyFrom) (C := RX1) (T := TX1) (ci := 1) (j := 6) (z := 1) dX1_copyFrom_53 rfl lq_RX1_22 rfl rfl
theorem oX1_copyFrom_56 : oP MT mX1_copyFrom 56 (0, 1, 0, 0, []) := o_iconst dX1_copyFrom_56 (by decide)
theorem oX1_copyFrom_57 : oP MT mX1_copyFrom 57 (0, 2, 0, 6, []) := o_bipush dX1_copyFrom_57 (by decide)
theorem oX1_copyFrom_59 : oP MT mX1_copyFrom 59 (29, 3, 0, 0, []) := o_copy dX1_copyFrom_59 wq_203 wq_1 wq_2 wq_3
theorem oX1_copyFrom_62 : oP MT mX1_copyFrom 62 (1, 1, 1, 1, []) := o_aload_n dX1_copyFrom_62 rfl
theorem oX1_copyFrom_63 : oP MT mX1_copyFrom 63 (13, 3, 7, 1, []) := o_getR (M := mX1_copyFrom) (C := RX1) (T := TX1) (ci := 1) (j := 7) (z := 1) dX1_copyFrom_63 rfl lq_RX1_25 rfl rfl
theorem oX1_copyFrom_66 : oP MT mX1_copyFrom 66 (0, 1, 0, 0, []) := o_iconst dX1_copyFrom_66 (by decide)
theorem oX1_copyFrom_67 : oP MT mX1_copyFrom 67 (1, 1, 0, 1, []) := o_aload_n dX1_copyFrom_67 rfl
theorem oX1_copyFrom_68 : oP MT mX1_copyFrom 68 (13, 3, 7, 1, []) := o_getR (M := mX1_copyFrom) (C := RX1) (T := TX1) (ci := 1) (j := 7) (z := 1) dX1_copyFrom_68 rfl lq_RX1_25 rfl rfl
theorem oX1_copyFrom_71 : oP MT mX1_copyFrom 71 (0, 1, 0, 0, []) := o_iconst dX1_copyFrom_71 (by decide)
theorem oX1_copyFrom_72 : oP MT mX1_copyFrom 72 (0, 2, 0, 6, []) := o_bipush dX1_copyFrom_72 (by decide)
theorem oX1_copyFrom_74 : oP MT mX1_copyFrom 74 (29, 3, 0, 0, []) := o_copy dX1_copyFrom_74 wq_203 wq_1 wq_2 wq_3
theorem oX1_copyFrom_77 : oP MT mX1_copyFrom 77 (1, 1, 0, 1, []) := o_aload_n dX1_copyFrom_77 rfl
theorem oX1_copyFrom_78 : oP MT mX1_copyFrom 78 (1, 1, 1, 1, []) := o_aload_n dX1_copyFrom_78 rfl
theorem oX1_copyFrom_79 : oP MT mX1_copyFrom 79 (12, 3, 8, 1, []) := o_getI (M := mX1_copyFrom) (C := RX1) (T := TX1) (ci := 1) (j := 8) (z := 1) dX1_copyFrom_79 rfl lq_RX1_72 rfl rfl
theorem oX1_copyFrom_82 : oP MT mX1_copyFrom 82 (14, 3, 8, 1, []) := o_putI (M := mX1_copyFrom) (C := RX1) (T := TX1) (ci := 1) (j := 8) (z := 1) dX1_copyFrom_82 rfl lq_RX1_72 rfl rfl rfl rfl
theorem oX1_copyFrom_85 : oP MT mX1_copyFrom 85 (1, 1, 0, 1, []) := o_aload_n dX1_copyFrom_85 rfl
theorem oX1_copyFrom_86 : oP MT mX1_copyFrom 86 (1, 1, 1, 1, []) := o_aload_n dX1_copyFrom_86 rfl
theorem oX1_copyFrom_87 : oP MT mX1_copyFrom 87 (12, 3, 9, 1, []) := o_getI (M := mX1_copyFrom) (C := RX1) (T := TX1) (ci := 1) (j := 9) (z := 1) dX1_copyFrom_87 rfl lq_RX1_75 rfl rfl
theorem oX1_copyFrom_90 : oP MT mX1_copyFrom 90 (14, 3, 9, 1, []) := o_putI (M := mX1_copyFrom) (C := RX1) (T := TX1) (ci := 1) (j := 9) (z := 1) dX1_copyFrom_90 rfl lq_RX1_75 rfl rfl rfl rfl
theorem oX1_copyFrom_93 : oP MT mX1_copyFrom 93 (1, 1, 1, 1, []) := o_aload_n dX1_copyFrom_93 rfl
theorem oX1_copyFrom_94 : oP MT mX1_copyFrom 94 (13, 3, 10, 1, []) := o_getR (M := mX1_copyFrom) (C := RX1) (T := TX1) (ci := 1) (j := 10) (z := 1) dX1_copyFrom_94 rfl lq_RX1_28 rfl rfl
theorem oX1_copyFrom_97 : oP MT mX1_copyFrom 97 (0, 1, 0, 0, []) := o_iconst dX1_copyFrom_97 (by decide)
theorem oX1_copyFrom_98 : oP MT mX1_copyFrom 98 (1, 1, 0, 1, []) := o_aload_n dX1_copyFrom_98 rfl
theorem oX1_copyFrom_99 : oP MT mX1_copyFrom 99 (13, 3, 10, 1, []) := o_getR (M := mX1_copyFrom) (C := RX1) (T := TX1) (ci := 1) (j := 10) (z := 1) dX1_copyFrom_99 rfl lq_RX1_28 rfl rfl
theorem oX1_copyFrom_102 : oP MT mX1_copyFrom 102 (0, 1, 0, 0, []) := o_iconst dX1_copyFrom_102 (by decide)
theorem oX1_copyFrom_103 : oP MT mX1_copyFrom 103 (0, 2, 0, 6, []) := o_bipush dX1_copyFrom_103 (by decide)
theorem oX1_copyFrom_105 : oP MT mX1_copyFrom 105 (29, 3, 0, 0, []) := o_copy dX1_copyFrom_105 wq_203 wq_1 wq_2 wq_3
theorem oX1_copyFrom_108 : oP MT mX1_copyFrom 108 (1, 1, 1, 1, []) := o_aload_n dX1_copyFrom_108 rfl
theorem oX1_copyFrom_109 : oP MT mX1_copyFrom 109 (13, 3, 11, 1, []) := o_getR (M := mX1_copyFrom) (C := RX1) (T := TX1) (ci := 1) (j := 11) (z := 1) dX1_copyFrom_109 rfl lq_RX1_31 rfl rfl
theorem oX1_copyFrom_112 : oP MT mX1_copyFrom 112 (0, 1, 0, 0, []) := o_iconst dX1_copyFrom_112 (by decide)
theorem oX1_copyFrom_113 : oP MT mX1_copyFrom 113 (1, 1, 0, 1, []) := o_aload_n dX1_copyFrom_113 rfl
theorem oX1_copyFrom_114 : oP MT mX1_copyFrom 114 (13, 3, 11, 1, []) := o_getR (M := mX1_copyFrom) (C := RX1) (T := TX1) (ci := 1) (j := 11) (z := 1) dX1_copyFrom_114 rfl lq_RX1_31 rfl rfl
theorem oX1_copyFrom_117 : oP MT mX1_copyFrom 117 (0, 1, 0, 0, []) := o_iconst dX1_copyFrom_117 (by decide)
theorem oX1_copyFrom_118 : oP MT mX1_copyFrom 118 (0, 2, 0, 6, []) := o_bipush dX1_copyFrom_118 (by decide)
theorem oX1_copyFrom_120 : oP MT mX1_copyFrom 120 (29, 3, 0, 0, []) := o_copy dX1_copyFrom_120 wq_203 wq_1 wq_2 wq_3
theorem oX1_copyFrom_123 : oP MT mX1_copyFrom 123 (1, 1, 1, 1, []) := o_aload_n dX1_copyFrom_123 rfl
theorem oX1_copyFrom_124 : oP MT mX1_copyFrom 124 (13, 3, 12, 1, []) := o_getR (M := mX1_copyFrom) (C := RX1) (T := TX1) (ci := 1) (j := 12) (z := 1) dX1_copyFrom_124 rfl lq_RX1_34 rfl rfl
theorem oX1_copyFrom_127 : oP MT mX1_copyFrom 127 (0, 1, 0, 0, []) := o_iconst dX1_copyFrom_127 (by decide)
theorem oX1_copyFrom_128 : oP MT mX1_copyFrom 128 (1, 1, 0, 1, []) := o_aload_n dX1_copyFrom_128 rfl
theorem oX1_copyFrom_129 : oP MT mX1_copyFrom 129 (13, 3, 12, 1, []) := o_getR (M := mX1_copyFrom) (C := RX1) (T := TX1) (ci := 1) (j := 12) (z := 1) dX1_copyFrom_129 rfl lq_RX1_34 rfl rfl
theorem oX1_copyFrom_132 : oP MT mX1_copyFrom 132 (0, 1, 0, 0, []) := o_iconst dX1_copyFrom_132 (by decide)
theorem oX1_copyFrom_133 : oP MT mX1_copyFrom 133 (0, 2, 0, 6, []) := o_bipush dX1_copyFrom_133 (by decide)
theorem oX1_copyFrom_135 : oP MT mX1_copyFrom 135 (29, 3, 0, 0, []) := o_copy dX1_copyFrom_135 wq_203 wq_1 wq_2 wq_3
theorem oX1_copyFrom_138 : oP MT mX1_copyFrom 138 (1, 1, 1, 1, []) := o_aload_n dX1_copyFrom_138 rfl
theorem oX1_copyFrom_139 : oP MT mX1_copyFrom 139 (13, 3, 13, 1, []) := o_getR (M := mX1_copyFrom) (C := RX1) (T := TX1) (ci := 1) (j := 13) (z := 1) dX1_copyFrom_139 rfl lq_RX1_37 rfl rfl
theorem oX1_copyFrom_142 : oP MT mX1_copyFrom 142 (0, 1, 0, 0, []) := o_iconst dX1_copyFrom_142 (by decide)
theorem oX1_copyFrom_143 : oP MT mX1_copyFrom 143 (1, 1, 0, 1, []) := o_aload_n dX1_copyFrom_143 rfl
theorem oX1_copyFrom_144 : oP MT mX1_copyFrom 144 (13, 3, 13, 1, []) := o_getR (M := mX1_copyFrom) (C := RX1) (T := TX1) (ci := 1) (j := 13) (z := 1) dX1_copyFrom_144 rfl lq_RX1_37 rfl rfl
theorem oX1_copyFrom_147 : oP MT mX1_copyFrom 147 (0, 1, 0, 0, []) := o_iconst dX1_copyFrom_147 (by decide)
theorem oX1_copyFrom_148 : oP MT mX1_copyFrom 148 (0, 2, 0, 6, []) := o_bipush dX1_copyFrom_148 (by decide)
theorem oX1_copyFrom_150 : oP MT mX1_copyFrom 150 (29, 3, 0, 0, []) := o_copy dX1_copyFrom_150 wq_203 wq_1 wq_2 wq_3
theorem oX1_copyFrom_153 : oP MT mX1_copyFrom 153 (1, 1, 0, 1, []) := o_aload_n dX1_copyFrom_153 rfl
theorem oX1_copyFrom_154 : oP MT mX1_copyFrom 154 (13, 3, 14, 1, []) := o_getR (M := mX1_copyFrom) (C := RX1) (T := TX1) (ci := 1) (j := 14) (z := 1) dX1_copyFrom_154 rfl lq_RX1_43 rfl rfl
theorem oX1_copyFrom_157 : oP MT mX1_copyFrom 157 (1, 1, 1, 1, []) := o_aload_n dX1_copyFrom_157 rfl
theorem oX1_copyFrom_158 : oP MT mX1_copyFrom 158 (13, 3, 14, 1, []) := o_getR (M := mX1_copyFrom) (C := RX1) (T := TX1) (ci := 1) (j := 14) (z := 1) dX1_copyFrom_158 rfl lq_RX1_43 rfl rfl
theorem oX1_copyFrom_161 : oP MT mX1_copyFrom 161 (26, 3, 0, 1, [(6, 0)]) := o_callO ((vA.cons (v_callV dX1_copyFrom_161 (ci := 6) rfl rfl (mj := mX6_copyFrom) mt_X6_copyFrom cmq_X6_copyFrom wq_416 wq_418 wq_419 (by decide) (by decide)) vA.nil))
theorem oX1_copyFrom_164 : oP MT mX1_copyFrom 164 (1, 1, 1, 1, []) := o_aload_n dX1_copyFrom_164 rfl
theorem oX1_copyFrom_165 : oP MT mX1_copyFrom 165 (13, 3, 15, 1, []) := o_getR (M := mX1_copyFrom) (C := RX1) (T := TX1) (ci := 1) (j := 15) (z := 1) dX1_copyFrom_165 rfl lq_RX1_47 rfl rfl
theorem oX1_copyFrom_168 : oP MT mX1_copyFrom 168 (0, 1, 0, 0, []) := o_iconst dX1_copyFrom_168 (by decide)
theorem oX1_copyFrom_169 : oP MT mX1_copyFrom 169 (1, 1, 0, 1, []) := o_aload_n dX1_copyFrom_169 rfl
theorem oX1_copyFrom_170 : oP MT mX1_copyFrom 170 (13, 3, 15, 1, []) := o_getR (M := mX1_copyFrom) (C := RX1) (T := TX1) (ci := 1) (j := 15) (z := 1) dX1_copyFrom_170 rfl lq_RX1_47 rfl rfl
theorem oX1_copyFrom_173 : oP MT mX1_copyFrom 173 (0, 1, 0, 0, []) := o_iconst dX1_copyFrom_173 (by decide)
theorem oX1_copyFrom_174 : oP MT mX1_copyFrom 174 (0, 2, 0, 24, []) := o_bipush dX1_copyFrom_174 (by decide)
theorem oX1_copyFrom_176 : oP MT mX1_copyFrom 176 (29, 3, 0, 0, []) := o_copy dX1_copyFrom_176 wq_203 wq_1 wq_2 wq_3
theorem oX1_copyFrom_179 : oP MT mX1_copyFrom 179 (1, 1, 0, 1, []) := o_aload_n dX1_copyFrom_179 rfl
theorem oX1_copyFrom_180 : oP MT mX1_copyFrom 180 (1, 1, 1, 1, []) := o_aload_n dX1_copyFrom_180 rfl
theorem oX1_copyFrom_181 : oP MT mX1_copyFrom 181 (12, 3, 16, 1, []) := o_getI (M := mX1_copyFrom) (C := RX1) (T := TX1) (ci := 1) (j := 16) (z := 1) dX1_copyFrom_181 rfl lq_RX1_82 rfl rfl
theorem oX1_copyFrom_184 : oP MT mX1_copyFrom 184 (14, 3, 16, 1, []) := o_putI (M := mX1_copyFrom) (C := RX1) (T := TX1) (ci := 1) (j := 16) (z := 1) dX1_copyFrom_184 rfl lq_RX1_82 rfl rfl rfl rfl
theorem oX1_copyFrom_187 : oP MT mX1_copyFrom 187 (23, 1, 0, 0, []) := o_vret dX1_copyFrom_187 rfl
def ops_X1_copyFrom : List (Nat × aO) := [(0, (1, 1, 0, 1, [])), (1, (1, 1, 1, 1, [])), (2, (12, 3, 1, 1, [])), (5, (14, 3, 1, 1, [])), (8, (1, 1, 0, 1, [])), (9, (1, 1, 1, 1, [])), (10, (12, 3, 2, 1, [])), (13, (14, 3, 2, 1, [])), (16, (1, 1, 0, 1, [])), (17, (1, 1, 1, 1, [])), (18, (12, 3, 3, 1, [])), (21, (14, 3, 3, 1, [])), (24, (1, 1, 0, 1, [])), (25, (1, 1, 1, 1, [])), (26, (12, 3, 4, 1, [])), (29, (14, 3, 4, 1, [])), (32, (1, 1, 1, 1, [])), (33, (13, 3, 5, 1, [])), (36, (0, 1, 0, 0, [])), (37, (1, 1, 0, 1, [])), (38, (13, 3, 5, 1, [])), (41, (0, 1, 0, 0, [])), (42, (0, 2, 0, 16, [])), (44, (29, 3, 0, 0, [])), (47, (1, 1, 1, 1, [])), (48, (13, 3, 6, 1, [])), (51, (0, 1, 0, 0, [])), (52, (1, 1, 0, 1, [])), (53, (13, 3, 6, 1, [])), (56, (0, 1, 0, 0, [])), (57, (0, 2, 0, 6, [])), (59, (29, 3, 0, 0, [])), (62, (1, 1, 1, 1, [])), (63, (13, 3, 7, 1, [])), (66, (0, 1, 0, 0, [])), (67, (1, 1, 0, 1, [])), (68, (13, 3, 7, 1, [])), (71, (0, 1, 0, 0, [])), (72, (0, 2, 0, 6, [])), (74, (29, 3, 0, 0, [])), (77, (1, 1, 0, 1, [])), (78, (1, 1, 1, 1, [])), (79, (12, 3, 8, 1, [])), (82, (14, 3, 8, 1, [])), (85, (1, 1, 0, 1, [])), (86, (1, 1, 1, 1, [])), (87, (12, 3, 9, 1, [])), (90, (14, 3, 9, 1, [])), (93, (1, 1, 1, 1, [])), (94, (13, 3, 10, 1, [])), (97, (0, 1, 0, 0, [])), (98, (1, 1, 0, 1, [])), (99, (13, 3, 10, 1, [])), (102, (0, 1, 0, 0, [])), (103, (0, 2, 0, 6, [])), (105, (29, 3, 0, 0, [])), (108, (1, 1, 1, 1, [])), (109, (13, 3, 11, 1, [])), (112, (0, 1, 0, 0, [])), (113, (1, 1, 0, 1, [])), (114, (13, 3, 11, 1, [])), (117, (0, 1, 0, 0, [])), (118, (0, 2, 0, 6, [])), (120, (29, 3, 0, 0, [])), (123, (1, 1, 1, 1, [])), (124, (13, 3, 12, 1, [])), (127, (0, 1, 0, 0, [])), (128, (1, 1, 0, 1, [])), (129, (13, 3, 12, 1, [])), (132, (0, 1, 0, 0, [])), (133, (0, 2, 0, 6, [])), (135, (29, 3, 0, 0, [])), (138, (1, 1, 1, 1, [])), (139, (13, 3, 13, 1, [])), (142, (0, 1, 0, 0, [])), (143, (1, 1, 0, 1, [])), (144, (13, 3, 13, 1, [])), (147, (0, 1, 0, 0, [])), (148, (0, 2, 0, 6, [])), (150, (29, 3, 0, 0, [])), (153, (1, 1, 0, 1, [])), (154, (13, 3, 14, 1, [])), (157, (1, 1, 1, 1, [])), (158, (13, 3, 14, 1, [])), (161, (26, 3, 0, 1, [(6, 0)])), (164, (1, 1, 1, 1, [])), (165, (13, 3, 15, 1, [])), (168, (0, 1, 0, 0, [])), (169, (1, 1, 0, 1, [])), (170, (13, 3, 15, 1, [])), (173, (0, 1, 0, 0, [])), (174, (0, 2, 0, 24, [])), (176, (29, 3, 0, 0, [])), (179, (1, 1, 0, 1, [])), (180, (1, 1, 1, 1, [])), (181, (12, 3, 16, 1, [])), (184, (14, 3, 16, 1, [])), (187, (23, 1, 0, 0, []))]
theorem os_X1_copyFrom : oA MT mX1_copyFrom ops_X1_copyFrom := (oA.cons oX1_copyFrom_0 (oA.cons oX1_copyFrom_1 (oA.cons oX1_copyFrom_2 (oA.cons oX1_copyFrom_5 (oA.cons oX1_copyFrom_8 (oA.cons oX1_copyFrom_9 (oA.cons oX1_copyFrom_10 (oA.cons oX1_copyFrom_13 (oA.cons oX1_copyFrom_16 (oA.cons oX1_copyFrom_17 (oA.cons oX1_copyFrom_18 (oA.cons oX1_copyFrom_21 (oA.cons oX1_copyFrom_24 (oA.cons oX1_copyFrom_25 (oA.cons oX1_copyFrom_26 (oA.cons oX1_copyFrom_29 (oA.cons oX1_copyFrom_32 (oA.cons oX1_copyFrom_33 (oA.cons oX1_copyFrom_36 (oA.cons oX1_copyFrom_37 (oA.cons oX1_copyFrom_38 (oA.cons oX1_copyFrom_41 (oA.cons oX1_copyFrom_42 (oA.cons oX1_copyFrom_44 (oA.cons oX1_copyFrom_47 (oA.cons oX1_copyFrom_48 (oA.cons oX1_copyFrom_51 (oA.cons oX1_copyFrom_52 (oA.cons oX1_copyFrom_53 (oA.cons oX1_copyFrom_56 (oA.cons oX1_copyFrom_57 (oA.cons oX1_copyFrom_59 (oA.cons oX1_copyFrom_62 (oA.cons oX1_copyFrom_63 (oA.cons oX1_copyFrom_66 (oA.cons oX1_copyFrom_67 (oA.cons oX1_copyFrom_68 (oA.cons oX1_copyFrom_71 (oA.cons oX1_copyFrom_72 (oA.cons oX1_copyFrom_74 (oA.cons oX1_copyFrom_77 (oA.cons oX1_copyFrom_78 (oA.cons oX1_copyFrom_79 (oA.cons oX1_copyFrom_82 (oA.cons oX1_copyFrom_85 (oA.cons oX1_copyFrom_86 (oA.cons oX1_copyFrom_87 (oA.cons oX1_copyFrom_90 (oA.cons oX1_copyFrom_93 (oA.cons oX1_copyFrom_94 (oA.cons oX1_copyFrom_97 (oA.cons oX1_copyFrom_98 (oA.cons oX1_copyFrom_99 (oA.cons oX1_copyFrom_102 (oA.cons oX1_copyFrom_103 (oA.cons oX1_copyFrom_105 (oA.cons oX1_copyFrom_108 (oA.cons oX1_copyFrom_109 (oA.cons oX1_copyFrom_112 (oA.cons oX1_copyFrom_113 (oA.cons oX1_copyFrom_114 (oA.cons oX1_copyFrom_117 (oA.cons oX1_copyFrom_118 (oA.cons oX1_copyFrom_120 (oA.cons oX1_copyFrom_123 (oA.cons oX1_copyFrom_124 (oA.cons oX1_copyFrom_127 (oA.cons oX1_copyFrom_128 (oA.cons oX1_copyFrom_129 (oA.cons oX1_copyFrom_132 (oA.cons oX1_copyFrom_133 (oA.cons oX1_copyFrom_135 (oA.cons oX1_copyFrom_138 (oA.cons oX1_copyFrom_139 (oA.cons oX1_copyFrom_142 (oA.cons oX1_copyFrom_143 (oA.cons oX1_copyFrom_144 (oA.cons oX1_copyFrom_147 (oA.cons oX1_copyFrom_148 (oA.cons oX1_copyFrom_150 (oA.cons oX1_copyFrom_153 (oA.cons oX1_copyFrom_154 (oA.cons oX1_copyFrom_157 (oA.cons oX1_copyFrom_158 (oA.cons oX1_copyFrom_161 (oA.cons oX1_copyFrom_164 (oA.cons oX1_copyFrom_165 (oA.cons oX1_copyFrom_168 (oA.cons oX1_copyFrom_169 (oA.cons oX1_copyFrom_170 (oA.cons oX1_copyFrom_173 (oA.cons oX1_copyFrom_174 (oA.cons oX1_copyFrom_176 (oA.cons oX1_copyFrom_179 (oA.cons oX1_copyFrom_180 (oA.cons oX1_copyFrom_181 (oA.cons oX1_copyFrom_184 (oA.cons oX1_copyFrom_187 oA.nil))))))))))))))))))))))))))))))))))))))))))))))))))))))))))))))))))))))))))))))))))))))))))))))))))
theorem dX11_key_0 : decode cX11_key 0 = .ok (.iload_n 1, 1) := by decide +kernel
theorem dX11_key_1 : decode cX11_key 1 = .ok (.invokestatic 86, 3) := by decide +kernel
theorem dX11_key_4 : decode cX11_key 4 = .ok (.ifCond .eq 31, 3) := by decide +kernel
theorem dX11_key_7 : decode cX11_key 7 = .ok (.iload_n 2, 1) := by decide +kernel
theorem dX11_key_8 : decode cX11_key 8 = .ok (.iconst 0, 1) := by decide +kernel
theorem dX11_key_9 : decode cX11_key 9 = .ok (.bipush 99, 2) := by decide +kernel
theorem dX11_key_11 : decode cX11_key 11 = .ok (.invokestatic 90, 3) := by decide +kernel
theorem dX11_key_14 : decode cX11_key 14 = .ok (.ifCond .eq 21, 3) := by decide +kernel
theorem dX11_key_17 : decode cX11_key 17 = .ok (.iload_n 3, 1) := by decide +kernel
theorem dX11_key_18 : decode cX11_key 18 = .ok (.iconst 0, 1) := by decide +kernel
theorem dX11_key_19 : decode cX11_key 19 = .ok (.bipush 9, 2) := by decide +kernel
theorem dX11_key_21 : decode cX11_key 21 = .ok (.invokestatic 90, 3) := by decide +kernel
theorem dX11_key_24 : decode cX11_key 24 = .ok (.ifCond .eq 11, 3) := by decide +kernel
theorem dX11_key_27 : decode cX11_key 27 = .ok (.iload 4, 2) := by decide +kernel
theorem dX11_key_29 : decode cX11_key 29 = .ok (.invokestatic 94, 3) := by decide +kernel
theorem dX11_key_32 : decode cX11_key 32 = .ok (.ifCond .ne 5, 3) := by decide +kernel
theorem dX11_key_35 : decode cX11_key 35 = .ok (.iconst (-1), 1) := by decide +kernel
theorem dX11_key_36 : decode cX11_key 36 = .ok (.ireturn, 1) := by decide +kernel
theorem dX11_key_37 : decode cX11_key 37 = .ok (.aload_n 0, 1) := by decide +kernel
theorem dX11_key_38 : decode cX11_key 38 = .ok (.getfield 56, 3) := by decide +kernel
theorem dX11_key_41 : decode cX11_key 41 = .ok (.getfield 97, 3) := by decide +kernel
theorem dX11_key_44 : decode cX11_key 44 = .ok (.bipush 6, 2) := by decide +kernel
theorem dX11_key_46 : decode cX11_key 46 = .ok (.if_icmp .lt 6, 3) := by decide +kernel
theorem dX11_key_49 : decode cX11_key 49 = .ok (.bipush (-2), 2) := by decide +kernel
theorem dX11_key_51 : decode cX11_key 51 = .ok (.ireturn, 1) := by decide +kernel
theorem dX11_key_52 : decode cX11_key 52 = .ok (.aload_n 0, 1) := by decide +kernel
theorem dX11_key_53 : decode cX11_key 53 = .ok (.getfield 56, 3) := by decide +kernel
theorem dX11_key_56 : decode cX11_key 56 = .ok (.getfield 97, 3) := by decide +kernel
theorem dX11_key_59 : decode cX11_key 59 = .ok (.istore 5, 2) := by decide +kernel
theorem dX11_key_61 : decode cX11_key 61 = .ok (.aload_n 0, 1) := by decide +kernel
theorem dX11_key_62 : decode cX11_key 62 = .ok (.getfield 56, 3) := by decide +kernel
theorem dX11_key_65 : decode cX11_key 65 = .ok (.getfield 101, 3) := by decide +kernel
theorem dX11_key_68 : decode cX11_key 68 = .ok (.iload 5, 2) := by decide +kernel
theorem dX11_key_70 : decode cX11_key 70 = .ok (.iload_n 1, 1) := by decide +kernel
theorem dX11_key_71 : decode cX11_key 71 = .ok (.iastore, 1) := by decide +kernel
theorem dX11_key_72 : decode cX11_key 72 = .ok (.aload_n 0, 1) := by decide +kernel
theorem dX11_key_73 : decode cX11_key 73 = .ok (.getfield 56, 3) := by decide +kernel
theorem dX11_key_76 : decode cX11_key 76 = .ok (.getfield 104, 3) := by decide +kernel
theorem dX11_key_79 : decode cX11_key 79 = .ok (.iload 5, 2) := by decide +kernel
theorem dX11_key_81 : decode cX11_key 81 = .ok (.iload_n 2, 1) := by decide +kernel
theorem dX11_key_82 : decode cX11_key 82 = .ok (.iastore, 1) := by decide +kernel
theorem dX11_key_83 : decode cX11_key 83 = .ok (.aload_n 0, 1) := by decide +kernel
theorem dX11_key_84 : decode cX11_key 84 = .ok (.getfield 56, 3) := by decide +kernel
theorem dX11_key_87 : decode cX11_key 87 = .ok (.getfield 107, 3) := by decide +kernel
theorem dX11_key_90 : decode cX11_key 90 = .ok (.iload 5, 2) := by decide +kernel
theorem dX11_key_92 : decode cX11_key 92 = .ok (.iload_n 3, 1) := by decide +kernel
theorem dX11_key_93 : decode cX11_key 93 = .ok (.iastore, 1) := by decide +kernel
theorem dX11_key_94 : decode cX11_key 94 = .ok (.aload_n 0, 1) := by decide +kernel
theorem dX11_key_95 : decode cX11_key 95 = .ok (.getfield 56, 3) := by decide +kernel
theorem dX11_key_98 : decode cX11_key 98 = .ok (.getfield 110, 3) := by decide +kernel
theorem dX11_key_101 : decode cX11_key 101 = .ok (.iload 5, 2) := by decide +kernel
theorem dX11_key_103 : decode cX11_key 103 = .ok (.iload 4, 2) := by decide +kernel
theorem dX11_key_105 : decode cX11_key 105 = .ok (.iastore, 1) := by decide +kernel
theorem dX11_key_106 : decode cX11_key 106 = .ok (.aload_n 0, 1) := by decide +kernel
theorem dX11_key_107 : decode cX11_key 107 = .ok (.getfield 56, 3) := by decide +kernel
theorem dX11_key_110 : decode cX11_key 110 = .ok (.iload 5, 2) := by decide +kernel
theorem dX11_key_112 : decode cX11_key 112 = .ok (.iconst 1, 1) := by decide +kernel
theorem dX11_key_113 : decode cX11_key 113 = .ok (.iadd, 1) := by decide +kernel
theorem dX11_key_114 : decode cX11_key 114 = .ok (.putfield 97, 3) := by decide +kernel
theorem dX11_key_117 : decode cX11_key 117 = .ok (.iload 5, 2) := by decide +kernel
theorem dX11_key_119 : decode cX11_key 119 = .ok (.ireturn, 1) := by decide +kernel
theorem oX11_key_0 : oP MT mX11_key 0 (1, 1, 1, 0, []) := o_iload_n dX11_key_0 rfl
theorem oX11_key_1 : oP MT mX11_key 1 (25, 3, 184, 1, []) := o_callS dX11_key_1 (mj := mX11_isKeyKind) mt_X11_isKeyKind cmq_X11_isKeyKind wq_641 wq_643 (by decide) (by decide)
theorem oX11_key_4 : oP MT mX11_key 4 (10, 3, 0, 35, []) := o_if_eq dX11_key_4 (by decide) (by decide)
theorem oX11_key_7 : oP MT mX11_key 7 (1, 1, 2, 0, []) := o_iload_n dX11_key_7 rfl
theorem oX11_key_8 : oP MT mX11_key 8 (0, 1, 0, 0, []) := o_iconst dX11_key_8 (by decide)
theorem oX11_key_9 : oP MT mX11_key 9 (0, 2, 0, 99, []) := o_bipush dX11_key_9 (by decide)
theorem oX11_key_11 : oP MT mX11_key 11 (25, 3, 37, 3, []) := o_callS dX11_key_11 (mj := mX11_isIn) mt_X11_isIn cmq_X11_isIn wq_282 wq_144 (by decide) (by decide)
theorem oX11_key_14 : oP MT mX11_key 14 (10, 3, 0, 35, []) := o_if_eq dX11_key_14 (by decide) (by decide)
theorem oX11_key_17 : oP MT mX11_key 17 (1, 1, 3, 0, []) := o_iload_n dX11_key_17 rfl
theorem oX11_key_18 : oP MT mX11_key 18 (0, 1, 0, 0, []) := o_iconst dX11_key_18 (by decide)
theorem oX11_key_19 : oP MT mX11_key 19 (0, 2, 0, 9, []) := o_bipush dX11_key_19 (by decide)
theorem oX11_key_21 : oP MT mX11_key 21 (25, 3, 37, 3, []) := o_callS dX11_key_21 (mj := mX11_isIn) mt_X11_isIn cmq_X11_isIn wq_282 wq_144 (by decide) (by decide)
theorem oX11_key_24 : oP MT mX11_key 24 (10, 3, 0, 35, []) := o_if_eq dX11_key_24 (by decide) (by decide)
theorem oX11_key_27 : oP MT mX11_key 27 (1, 2, 4, 0, []) := o_iload dX11_key_27
theorem oX11_key_29 : oP MT mX11_key 29 (25, 3, 185, 1, []) := o_callS dX11_key_29 (mj := mX11_isGate) mt_X11_isGate cmq_X11_isGate wq_644 wq_646 (by decide) (by decide)
theorem oX11_key_32 : oP MT mX11_key 32 (10, 3, 1, 37, []) := o_if_ne dX11_key_32 (by decide) (by decide)
theorem oX11_key_35 : oP MT mX11_key 35 (0, 1, 0, (-1), []) := o_iconst dX11_key_35 (by decide)
theorem oX11_key_36 : oP MT mX11_key 36 (21, 1, 0, 0, []) := o_iret dX11_key_36 rfl
theorem oX11_key_37 : oP MT mX11_key 37 (1, 1, 0, 1, []) := o_aload_n dX11_key_37 rfl
theorem oX11_key_38 : oP MT mX11_key 38 (13, 3, 0, 11, []) := o_getR (M := mX11_key) (C := RX11) (T := TX11) (ci := 11) (j := 0) (z := 11) dX11_key_38 rfl lq_RX11_56 rfl rfl
theorem oX11_key_41 : oP MT mX11_key 41 (12, 3, 8, 1, []) := o_getI (M := mX11_key) (C := RX1) (T := TX1) (ci := 1) (j := 8) (z := 1) dX11_key_41 rfl lq_RX11_97 rfl rfl
theorem oX11_key_44 : oP MT mX11_key 44 (0, 2, 0, 6, []) := o_bipush dX11_key_44 (by decide)
theorem oX11_key_46 : oP MT mX11_key 46 (11, 3, 2, 52, []) := o_icmp_lt dX11_key_46 (by decide) (by decide)
theorem oX11_key_49 : oP MT mX11_key 49 (0, 2, 0, (-2), []) := o_bipush dX11_key_49 (by decide)
theorem oX11_key_51 : oP MT mX11_key 51 (21, 1, 0, 0, []) := o_iret dX11_key_51 rfl
theorem oX11_key_52 : oP MT mX11_key 52 (1, 1, 0, 1, []) := o_aload_n dX11_key_52 rfl
theorem oX11_key_53 : oP MT mX11_key 53 (13, 3, 0, 11, []) := o_getR (M := mX11_key) (C := RX11) (T := TX11) (ci := 11) (j := 0) (z := 11) dX11_key_53 rfl lq_RX11_56 rfl rfl
theorem oX11_key_56 : oP MT mX11_key 56 (12, 3, 8, 1, []) := o_getI (M := mX11_key) (C := RX1) (T := TX1) (ci := 1) (j := 8) (z := 1) dX11_key_56 rfl lq_RX11_97 rfl rfl
theorem oX11_key_59 : oP MT mX11_key 59 (2, 2, 5, 0, []) := o_istore dX11_key_59 (by decide)
theorem oX11_key_61 : oP MT mX11_key 61 (1, 1, 0, 1, []) := o_aload_n dX11_key_61 rfl
theorem oX11_key_62 : oP MT mX11_key 62 (13, 3, 0, 11, []) := o_getR (M := mX11_key) (C := RX11) (T := TX11) (ci := 11) (j := 0) (z := 11) dX11_key_62 rfl lq_RX11_56 rfl rfl
theorem oX11_key_65 : oP MT mX11_key 65 (13, 3, 10, 1, []) := o_getR (M := mX11_key) (C := RX1) (T := TX1) (ci := 1) (j := 10) (z := 1) dX11_key_65 rfl lq_RX11_101 rfl rfl
theorem oX11_key_68 : oP MT mX11_key 68 (1, 2, 5, 0, []) := o_iload dX11_key_68
theorem oX11_key_70 : oP MT mX11_key 70 (1, 1, 1, 0, []) := o_iload_n dX11_key_70 rfl
theorem oX11_key_71 : oP MT mX11_key 71 (18, 1, 0, 0, []) := o_iastore dX11_key_71
theorem oX11_key_72 : oP MT mX11_key 72 (1, 1, 0, 1, []) := o_aload_n dX11_key_72 rfl
theorem oX11_key_73 : oP MT mX11_key 73 (13, 3, 0, 11, []) := o_getR (M := mX11_key) (C := RX11) (T := TX11) (ci := 11) (j := 0) (z := 11) dX11_key_73 rfl lq_RX11_56 rfl rfl
theorem oX11_key_76 : oP MT mX11_key 76 (13, 3, 11, 1, []) := o_getR (M := mX11_key) (C := RX1) (T := TX1) (ci := 1) (j := 11) (z := 1) dX11_key_76 rfl lq_RX11_104 rfl rfl
theorem oX11_key_79 : oP MT mX11_key 79 (1, 2, 5, 0, []) := o_iload dX11_key_79
theorem oX11_key_81 : oP MT mX11_key 81 (1, 1, 2, 0, []) := o_iload_n dX11_key_81 rfl
theorem oX11_key_82 : oP MT mX11_key 82 (18, 1, 0, 0, []) := o_iastore dX11_key_82
theorem oX11_key_83 : oP MT mX11_key 83 (1, 1, 0, 1, []) := o_aload_n dX11_key_83 rfl
theorem oX11_key_84 : oP MT mX11_key 84 (13, 3, 0, 11, []) := o_getR (M := mX11_key) (C := RX11) (T := TX11) (ci := 11) (j := 0) (z := 11) dX11_key_84 rfl lq_RX11_56 rfl rfl
theorem oX11_key_87 : oP MT mX11_key 87 (13, 3, 12, 1, []) := o_getR (M := mX11_key) (C := RX1) (T := TX1) (ci := 1) (j := 12) (z := 1) dX11_key_87 rfl lq_RX11_107 rfl rfl
theorem oX11_key_90 : oP MT mX11_key 90 (1, 2, 5, 0, []) := o_iload dX11_key_90
theorem oX11_key_92 : oP MT mX11_key 92 (1, 1, 3, 0, []) := o_iload_n dX11_key_92 rfl
theorem oX11_key_93 : oP MT mX11_key 93 (18, 1, 0, 0, []) := o_iastore dX11_key_93
theorem oX11_key_94 : oP MT mX11_key 94 (1, 1, 0, 1, []) := o_aload_n dX11_key_94 rfl
theorem oX11_key_95 : oP MT mX11_key 95 (13, 3, 0, 11, []) := o_getR (M := mX11_key) (C := RX11) (T := TX11) (ci := 11) (j := 0) (z := 11) dX11_key_95 rfl lq_RX11_56 rfl rfl
theorem oX11_key_98 : oP MT mX11_key 98 (13, 3, 13, 1, []) := o_getR (M := mX11_key) (C := RX1) (T := TX1) (ci := 1) (j := 13) (z := 1) dX11_key_98 rfl lq_RX11_110 rfl rfl
theorem oX11_key_101 : oP MT mX11_key 101 (1, 2, 5, 0, []) := o_iload dX11_key_101
theorem oX11_key_103 : oP MT mX11_key 103 (1, 2, 4, 0, []) := o_iload dX11_key_103
theorem oX11_key_105 : oP MT mX11_key 105 (18, 1, 0, 0, []) := o_iastore dX11_key_105
theorem oX11_key_106 : oP MT mX11_key 106 (1, 1, 0, 1, []) := o_aload_n dX11_key_106 rfl
theorem oX11_key_107 : oP MT mX11_key 107 (13, 3, 0, 11, []) := o_getR (M := mX11_key) (C := RX11) (T := TX11) (ci := 11) (j := 0) (z := 11) dX11_key_107 rfl lq_RX11_56 rfl rfl
theorem oX11_key_110 : oP MT mX11_key 110 (1, 2, 5, 0, []) := o_iload dX11_key_110
theorem oX11_key_112 : oP MT mX11_key 112 (0, 1, 0, 1, []) := o_iconst dX11_key_112 (by decide)
theorem oX11_key_113 : oP MT mX11_key 113 (4, 1, 0, 0, []) := o_iadd dX11_key_113
theorem oX11_key_114 : oP MT mX11_key 114 (14, 3, 8, 1, []) := o_putI (M := mX11_key) (C := RX1) (T := TX1) (ci := 1) (j := 8) (z := 1) dX11_key_114 rfl lq_RX11_97 rfl rfl rfl rfl
theorem oX11_key_117 : oP MT mX11_key 117 (1, 2, 5, 0, []) := o_iload dX11_key_117
theorem oX11_key_119 : oP MT mX11_key 119 (21, 1, 0, 0, []) := o_iret dX11_key_119 rfl
def ops_X11_key : List (Nat × aO) := [(0, (1, 1, 1, 0, [])), (1, (25, 3, 184, 1, [])), (4, (10, 3, 0, 35, [])), (7, (1, 1, 2, 0, [])), (8, (0, 1, 0, 0, [])), (9, (0, 2, 0, 99, [])), (11, (25, 3, 37, 3, [])), (14, (10, 3, 0, 35, [])), (17, (1, 1, 3, 0, [])), (18, (0, 1, 0, 0, [])), (19, (0, 2, 0, 9, [])), (21, (25, 3, 37, 3, [])), (24, (10, 3, 0, 35, [])), (27, (1, 2, 4, 0, [])), (29, (25, 3, 185, 1, [])), (32, (10, 3, 1, 37, [])), (35, (0, 1, 0, (-1), [])), (36, (21, 1, 0, 0, [])), (37, (1, 1, 0, 1, [])), (38, (13, 3, 0, 11, [])), (41, (12, 3, 8, 1, [])), (44, (0, 2, 0, 6, [])), (46, (11, 3, 2, 52, [])), (49, (0, 2, 0, (-2), [])), (51, (21, 1, 0, 0, [])), (52, (1, 1, 0, 1, [])), (53, (13, 3, 0, 11, [])), (56, (12, 3, 8, 1, [])), (59, (2, 2, 5, 0, [])), (61, (1, 1, 0, 1, [])), (62, (13, 3, 0, 11, [])), (65, (13, 3, 10, 1, [])), (68, (1, 2, 5, 0, [])), (70, (1, 1, 1, 0, [])), (71, (18, 1, 0, 0, [])), (72, (1, 1, 0, 1, [])), (73, (13, 3, 0, 11, [])), (76, (13, 3, 11, 1, [])), (79, (1, 2, 5, 0, [])), (81, (1, 1, 2, 0, [])), (82, (18, 1, 0, 0, [])), (83, (1, 1, 0, 1, [])), (84, (13, 3, 0, 11, [])), (87, (13, 3, 12, 1, [])), (90, (1, 2, 5, 0, [])), (92, (1, 1, 3, 0, [])), (93, (18, 1, 0, 0, [])), (94, (1, 1, 0, 1, [])), (95, (13, 3, 0, 11, [])), (98, (13, 3, 13, 1, [])), (101, (1, 2, 5, 0, [])), (103, (1, 2, 4, 0, [])), (105, (18, 1, 0, 0, [])), (106, (1, 1, 0, 1, [])), (107, (13, 3, 0, 11, [])), (110, (1, 2, 5, 0, [])), (112, (0, 1, 0, 1, [])), (113, (4, 1, 0, 0, [])), (114, (14, 3, 8, 1, [])), (117, (1, 2, 5, 0, [])), (119, (21, 1, 0, 0, []))]
theorem os_X11_key : oA MT mX11_key ops_X11_key := (oA.cons oX11_key_0 (oA.cons oX11_key_1 (oA.cons oX11_key_4 (oA.cons oX11_key_7 (oA.cons oX11_key_8 (oA.cons oX11_key_9 (oA.cons oX11_key_11 (oA.cons oX11_key_14 (oA.cons oX11_key_17 (oA.cons oX11_key_18 (oA.cons oX11_key_19 (oA.cons oX11_key_21 (oA.cons oX11_key_24 (oA.cons oX11_key_27 (oA.cons oX11_key_29 (oA.cons oX11_key_32 (oA.cons oX11_key_35 (oA.cons oX11_key_36 (oA.cons oX11_key_37 (oA.cons oX11_key_38 (oA.cons oX11_key_41 (oA.cons oX11_key_44 (oA.cons oX11_key_46 (oA.cons oX11_key_49 (oA.cons oX11_key_51 (oA.cons oX11_key_52 (oA.cons oX11_key_53 (oA.cons oX11_key_56 (oA.cons oX11_key_59 (oA.cons oX11_key_61 (oA.cons oX11_key_62 (oA.cons oX11_key_65 (oA.cons oX11_key_68 (oA.cons oX11_key_70 (oA.cons oX11_key_71 (oA.cons oX11_key_72 (oA.cons oX11_key_73 (oA.cons oX11_key_76 (oA.cons oX11_key_79 (oA.cons oX11_key_81 (oA.cons oX11_key_82 (oA.cons oX11_key_83 (oA.cons oX11_key_84 (oA.cons oX11_key_87 (oA.cons oX11_key_90 (oA.cons oX11_key_92 (oA.cons oX11_key_93 (oA.cons oX11_key_94 (oA.cons oX11_key_95 (oA.cons oX11_key_98 (oA.cons oX11_key_101 (oA.cons oX11_key_103 (oA.cons oX11_key_105 (oA.cons oX11_key_106 (oA.cons oX11_key_107 (oA.cons oX11_key_110 (oA.cons oX11_key_112 (oA.cons oX11_key_113 (oA.cons oX11_key_114 (oA.cons oX11_key_117 (oA.cons oX11_key_119 oA.nil)))))))))))))))))))))))))))))))))))))))))))))))))))))))))))))
theorem dX11_isKeyKind_0 : decode cX11_isKeyKind 0 = .ok (.iload_n 0, 1) := by decide +kernel
theorem dX11_isKeyKind_1 : decode cX11_isKeyKind 1 = .ok (.iconst 1, 1) := by decide +kernel
theorem dX11_isKeyKind_2 : decode cX11_isKeyKind 2 = .ok (.iconst 5, 1) := by decide +kernel
theorem dX11_isKeyKind_3 : decode cX11_isKeyKind 3 = .ok (.invokestatic 90, 3) := by decide +kernel
theorem dX11_isKeyKind_6 : decode cX11_isKeyKind 6 = .ok (.ireturn, 1) := by decide +kernel
theorem oX11_isKeyKind_0 : oP MT mX11_isKeyKind 0 (1, 1, 0, 0, []) := o_iload_n dX11_isKeyKind_0 rfl
theorem oX11_isKeyKind_1 : oP MT mX11_isKeyKind 1 (0, 1, 0, 1, []) := o_iconst dX11_isKeyKind_1 (by decide)
theorem oX11_isKeyKind_2 : oP MT mX11_isKeyKind 2 (0, 1, 0, 5, []) := o_iconst dX11_isKeyKind_2 (by decide)
theorem oX11_isKeyKind_3 : oP MT mX11_isKeyKind 3 (25, 3, 37, 3, []) := o_callS dX11_isKeyKind_3 (mj := mX11_isIn) mt_X11_isIn cmq_X11_isIn wq_282 wq_144 (by decide) (by decide)
theorem oX11_isKeyKind_6 : oP MT mX11_isKeyKind 6 (22, 1, 0, 0, []) := o_zret dX11_isKeyKind_6 rfl
def ops_X11_isKeyKind : List (Nat × aO) := [(0, (1, 1, 0, 0, [])), (1, (0, 1, 0, 1, [])), (2, (0, 1, 0, 5, [])), (3, (25, 3, 37, 3, [])), (6, (22, 1, 0, 0, []))]
theorem os_X11_isKeyKind : oA MT mX11_isKeyKind ops_X11_isKeyKind := (oA.cons oX11_isKeyKind_0 (oA.cons oX11_isKeyKind_1 (oA.cons oX11_isKeyKind_2 (oA.cons oX11_isKeyKind_3 (oA.cons oX11_isKeyKind_6 oA.nil)))))
theorem dX11_isGate_0 : decode cX11_isGate 0 = .ok (.iload_n 0, 1) := by decide +kernel
theorem dX11_isGate_1 : decode cX11_isGate 1 = .ok (.iconst 0, 1) := by decide +kernel
theorem dX11_isGate_2 : decode cX11_isGate 2 = .ok (.iconst 5, 1) := by decide +kernel
theorem dX11_isGate_3 : decode cX11_isGate 3 = .ok (.invokestatic 90, 3) := by decide +kernel
theorem dX11_isGate_6 : decode cX11_isGate 6 = .ok (.ireturn, 1) := by decide +kernel
theorem oX11_isGate_0 : oP MT mX11_isGate 0 (1, 1, 0, 0, []) := o_iload_n dX11_isGate_0 rfl
theorem oX11_isGate_1 : oP MT mX11_isGate 1 (0, 1, 0, 0, []) := o_iconst dX11_isGate_1 (by decide)
theorem oX11_isGate_2 : oP MT mX11_isGate 2 (0, 1, 0, 5, []) := o_iconst dX11_isGate_2 (by decide)
theorem oX11_isGate_3 : oP MT mX11_isGate 3 (25, 3, 37, 3, []) := o_callS dX11_isGate_3 (mj := mX11_isIn) mt_X11_isIn cmq_X11_isIn wq_282 wq_144 (by decide) (by decide)
theorem oX11_isGate_6 : oP MT mX11_isGate 6 (22, 1, 0, 0, []) := o_zret dX11_isGate_6 rfl
def ops_X11_isGate : List (Nat × aO) := [(0, (1, 1, 0, 0, [])), (1, (0, 1, 0, 0, [])), (2, (0, 1, 0, 5, [])), (3, (25, 3, 37, 3, [])), (6, (22, 1, 0, 0, []))]
theorem os_X11_isGate : oA MT mX11_isGate ops_X11_isGate := (oA.cons oX11_isGate_0 (oA.cons oX11_isGate_1 (oA.cons oX11_isGate_2 (oA.cons oX11_isGate_3 (oA.cons oX11_isGate_6 oA.nil)))))
theorem dX11_keyOf_0 : decode cX11_keyOf 0 = .ok (.aload_n 0, 1) := by decide +kernel
theorem dX11_keyOf_1 : decode cX11_keyOf 1 = .ok (.getfield 56, 3) := by decide +kernel
theorem dX11_keyOf_4 : decode cX11_keyOf 4 = .ok (.iload_n 1, 1) := by decide +kernel
theorem dX11_keyOf_5 : decode cX11_keyOf 5 = .ok (.invokevirtual 113, 3) := by decide +kernel
theorem dX11_keyOf_8 : decode cX11_keyOf 8 = .ok (.ifCond .ne 5, 3) := by decide +kernel
theorem dX11_keyOf_11 : decode cX11_keyOf 11 = .ok (.iconst (-1), 1) := by decide +kernel
theorem dX11_keyOf_12 : decode cX11_keyOf 12 = .ok (.ireturn, 1) := by decide +kernel
theorem dX11_keyOf_13 : decode cX11_keyOf 13 = .ok (.iload_n 2, 1) := by decide +kernel
theorem dX11_keyOf_14 : decode cX11_keyOf 14 = .ok (.tableswitch 164 0 9 #[54, 64, 74, 84, 94, 111, 120, 129, 138, 155], 54) := by decide +kernel
theorem dX11_keyOf_68 : decode cX11_keyOf 68 = .ok (.aload_n 0, 1) := by decide +kernel
theorem dX11_keyOf_69 : decode cX11_keyOf 69 = .ok (.getfield 56, 3) := by decide +kernel
theorem dX11_keyOf_72 : decode cX11_keyOf 72 = .ok (.getfield 101, 3) := by decide +kernel
theorem dX11_keyOf_75 : decode cX11_keyOf 75 = .ok (.iload_n 1, 1) := by decide +kernel
theorem dX11_keyOf_76 : decode cX11_keyOf 76 = .ok (.iaload, 1) := by decide +kernel
theorem dX11_keyOf_77 : decode cX11_keyOf 77 = .ok (.ireturn, 1) := by decide +kernel
theorem dX11_keyOf_78 : decode cX11_keyOf 78 = .ok (.aload_n 0, 1) := by decide +kernel
theorem dX11_keyOf_79 : decode cX11_keyOf 79 = .ok (.getfield 56, 3) := by decide +kernel
theorem dX11_keyOf_82 : decode cX11_keyOf 82 = .ok (.getfield 104, 3) := by decide +kernel
theorem dX11_keyOf_85 : decode cX11_keyOf 85 = .ok (.iload_n 1, 1) := by decide +kernel
theorem dX11_keyOf_86 : decode cX11_keyOf 86 = .ok (.iaload, 1) := by decide +kernel
theorem dX11_keyOf_87 : decode cX11_keyOf 87 = .ok (.ireturn, 1) := by decide +kernel
theorem dX11_keyOf_88 : decode cX11_keyOf 88 = .ok (.aload_n 0, 1) := by decide +kernel
theorem dX11_keyOf_89 : decode cX11_keyOf 89 = .ok (.getfield 56, 3) := by decide +kernel
theorem dX11_keyOf_92 : decode cX11_keyOf 92 = .ok (.getfield 107, 3) := by decide +kernel
theorem dX11_keyOf_95 : decode cX11_keyOf 95 = .ok (.iload_n 1, 1) := by decide +kernel
theorem dX11_keyOf_96 : decode cX11_keyOf 96 = .ok (.iaload, 1) := by decide +kernel
theorem dX11_keyOf_97 : decode cX11_keyOf 97 = .ok (.ireturn, 1) := by decide +kernel
theorem dX11_keyOf_98 : decode cX11_keyOf 98 = .ok (.aload_n 0, 1) := by decide +kernel
theorem dX11_keyOf_99 : decode cX11_keyOf 99 = .ok (.getfield 56, 3) := by decide +kernel
theorem dX11_keyOf_102 : decode cX11_keyOf 102 = .ok (.getfield 110, 3) := by decide +kernel
theorem dX11_keyOf_105 : decode cX11_keyOf 105 = .ok (.iload_n 1, 1) := by decide +kernel
theorem dX11_keyOf_106 : decode cX11_keyOf 106 = .ok (.iaload, 1) := by decide +kernel
theorem dX11_keyOf_107 : decode cX11_keyOf 107 = .ok (.ireturn, 1) := by decide +kernel
theorem dX11_keyOf_108 : decode cX11_keyOf 108 = .ok (.aload_n 0, 1) := by decide +kernel
theorem dX11_keyOf_109 : decode cX11_keyOf 109 = .ok (.getfield 56, 3) := by decide +kernel
theorem dX11_keyOf_112 : decode cX11_keyOf 112 = .ok (.iload_n 1, 1) := by decide +kernel
theorem dX11_keyOf_113 : decode cX11_keyOf 113 = .ok (.invokevirtual 116, 3) := by decide +kernel
theorem dX11_keyOf_116 : decode cX11_keyOf 116 = .ok (.ifCond .eq 7, 3) := by decide +kernel
theorem dX11_keyOf_119 : decode cX11_keyOf 119 = .ok (.iconst 1, 1) := by decide +kernel
theorem dX11_keyOf_120 : decode cX11_keyOf 120 = .ok (.goto 4, 3) := by decide +kernel
theorem dX11_keyOf_123 : decode cX11_keyOf 123 = .ok (.iconst 0, 1) := by decide +kernel
theorem dX11_keyOf_124 : decode cX11_keyOf 124 = .ok (.ireturn, 1) := by decide +kernel
theorem dX11_keyOf_125 : decode cX11_keyOf 125 = .ok (.aload_n 0, 1) := by decide +kernel
theorem dX11_keyOf_126 : decode cX11_keyOf 126 = .ok (.getfield 56, 3) := by decide +kernel
theorem dX11_keyOf_129 : decode cX11_keyOf 129 = .ok (.iload_n 1, 1) := by decide +kernel
theorem dX11_keyOf_130 : decode cX11_keyOf 130 = .ok (.invokevirtual 119, 3) := by decide +kernel
theorem dX11_keyOf_133 : decode cX11_keyOf 133 = .ok (.ireturn, 1) := by decide +kernel
theorem dX11_keyOf_134 : decode cX11_keyOf 134 = .ok (.aload_n 0, 1) := by decide +kernel
theorem dX11_keyOf_135 : decode cX11_keyOf 135 = .ok (.getfield 56, 3) := by decide +kernel
theorem dX11_keyOf_138 : decode cX11_keyOf 138 = .ok (.iload_n 1, 1) := by decide +kernel
theorem dX11_keyOf_139 : decode cX11_keyOf 139 = .ok (.invokevirtual 123, 3) := by decide +kernel
theorem dX11_keyOf_142 : decode cX11_keyOf 142 = .ok (.ireturn, 1) := by decide +kernel
theorem dX11_keyOf_143 : decode cX11_keyOf 143 = .ok (.aload_n 0, 1) := by decide +kernel
theorem dX11_keyOf_144 : decode cX11_keyOf 144 = .ok (.getfield 56, 3) := by decide +kernel
theorem dX11_keyOf_147 : decode cX11_keyOf 147 = .ok (.iload_n 1, 1) := by decide +kernel
theorem dX11_keyOf_148 : decode cX11_keyOf 148 = .ok (.invokevirtual 126, 3) := by decide +kernel
theorem dX11_keyOf_151 : decode cX11_keyOf 151 = .ok (.ireturn, 1) := by decide +kernel
theorem dX11_keyOf_152 : decode cX11_keyOf 152 = .ok (.aload_n 0, 1) := by decide +kernel
theorem dX11_keyOf_153 : decode cX11_keyOf 153 = .ok (.getfield 56, 3) := by decide +kernel
theorem dX11_keyOf_156 : decode cX11_keyOf 156 = .ok (.iload_n 1, 1) := by decide +kernel
theorem dX11_keyOf_157 : decode cX11_keyOf 157 = .ok (.invokevirtual 129, 3) := by decide +kernel
theorem dX11_keyOf_160 : decode cX11_keyOf 160 = .ok (.ifCond .eq 7, 3) := by decide +kernel
theorem dX11_keyOf_163 : decode cX11_keyOf 163 = .ok (.iconst 1, 1) := by decide +kernel
theorem dX11_keyOf_164 : decode cX11_keyOf 164 = .ok (.goto 4, 3) := by decide +kernel
theorem dX11_keyOf_167 : decode cX11_keyOf 167 = .ok (.iconst 0, 1) := by decide +kernel
theorem dX11_keyOf_168 : decode cX11_keyOf 168 = .ok (.ireturn, 1) := by decide +kernel
theorem dX11_keyOf_169 : decode cX11_keyOf 169 = .ok (.aload_n 0, 1) := by decide +kernel
theorem dX11_keyOf_170 : decode cX11_keyOf 170 = .ok (.getfield 56, 3) := by decide +kernel
theorem dX11_keyOf_173 : decode cX11_keyOf 173 = .ok (.iload_n 1, 1) := by decide +kernel
theorem dX11_keyOf_174 : decode cX11_keyOf 174 = .ok (.invokevirtual 132, 3) := by decide +kernel
theorem dX11_keyOf_177 : decode cX11_keyOf 177 = .ok (.ireturn, 1) := by decide +kernel
theorem dX11_keyOf_178 : decode cX11_keyOf 178 = .ok (.iconst (-1), 1) := by decide +kernel
theorem dX11_keyOf_179 : decode cX11_keyOf 179 = .ok (.ireturn, 1) := by decide +kernel
theorem oX11_keyOf_0 : oP MT mX11_keyOf 0 (1, 1, 0, 1, []) := o_aload_n dX11_keyOf_0 rfl
theorem oX11_keyOf_1 : oP MT mX11_keyOf 1 (13, 3, 0, 11, []) := o_getR (M := mX11_keyOf) (C := RX11) (T := TX11) (ci := 11) (j := 0) (z := 11) dX11_keyOf_1 rfl lq_RX11_56 rfl rfl
theorem oX11_keyOf_4 : oP MT mX11_keyOf 4 (1, 1, 1, 0, []) := o_iload_n dX11_keyOf_4 rfl
theorem oX11_keyOf_5 : oP MT mX11_keyOf 5 (26, 3, 0, 1, [(1, 26)]) := o_callO ((vA.cons (v_callV dX11_keyOf_5 (ci := 1) rfl rfl (mj := mX1_isKey) mt_X1_isKey cmq_X1_isKey wq_388 wq_120 wq_121 (by decide) (by decide)) vA.nil))
theorem oX11_keyOf_8 : oP MT mX11_keyOf 8 (10, 3, 1, 13, []) := o_if_ne dX11_keyOf_8 (by decide) (by decide)
theorem oX11_keyOf_11 : oP MT mX11_keyOf 11 (0, 1, 0, (-1), []) := o_iconst dX11_keyOf_11 (by decide)
theorem oX11_keyOf_12 : oP MT mX11_keyOf 12 (21, 1, 0, 0, []) := o_iret dX11_keyOf_12 rfl
theorem oX11_keyOf_13 : oP MT mX11_keyOf 13 (1, 1, 2, 0, []) := o_iload_n dX11_keyOf_13 rfl
theorem oX11_keyOf_14 : oP MT mX11_keyOf 14 (24, 54, 178, 0, [(0, 68), (1, 78), (2, 88), (3, 98), (4, 108), (5, 125), (6, 134), (7, 143), (8, 152), (9, 169)]) := o_table dX11_keyOf_14 rfl (by decide) (by decide) (by decide)
theorem oX11_keyOf_68 : oP MT mX11_keyOf 68 (1, 1, 0, 1, []) := o_aload_n dX11_keyOf_68 rfl
theorem oX11_keyOf_69 : oP MT mX11_keyOf 69 (13, 3, 0, 11, []) := o_getR (M := mX11_keyOf) (C := RX11) (T := TX11) (ci := 11) (j := 0) (z := 11) dX11_keyOf_69 rfl lq_RX11_56 rfl rfl
theorem oX11_keyOf_72 : oP MT mX11_keyOf 72 (13, 3, 10, 1, []) := o_getR (M := mX11_keyOf) (C := RX1) (T := TX1) (ci := 1) (j := 10) (z := 1) dX11_keyOf_72 rfl lq_RX11_101 rfl rfl
theorem oX11_keyOf_75 : oP MT mX11_keyOf 75 (1, 1, 1, 0, []) := o_iload_n dX11_keyOf_75 rfl
theorem oX11_keyOf_76 : oP MT mX11_keyOf 76 (16, 1, 1, 0, []) := o_iaload dX11_keyOf_76
theorem oX11_keyOf_77 : oP MT mX11_keyOf 77 (21, 1, 0, 0, []) := o_iret dX11_keyOf_77 rfl
theorem oX11_keyOf_78 : oP MT mX11_keyOf 78 (1, 1, 0, 1, []) := o_aload_n dX11_keyOf_78 rfl
theorem oX11_keyOf_79 : oP MT mX11_keyOf 79 (13, 3, 0, 11, []) := o_getR (M := mX11_keyOf) (C := RX11) (T := TX11) (ci := 11) (j := 0) (z := 11) dX11_keyOf_79 rfl lq_RX11_56 rfl rfl
theorem oX11_keyOf_82 : oP MT mX11_keyOf 82 (13, 3, 11, 1, []) := o_getR (M := mX11_keyOf) (C := RX1) (T := TX1) (ci := 1) (j := 11) (z := 1) dX11_keyOf_82 rfl lq_RX11_104 rfl rfl
theorem oX11_keyOf_85 : oP MT mX11_keyOf 85 (1, 1, 1, 0, []) := o_iload_n dX11_keyOf_85 rfl
theorem oX11_keyOf_86 : oP MT mX11_keyOf 86 (16, 1, 1, 0, []) := o_iaload dX11_keyOf_86
theorem oX11_keyOf_87 : oP MT mX11_keyOf 87 (21, 1, 0, 0, []) := o_iret dX11_keyOf_87 rfl
theorem oX11_keyOf_88 : oP MT mX11_keyOf 88 (1, 1, 0, 1, []) := o_aload_n dX11_keyOf_88 rfl
theorem oX11_keyOf_89 : oP MT mX11_keyOf 89 (13, 3, 0, 11, []) := o_getR (M := mX11_keyOf) (C := RX11) (T := TX11) (ci := 11) (j := 0) (z := 11) dX11_keyOf_89 rfl lq_RX11_56 rfl rfl
theorem oX11_keyOf_92 : oP MT mX11_keyOf 92 (13, 3, 12, 1, []) := o_getR (M := mX11_keyOf) (C := RX1) (T := TX1) (ci := 1) (j := 12) (z := 1) dX11_keyOf_92 rfl lq_RX11_107 rfl rfl
theorem oX11_keyOf_95 : oP MT mX11_keyOf 95 (1, 1, 1, 0, []) := o_iload_n dX11_keyOf_95 rfl
theorem oX11_keyOf_96 : oP MT mX11_keyOf 96 (16, 1, 1, 0, []) := o_iaload dX11_keyOf_96
theorem oX11_keyOf_97 : oP MT mX11_keyOf 97 (21, 1, 0, 0, []) := o_iret dX11_keyOf_97 rfl
theorem oX11_keyOf_98 : oP MT mX11_keyOf 98 (1, 1, 0, 1, []) := o_aload_n dX11_keyOf_98 rfl
theorem oX11_keyOf_99 : oP MT mX11_keyOf 99 (13, 3, 0, 11, []) := o_getR (M := mX11_keyOf) (C := RX11) (T := TX11) (ci := 11) (j := 0) (z := 11) dX11_keyOf_99 rfl lq_RX11_56 rfl rfl
theorem oX11_keyOf_102 : oP MT mX11_keyOf 102 (13, 3, 13, 1, []) := o_getR (M := mX11_keyOf) (C := RX1) (T := TX1) (ci := 1) (j := 13) (z := 1) dX11_keyOf_102 rfl lq_RX11_110 rfl rfl
theorem oX11_keyOf_105 : oP MT mX11_keyOf 105 (1, 1, 1, 0, []) := o_iload_n dX11_keyOf_105 rfl
theorem oX11_keyOf_106 : oP MT mX11_keyOf 106 (16, 1, 1, 0, []) := o_iaload dX11_keyOf_106
theorem oX11_keyOf_107 : oP MT mX11_keyOf 107 (21, 1, 0, 0, []) := o_iret dX11_keyOf_107 rfl
theorem oX11_keyOf_108 : oP MT mX11_keyOf 108 (1, 1, 0, 1, []) := o_aload_n dX11_keyOf_108 rfl
theorem oX11_keyOf_109 : oP MT mX11_keyOf 109 (13, 3, 0, 11, []) := o_getR (M := mX11_keyOf) (C := RX11) (T := TX11) (ci := 11) (j := 0) (z := 11) dX11_keyOf_109 rfl lq_RX11_56 rfl rfl
theorem oX11_keyOf_112 : oP MT mX11_keyOf 112 (1, 1, 1, 0, []) := o_iload_n dX11_keyOf_112 rfl
theorem oX11_keyOf_113 : oP MT mX11_keyOf 113 (26, 3, 0, 1, [(1, 11)]) := o_callO ((vA.cons (v_callV dX11_keyOf_113 (ci := 1) rfl rfl (mj := mX1_isTurned) mt_X1_isTurned cmq_X1_isTurned wq_283 wq_33 wq_34 (by decide) (by decide)) vA.nil))
theorem oX11_keyOf_116 : oP MT mX11_keyOf 116 (10, 3, 0, 123, []) := o_if_eq dX11_keyOf_116 (by decide) (by decide)
theorem oX11_keyOf_119 : oP MT mX11_keyOf 119 (0, 1, 0, 1, []) := o_iconst dX11_keyOf_119 (by decide)
theorem oX11_keyOf_120 : oP MT mX11_keyOf 120 (9, 3, 124, 0, []) := o_goto dX11_keyOf_120 (by decide)
theorem oX11_keyOf_123 : oP MT mX11_keyOf 123 (0, 1, 0, 0, []) := o_iconst dX11_keyOf_123 (by decide)
theorem oX11_keyOf_124 : oP MT mX11_keyOf 124 (21, 1, 0, 0, []) := o_iret dX11_keyOf_124 rfl
theorem oX11_keyOf_125 : oP MT mX11_keyOf 125 (1, 1, 0, 1, []) := o_aload_n dX11_keyOf_125 rfl
theorem oX11_keyOf_126 : oP MT mX11_keyOf 126 (13, 3, 0, 11, []) := o_getR (M := mX11_keyOf) (C := RX11) (T := TX11) (ci := 11) (j := 0) (z := 11) dX11_keyOf_126 rfl lq_RX11_56 rfl rfl
theorem oX11_keyOf_129 : oP MT mX11_keyOf 129 (1, 1, 1, 0, []) := o_iload_n dX11_keyOf_129 rfl
theorem oX11_keyOf_130 : oP MT mX11_keyOf 130 (26, 3, 0, 1, [(1, 28)]) := o_callO ((vA.cons (v_callV dX11_keyOf_130 (ci := 1) rfl rfl (mj := mX1_melts) mt_X1_melts cmq_X1_melts wq_653 wq_137 wq_138 (by decide) (by decide)) vA.nil))
theorem oX11_keyOf_133 : oP MT mX11_keyOf 133 (21, 1, 0, 0, []) := o_iret dX11_keyOf_133 rfl
theorem oX11_keyOf_134 : oP MT mX11_keyOf 134 (1, 1, 0, 1, []) := o_aload_n dX11_keyOf_134 rfl
theorem oX11_keyOf_135 : oP MT mX11_keyOf 135 (13, 3, 0, 11, []) := o_getR (M := mX11_keyOf) (C := RX11) (T := TX11) (ci := 11) (j := 0) (z := 11) dX11_keyOf_135 rfl lq_RX11_56 rfl rfl
theorem oX11_keyOf_138 : oP MT mX11_keyOf 138 (1, 1, 1, 0, []) := o_iload_n dX11_keyOf_138 rfl
theorem oX11_keyOf_139 : oP MT mX11_keyOf 139 (26, 3, 0, 1, [(1, 34)]) := o_callO ((vA.cons (v_callV dX11_keyOf_139 (ci := 1) rfl rfl (mj := mX1_shape) mt_X1_shape cmq_X1_shape wq_654 wq_141 wq_142 (by decide) (by decide)) vA.nil))
theorem oX11_keyOf_142 : oP MT mX11_keyOf 142 (21, 1, 0, 0, []) := o_iret dX11_keyOf_142 rfl
theorem oX11_keyOf_143 : oP MT mX11_keyOf 143 (1, 1, 0, 1, []) := o_aload_n dX11_keyOf_143 rfl
theorem oX11_keyOf_144 : oP MT mX11_keyOf 144 (13, 3, 0, 11, []) := o_getR (M := mX11_keyOf) (C := RX11) (T := TX11) (ci := 11) (j := 0) (z := 11) dX11_keyOf_144 rfl lq_RX11_56 rfl rfl
theorem oX11_keyOf_147 : oP MT mX11_keyOf 147 (1, 1, 1, 0, []) := o_iload_n dX11_keyOf_147 rfl
theorem oX11_keyOf_148 : oP MT mX11_keyOf 148 (26, 3, 0, 1, [(1, 24)]) := o_callO ((vA.cons (v_callV dX11_keyOf_148 (ci := 1) rfl rfl (mj := mX1_pays) mt_X1_pays cmq_X1_pays wq_655 wq_128 wq_129 (by decide) (by decide)) vA.nil))
theorem oX11_keyOf_151 : oP MT mX11_keyOf 151 (21, 1, 0, 0, []) := o_iret dX11_keyOf_151 rfl
theorem oX11_keyOf_152 : oP MT mX11_keyOf 152 (1, 1, 0, 1, []) := o_aload_n dX11_keyOf_152 rfl
theorem oX11_keyOf_153 : oP MT mX11_keyOf 153 (13, 3, 0, 11, []) := o_getR (M := mX11_keyOf) (C := RX11) (T := TX11) (ci := 11) (j := 0) (z := 11) dX11_keyOf_153 rfl lq_RX11_56 rfl rfl
theorem oX11_keyOf_156 : oP MT mX11_keyOf 156 (1, 1, 1, 0, []) := o_iload_n dX11_keyOf_156 rfl
theorem oX11_keyOf_157 : oP MT mX11_keyOf 157 (26, 3, 0, 1, [(1, 77)]) := o_callO ((vA.cons (v_callV dX11_keyOf_157 (ci := 1) rfl rfl (mj := mX1_mayTurn) mt_X1_mayTurn cmq_X1_mayTurn wq_656 wq_658 wq_659 (by decide) (by decide)) vA.nil))
theorem oX11_keyOf_160 : oP MT mX11_keyOf 160 (10, 3, 0, 167, []) := o_if_eq dX11_keyOf_160 (by decide) (by decide)
theorem oX11_keyOf_163 : oP MT mX11_keyOf 163 (0, 1, 0, 1, []) := o_iconst dX11_keyOf_163 (by decide)
theorem oX11_keyOf_164 : oP MT mX11_keyOf 164 (9, 3, 168, 0, []) := o_goto dX11_keyOf_164 (by decide)
theorem oX11_keyOf_167 : oP MT mX11_keyOf 167 (0, 1, 0, 0, []) := o_iconst dX11_keyOf_167 (by decide)
theorem oX11_keyOf_168 : oP MT mX11_keyOf 168 (21, 1, 0, 0, []) := o_iret dX11_keyOf_168 rfl
theorem oX11_keyOf_169 : oP MT mX11_keyOf 169 (1, 1, 0, 1, []) := o_aload_n dX11_keyOf_169 rfl
theorem oX11_keyOf_170 : oP MT mX11_keyOf 170 (13, 3, 0, 11, []) := o_getR (M := mX11_keyOf) (C := RX11) (T := TX11) (ci := 11) (j := 0) (z := 11) dX11_keyOf_170 rfl lq_RX11_56 rfl rfl
theorem oX11_keyOf_173 : oP MT mX11_keyOf 173 (1, 1, 1, 0, []) := o_iload_n dX11_keyOf_173 rfl
theorem oX11_keyOf_174 : oP MT mX11_keyOf 174 (26, 3, 0, 1, [(1, 25)]) := o_callO ((vA.cons (v_callV dX11_keyOf_174 (ci := 1) rfl rfl (mj := mX1_will) mt_X1_will cmq_X1_will wq_660 wq_124 wq_125 (by decide) (by decide)) vA.nil))
theorem oX11_keyOf_177 : oP MT mX11_keyOf 177 (21, 1, 0, 0, []) := o_iret dX11_keyOf_177 rfl
theorem oX11_keyOf_178 : oP MT mX11_keyOf 178 (0, 1, 0, (-1), []) := o_iconst dX11_keyOf_178 (by decide)
theorem oX11_keyOf_179 : oP MT mX11_keyOf 179 (21, 1, 0, 0, []) := o_iret dX11_keyOf_179 rfl
def ops_X11_keyOf : List (Nat × aO) := [(0, (1, 1, 0, 1, [])), (1, (13, 3, 0, 11, [])), (4, (1, 1, 1, 0, [])), (5, (26, 3, 0, 1, [(1, 26)])), (8, (10, 3, 1, 13, [])), (11, (0, 1, 0, (-1), [])), (12, (21, 1, 0, 0, [])), (13, (1, 1, 2, 0, [])), (14, (24, 54, 178, 0, [(0, 68), (1, 78), (2, 88), (3, 98), (4, 108), (5, 125), (6, 134), (7, 143), (8, 152), (9, 169)])), (68, (1, 1, 0, 1, [])), (69, (13, 3, 0, 11, [])), (72, (13, 3, 10, 1, [])), (75, (1, 1, 1, 0, [])), (76, (16, 1, 1, 0, [])), (77, (21, 1, 0, 0, [])), (78, (1, 1, 0, 1, [])), (79, (13, 3, 0, 11, [])), (82, (13, 3, 11, 1, [])), (85, (1, 1, 1, 0, [])), (86, (16, 1, 1, 0, [])), (87, (21, 1, 0, 0, [])), (88, (1, 1, 0, 1, [])), (89, (13, 3, 0, 11, [])), (92, (13, 3, 12, 1, [])), (95, (1, 1, 1, 0, [])), (96, (16, 1, 1, 0, [])), (97, (21, 1, 0, 0, [])), (98, (1, 1, 0, 1, [])), (99, (13, 3, 0, 11, [])), (102, (13, 3, 13, 1, [])), (105, (1, 1, 1, 0, [])), (106, (16, 1, 1, 0, [])), (107, (21, 1, 0, 0, [])), (108, (1, 1, 0, 1, [])), (109, (13, 3, 0, 11, [])), (112, (1, 1, 1, 0, [])), (113, (26, 3, 0, 1, [(1, 11)])), (116, (10, 3, 0, 123, [])), (119, (0, 1, 0, 1, [])), (120, (9, 3, 124, 0, [])), (123, (0, 1, 0, 0, [])), (124, (21, 1, 0, 0, [])), (125, (1, 1, 0, 1, [])), (126, (13, 3, 0, 11, [])), (129, (1, 1, 1, 0, [])), (130, (26, 3, 0, 1, [(1, 28)])), (133, (21, 1, 0, 0, [])), (134, (1, 1, 0, 1, [])), (135, (13, 3, 0, 11, [])), (138, (1, 1, 1, 0, [])), (139, (26, 3, 0, 1, [(1, 34)])), (142, (21, 1, 0, 0, [])), (143, (1, 1, 0, 1, [])), (144, (13, 3, 0, 11, [])), (147, (1, 1, 1, 0, [])), (148, (26, 3, 0, 1, [(1, 24)])), (151, (21, 1, 0, 0, [])), (152, (1, 1, 0, 1, [])), (153, (13, 3, 0, 11, [])), (156, (1, 1, 1, 0, [])), (157, (26, 3, 0, 1, [(1, 77)])), (160, (10, 3, 0, 167, [])), (163, (0, 1, 0, 1, [])), (164, (9, 3, 168, 0, [])), (167, (0, 1, 0, 0, [])), (168, (21, 1, 0, 0, [])), (169, (1, 1, 0, 1, [])), (170, (13, 3, 0, 11, [])), (173, (1, 1, 1, 0, [])), (174, (26, 3, 0, 1, [(1, 25)])), (177, (21, 1, 0, 0, [])), (178, (0, 1, 0, (-1), [])), (179, (21, 1, 0, 0, []))]
theorem os_X11_keyOf : oA MT mX11_keyOf ops_X11_keyOf := (oA.cons oX11_keyOf_0 (oA.cons oX11_keyOf_1 (oA.cons oX11_keyOf_4 (oA.cons oX11_keyOf_5 (oA.cons oX11_keyOf_8 (oA.cons oX11_keyOf_11 (oA.cons oX11_keyOf_12 (oA.cons oX11_keyOf_13 (oA.cons oX11_keyOf_14 (oA.cons oX11_keyOf_68 (oA.cons oX11_keyOf_69 (oA.cons oX11_keyOf_72 (oA.cons oX11_keyOf_75 (oA.cons oX11_keyOf_76 (oA.cons oX11_keyOf_77 (oA.cons oX11_keyOf_78 (oA.cons oX11_keyOf_79 (oA.cons oX11_keyOf_82 (oA.cons oX11_keyOf_85 (oA.cons oX11_keyOf_86 (oA.cons oX11_keyOf_87 (oA.cons oX11_keyOf_88 (oA.cons oX11_keyOf_89 (oA.cons oX11_keyOf_92 (oA.cons oX11_keyOf_95 (oA.cons oX11_keyOf_96 (oA.cons oX11_keyOf_97 (oA.cons oX11_keyOf_98 (oA.cons oX11_keyOf_99 (oA.cons oX11_keyOf_102 (oA.cons oX11_keyOf_105 (oA.cons oX11_keyOf_106 (oA.cons oX11_keyOf_107 (oA.cons oX11_keyOf_108 (oA.cons oX11_keyOf_109 (oA.cons oX11_keyOf_112 (oA.cons oX11_keyOf_113 (oA.cons oX11_keyOf_116 (oA.cons oX11_keyOf_119 (oA.cons oX11_keyOf_120 (oA.cons oX11_keyOf_123 (oA.cons oX11_keyOf_124 (oA.cons oX11_keyOf_125 (oA.cons oX11_keyOf_126 (oA.cons oX11_keyOf_129 (oA.cons oX11_keyOf_130 (oA.cons oX11_keyOf_133 (oA.cons oX11_keyOf_134 (oA.cons oX11_keyOf_135 (oA.cons oX11_keyOf_138 (oA.cons oX11_keyOf_139 (oA.cons oX11_keyOf_142 (oA.cons oX11_keyOf_143 (oA.cons oX11_keyOf_144 (oA.cons oX11_keyOf_147 (oA.cons oX11_keyOf_148 (oA.cons oX11_keyOf_151 (oA.cons oX11_keyOf_152 (oA.cons oX11_keyOf_153 (oA.cons oX11_keyOf_156 (oA.cons oX11_keyOf_157 (oA.cons oX11_keyOf_160 (oA.cons oX11_keyOf_163 (oA.cons oX11_keyOf_164 (oA.cons oX11_keyOf_167 (oA.cons oX11_keyOf_168 (oA.cons oX11_keyOf_169 (oA.cons oX11_keyOf_170 (oA.cons oX11_keyOf_173 (oA.cons oX11_keyOf_174 (oA.cons oX11_keyOf_177 (oA.cons oX11_keyOf_178 (oA.cons oX11_keyOf_179 oA.nil)))))))))))))))))))))))))))))))))))))))))))))))))))))))))))))))))))))))))
