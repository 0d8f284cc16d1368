theorem dX6_copyFrom_0 : decode cX6_copyFrom 0 = .ok (.aload_n 0, 1) := by decide +kernel
theorem dX6_copyFrom_1 : decode cX6_copyFrom 1 = .ok (.aload_n 1, 1) := by decide +kernel
theorem dX6_copyFrom_2 : decode cX6_copyFrom 2 = .ok (.getfield 24, 3) := by decide +kernel
theorem dX6_copyFrom_5 : decode cX6_copyFrom 5 = .ok (.putfield 24, 3) := by decide +kernel
theorem dX6_copyFrom_8 : decode cX6_copyFrom 8 = .ok (.aload_n 0, 1) := by decide +kernel
theorem dX6_copyFrom_9 : decode cX6_copyFrom 9 = .ok (.aload_n 1, 1) := by decide +kernel
theorem dX6_copyFrom_10 : decode cX6_copyFrom 10 = .ok (.getfield 28, 3) := by decide +kernel
theorem dX6_copyFrom_13 : decode cX6_copyFrom 13 = .ok (.putfield 28, 3) := by decide +kernel
theorem dX6_copyFrom_16 : decode cX6_copyFrom 16 = .ok (.aload_n 1, 1) := by decide +kernel
theorem dX6_copyFrom_17 : decode cX6_copyFrom 17 = .ok (.getfield 9, 3) := by decide +kernel
theorem dX6_copyFrom_20 : decode cX6_copyFrom 20 = .ok (.iconst 0, 1) := by decide +kernel
theorem dX6_copyFrom_21 : decode cX6_copyFrom 21 = .ok (.aload_n 0, 1) := by decide +kernel
theorem dX6_copyFrom_22 : decode cX6_copyFrom 22 = .ok (.getfield 9, 3) := by decide +kernel
theorem dX6_copyFrom_25 : decode cX6_copyFrom 25 = .ok (.iconst 0, 1) := by decide +kernel
theorem dX6_copyFrom_26 : decode cX6_copyFrom 26 = .ok (.bipush 8, 2) := by decide +kernel
theorem dX6_copyFrom_28 : decode cX6_copyFrom 28 = .ok (.invokestatic 31, 3) := by decide +kernel
theorem dX6_copyFrom_31 : decode cX6_copyFrom 31 = .ok (.aload_n 1, 1) := by decide +kernel
theorem dX6_copyFrom_32 : decode cX6_copyFrom 32 = .ok (.getfield 15, 3) := by decide +kernel
theorem dX6_copyFrom_35 : decode cX6_copyFrom 35 = .ok (.iconst 0, 1) := by decide +kernel
theorem dX6_copyFrom_36 : decode cX6_copyFrom 36 = .ok (.aload_n 0, 1) := by decide +kernel
theorem dX6_copyFrom_37 : decode cX6_copyFrom 37 = .ok (.getfield 15, 3) := by decide +kernel
theorem dX6_copyFrom_40 : decode cX6_copyFrom 40 = .ok (.iconst 0, 1) := by decide +kernel
theorem dX6_copyFrom_41 : decode cX6_copyFrom 41 = .ok (.bipush 8, 2) := by decide +kernel
theorem dX6_copyFrom_43 : decode cX6_copyFrom 43 = .ok (.invokestatic 31, 3) := by decide +kernel
theorem dX6_copyFrom_46 : decode cX6_copyFrom 46 = .ok (.aload_n 1, 1) := by decide +kernel
theorem dX6_copyFrom_47 : decode cX6_copyFrom 47 = .ok (.getfield 18, 3) := by decide +kernel
theorem dX6_copyFrom_50 : decode cX6_copyFrom 50 = .ok (.iconst 0, 1) := by decide +kernel
theorem dX6_copyFrom_51 : decode cX6_copyFrom 51 = .ok (.aload_n 0, 1) := by decide +kernel
theorem dX6_copyFrom_52 : decode cX6_copyFrom 52 = .ok (.getfield 18, 3) := by decide +kernel
theorem dX6_copyFrom_55 : decode cX6_copyFrom 55 = .ok (.iconst 0, 1) := by decide +kernel
theorem dX6_copyFrom_56 : decode cX6_copyFrom 56 = .ok (.bipush 8, 2) := by decide +kernel
theorem dX6_copyFrom_58 : decode cX6_copyFrom 58 = .ok (.invokestatic 31, 3) := by decide +kernel
theorem dX6_copyFrom_61 : decode cX6_copyFrom 61 = .ok (.aload_n 1, 1) := by decide +kernel
theorem dX6_copyFrom_62 : decode cX6_copyFrom 62 = .ok (.getfield 21, 3) := by decide +kernel
theorem dX6_copyFrom_65 : decode cX6_copyFrom 65 = .ok (.iconst 0, 1) := by decide +kernel
theorem dX6_copyFrom_66 : decode cX6_copyFrom 66 = .ok (.aload_n 0, 1) := by decide +kernel
theorem dX6_copyFrom_67 : decode cX6_copyFrom 67 = .ok (.getfield 21, 3) := by decide +kernel
theorem dX6_copyFrom_70 : decode cX6_copyFrom 70 = .ok (.iconst 0, 1) := by decide +kernel
theorem dX6_copyFrom_71 : decode cX6_copyFrom 71 = .ok (.aload_n 1, 1) := by decide +kernel
theorem dX6_copyFrom_72 : decode cX6_copyFrom 72 = .ok (.getfield 28, 3) := by decide +kernel
theorem dX6_copyFrom_75 : decode cX6_copyFrom 75 = .ok (.invokestatic 31, 3) := by decide +kernel
theorem dX6_copyFrom_78 : decode cX6_copyFrom 78 = .ok (.return_, 1) := by decide +kernel
theorem oX6_copyFrom_0 : oP MT mX6_copyFrom 0 (1, 1, 0, 1, []) := o_aload_n dX6_copyFrom_0 rfl
theorem oX6_copyFrom_1 : oP MT mX6_copyFrom 1 (1, 1, 1, 1, []) := o_aload_n dX6_copyFrom_1 rfl
theorem oX6_copyFrom_2 : oP MT mX6_copyFrom 2 (12, 3, 0, 6, []) := o_getI (M := mX6_copyFrom) (C := RX6) (T := TX6) (ci := 6) (j := 0) (z := 6) dX6_copyFrom_2 rfl lq_RX6_24 rfl rfl
theorem oX6_copyFrom_5 : oP MT mX6_copyFrom 5 (14, 3, 0, 6, []) := o_putI (M := mX6_copyFrom) (C := RX6) (T := TX6) (ci := 6) (j := 0) (z := 6) dX6_copyFrom_5 rfl lq_RX6_24 rfl rfl rfl rfl
theorem oX6_copyFrom_8 : oP MT mX6_copyFrom 8 (1, 1, 0, 1, []) := o_aload_n dX6_copyFrom_8 rfl
theorem oX6_copyFrom_9 : oP MT mX6_copyFrom 9 (1, 1, 1, 1, []) := o_aload_n dX6_copyFrom_9 rfl
theorem oX6_copyFrom_10 : oP MT mX6_copyFrom 10 (12, 3, 1, 6, []) := o_getI (M := mX6_copyFrom) (C := RX6) (T := TX6) (ci := 6) (j := 1) (z := 6) dX6_copyFrom_10 rfl lq_RX6_28 rfl rfl
theorem oX6_copyFrom_13 : oP MT mX6_copyFrom 13 (14, 3, 1, 6, []) := o_putI (M := mX6_copyFrom) (C := RX6) (T := TX6) (ci := 6) (j := 1) (z := 6) dX6_copyFrom_13 rfl lq_RX6_28 rfl rfl rfl rfl
theorem oX6_copyFrom_16 : oP MT mX6_copyFrom 16 (1, 1, 1, 1, []) := o_aload_n dX6_copyFrom_16 rfl
theorem oX6_copyFrom_17 : oP MT mX6_copyFrom 17 (13, 3, 2, 6, []) := o_getR (M := mX6_copyFrom) (C := RX6) (T := TX6) (ci := 6) (j := 2) (z := 6) dX6_copyFrom_17 rfl lq_RX6_9 rfl rfl
theorem oX6_copyFrom_20 : oP MT mX6_copyFrom 20 (0, 1, 0, 0, []) := o_iconst dX6_copyFrom_20 (by decide)
theorem oX6_copyFrom_21 : oP MT mX6_copyFrom 21 (1, 1, 0, 1, []) := o_aload_n dX6_copyFrom_21 rfl
theorem oX6_copyFrom_22 : oP MT mX6_copyFrom 22 (13, 3, 2, 6, []) := o_getR (M := mX6_copyFrom) (C := RX6) (T := TX6) (ci := 6) (j := 2) (z := 6) dX6_copyFrom_22 rfl lq_RX6_9 rfl rfl
theorem oX6_copyFrom_25 : oP MT mX6_copyFrom 25 (0, 1, 0, 0, []) := o_iconst dX6_copyFrom_25 (by decide)
theorem oX6_copyFrom_26 : oP MT mX6_copyFrom 26 (0, 2, 0, 8, []) := o_bipush dX6_copyFrom_26 (by decide)
theorem oX6_copyFrom_28 : oP MT mX6_copyFrom 28 (29, 3, 0, 0, []) := o_copy dX6_copyFrom_28 wq_0 wq_1 wq_2 wq_3
theorem oX6_copyFrom_31 : oP MT mX6_copyFrom 31 (1, 1, 1, 1, []) := o_aload_n dX6_copyFrom_31 rfl
theorem oX6_copyFrom_32 : oP MT mX6_copyFrom 32 (13, 3, 3, 6, []) := o_getR (M := mX6_copyFrom) (C := RX6) (T := TX6) (ci := 6) (j := 3) (z := 6) dX6_copyFrom_32 rfl lq_RX6_15 rfl rfl
theorem oX6_copyFrom_35 : oP MT mX6_copyFrom 35 (0, 1, 0, 0, []) := o_iconst dX6_copyFrom_35 (by decide)
theorem oX6_copyFrom_36 : oP MT mX6_copyFrom 36 (1, 1, 0, 1, []) := o_aload_n dX6_copyFrom_36 rfl
theorem oX6_copyFrom_37 : oP MT mX6_copyFrom 37 (13, 3, 3, 6, []) := o_getR (M := mX6_copyFrom) (C := RX6) (T := TX6) (ci := 6) (j := 3) (z := 6) dX6_copyFrom_37 rfl lq_RX6_15 rfl rfl
theorem oX6_copyFrom_40 : oP MT mX6_copyFrom 40 (0, 1, 0, 0, []) := o_iconst dX6_copyFrom_40 (by decide)
theorem oX6_copyFrom_41 : oP MT mX6_copyFrom 41 (0, 2, 0, 8, []) := o_bipush dX6_copyFrom_41 (by decide)
theorem oX6_copyFrom_43 : oP MT mX6_copyFrom 43 (29, 3, 0, 0, []) := o_copy dX6_copyFrom_43 wq_0 wq_1 wq_2 wq_3
theorem oX6_copyFrom_46 : oP MT mX6_copyFrom 46 (1, 1, 1, 1, []) := o_aload_n dX6_copyFrom_46 rfl
theorem oX6_copyFrom_47 : oP MT mX6_copyFrom 47 (13, 3, 4, 6, []) := o_getR (M := mX6_copyFrom) (C := RX6) (T := TX6) (ci := 6) (j := 4) (z := 6) dX6_copyFrom_47 rfl lq_RX6_18 rfl rfl
theorem oX6_copyFrom_50 : oP MT mX6_copyFrom 50 (0, 1, 0, 0, []) := o_iconst dX6_copyFrom_50 (by decide)
theorem oX6_copyFrom_51 : oP MT mX6_copyFrom 51 (1, 1, 0, 1, []) := o_aload_n dX6_copyFrom_51 rfl
theorem oX6_copyFrom_52 : oP MT mX6_copyFrom 52 (13, 3, 4, 6, []) := o_getR (M := mX6_copyFrom) (C := RX6) (T := TX6) (ci := 6) (j := 4) (z := 6) dX6_copyFrom_52 rfl lq_RX6_18 rfl rfl
theorem oX6_copyFrom_55 : oP MT mX6_copyFrom 55 (0, 1, 0, 0, []) := o_iconst dX6_copyFrom_55 (by decide)
theorem oX6_copyFrom_56 : oP MT mX6_copyFrom 56 (0, 2, 0, 8, []) := o_bipush dX6_copyFrom_56 (by decide)
theorem oX6_copyFrom_58 : oP MT mX6_copyFrom 58 (29, 3, 0, 0, []) := o_copy dX6_copyFrom_58 wq_0 wq_1 wq_2 wq_3
theorem oX6_copyFrom_61 : oP MT mX6_copyFrom 61 (1, 1, 1, 1, []) := o_aload_n dX6_copyFrom_61 rfl
theorem oX6_copyFrom_62 : oP MT mX6_copyFrom 62 (13, 3, 5, 6, []) := o_getR (M := mX6_copyFrom) (C := RX6) (T := TX6) (ci := 6) (j := 5) (z := 6) dX6_copyFrom_62 rfl lq_RX6_21 rfl rfl
theorem oX6_copyFrom_65 : oP MT mX6_copyFrom 65 (0, 1, 0, 0, []) := o_iconst dX6_copyFrom_65 (by decide)
theorem oX6_copyFrom_66 : oP MT mX6_copyFrom 66 (1, 1, 0, 1, []) := o_aload_n dX6_copyFrom_66 rfl
theorem oX6_copyFrom_67 : oP MT mX6_copyFrom 67 (13, 3, 5, 6, []) := o_getR (M := mX6_copyFrom) (C := RX6) (T := TX6) (ci := 6) (j := 5) (z := 6) dX6_copyFrom_67 rfl lq_RX6_21 rfl rfl
theorem oX6_copyFrom_70 : oP MT mX6_copyFrom 70 (0, 1, 0, 0, []) := o_iconst dX6_copyFrom_70 (by decide)
theorem oX6_copyFrom_71 : oP MT mX6_copyFrom 71 (1, 1, 1, 1, []) := o_aload_n dX6_copyFrom_71 rfl
theorem oX6_copyFrom_72 : oP MT mX6_copyFrom 72 (12, 3, 1, 6, []) := o_getI (M := mX6_copyFrom) (C := RX6) (T := TX6) (ci := 6) (j := 1) (z := 6) dX6_copyFrom_72 rfl lq_RX6_28 rfl rfl
theorem oX6_copyFrom_75 : oP MT mX6_copyFrom 75 (29, 3, 0, 0, []) := o_copy dX6_copyFrom_75 wq_0 wq_1 wq_2 wq_3
theorem oX6_copyFrom_78 : oP MT mX6_copyFrom 78 (23, 1, 0, 0, []) := o_vret dX6_copyFrom_78 rfl
def ops_X6_copyFrom : List (Nat × aO) := [(0, (1, 1, 0, 1, [])), (1, (1, 1, 1, 1, [])), (2, (12, 3, 0, 6, [])), (5, (14, 3, 0, 6, [])), (8, (1, 1, 0, 1, [])), (9, (1, 1, 1, 1, [])), (10, (12, 3, 1, 6, [])), (13, (14, 3, 1, 6, [])), (16, (1, 1, 1, 1, [])), (17, (13, 3, 2, 6, [])), (20, (0, 1, 0, 0, [])), (21, (1, 1, 0, 1, [])), (22, (13, 3, 2, 6, [])), (25, (0, 1, 0, 0, [])), (26, (0, 2, 0, 8, [])), (28, (29, 3, 0, 0, [])), (31, (1, 1, 1, 1, [])), (32, (13, 3, 3, 6, [])), (35, (0, 1, 0, 0, [])), (36, (1, 1, 0, 1, [])), (37, (13, 3, 3, 6, [])), (40, (0, 1, 0, 0, [])), (41, (0, 2, 0, 8, [])), (43, (29, 3, 0, 0, [])), (46, (1, 1, 1, 1, [])), (47, (13, 3, 4, 6, [])), (50, (0, 1, 0, 0, [])), (51, (1, 1, 0, 1, [])), (52, (13, 3, 4, 6, [])), (55, (0, 1, 0, 0, [])), (56, (0, 2, 0, 8, [])), (58, (29, 3, 0, 0, [])), (61, (1, 1, 1, 1, [])), (62, (13, 3, 5, 6, [])), (65, (0, 1, 0, 0, [])), (66, (1, 1, 0, 1, [])), (67, (13, 3, 5, 6, [])), (70, (0, 1, 0, 0, [])), (71, (1, 1, 1, 1, [])), (72, (12, 3, 1, 6, [])), (75, (29, 3, 0, 0, [])), (78, (23, 1, 0, 0, []))]
theorem os_X6_copyFrom : oA MT mX6_copyFrom ops_X6_copyFrom := (oA.cons oX6_copyFrom_0 (oA.cons oX6_copyFrom_1 (oA.cons oX6_copyFrom_2 (oA.cons oX6_copyFrom_5 (oA.cons oX6_copyFrom_8 (oA.cons oX6_copyFrom_9 (oA.cons oX6_copyFrom_10 (oA.cons oX6_copyFrom_13 (oA.cons oX6_copyFrom_16 (oA.cons oX6_copyFrom_17 (oA.cons oX6_copyFrom_20 (oA.cons oX6_copyFrom_21 (oA.cons oX6_copyFrom_22 (oA.cons oX6_copyFrom_25 (oA.cons oX6_copyFrom_26 (oA.cons oX6_copyFrom_28 (oA.cons oX6_copyFrom_31 (oA.cons oX6_copyFrom_32 (oA.cons oX6_copyFrom_35 (oA.cons oX6_copyFrom_36 (oA.cons oX6_copyFrom_37 (oA.cons oX6_copyFrom_40 (oA.cons oX6_copyFrom_41 (oA.cons oX6_copyFrom_43 (oA.cons oX6_copyFrom_46 (oA.cons oX6_copyFrom_47 (oA.cons oX6_copyFrom_50 (oA.cons oX6_copyFrom_51 (oA.cons oX6_copyFrom_52 (oA.cons oX6_copyFrom_55 (oA.cons oX6_copyFrom_56 (oA.cons oX6_copyFrom_58 (oA.cons oX6_copyFrom_61 (oA.cons oX6_copyFrom_62 (oA.cons oX6_copyFrom_65 (oA.cons oX6_copyFrom_66 (oA.cons oX6_copyFrom_67 (oA.cons oX6_copyFrom_70 (oA.cons oX6_copyFrom_71 (oA.cons oX6_copyFrom_72 (oA.cons oX6_copyFrom_75 (oA.cons oX6_copyFrom_78 oA.nil))))))))))))))))))))))))))))))))))))))))))
theorem dX1_heatAt_0 : decode cX1_heatAt 0 = .ok (.aload_n 0, 1) := by decide +kernel
theorem dX1_heatAt_1 : decode cX1_heatAt 1 = .ok (.iload_n 1, 1) := by decide +kernel
theorem dX1_heatAt_2 : decode cX1_heatAt 2 = .ok (.invokevirtual 94, 3) := by decide +kernel
theorem dX1_heatAt_5 : decode cX1_heatAt 5 = .ok (.iconst 4, 1) := by decide +kernel
theorem dX1_heatAt_6 : decode cX1_heatAt 6 = .ok (.idiv, 1) := by decide +kernel
theorem dX1_heatAt_7 : decode cX1_heatAt 7 = .ok (.ireturn, 1) := by decide +kernel
theorem oX1_heatAt_0 : oP MT mX1_heatAt 0 (1, 1, 0, 1, []) := o_aload_n dX1_heatAt_0 rfl
theorem oX1_heatAt_1 : oP MT mX1_heatAt 1 (1, 1, 1, 0, []) := o_iload_n dX1_heatAt_1 rfl
theorem oX1_heatAt_2 : oP MT mX1_heatAt 2 (26, 3, 0, 1, [(1, 2)]) := o_callO ((vA.cons (v_callV dX1_heatAt_2 (ci := 1) rfl rfl (mj := mX1_sunAt) mt_X1_sunAt cmq_X1_sunAt wq_4 wq_7 wq_8 (by decide) (by decide)) vA.nil))
theorem oX1_heatAt_5 : oP MT mX1_heatAt 5 (0, 1, 0, 4, []) := o_iconst dX1_heatAt_5 (by decide)
theorem oX1_heatAt_6 : oP MT mX1_heatAt 6 (4, 1, 9, 0, []) := o_idiv dX1_heatAt_6
theorem oX1_heatAt_7 : oP MT mX1_heatAt 7 (21, 1, 0, 0, []) := o_iret dX1_heatAt_7 rfl
def ops_X1_heatAt : List (Nat × aO) := [(0, (1, 1, 0, 1, [])), (1, (1, 1, 1, 0, [])), (2, (26, 3, 0, 1, [(1, 2)])), (5, (0, 1, 0, 4, [])), (6, (4, 1, 9, 0, [])), (7, (21, 1, 0, 0, []))]
theorem os_X1_heatAt : oA MT mX1_heatAt ops_X1_heatAt := (oA.cons oX1_heatAt_0 (oA.cons oX1_heatAt_1 (oA.cons oX1_heatAt_2 (oA.cons oX1_heatAt_5 (oA.cons oX1_heatAt_6 (oA.cons oX1_heatAt_7 oA.nil))))))
theorem dX1_sunAt_0 : decode cX1_sunAt 0 = .ok (.iload_n 1, 1) := by decide +kernel
theorem dX1_sunAt_1 : decode cX1_sunAt 1 = .ok (.ifCond .lt 18, 3) := by decide +kernel
theorem dX1_sunAt_4 : decode cX1_sunAt 4 = .ok (.iload_n 1, 1) := by decide +kernel
theorem dX1_sunAt_5 : decode cX1_sunAt 5 = .ok (.bipush 16, 2) := by decide +kernel
theorem dX1_sunAt_7 : decode cX1_sunAt 7 = .ok (.if_icmp .ge 12, 3) := by decide +kernel
theorem dX1_sunAt_10 : decode cX1_sunAt 10 = .ok (.aload_n 0, 1) := by decide +kernel
theorem dX1_sunAt_11 : decode cX1_sunAt 11 = .ok (.getfield 18, 3) := by decide +kernel
theorem dX1_sunAt_14 : decode cX1_sunAt 14 = .ok (.iload_n 1, 1) := by decide +kernel
theorem dX1_sunAt_15 : decode cX1_sunAt 15 = .ok (.iaload, 1) := by decide +kernel
theorem dX1_sunAt_16 : decode cX1_sunAt 16 = .ok (.goto 4, 3) := by decide +kernel
theorem dX1_sunAt_19 : decode cX1_sunAt 19 = .ok (.iconst 0, 1) := by decide +kernel
theorem dX1_sunAt_20 : decode cX1_sunAt 20 = .ok (.ireturn, 1) := by decide +kernel
theorem oX1_sunAt_0 : oP MT mX1_sunAt 0 (1, 1, 1, 0, []) := o_iload_n dX1_sunAt_0 rfl
theorem oX1_sunAt_1 : oP MT mX1_sunAt 1 (10, 3, 2, 19, []) := o_if_lt dX1_sunAt_1 (by decide) (by decide)
theorem oX1_sunAt_4 : oP MT mX1_sunAt 4 (1, 1, 1, 0, []) := o_iload_n dX1_sunAt_4 rfl
theorem oX1_sunAt_5 : oP MT mX1_sunAt 5 (0, 2, 0, 16, []) := o_bipush dX1_sunAt_5 (by decide)
theorem oX1_sunAt_7 : oP MT mX1_sunAt 7 (11, 3, 3, 19, []) := o_icmp_ge dX1_sunAt_7 (by decide) (by decide)
theorem oX1_sunAt_10 : oP MT mX1_sunAt 10 (1, 1, 0, 1, []) := o_aload_n dX1_sunAt_10 rfl
theorem oX1_sunAt_11 : oP MT mX1_sunAt 11 (13, 3, 5, 1, []) := o_getR (M := mX1_sunAt) (C := RX1) (T := TX1) (ci := 1) (j := 5) (z := 1) dX1_sunAt_11 rfl lq_RX1_18 rfl rfl
theorem oX1_sunAt_14 : oP MT mX1_sunAt 14 (1, 1, 1, 0, []) := o_iload_n dX1_sunAt_14 rfl
theorem oX1_sunAt_15 : oP MT mX1_sunAt 15 (16, 1, 1, 0, []) := o_iaload dX1_sunAt_15
theorem oX1_sunAt_16 : oP MT mX1_sunAt 16 (9, 3, 20, 0, []) := o_goto dX1_sunAt_16 (by decide)
theorem oX1_sunAt_19 : oP MT mX1_sunAt 19 (0, 1, 0, 0, []) := o_iconst dX1_sunAt_19 (by decide)
theorem oX1_sunAt_20 : oP MT mX1_sunAt 20 (21, 1, 0, 0, []) := o_iret dX1_sunAt_20 rfl
def ops_X1_sunAt : List (Nat × aO) := [(0, (1, 1, 1, 0, [])), (1, (10, 3, 2, 19, [])), (4, (1, 1, 1, 0, [])), (5, (0, 2, 0, 16, [])), (7, (11, 3, 3, 19, [])), (10, (1, 1, 0, 1, [])), (11, (13, 3, 5, 1, [])), (14, (1, 1, 1, 0, [])), (15, (16, 1, 1, 0, [])), (16, (9, 3, 20, 0, [])), (19, (0, 1, 0, 0, [])), (20, (21, 1, 0, 0, []))]
theorem os_X1_sunAt : oA MT mX1_sunAt ops_X1_sunAt := (oA.cons oX1_sunAt_0 (oA.cons oX1_sunAt_1 (oA.cons oX1_sunAt_4 (oA.cons oX1_sunAt_5 (oA.cons oX1_sunAt_7 (oA.cons oX1_sunAt_10 (oA.cons oX1_sunAt_11 (oA.cons oX1_sunAt_14 (oA.cons oX1_sunAt_15 (oA.cons oX1_sunAt_16 (oA.cons oX1_sunAt_19 (oA.cons oX1_sunAt_20 oA.nil))))))))))))
theorem dX1_shadeAt_0 : decode cX1_shadeAt 0 = .ok (.aload_n 0, 1) := by decide +kernel
theorem dX1_shadeAt_1 : decode cX1_shadeAt 1 = .ok (.iload_n 1, 1) := by decide +kernel
theorem dX1_shadeAt_2 : decode cX1_shadeAt 2 = .ok (.invokevirtual 94, 3) := by decide +kernel
theorem dX1_shadeAt_5 : decode cX1_shadeAt 5 = .ok (.iconst 4, 1) := by decide +kernel
theorem dX1_shadeAt_6 : decode cX1_shadeAt 6 = .ok (.irem, 1) := by decide +kernel
theorem dX1_shadeAt_7 : decode cX1_shadeAt 7 = .ok (.ireturn, 1) := by decide +kernel
theorem oX1_shadeAt_0 : oP MT mX1_shadeAt 0 (1, 1, 0, 1, []) := o_aload_n dX1_shadeAt_0 rfl
theorem oX1_shadeAt_1 : oP MT mX1_shadeAt 1 (1, 1, 1, 0, []) := o_iload_n dX1_shadeAt_1 rfl
theorem oX1_shadeAt_2 : oP MT mX1_shadeAt 2 (26, 3, 0, 1, [(1, 2)]) := o_callO ((vA.cons (v_callV dX1_shadeAt_2 (ci := 1) rfl rfl (mj := mX1_sunAt) mt_X1_sunAt cmq_X1_sunAt wq_4 wq_7 wq_8 (by decide) (by decide)) vA.nil))
theorem oX1_shadeAt_5 : oP MT mX1_shadeAt 5 (0, 1, 0, 4, []) := o_iconst dX1_shadeAt_5 (by decide)
theorem oX1_shadeAt_6 : oP MT mX1_shadeAt 6 (4, 1, 10, 0, []) := o_irem dX1_shadeAt_6
theorem oX1_shadeAt_7 : oP MT mX1_shadeAt 7 (21, 1, 0, 0, []) := o_iret dX1_shadeAt_7 rfl
def ops_X1_shadeAt : List (Nat × aO) := [(0, (1, 1, 0, 1, [])), (1, (1, 1, 1, 0, [])), (2, (26, 3, 0, 1, [(1, 2)])), (5, (0, 1, 0, 4, [])), (6, (4, 1, 10, 0, [])), (7, (21, 1, 0, 0, []))]
theorem os_X1_shadeAt : oA MT mX1_shadeAt ops_X1_shadeAt := (oA.cons oX1_shadeAt_0 (oA.cons oX1_shadeAt_1 (oA.cons oX1_shadeAt_2 (oA.cons oX1_shadeAt_5 (oA.cons oX1_shadeAt_6 (oA.cons oX1_shadeAt_7 oA.nil))))))
theorem dX2_melts_0 : decode cX2_melts 0 = .ok (.iconst 0, 1) := by decide +kernel
theorem dX2_melts_1 : decode cX2_melts 1 = .ok (.ireturn, 1) := by decide +kernel
theorem oX2_melts_0 : oP MT mX2_melts 0 (0, 1, 0, 0, []) := o_iconst dX2_melts_0 (by decide)
theorem oX2_melts_1 : oP MT mX2_melts 1 (21, 1, 0, 0, []) := o_iret dX2_melts_1 rfl
def ops_X2_melts : List (Nat × aO) := [(0, (0, 1, 0, 0, [])), (1, (21, 1, 0, 0, []))]
theorem os_X2_melts : oA MT mX2_melts ops_X2_melts := (oA.cons oX2_melts_0 (oA.cons oX2_melts_1 oA.nil))
theorem dX3_melts_0 : decode cX3_melts 0 = .ok (.iconst 3, 1) := by decide +kernel
theorem dX3_melts_1 : decode cX3_melts 1 = .ok (.iconst 2, 1) := by decide +kernel
theorem dX3_melts_2 : decode cX3_melts 2 = .ok (.iload_n 1, 1) := by decide +kernel
theorem dX3_melts_3 : decode cX3_melts 3 = .ok (.imul, 1) := by decide +kernel
theorem dX3_melts_4 : decode cX3_melts 4 = .ok (.iadd, 1) := by decide +kernel
theorem dX3_melts_5 : decode cX3_melts 5 = .ok (.ireturn, 1) := by decide +kernel
theorem oX3_melts_0 : oP MT mX3_melts 0 (0, 1, 0, 3, []) := o_iconst dX3_melts_0 (by decide)
theorem oX3_melts_1 : oP MT mX3_melts 1 (0, 1, 0, 2, []) := o_iconst dX3_melts_1 (by decide)
theorem oX3_melts_2 : oP MT mX3_melts 2 (1, 1, 1, 0, []) := o_iload_n dX3_melts_2 rfl
theorem oX3_melts_3 : oP MT mX3_melts 3 (4, 1, 2, 0, []) := o_imul dX3_melts_3
theorem oX3_melts_4 : oP MT mX3_melts 4 (4, 1, 0, 0, []) := o_iadd dX3_melts_4
theorem oX3_melts_5 : oP MT mX3_melts 5 (21, 1, 0, 0, []) := o_iret dX3_melts_5 rfl
def ops_X3_melts : List (Nat × aO) := [(0, (0, 1, 0, 3, [])), (1, (0, 1, 0, 2, [])), (2, (1, 1, 1, 0, [])), (3, (4, 1, 2, 0, [])), (4, (4, 1, 0, 0, [])), (5, (21, 1, 0, 0, []))]
theorem os_X3_melts : oA MT mX3_melts ops_X3_melts := (oA.cons oX3_melts_0 (oA.cons oX3_melts_1 (oA.cons oX3_melts_2 (oA.cons oX3_melts_3 (oA.cons oX3_melts_4 (oA.cons oX3_melts_5 oA.nil))))))
theorem dX7_melts_0 : decode cX7_melts 0 = .ok (.iload_n 1, 1) := by decide +kernel
theorem dX7_melts_1 : decode cX7_melts 1 = .ok (.iload_n 1, 1) := by decide +kernel
theorem dX7_melts_2 : decode cX7_melts 2 = .ok (.imul, 1) := by decide +kernel
theorem dX7_melts_3 : decode cX7_melts 3 = .ok (.ireturn, 1) := by decide +kernel
theorem oX7_melts_0 : oP MT mX7_melts 0 (1, 1, 1, 0, []) := o_iload_n dX7_melts_0 rfl
theorem oX7_melts_1 : oP MT mX7_melts 1 (1, 1, 1, 0, []) := o_iload_n dX7_melts_1 rfl
theorem oX7_melts_2 : oP MT mX7_melts 2 (4, 1, 2, 0, []) := o_imul dX7_melts_2
theorem oX7_melts_3 : oP MT mX7_melts 3 (21, 1, 0, 0, []) := o_iret dX7_melts_3 rfl
def ops_X7_melts : List (Nat × aO) := [(0, (1, 1, 1, 0, [])), (1, (1, 1, 1, 0, [])), (2, (4, 1, 2, 0, [])), (3, (21, 1, 0, 0, []))]
theorem os_X7_melts : oA MT mX7_melts ops_X7_melts := (oA.cons oX7_melts_0 (oA.cons oX7_melts_1 (oA.cons oX7_melts_2 (oA.cons oX7_melts_3 oA.nil))))
theorem dX8_melts_0 : decode cX8_melts 0 = .ok (.iconst 0, 1) := by decide +kernel
theorem dX8_melts_1 : decode cX8_melts 1 = .ok (.iconst 2, 1) := by decide +kernel
theorem dX8_melts_2 : decode cX8_melts 2 = .ok (.aload_n 0, 1) := by decide +kernel
theorem dX8_melts_3 : decode cX8_melts 3 = .ok (.iload_n 1, 1) := by decide +kernel
theorem dX8_melts_4 : decode cX8_melts 4 = .ok (.iload_n 2, 1) := by decide +kernel
theorem dX8_melts_5 : decode cX8_melts 5 = .ok (.iload_n 3, 1) := by decide +kernel
theorem dX8_melts_6 : decode cX8_melts 6 = .ok (.invokespecial 7, 3) := by decide +kernel
theorem dX8_melts_9 : decode cX8_melts 9 = .ok (.imul, 1) := by decide +kernel
theorem dX8_melts_10 : decode cX8_melts 10 = .ok (.iload_n 2, 1) := by decide +kernel
theorem dX8_melts_11 : decode cX8_melts 11 = .ok (.isub, 1) := by decide +kernel
theorem dX8_melts_12 : decode cX8_melts 12 = .ok (.invokestatic 11, 3) := by decide +kernel
theorem dX8_melts_15 : decode cX8_melts 15 = .ok (.ireturn, 1) := by decide +kernel
theorem oX8_melts_0 : oP MT mX8_melts 0 (0, 1, 0, 0, []) := o_iconst dX8_melts_0 (by decide)
theorem oX8_melts_1 : oP MT mX8_melts 1 (0, 1, 0, 2, []) := o_iconst dX8_melts_1 (by decide)
theorem oX8_melts_2 : oP MT mX8_melts 2 (1, 1, 0, 1, []) := o_aload_n dX8_melts_2 rfl
theorem oX8_melts_3 : oP MT mX8_melts 3 (1, 1, 1, 0, []) := o_iload_n dX8_melts_3 rfl
theorem oX8_melts_4 : oP MT mX8_melts 4 (1, 1, 2, 0, []) := o_iload_n dX8_melts_4 rfl
theorem oX8_melts_5 : oP MT mX8_melts 5 (1, 1, 3, 0, []) := o_iload_n dX8_melts_5 rfl
theorem oX8_melts_6 : oP MT mX8_melts 6 (26, 3, 0, 3, [(8, 5), (10, 5)]) := o_callO ((vA.cons (v_callSU dX8_melts_6 (ci := 8) rfl rfl (mj := mX3_melts) mt_X3_melts cmq_X3_melts wq_11 wq_12 wq_13 wq_14 (by decide) (by decide) (by decide)) (vA.cons (v_callSU dX8_melts_6 (ci := 10) rfl rfl (mj := mX3_melts) mt_X3_melts cmq_X3_melts wq_11 wq_12 wq_13 wq_14 (by decide) (by decide) (by decide)) vA.nil)))
theorem oX8_melts_9 : oP MT mX8_melts 9 (4, 1, 2, 0, []) := o_imul dX8_melts_9
theorem oX8_melts_10 : oP MT mX8_melts 10 (1, 1, 2, 0, []) := o_iload_n dX8_melts_10 rfl
theorem oX8_melts_11 : oP MT mX8_melts 11 (4, 1, 1, 0, []) := o_isub dX8_melts_11
theorem oX8_melts_12 : oP MT mX8_melts 12 (27, 3, 0, 0, []) := o_max dX8_melts_12 wq_15 wq_16 wq_17 wq_18
theorem oX8_melts_15 : oP MT mX8_melts 15 (21, 1, 0, 0, []) := o_iret dX8_melts_15 rfl
def ops_X8_melts : List (Nat × aO) := [(0, (0, 1, 0, 0, [])), (1, (0, 1, 0, 2, [])), (2, (1, 1, 0, 1, [])), (3, (1, 1, 1, 0, [])), (4, (1, 1, 2, 0, [])), (5, (1, 1, 3, 0, [])), (6, (26, 3, 0, 3, [(8, 5), (10, 5)])), (9, (4, 1, 2, 0, [])), (10, (1, 1, 2, 0, [])), (11, (4, 1, 1, 0, [])), (12, (27, 3, 0, 0, [])), (15, (21, 1, 0, 0, []))]
theorem os_X8_melts : oA MT mX8_melts ops_X8_melts := (oA.cons oX8_melts_0 (oA.cons oX8_melts_1 (oA.cons oX8_melts_2 (oA.cons oX8_melts_3 (oA.cons oX8_melts_4 (oA.cons oX8_melts_5 (oA.cons oX8_melts_6 (oA.cons oX8_melts_9 (oA.cons oX8_melts_10 (oA.cons oX8_melts_11 (oA.cons oX8_melts_12 (oA.cons oX8_melts_15 oA.nil))))))))))))
theorem dX9_melts_0 : decode cX9_melts 0 = .ok (.aload_n 0, 1) := by decide +kernel
theorem dX9_melts_1 : decode cX9_melts 1 = .ok (.iload_n 1, 1) := by decide +kernel
theorem dX9_melts_2 : decode cX9_melts 2 = .ok (.iload_n 2, 1) := by decide +kernel
theorem dX9_melts_3 : decode cX9_melts 3 = .ok (.iload_n 3, 1) := by decide +kernel
theorem dX9_melts_4 : decode cX9_melts 4 = .ok (.invokespecial 7, 3) := by decide +kernel
theorem dX9_melts_7 : decode cX9_melts 7 = .ok (.iload_n 3, 1) := by decide +kernel
theorem dX9_melts_8 : decode cX9_melts 8 = .ok (.iconst 3, 1) := by decide +kernel
theorem dX9_melts_9 : decode cX9_melts 9 = .ok (.idiv, 1) := by decide +kernel
theorem dX9_melts_10 : decode cX9_melts 10 = .ok (.iadd, 1) := by decide +kernel
theorem dX9_melts_11 : decode cX9_melts 11 = .ok (.ireturn, 1) := by decide +kernel
theorem oX9_melts_0 : oP MT mX9_melts 0 (1, 1, 0, 1, []) := o_aload_n dX9_melts_0 rfl
theorem oX9_melts_1 : oP MT mX9_melts 1 (1, 1, 1, 0, []) := o_iload_n dX9_melts_1 rfl
theorem oX9_melts_2 : oP MT mX9_melts 2 (1, 1, 2, 0, []) := o_iload_n dX9_melts_2 rfl
theorem oX9_melts_3 : oP MT mX9_melts 3 (1, 1, 3, 0, []) := o_iload_n dX9_melts_3 rfl
theorem oX9_melts_4 : oP MT mX9_melts 4 (26, 3, 0, 3, [(9, 6)]) := o_callO ((vA.cons (v_callSU dX9_melts_4 (ci := 9) rfl rfl (mj := mX7_melts) mt_X7_melts cmq_X7_melts wq_21 wq_22 wq_23 wq_24 (by decide) (by decide) (by decide)) vA.nil))
theorem oX9_melts_7 : oP MT mX9_melts 7 (1, 1, 3, 0, []) := o_iload_n dX9_melts_7 rfl
theorem oX9_melts_8 : oP MT mX9_melts 8 (0, 1, 0, 3, []) := o_iconst dX9_melts_8 (by decide)
theorem oX9_melts_9 : oP MT mX9_melts 9 (4, 1, 9, 0, []) := o_idiv dX9_melts_9
theorem oX9_melts_10 : oP MT mX9_melts 10 (4, 1, 0, 0, []) := o_iadd dX9_melts_10
theorem oX9_melts_11 : oP MT mX9_melts 11 (21, 1, 0, 0, []) := o_iret dX9_melts_11 rfl
def ops_X9_melts : List (Nat × aO) := [(0, (1, 1, 0, 1, [])), (1, (1, 1, 1, 0, [])), (2, (1, 1, 2, 0, [])), (3, (1, 1, 3, 0, [])), (4, (26, 3, 0, 3, [(9, 6)])), (7, (1, 1, 3, 0, [])), (8, (0, 1, 0, 3, [])), (9, (4, 1, 9, 0, [])), (10, (4, 1, 0, 0, [])), (11, (21, 1, 0, 0, []))]
theorem os_X9_melts : oA MT mX9_melts ops_X9_melts := (oA.cons oX9_melts_0 (oA.cons oX9_melts_1 (oA.cons oX9_melts_2 (oA.cons oX9_melts_3 (oA.cons oX9_melts_4 (oA.cons oX9_melts_7 (oA.cons oX9_melts_8 (oA.cons oX9_melts_9 (oA.cons oX9_melts_10 (oA.cons oX9_melts_11 oA.nil))))))))))
theorem dX10_melts_0 : decode cX10_melts 0 = .ok (.aload_n 0, 1) := by decide +kernel
theorem dX10_melts_1 : decode cX10_melts 1 = .ok (.iload_n 1, 1) := by decide +kernel
theorem dX10_melts_2 : decode cX10_melts 2 = .ok (.iload_n 2, 1) := by decide +kernel
theorem dX10_melts_3 : decode cX10_melts 3 = .ok (.iload_n 3, 1) := by decide +kernel
theorem dX10_melts_4 : decode cX10_melts 4 = .ok (.invokespecial 7, 3) := by decide +kernel
theorem dX10_melts_7 : decode cX10_melts 7 = .ok (.iconst 2, 1) := by decide +kernel
theorem dX10_melts_8 : decode cX10_melts 8 = .ok (.idiv, 1) := by decide +kernel
theorem dX10_melts_9 : decode cX10_melts 9 = .ok (.ireturn, 1) := by decide +kernel
theorem oX10_melts_0 : oP MT mX10_melts 0 (1, 1, 0, 1, []) := o_aload_n dX10_melts_0 rfl
theorem oX10_melts_1 : oP MT mX10_melts 1 (1, 1, 1, 0, []) := o_iload_n dX10_melts_1 rfl
theorem oX10_melts_2 : oP MT mX10_melts 2 (1, 1, 2, 0, []) := o_iload_n dX10_melts_2 rfl
theorem oX10_melts_3 : oP MT mX10_melts 3 (1, 1, 3, 0, []) := o_iload_n dX10_melts_3 rfl
theorem oX10_melts_4 : oP MT mX10_melts 4 (26, 3, 0, 3, [(10, 7)]) := o_callO ((vA.cons (v_callSU dX10_melts_4 (ci := 10) rfl rfl (mj := mX8_melts) mt_X8_melts cmq_X8_melts wq_27 wq_28 wq_29 wq_30 (by decide) (by decide) (by decide)) vA.nil))
theorem oX10_melts_7 : oP MT mX10_melts 7 (0, 1, 0, 2, []) := o_iconst dX10_melts_7 (by decide)
theorem oX10_melts_8 : oP MT mX10_melts 8 (4, 1, 9, 0, []) := o_idiv dX10_melts_8
theorem oX10_melts_9 : oP MT mX10_melts 9 (21, 1, 0, 0, []) := o_iret dX10_melts_9 rfl
def ops_X10_melts : List (Nat × aO) := [(0, (1, 1, 0, 1, [])), (1, (1, 1, 1, 0, [])), (2, (1, 1, 2, 0, [])), (3, (1, 1, 3, 0, [])), (4, (26, 3, 0, 3, [(10, 7)])), (7, (0, 1, 0, 2, [])), (8, (4, 1, 9, 0, [])), (9, (21, 1, 0, 0, []))]
theorem os_X10_melts : oA MT mX10_melts ops_X10_melts := (oA.cons oX10_melts_0 (oA.cons oX10_melts_1 (oA.cons oX10_melts_2 (oA.cons oX10_melts_3 (oA.cons oX10_melts_4 (oA.cons oX10_melts_7 (oA.cons oX10_melts_8 (oA.cons oX10_melts_9 oA.nil))))))))
theorem dX1_others_0 : decode cX1_others 0 = .ok (.iconst 0, 1) := by decide +kernel
theorem dX1_others_1 : decode cX1_others 1 = .ok (.istore_n 2, 1) := by decide +kernel
theorem dX1_others_2 : decode cX1_others 2 = .ok (.iconst 0, 1) := by decide +kernel
theorem dX1_others_3 : decode cX1_others 3 = .ok (.istore_n 3, 1) := by decide +kernel
theorem dX1_others_4 : decode cX1_others 4 = .ok (.iload_n 3, 1) := by decide +kernel
theorem dX1_others_5 : decode cX1_others 5 = .ok (.aload_n 0, 1) := by decide +kernel
theorem dX1_others_6 : decode cX1_others 6 = .ok (.getfield 72, 3) := by decide +kernel
theorem dX1_others_9 : decode cX1_others 9 = .ok (.if_icmp .ge 40, 3) := by decide +kernel
theorem dX1_others_12 : decode cX1_others 12 = .ok (.iload_n 3, 1) := by decide +kernel
theorem dX1_others_13 : decode cX1_others 13 = .ok (.iload_n 1, 1) := by decide +kernel
theorem dX1_others_14 : decode cX1_others 14 = .ok (.if_icmp .eq 29, 3) := by decide +kernel
theorem dX1_others_17 : decode cX1_others 17 = .ok (.aload_n 0, 1) := by decide +kernel
theorem dX1_others_18 : decode cX1_others 18 = .ok (.getfield 37, 3) := by decide +kernel
theorem dX1_others_21 : decode cX1_others 21 = .ok (.iload_n 3, 1) := by decide +kernel
theorem dX1_others_22 : decode cX1_others 22 = .ok (.iaload, 1) := by decide +kernel
theorem dX1_others_23 : decode cX1_others 23 = .ok (.aload_n 0, 1) := by decide +kernel
theorem dX1_others_24 : decode cX1_others 24 = .ok (.getfield 37, 3) := by decide +kernel
theorem dX1_others_27 : decode cX1_others 27 = .ok (.iload_n 1, 1) := by decide +kernel
theorem dX1_others_28 : decode cX1_others 28 = .ok (.iaload, 1) := by decide +kernel
theorem dX1_others_29 : decode cX1_others 29 = .ok (.if_icmp .ne 14, 3) := by decide +kernel
theorem dX1_others_32 : decode cX1_others 32 = .ok (.aload_n 0, 1) := by decide +kernel
theorem dX1_others_33 : decode cX1_others 33 = .ok (.iload_n 3, 1) := by decide +kernel
theorem dX1_others_34 : decode cX1_others 34 = .ok (.invokevirtual 113, 3) := by decide +kernel
theorem dX1_others_37 : decode cX1_others 37 = .ok (.ifCond .ne 6, 3) := by decide +kernel
theorem dX1_others_40 : decode cX1_others 40 = .ok (.iinc 2 1, 3) := by decide +kernel
theorem dX1_others_43 : decode cX1_others 43 = .ok (.iinc 3 1, 3) := by decide +kernel
theorem dX1_others_46 : decode cX1_others 46 = .ok (.goto (-42), 3) := by decide +kernel
theorem dX1_others_49 : decode cX1_others 49 = .ok (.iload_n 2, 1) := by decide +kernel
theorem dX1_others_50 : decode cX1_others 50 = .ok (.ireturn, 1) := by decide +kernel
theorem oX1_others_0 : oP MT mX1_others 0 (0, 1, 0, 0, []) := o_iconst dX1_others_0 (by decide)
theorem oX1_others_1 : oP MT mX1_others 1 (2, 1, 2, 0, []) := o_istore_n dX1_others_1 rfl (by decide)
theorem oX1_others_2 : oP MT mX1_others 2 (0, 1, 0, 0, []) := o_iconst dX1_others_2 (by decide)
theorem oX1_others_3 : oP MT mX1_others 3 (2, 1, 3, 0, []) := o_istore_n dX1_others_3 rfl (by decide)
theorem oX1_others_4 : oP MT mX1_others 4 (1, 1, 3, 0, []) := o_iload_n dX1_others_4 rfl
theorem oX1_others_5 : oP MT mX1_others 5 (1, 1, 0, 1, []) := o_aload_n dX1_others_5 rfl
theorem oX1_others_6 : oP MT mX1_others 6 (12, 3, 8, 1, []) := o_getI (M := mX1_others) (C := RX1) (T := TX1) (ci := 1) (j := 8) (z := 1) dX1_others_6 rfl lq_RX1_72 rfl rfl
theorem oX1_others_9 : oP MT mX1_others 9 (11, 3, 3, 49, []) := o_icmp_ge dX1_others_9 (by decide) (by decide)
theorem oX1_others_12 : oP MT mX1_others 12 (1, 1, 3, 0, []) := o_iload_n dX1_others_12 rfl
theorem oX1_others_13 : oP MT mX1_others 13 (1, 1, 1, 0, []) := o_iload_n dX1_others_13 rfl
theorem oX1_others_14 : oP MT mX1_others 14 (11, 3, 0, 43, []) := o_icmp_eq dX1_others_14 (by decide) (by decide)
theorem oX1_others_17 : oP MT mX1_others 17 (1, 1, 0, 1, []) := o_aload_n dX1_others_17 rfl
theorem oX1_others_18 : oP MT mX1_others 18 (13, 3, 13, 1, []) := o_getR (M := mX1_others) (C := RX1) (T := TX1) (ci := 1) (j := 13) (z := 1) dX1_others_18 rfl lq_RX1_37 rfl rfl
theorem oX1_others_21 : oP MT mX1_others 21 (1, 1, 3, 0, []) := o_iload_n dX1_others_21 rfl
theorem oX1_others_22 : oP MT mX1_others 22 (16, 1, 1, 0, []) := o_iaload dX1_others_22
theorem oX1_others_23 : oP MT mX1_others 23 (1, 1, 0, 1, []) := o_aload_n dX1_others_23 rfl
theorem oX1_others_24 : oP MT mX1_others 24 (13, 3, 13, 1, []) := o_getR (M := mX1_others) (C := RX1) (T := TX1) (ci := 1) (j := 13) (z := 1) dX1_others_24 rfl lq_RX1_37 rfl rfl
theorem oX1_others_27 : oP MT mX1_others 27 (1, 1, 1, 0, []) := o_iload_n dX1_others_27 rfl
theorem oX1_others_28 : oP MT mX1_others 28 (16, 1, 1, 0, []) := o_iaload dX1_others_28
theorem oX1_others_29 : oP MT mX1_others 29 (11, 3, 1, 43, []) := o_icmp_ne dX1_others_29 (by decide) (by decide)
theorem oX1_others_32 : oP MT mX1_others 32 (1, 1, 0, 1, []) := o_aload_n dX1_others_32 rfl
theorem oX1_others_33 : oP MT mX1_others 33 (1, 1, 3, 0, []) := o_iload_n dX1_others_33 rfl
theorem oX1_others_34 : oP MT mX1_others 34 (26, 3, 0, 1, [(1, 11)]) := o_callO ((vA.cons (v_callV dX1_others_34 (ci := 1) rfl rfl (mj := mX1_isTurned) mt_X1_isTurned cmq_X1_isTurned wq_31 wq_33 wq_34 (by decide) (by decide)) vA.nil))
theorem oX1_others_37 : oP MT mX1_others 37 (10, 3, 1, 43, []) := o_if_ne dX1_others_37 (by decide) (by decide)
theorem oX1_others_40 : oP MT mX1_others 40 (3, 3, 2, 1, []) := o_iinc dX1_others_40 (by decide) (by decide)
theorem oX1_others_43 : oP MT mX1_others 43 (3, 3, 3, 1, []) := o_iinc dX1_others_43 (by decide) (by decide)
theorem oX1_others_46 : oP MT mX1_others 46 (9, 3, 4, 0, []) := o_goto dX1_others_46 (by decide)
theorem oX1_others_49 : oP MT mX1_others 49 (1, 1, 2, 0, []) := o_iload_n dX1_others_49 rfl
theorem oX1_others_50 : oP MT mX1_others 50 (21, 1, 0, 0, []) := o_iret dX1_others_50 rfl
def ops_X1_others : List (Nat × aO) := [(0, (0, 1, 0, 0, [])), (1, (2, 1, 2, 0, [])), (2, (0, 1, 0, 0, [])), (3, (2, 1, 3, 0, [])), (4, (1, 1, 3, 0, [])), (5, (1, 1, 0, 1, [])), (6, (12, 3, 8, 1, [])), (9, (11, 3, 3, 49, [])), (12, (1, 1, 3, 0, [])), (13, (1, 1, 1, 0, [])), (14, (11, 3, 0, 43, [])), (17, (1, 1, 0, 1, [])), (18, (13, 3, 13, 1, [])), (21, (1, 1, 3, 0, [])), (22, (16, 1, 1, 0, [])), (23, (1, 1, 0, 1, [])), (24, (13, 3, 13, 1, [])), (27, (1, 1, 1, 0, [])), (28, (16, 1, 1, 0, [])), (29, (11, 3, 1, 43, [])), (32, (1, 1, 0, 1, [])), (33, (1, 1, 3, 0, [])), (34, (26, 3, 0, 1, [(1, 11)])), (37, (10, 3, 1, 43, [])), (40, (3, 3, 2, 1, [])), (43, (3, 3, 3, 1, [])), (46, (9, 3, 4, 0, [])), (49, (1, 1, 2, 0, [])), (50, (21, 1, 0, 0, []))]
theorem os_X1_others : oA MT mX1_others ops_X1_others := (oA.cons oX1_others_0 (oA.cons oX1_others_1 (oA.cons oX1_others_2 (oA.cons oX1_others_3 (oA.cons oX1_others_4 (oA.cons oX1_others_5 (oA.cons oX1_others_6 (oA.cons oX1_others_9 (oA.cons oX1_others_12 (oA.cons oX1_others_13 (oA.cons oX1_others_14 (oA.cons oX1_others_17 (oA.cons oX1_others_18 (oA.cons oX1_others_21 (oA.cons oX1_others_22 (oA.cons oX1_others_23 (oA.cons oX1_others_24 (oA.cons oX1_others_27 (oA.cons oX1_others_28 (oA.cons oX1_others_29 (oA.cons oX1_others_32 (oA.cons oX1_others_33 (oA.cons oX1_others_34 (oA.cons oX1_others_37 (oA.cons oX1_others_40 (oA.cons oX1_others_43 (oA.cons oX1_others_46 (oA.cons oX1_others_49 (oA.cons oX1_others_50 oA.nil)))))))))))))))))))))))))))))
theorem dX1_isTurned_0 : decode cX1_isTurned 0 = .ok (.aload_n 0, 1) := by decide +kernel
theorem dX1_isTurned_1 : decode cX1_isTurned 1 = .ok (.getfield 75, 3) := by decide +kernel
theorem dX1_isTurned_4 : decode cX1_isTurned 4 = .ok (.iload_n 1, 1) := by decide +kernel
theorem dX1_isTurned_5 : decode cX1_isTurned 5 = .ok (.ishr, 1) := by decide +kernel
theorem dX1_isTurned_6 : decode cX1_isTurned 6 = .ok (.iconst 1, 1) := by decide +kernel
theorem dX1_isTurned_7 : decode cX1_isTurned 7 = .ok (.iand, 1) := by decide +kernel
theorem dX1_isTurned_8 : decode cX1_isTurned 8 = .ok (.iconst 1, 1) := by decide +kernel
theorem dX1_isTurned_9 : decode cX1_isTurned 9 = .ok (.if_icmp .ne 7, 3) := by decide +kernel
theorem dX1_isTurned_12 : decode cX1_isTurned 12 = .ok (.iconst 1, 1) := by decide +kernel
theorem dX1_isTurned_13 : decode cX1_isTurned 13 = .ok (.goto 4, 3) := by decide +kernel
theorem dX1_isTurned_16 : decode cX1_isTurned 16 = .ok (.iconst 0, 1) := by decide +kernel
theorem dX1_isTurned_17 : decode cX1_isTurned 17 = .ok (.ireturn, 1) := by decide +kernel
theorem oX1_isTurned_0 : oP MT mX1_isTurned 0 (1, 1, 0, 1, []) := o_aload_n dX1_isTurned_0 rfl
theorem oX1_isTurned_1 : oP MT mX1_isTurned 1 (12, 3, 9, 1, []) := o_getI (M := mX1_isTurned) (C := RX1) (T := TX1) (ci := 1) (j := 9) (z := 1) dX1_isTurned_1 rfl lq_RX1_75 rfl rfl
theorem oX1_isTurned_4 : oP MT mX1_isTurned 4 (1, 1, 1, 0, []) := o_iload_n dX1_isTurned_4 rfl
theorem oX1_isTurned_5 : oP MT mX1_isTurned 5 (4, 1, 7, 0, []) := o_ishr dX1_isTurned_5
theorem oX1_isTurned_6 : oP MT mX1_isTurned 6 (0, 1, 0, 1, []) := o_iconst dX1_isTurned_6 (by decide)
theorem oX1_isTurned_7 : oP MT mX1_isTurned 7 (4, 1, 3, 0, []) := o_iand dX1_isTurned_7
theorem oX1_isTurned_8 : oP MT mX1_isTurned 8 (0, 1, 0, 1, []) := o_iconst dX1_isTurned_8 (by decide)
theorem oX1_isTurned_9 : oP MT mX1_isTurned 9 (11, 3, 1, 16, []) := o_icmp_ne dX1_isTurned_9 (by decide) (by decide)
theorem oX1_isTurned_12 : oP MT mX1_isTurned 12 (0, 1, 0, 1, []) := o_iconst dX1_isTurned_12 (by decide)
theorem oX1_isTurned_13 : oP MT mX1_isTurned 13 (9, 3, 17, 0, []) := o_goto dX1_isTurned_13 (by decide)
theorem oX1_isTurned_16 : oP MT mX1_isTurned 16 (0, 1, 0, 0, []) := o_iconst dX1_isTurned_16 (by decide)
theorem oX1_isTurned_17 : oP MT mX1_isTurned 17 (22, 1, 0, 0, []) := o_zret dX1_isTurned_17 rfl
def ops_X1_isTurned : List (Nat × aO) := [(0, (1, 1, 0, 1, [])), (1, (12, 3, 9, 1, [])), (4, (1, 1, 1, 0, [])), (5, (4, 1, 7, 0, [])), (6, (0, 1, 0, 1, [])), (7, (4, 1, 3, 0, [])), (8, (0, 1, 0, 1, [])), (9, (11, 3, 1, 16, [])), (12, (0, 1, 0, 1, [])), (13, (9, 3, 17, 0, [])), (16, (0, 1, 0, 0, [])), (17, (22, 1, 0, 0, []))]
theorem os_X1_isTurned : oA MT mX1_isTurned ops_X1_isTurned := (oA.cons oX1_isTurned_0 (oA.cons oX1_isTurned_1 (oA.cons oX1_isTurned_4 (oA.cons oX1_isTurned_5 (oA.cons oX1_isTurned_6 (oA.cons oX1_isTurned_7 (oA.cons oX1_isTurned_8 (oA.cons oX1_isTurned_9 (oA.cons oX1_isTurned_12 (oA.cons oX1_isTurned_13 (oA.cons oX1_isTurned_16 (oA.cons oX1_isTurned_17 oA.nil))))))))))))
theorem dX2_shape_0 : decode cX2_shape 0 = .ok (.iconst 5, 1) := by decide +kernel
theorem dX2_shape_1 : decode cX2_shape 1 = .ok (.ireturn, 1) := by decide +kernel
theorem oX2_shape_0 : oP MT mX2_shape 0 (0, 1, 0, 5, []) := o_iconst dX2_shape_0 (by decide)
theorem oX2_shape_1 : oP MT mX2_shape 1 (21, 1, 0, 0, []) := o_iret dX2_shape_1 rfl
def ops_X2_shape : List (Nat × aO) := [(0, (0, 1, 0, 5, [])), (1, (21, 1, 0, 0, []))]
theorem os_X2_shape : oA MT mX2_shape ops_X2_shape := (oA.cons oX2_shape_0 (oA.cons oX2_shape_1 oA.nil))
theorem dX3_shape_0 : decode cX3_shape 0 = .ok (.iload_n 1, 1) := by decide +kernel
theorem dX3_shape_1 : decode cX3_shape 1 = .ok (.bipush 10, 2) := by decide +kernel
theorem dX3_shape_3 : decode cX3_shape 3 = .ok (.idiv, 1) := by decide +kernel
theorem dX3_shape_4 : decode cX3_shape 4 = .ok (.ireturn, 1) := by decide +kernel
theorem oX3_shape_0 : oP MT mX3_shape 0 (1, 1, 1, 0, []) := o_iload_n dX3_shape_0 rfl
theorem oX3_shape_1 : oP MT mX3_shape 1 (0, 2, 0, 10, []) := o_bipush dX3_shape_1 (by decide)
theorem oX3_shape_3 : oP MT mX3_shape 3 (4, 1, 9, 0, []) := o_idiv dX3_shape_3
theorem oX3_shape_4 : oP MT mX3_shape 4 (21, 1, 0, 0, []) := o_iret dX3_shape_4 rfl
def ops_X3_shape : List (Nat × aO) := [(0, (1, 1, 1, 0, [])), (1, (0, 2, 0, 10, [])), (3, (4, 1, 9, 0, [])), (4, (21, 1, 0, 0, []))]
theorem os_X3_shape : oA MT mX3_shape ops_X3_shape := (oA.cons oX3_shape_0 (oA.cons oX3_shape_1 (oA.cons oX3_shape_3 (oA.cons oX3_shape_4 oA.nil))))
theorem dX7_shape_0 : decode cX7_shape 0 = .ok (.iload_n 1, 1) := by decide +kernel
theorem dX7_shape_1 : decode cX7_shape 1 = .ok (.bipush 12, 2) := by decide +kernel
theorem dX7_shape_3 : decode cX7_shape 3 = .ok (.idiv, 1) := by decide +kernel
theorem dX7_shape_4 : decode cX7_shape 4 = .ok (.ireturn, 1) := by decide +kernel
theorem oX7_shape_0 : oP MT mX7_shape 0 (1, 1, 1, 0, []) := o_iload_n dX7_shape_0 rfl
theorem oX7_shape_1 : oP MT mX7_shape 1 (0, 2, 0, 12, []) := o_bipush dX7_shape_1 (by decide)
theorem oX7_shape_3 : oP MT mX7_shape 3 (4, 1, 9, 0, []) := o_idiv dX7_shape_3
theorem oX7_shape_4 : oP MT mX7_shape 4 (21, 1, 0, 0, []) := o_iret dX7_shape_4 rfl
def ops_X7_shape : List (Nat × aO) := [(0, (1, 1, 1, 0, [])), (1, (0, 2, 0, 12, [])), (3, (4, 1, 9, 0, [])), (4, (21, 1, 0, 0, []))]
theorem os_X7_shape : oA MT mX7_shape ops_X7_shape := (oA.cons oX7_shape_0 (oA.cons oX7_shape_1 (oA.cons oX7_shape_3 (oA.cons oX7_shape_4 oA.nil))))
theorem dX8_shape_0 : decode cX8_shape 0 = .ok (.iload_n 1, 1) := by decide +kernel
theorem dX8_shape_1 : decode cX8_shape 1 = .ok (.bipush 10, 2) := by decide +kernel
theorem dX8_shape_3 : decode cX8_shape 3 = .ok (.idiv, 1) := by decide +kernel
theorem dX8_shape_4 : decode cX8_shape 4 = .ok (.iload_n 1, 1) := by decide +kernel
theorem dX8_shape_5 : decode cX8_shape 5 = .ok (.bipush 50, 2) := by decide +kernel
theorem dX8_shape_7 : decode cX8_shape 7 = .ok (.idiv, 1) := by decide +kernel
theorem dX8_shape_8 : decode cX8_shape 8 = .ok (.iadd, 1) := by decide +kernel
theorem dX8_shape_9 : decode cX8_shape 9 = .ok (.ireturn, 1) := by decide +kernel
theorem oX8_shape_0 : oP MT mX8_shape 0 (1, 1, 1, 0, []) := o_iload_n dX8_shape_0 rfl
theorem oX8_shape_1 : oP MT mX8_shape 1 (0, 2, 0, 10, []) := o_bipush dX8_shape_1 (by decide)
theorem oX8_shape_3 : oP MT mX8_shape 3 (4, 1, 9, 0, []) := o_idiv dX8_shape_3
theorem oX8_shape_4 : oP MT mX8_shape 4 (1, 1, 1, 0, []) := o_iload_n dX8_shape_4 rfl
theorem oX8_shape_5 : oP MT mX8_shape 5 (0, 2, 0, 50, []) := o_bipush dX8_shape_5 (by decide)
theorem oX8_shape_7 : oP MT mX8_shape 7 (4, 1, 9, 0, []) := o_idiv dX8_shape_7
theorem oX8_shape_8 : oP MT mX8_shape 8 (4, 1, 0, 0, []) := o_iadd dX8_shape_8
theorem oX8_shape_9 : oP MT mX8_shape 9 (21, 1, 0, 0, []) := o_iret dX8_shape_9 rfl
def ops_X8_shape : List (Nat × aO) := [(0, (1, 1, 1, 0, [])), (1, (0, 2, 0, 10, [])), (3, (4, 1, 9, 0, [])), (4, (1, 1, 1, 0, [])), (5, (0, 2, 0, 50, [])), (7, (4, 1, 9, 0, [])), (8, (4, 1, 0, 0, [])), (9, (21, 1, 0, 0, []))]
theorem os_X8_shape : oA MT mX8_shape ops_X8_shape := (oA.cons oX8_shape_0 (oA.cons oX8_shape_1 (oA.cons oX8_shape_3 (oA.cons oX8_shape_4 (oA.cons oX8_shape_5 (oA.cons oX8_shape_7 (oA.cons oX8_shape_8 (oA.cons oX8_shape_9 oA.nil))))))))
theorem dX9_shape_0 : decode cX9_shape 0 = .ok (.bipush 9, 2) := by decide +kernel
theorem dX9_shape_2 : decode cX9_shape 2 = .ok (.aload_n 0, 1) := by decide +kernel
theorem dX9_shape_3 : decode cX9_shape 3 = .ok (.iload_n 1, 1) := by decide +kernel
theorem dX9_shape_4 : decode cX9_shape 4 = .ok (.iload_n 2, 1) := by decide +kernel
theorem dX9_shape_5 : decode cX9_shape 5 = .ok (.iload_n 3, 1) := by decide +kernel
theorem dX9_shape_6 : decode cX9_shape 6 = .ok (.invokespecial 11, 3) := by decide +kernel
theorem dX9_shape_9 : decode cX9_shape 9 = .ok (.iload_n 3, 1) := by decide +kernel
theorem dX9_shape_10 : decode cX9_shape 10 = .ok (.iadd, 1) := by decide +kernel
theorem dX9_shape_11 : decode cX9_shape 11 = .ok (.invokestatic 14, 3) := by decide +kernel
theorem dX9_shape_14 : decode cX9_shape 14 = .ok (.ireturn, 1) := by decide +kernel
theorem oX9_shape_0 : oP MT mX9_shape 0 (0, 2, 0, 9, []) := o_bipush dX9_shape_0 (by decide)
theorem oX9_shape_2 : oP MT mX9_shape 2 (1, 1, 0, 1, []) := o_aload_n dX9_shape_2 rfl
theorem oX9_shape_3 : oP MT mX9_shape 3 (1, 1, 1, 0, []) := o_iload_n dX9_shape_3 rfl
theorem oX9_shape_4 : oP MT mX9_shape 4 (1, 1, 2, 0, []) := o_iload_n dX9_shape_4 rfl
theorem oX9_shape_5 : oP MT mX9_shape 5 (1, 1, 3, 0, []) := o_iload_n dX9_shape_5 rfl
theorem oX9_shape_6 : oP MT mX9_shape 6 (26, 3, 0, 3, [(9, 14)]) := o_callO ((vA.cons (v_callSU dX9_shape_6 (ci := 9) rfl rfl (mj := mX7_shape) mt_X7_shape cmq_X7_shape wq_36 wq_37 wq_23 wq_38 (by decide) (by decide) (by decide)) vA.nil))
theorem oX9_shape_9 : oP MT mX9_shape 9 (1, 1, 3, 0, []) := o_iload_n dX9_shape_9 rfl
theorem oX9_shape_10 : oP MT mX9_shape 10 (4, 1, 0, 0, []) := o_iadd dX9_shape_10
theorem oX9_shape_11 : oP MT mX9_shape 11 (27, 3, 1, 0, []) := o_min dX9_shape_11 wq_39 wq_40 wq_17 wq_41
theorem oX9_shape_14 : oP MT mX9_shape 14 (21, 1, 0, 0, []) := o_iret dX9_shape_14 rfl
def ops_X9_shape : List (Nat × aO) := [(0, (0, 2, 0, 9, [])), (2, (1, 1, 0, 1, [])), (3, (1, 1, 1, 0, [])), (4, (1, 1, 2, 0, [])), (5, (1, 1, 3, 0, [])), (6, (26, 3, 0, 3, [(9, 14)])), (9, (1, 1, 3, 0, [])), (10, (4, 1, 0, 0, [])), (11, (27, 3, 1, 0, [])), (14, (21, 1, 0, 0, []))]
theorem os_X9_shape : oA MT mX9_shape ops_X9_shape := (oA.cons oX9_shape_0 (oA.cons oX9_shape_2 (oA.cons oX9_shape_3 (oA.cons oX9_shape_4 (oA.cons oX9_shape_5 (oA.cons oX9_shape_6 (oA.cons oX9_shape_9 (oA.cons oX9_shape_10 (oA.cons oX9_shape_11 (oA.cons oX9_shape_14 oA.nil))))))))))
theorem dX10_shape_0 : decode cX10_shape 0 = .ok (.iconst 0, 1) := by decide +kernel
theorem dX10_shape_1 : decode cX10_shape 1 = .ok (.aload_n 0, 1) := by decide +kernel
theorem dX10_shape_2 : decode cX10_shape 2 = .ok (.iload_n 1, 1) := by decide +kernel
theorem dX10_shape_3 : decode cX10_shape 3 = .ok (.iload_n 2, 1) := by decide +kernel
theorem dX10_shape_4 : decode cX10_shape 4 = .ok (.iload_n 3, 1) := by decide +kernel
theorem dX10_shape_5 : decode cX10_shape 5 = .ok (.invokespecial 11, 3) := by decide +kernel
theorem dX10_shape_8 : decode cX10_shape 8 = .ok (.iload_n 2, 1) := by decide +kernel
theorem dX10_shape_9 : decode cX10_shape 9 = .ok (.iconst 4, 1) := by decide +kernel
theorem dX10_shape_10 : decode cX10_shape 10 = .ok (.idiv, 1) := by decide +kernel
theorem dX10_shape_11 : decode cX10_shape 11 = .ok (.isub, 1) := by decide +kernel
theorem dX10_shape_12 : decode cX10_shape 12 = .ok (.invokestatic 14, 3) := by decide +kernel
theorem dX10_shape_15 : decode cX10_shape 15 = .ok (.ireturn, 1) := by decide +kernel
theorem oX10_shape_0 : oP MT mX10_shape 0 (0, 1, 0, 0, []) := o_iconst dX10_shape_0 (by decide)
theorem oX10_shape_1 : oP MT mX10_shape 1 (1, 1, 0, 1, []) := o_aload_n dX10_shape_1 rfl
theorem oX10_shape_2 : oP MT mX10_shape 2 (1, 1, 1, 0, []) := o_iload_n dX10_shape_2 rfl
theorem oX10_shape_3 : oP MT mX10_shape 3 (1, 1, 2, 0, []) := o_iload_n dX10_shape_3 rfl
theorem oX10_shape_4 : oP MT mX10_shape 4 (1, 1, 3, 0, []) := o_iload_n dX10_shape_4 rfl
theorem oX10_shape_5 : oP MT mX10_shape 5 (26, 3, 0, 3, [(10, 15)]) := o_callO ((vA.cons (v_callSU dX10_shape_5 (ci := 10) rfl rfl (mj := mX8_shape) mt_X8_shape cmq_X8_shape wq_43 wq_44 wq_29 wq_45 (by decide) (by decide) (by decide)) vA.nil))
theorem oX10_shape_8 : oP MT mX10_shape 8 (1, 1, 2, 0, []) := o_iload_n dX10_shape_8 rfl
theorem oX10_shape_9 : oP MT mX10_shape 9 (0, 1, 0, 4, []) := o_iconst dX10_shape_9 (by decide)
theorem oX10_shape_10 : oP MT mX10_shape 10 (4, 1, 9, 0, []) := o_idiv dX10_shape_10
theorem oX10_shape_11 : oP MT mX10_shape 11 (4, 1, 1, 0, []) := o_isub dX10_shape_11
theorem oX10_shape_12 : oP MT mX10_shape 12 (27, 3, 0, 0, []) := o_max dX10_shape_12 wq_46 wq_16 wq_17 wq_18
theorem oX10_shape_15 : oP MT mX10_shape 15 (21, 1, 0, 0, []) := o_iret dX10_shape_15 rfl
def ops_X10_shape : List (Nat × aO) := [(0, (0, 1, 0, 0, [])), (1, (1, 1, 0, 1, [])), (2, (1, 1, 1, 0, [])), (3, (1, 1, 2, 0, [])), (4, (1, 1, 3, 0, [])), (5, (26, 3, 0, 3, [(10, 15)])), (8, (1, 1, 2, 0, [])), (9, (0, 1, 0, 4, [])), (10, (4, 1, 9, 0, [])), (11, (4, 1, 1, 0, [])), (12, (27, 3, 0, 0, [])), (15, (21, 1, 0, 0, []))]
theorem os_X10_shape : oA MT mX10_shape ops_X10_shape := (oA.cons oX10_shape_0 (oA.cons oX10_shape_1 (oA.cons oX10_shape_2 (oA.cons oX10_shape_3 (oA.cons oX10_shape_4 (oA.cons oX10_shape_5 (oA.cons oX10_shape_8 (oA.cons oX10_shape_9 (oA.cons oX10_shape_10 (oA.cons oX10_shape_11 (oA.cons oX10_shape_12 (oA.cons oX10_shape_15 oA.nil))))))))))))
theorem dX1_fitsWard_0 : decode cX1_fitsWard 0 = .ok (.aload_n 0, 1) := by decide +kernel
theorem dX1_fitsWard_1 : decode cX1_fitsWard 1 = .ok (.getfield 56, 3) := by decide +kernel
theorem dX1_fitsWard_4 : decode cX1_fitsWard 4 = .ok (.aload_n 0, 1) := by decide +kernel
theorem dX1_fitsWard_5 : decode cX1_fitsWard 5 = .ok (.getfield 28, 3) := by decide +kernel
theorem dX1_fitsWard_8 : decode cX1_fitsWard 8 = .ok (.iload_n 1, 1) := by decide +kernel
theorem dX1_fitsWard_9 : decode cX1_fitsWard 9 = .ok (.iaload, 1) := by decide +kernel
theorem dX1_fitsWard_10 : decode cX1_fitsWard 10 = .ok (.aaload, 1) := by decide +kernel
theorem dX1_fitsWard_11 : decode cX1_fitsWard 11 = .ok (.aload_n 0, 1) := by decide +kernel
theorem dX1_fitsWard_12 : decode cX1_fitsWard 12 = .ok (.getfield 31, 3) := by decide +kernel
theorem dX1_fitsWard_15 : decode cX1_fitsWard 15 = .ok (.iload_n 1, 1) := by decide +kernel
theorem dX1_fitsWard_16 : decode cX1_fitsWard 16 = .ok (.iaload, 1) := by decide +kernel
theorem dX1_fitsWard_17 : decode cX1_fitsWard 17 = .ok (.aload_n 0, 1) := by decide +kernel
theorem dX1_fitsWard_18 : decode cX1_fitsWard 18 = .ok (.getfield 34, 3) := by decide +kernel
theorem dX1_fitsWard_21 : decode cX1_fitsWard 21 = .ok (.iload_n 1, 1) := by decide +kernel
theorem dX1_fitsWard_22 : decode cX1_fitsWard 22 = .ok (.iaload, 1) := by decide +kernel
theorem dX1_fitsWard_23 : decode cX1_fitsWard 23 = .ok (.iload_n 1, 1) := by decide +kernel
theorem dX1_fitsWard_24 : decode cX1_fitsWard 24 = .ok (.invokevirtual 117, 3) := by decide +kernel
theorem dX1_fitsWard_27 : decode cX1_fitsWard 27 = .ok (.iload_n 2, 1) := by decide +kernel
theorem dX1_fitsWard_28 : decode cX1_fitsWard 28 = .ok (.isub, 1) := by decide +kernel
theorem dX1_fitsWard_29 : decode cX1_fitsWard 29 = .ok (.invokestatic 120, 3) := by decide +kernel
theorem dX1_fitsWard_32 : decode cX1_fitsWard 32 = .ok (.istore_n 3, 1) := by decide +kernel
theorem dX1_fitsWard_33 : decode cX1_fitsWard 33 = .ok (.aload_n 0, 1) := by decide +kernel
theorem dX1_fitsWard_34 : decode cX1_fitsWard 34 = .ok (.getfield 31, 3) := by decide +kernel
theorem dX1_fitsWard_37 : decode cX1_fitsWard 37 = .ok (.iload_n 1, 1) := by decide +kernel
theorem dX1_fitsWard_38 : decode cX1_fitsWard 38 = .ok (.iaload, 1) := by decide +kernel
theorem dX1_fitsWard_39 : decode cX1_fitsWard 39 = .ok (.ifCond .le 24, 3) := by decide +kernel
theorem dX1_fitsWard_42 : decode cX1_fitsWard 42 = .ok (.iload_n 3, 1) := by decide +kernel
theorem dX1_fitsWard_43 : decode cX1_fitsWard 43 = .ok (.aload_n 0, 1) := by decide +kernel
theorem dX1_fitsWard_44 : decode cX1_fitsWard 44 = .ok (.getfield 25, 3) := by decide +kernel
theorem dX1_fitsWard_47 : decode cX1_fitsWard 47 = .ok (.aload_n 0, 1) := by decide +kernel
theorem dX1_fitsWard_48 : decode cX1_fitsWard 48 = .ok (.getfield 37, 3) := by decide +kernel
theorem dX1_fitsWard_51 : decode cX1_fitsWard 51 = .ok (.iload_n 1, 1) := by decide +kernel
theorem dX1_fitsWard_52 : decode cX1_fitsWard 52 = .ok (.iaload, 1) := by decide +kernel
theorem dX1_fitsWard_53 : decode cX1_fitsWard 53 = .ok (.iaload, 1) := by decide +kernel
theorem dX1_fitsWard_54 : decode cX1_fitsWard 54 = .ok (.iconst 4, 1) := by decide +kernel
theorem dX1_fitsWard_55 : decode cX1_fitsWard 55 = .ok (.idiv, 1) := by decide +kernel
theorem dX1_fitsWard_56 : decode cX1_fitsWard 56 = .ok (.if_icmp .gt 7, 3) := by decide +kernel
theorem dX1_fitsWard_59 : decode cX1_fitsWard 59 = .ok (.iconst 1, 1) := by decide +kernel
theorem dX1_fitsWard_60 : decode cX1_fitsWard 60 = .ok (.goto 4, 3) := by decide +kernel
theorem dX1_fitsWard_63 : decode cX1_fitsWard 63 = .ok (.iconst 0, 1) := by decide +kernel
theorem dX1_fitsWard_64 : decode cX1_fitsWard 64 = .ok (.ireturn, 1) := by decide +kernel
theorem oX1_fitsWard_0 : oP MT mX1_fitsWard 0 (1, 1, 0, 1, []) := o_aload_n dX1_fitsWard_0 rfl
theorem oX1_fitsWard_1 : oP MT mX1_fitsWard 1 (13, 3, 0, 1, []) := o_getR (M := mX1_fitsWard) (C := RX1) (T := TX1) (ci := 1) (j := 0) (z := 1) dX1_fitsWard_1 rfl lq_RX1_56 rfl rfl
theorem oX1_fitsWard_4 : oP MT mX1_fitsWard 4 (1, 1, 0, 1, []) := o_aload_n dX1_fitsWard_4 rfl
theorem oX1_fitsWard_5 : oP MT mX1_fitsWard 5 (13, 3, 10, 1, []) := o_getR (M := mX1_fitsWard) (C := RX1) (T := TX1) (ci := 1) (j := 10) (z := 1) dX1_fitsWard_5 rfl lq_RX1_28 rfl rfl
theorem oX1_fitsWard_8 : oP MT mX1_fitsWard 8 (1, 1, 1, 0, []) := o_iload_n dX1_fitsWard_8 rfl
theorem oX1_fitsWard_9 : oP MT mX1_fitsWard 9 (16, 1, 1, 0, []) := o_iaload dX1_fitsWard_9
theorem oX1_fitsWard_10 : oP MT mX1_fitsWard 10 (17, 1, 0, 0, []) := o_aaload dX1_fitsWard_10
theorem oX1_fitsWard_11 : oP MT mX1_fitsWard 11 (1, 1, 0, 1, []) := o_aload_n dX1_fitsWard_11 rfl
theorem oX1_fitsWard_12 : oP MT mX1_fitsWard 12 (13, 3, 11, 1, []) := o_getR (M := mX1_fitsWard) (C := RX1) (T := TX1) (ci := 1) (j := 11) (z := 1) dX1_fitsWard_12 rfl lq_RX1_31 rfl rfl
theorem oX1_fitsWard_15 : oP MT mX1_fitsWard 15 (1, 1, 1, 0, []) := o_iload_n dX1_fitsWard_15 rfl
theorem oX1_fitsWard_16 : oP MT mX1_fitsWard 16 (16, 1, 1, 0, []) := o_iaload dX1_fitsWard_16
theorem oX1_fitsWard_17 : oP MT mX1_fitsWard 17 (1, 1, 0, 1, []) := o_aload_n dX1_fitsWard_17 rfl
theorem oX1_fitsWard_18 : oP MT mX1_fitsWard 18 (13, 3, 12, 1, []) := o_getR (M := mX1_fitsWard) (C := RX1) (T := TX1) (ci := 1) (j := 12) (z := 1) dX1_fitsWard_18 rfl lq_RX1_34 rfl rfl
theorem oX1_fitsWard_21 : oP MT mX1_fitsWard 21 (1, 1, 1, 0, []) := o_iload_n dX1_fitsWard_21 rfl
theorem oX1_fitsWard_22 : oP MT mX1_fitsWard 22 (16, 1, 1, 0, []) := o_iaload dX1_fitsWard_22
theorem oX1_fitsWard_23 : oP MT mX1_fitsWard 23 (1, 1, 1, 0, []) := o_iload_n dX1_fitsWard_23 rfl
theorem oX1_fitsWard_24 : oP MT mX1_fitsWard 24 (26, 3, 0, 3, [(2, 12), (3, 13), (7, 14), (8, 15), (9, 16), (10, 17)]) := o_callO ((vA.cons (v_callU dX1_fitsWard_24 (ci := 2) rfl rfl (mj := mX2_shape) mt_X2_shape cmq_X2_shape wq_49 wq_50 wq_51 wq_52 wq_53 wq_54 (by decide) (by decide) (by decide)) (vA.cons (v_callV dX1_fitsWard_24 (ci := 3) rfl rfl (mj := mX3_shape) mt_X3_shape cmq_X3_shape wq_49 wq_51 wq_55 (by decide) (by decide)) (vA.cons (v_callU dX1_fitsWard_24 (ci := 7) rfl rfl (mj := mX7_shape) mt_X7_shape cmq_X7_shape wq_49 wq_50 wq_51 wq_52 wq_56 wq_38 (by decide) (by decide) (by decide)) (vA.cons (v_callU dX1_fitsWard_24 (ci := 8) rfl rfl (mj := mX8_shape) mt_X8_shape cmq_X8_shape wq_49 wq_50 wq_51 wq_52 wq_57 wq_45 (by decide) (by decide) (by decide)) (vA.cons (v_callU dX1_fitsWard_24 (ci := 9) rfl rfl (mj := mX9_shape) mt_X9_shape cmq_X9_shape wq_49 wq_50 wq_51 wq_52 wq_60 wq_61 (by decide) (by decide) (by decide)) (vA.cons (v_callU dX1_fitsWard_24 (ci := 10) rfl rfl (mj := mX10_shape) mt_X10_shape cmq_X10_shape wq_49 wq_50 wq_51 wq_52 wq_64 wq_65 (by decide) (by decide) (by decide)) vA.nil)))))))
theorem oX1_fitsWard_27 : oP MT mX1_fitsWard 27 (1, 1, 2, 0, []) := o_iload_n dX1_fitsWard_27 rfl
theorem oX1_fitsWard_28 : oP MT mX1_fitsWard 28 (4, 1, 1, 0, []) := o_isub dX1_fitsWard_28
theorem oX1_fitsWard_29 : oP MT mX1_fitsWard 29 (28, 3, 0, 0, []) := o_abs dX1_fitsWard_29 wq_66 wq_67 wq_17 wq_68
theorem oX1_fitsWard_32 : oP MT mX1_fitsWard 32 (2, 1, 3, 0, []) := o_istore_n dX1_fitsWard_32 rfl (by decide)
theorem oX1_fitsWard_33 : oP MT mX1_fitsWard 33 (1, 1, 0, 1, []) := o_aload_n dX1_fitsWard_33 rfl
theorem oX1_fitsWard_34 : oP MT mX1_fitsWard 34 (13, 3, 11, 1, []) := o_getR (M := mX1_fitsWard) (C := RX1) (T := TX1) (ci := 1) (j := 11) (z := 1) dX1_fitsWard_34 rfl lq_RX1_31 rfl rfl
theorem oX1_fitsWard_37 : oP MT mX1_fitsWard 37 (1, 1, 1, 0, []) := o_iload_n dX1_fitsWard_37 rfl
theorem oX1_fitsWard_38 : oP MT mX1_fitsWard 38 (16, 1, 1, 0, []) := o_iaload dX1_fitsWard_38
theorem oX1_fitsWard_39 : oP MT mX1_fitsWard 39 (10, 3, 5, 63, []) := o_if_le dX1_fitsWard_39 (by decide) (by decide)
theorem oX1_fitsWard_42 : oP MT mX1_fitsWard 42 (1, 1, 3, 0, []) := o_iload_n dX1_fitsWard_42 rfl
theorem oX1_fitsWard_43 : oP MT mX1_fitsWard 43 (1, 1, 0, 1, []) := o_aload_n dX1_fitsWard_43 rfl
theorem oX1_fitsWard_44 : oP MT mX1_fitsWard 44 (13, 3, 7, 1, []) := o_getR (M := mX1_fitsWard) (C := RX1) (T := TX1) (ci := 1) (j := 7) (z := 1) dX1_fitsWard_44 rfl lq_RX1_25 rfl rfl
theorem oX1_fitsWard_47 : oP MT mX1_fitsWard 47 (1, 1, 0, 1, []) := o_aload_n dX1_fitsWard_47 rfl
theorem oX1_fitsWard_48 : oP MT mX1_fitsWard 48 (13, 3, 13, 1, []) := o_getR (M := mX1_fitsWard) (C := RX1) (T := TX1) (ci := 1) (j := 13) (z := 1) dX1_fitsWard_48 rfl lq_RX1_37 rfl rfl
theorem oX1_fitsWard_51 : oP MT mX1_fitsWard 51 (1, 1, 1, 0, []) := o_iload_n dX1_fitsWard_51 rfl
theorem oX1_fitsWard_52 : oP MT mX1_fitsWard 52 (16, 1, 1, 0, []) := o_iaload dX1_fitsWard_52
theorem oX1_fitsWard_53 : oP MT mX1_fitsWard 53 (16, 1, 1, 0, []) := o_iaload dX1_fitsWard_53
theorem oX1_fitsWard_54 : oP MT mX1_fitsWard 54 (0, 1, 0, 4, []) := o_iconst dX1_fitsWard_54 (by decide)
theorem oX1_fitsWard_55 : oP MT mX1_fitsWard 55 (4, 1, 9, 0, []) := o_idiv dX1_fitsWard_55
theorem oX1_fitsWard_56 : oP MT mX1_fitsWard 56 (11, 3, 4, 63, []) := o_icmp_gt dX1_fitsWard_56 (by decide) (by decide)
theorem oX1_fitsWard_59 : oP MT mX1_fitsWard 59 (0, 1, 0, 1, []) := o_iconst dX1_fitsWard_59 (by decide)
theorem oX1_fitsWard_60 : oP MT mX1_fitsWard 60 (9, 3, 64, 0, []) := o_goto dX1_fitsWard_60 (by decide)
theorem oX1_fitsWard_63 : oP MT mX1_fitsWard 63 (0, 1, 0, 0, []) := o_iconst dX1_fitsWard_63 (by decide)
theorem oX1_fitsWard_64 : oP MT mX1_fitsWard 64 (22, 1, 0, 0, []) := o_zret dX1_fitsWard_64 rfl
def ops_X1_fitsWard : List (Nat × aO) := [(0, (1, 1, 0, 1, [])), (1, (13, 3, 0, 1, [])), (4, (1, 1, 0, 1, [])), (5, (13, 3, 10, 1, [])), (8, (1, 1, 1, 0, [])), (9, (16, 1, 1, 0, [])), (10, (17, 1, 0, 0, [])), (11, (1, 1, 0, 1, [])), (12, (13, 3, 11, 1, [])), (15, (1, 1, 1, 0, [])), (16, (16, 1, 1, 0, [])), (17, (1, 1, 0, 1, [])), (18, (13, 3, 12, 1, [])), (21, (1, 1, 1, 0, [])), (22, (16, 1, 1, 0, [])), (23, (1, 1, 1, 0, [])), (24, (26, 3, 0, 3, [(2, 12), (3, 13), (7, 14), (8, 15), (9, 16), (10, 17)])), (27, (1, 1, 2, 0, [])), (28, (4, 1, 1, 0, [])), (29, (28, 3, 0, 0, [])), (32, (2, 1, 3, 0, [])), (33, (1, 1, 0, 1, [])), (34, (13, 3, 11, 1, [])), (37, (1, 1, 1, 0, [])), (38, (16, 1, 1, 0, [])), (39, (10, 3, 5, 63, [])), (42, (1, 1, 3, 0, [])), (43, (1, 1, 0, 1, [])), (44, (13, 3, 7, 1, [])), (47, (1, 1, 0, 1, [])), (48, (13, 3, 13, 1, [])), (51, (1, 1, 1, 0, [])), (52, (16, 1, 1, 0, [])), (53, (16, 1, 1, 0, [])), (54, (0, 1, 0, 4, [])), (55, (4, 1, 9, 0, [])), (56, (11, 3, 4, 63, [])), (59, (0, 1, 0, 1, [])), (60, (9, 3, 64, 0, [])), (63, (0, 1, 0, 0, [])), (64, (22, 1, 0, 0, []))]
theorem os_X1_fitsWard : oA MT mX1_fitsWard ops_X1_fitsWard := (oA.cons oX1_fitsWard_0 (oA.cons oX1_fitsWard_1 (oA.cons oX1_fitsWard_4 (oA.cons oX1_fitsWard_5 (oA.cons oX1_fitsWard_8 (oA.cons oX1_fitsWard_9 (oA.cons oX1_fitsWard_10 (oA.cons oX1_fitsWard_11 (oA.cons oX1_fitsWard_12 (oA.cons oX1_fitsWard_15 (oA.cons oX1_fitsWard_16 (oA.cons oX1_fitsWard_17 (oA.cons oX1_fitsWard_18 (oA.cons oX1_fitsWard_21 (oA.cons oX1_fitsWard_22 (oA.cons oX1_fitsWard_23 (oA.cons oX1_fitsWard_24 (oA.cons oX1_fitsWard_27 (oA.cons oX1_fitsWard_28 (oA.cons oX1_fitsWard_29 (oA.cons oX1_fitsWard_32 (oA.cons oX1_fitsWard_33 (oA.cons oX1_fitsWard_34 (oA.cons oX1_fitsWard_37 (oA.cons oX1_fitsWard_38 (oA.cons oX1_fitsWard_39 (oA.cons oX1_fitsWard_42 (oA.cons oX1_fitsWard_43 (oA.cons oX1_fitsWard_44 (oA.cons oX1_fitsWard_47 (oA.cons oX1_fitsWard_48 (oA.cons oX1_fitsWard_51 (oA.cons oX1_fitsWard_52 (oA.cons oX1_fitsWard_53 (oA.cons oX1_fitsWard_54 (oA.cons oX1_fitsWard_55 (oA.cons oX1_fitsWard_56 (oA.cons oX1_fitsWard_59 (oA.cons oX1_fitsWard_60 (oA.cons oX1_fitsWard_63 (oA.cons oX1_fitsWard_64 oA.nil)))))))))))))))))))))))))))))))))))))))))
theorem dX6_tells_0 : decode cX6_tells 0 = .ok (.iconst 0, 1) := by decide +kernel
theorem dX6_tells_1 : decode cX6_tells 1 = .ok (.istore_n 3, 1) := by decide +kernel
theorem dX6_tells_2 : decode cX6_tells 2 = .ok (.iconst 0, 1) := by decide +kernel
theorem dX6_tells_3 : decode cX6_tells 3 = .ok (.istore 4, 2) := by decide +kernel
theorem dX6_tells_5 : decode cX6_tells 5 = .ok (.iload 4, 2) := by decide +kernel
theorem dX6_tells_7 : decode cX6_tells 7 = .ok (.aload_n 0, 1) := by decide +kernel
theorem dX6_tells_8 : decode cX6_tells 8 = .ok (.getfield 24, 3) := by decide +kernel
theorem dX6_tells_11 : decode cX6_tells 11 = .ok (.if_icmp .ge 55, 3) := by decide +kernel
theorem dX6_tells_14 : decode cX6_tells 14 = .ok (.iload_n 1, 1) := by decide +kernel
theorem dX6_tells_15 : decode cX6_tells 15 = .ok (.aload_n 0, 1) := by decide +kernel
theorem dX6_tells_16 : decode cX6_tells 16 = .ok (.getfield 9, 3) := by decide +kernel
theorem dX6_tells_19 : decode cX6_tells 19 = .ok (.iload 4, 2) := by decide +kernel
theorem dX6_tells_21 : decode cX6_tells 21 = .ok (.iaload, 1) := by decide +kernel
theorem dX6_tells_22 : decode cX6_tells 22 = .ok (.invokestatic 37, 3) := by decide +kernel
theorem dX6_tells_25 : decode cX6_tells 25 = .ok (.ifCond .eq 27, 3) := by decide +kernel
theorem dX6_tells_28 : decode cX6_tells 28 = .ok (.aload_n 0, 1) := by decide +kernel
theorem dX6_tells_29 : decode cX6_tells 29 = .ok (.iload_n 3, 1) := by decide +kernel
theorem dX6_tells_30 : decode cX6_tells 30 = .ok (.aload_n 0, 1) := by decide +kernel
theorem dX6_tells_31 : decode cX6_tells 31 = .ok (.getfield 18, 3) := by decide +kernel
theorem dX6_tells_34 : decode cX6_tells 34 = .ok (.iload 4, 2) := by decide +kernel
theorem dX6_tells_36 : decode cX6_tells 36 = .ok (.iaload, 1) := by decide +kernel
theorem dX6_tells_37 : decode cX6_tells 37 = .ok (.aload_n 2, 1) := by decide +kernel
theorem dX6_tells_38 : decode cX6_tells 38 = .ok (.invokevirtual 41, 3) := by decide +kernel
theorem dX6_tells_41 : decode cX6_tells 41 = .ok (.ifCond .eq 11, 3) := by decide +kernel
theorem dX6_tells_44 : decode cX6_tells 44 = .ok (.aload_n 0, 1) := by decide +kernel
theorem dX6_tells_45 : decode cX6_tells 45 = .ok (.getfield 15, 3) := by decide +kernel
theorem dX6_tells_48 : decode cX6_tells 48 = .ok (.iload 4, 2) := by decide +kernel
theorem dX6_tells_50 : decode cX6_tells 50 = .ok (.iaload, 1) := by decide +kernel
theorem dX6_tells_51 : decode cX6_tells 51 = .ok (.ireturn, 1) := by decide +kernel
theorem dX6_tells_52 : decode cX6_tells 52 = .ok (.aload_n 0, 1) := by decide +kernel
theorem dX6_tells_53 : decode cX6_tells 53 = .ok (.getfield 18, 3) := by decide +kernel
theorem dX6_tells_56 : decode cX6_tells 56 = .ok (.iload 4, 2) := by decide +kernel
theorem dX6_tells_58 : decode cX6_tells 58 = .ok (.iaload, 1) := by decide +kernel
theorem dX6_tells_59 : decode cX6_tells 59 = .ok (.istore_n 3, 1) := by decide +kernel
theorem dX6_tells_60 : decode cX6_tells 60 = .ok (.iinc 4 1, 3) := by decide +kernel
theorem dX6_tells_63 : decode cX6_tells 63 = .ok (.goto (-58), 3) := by decide +kernel
theorem dX6_tells_66 : decode cX6_tells 66 = .ok (.iconst 0, 1) := by decide +kernel
theorem dX6_tells_67 : decode cX6_tells 67 = .ok (.ireturn, 1) := by decide +kernel
theorem oX6_tells_0 : oP MT mX6_tells 0 (0, 1, 0, 0, []) := o_iconst dX6_tells_0 (by decide)
theorem oX6_tells_1 : oP MT mX6_tells 1 (2, 1, 3, 0, []) := o_istore_n dX6_tells_1 rfl (by decide)
theorem oX6_tells_2 : oP MT mX6_tells 2 (0, 1, 0, 0, []) := o_iconst dX6_tells_2 (by decide)
theorem oX6_tells_3 : oP MT mX6_tells 3 (2, 2, 4, 0, []) := o_istore dX6_tells_3 (by decide)
theorem oX6_tells_5 : oP MT mX6_tells 5 (1, 2, 4, 0, []) := o_iload dX6_tells_5
theorem oX6_tells_7 : oP MT mX6_tells 7 (1, 1, 0, 1, []) := o_aload_n dX6_tells_7 rfl
theorem oX6_tells_8 : oP MT mX6_tells 8 (12, 3, 0, 6, []) := o_getI (M := mX6_tells) (C := RX6) (T := TX6) (ci := 6) (j := 0) (z := 6) dX6_tells_8 rfl lq_RX6_24 rfl rfl
theorem oX6_tells_11 : oP MT mX6_tells 11 (11, 3, 3, 66, []) := o_icmp_ge dX6_tells_11 (by decide) (by decide)
theorem oX6_tells_14 : oP MT mX6_tells 14 (1, 1, 1, 0, []) := o_iload_n dX6_tells_14 rfl
theorem oX6_tells_15 : oP MT mX6_tells 15 (1, 1, 0, 1, []) := o_aload_n dX6_tells_15 rfl
theorem oX6_tells_16 : oP MT mX6_tells 16 (13, 3, 2, 6, []) := o_getR (M := mX6_tells) (C := RX6) (T := TX6) (ci := 6) (j := 2) (z := 6) dX6_tells_16 rfl lq_RX6_9 rfl rfl
theorem oX6_tells_19 : oP MT mX6_tells 19 (1, 2, 4, 0, []) := o_iload dX6_tells_19
theorem oX6_tells_21 : oP MT mX6_tells 21 (16, 1, 1, 0, []) := o_iaload dX6_tells_21
theorem oX6_tells_22 : oP MT mX6_tells 22 (25, 3, 20, 2, []) := o_callSN (host := "IceKeys") dX6_tells_22 (mj := mX11_isOf) mt_X11_isOf cmq_X11_isOf (by decide) wq_71 (by decide) (by decide)
theorem oX6_tells_25 : oP MT mX6_tells 25 (10, 3, 0, 52, []) := o_if_eq dX6_tells_25 (by decide) (by decide)
theorem oX6_tells_28 : oP MT mX6_tells 28 (1, 1, 0, 1, []) := o_aload_n dX6_tells_28 rfl
theorem oX6_tells_29 : oP MT mX6_tells 29 (1, 1, 3, 0, []) := o_iload_n dX6_tells_29 rfl
theorem oX6_tells_30 : oP MT mX6_tells 30 (1, 1, 0, 1, []) := o_aload_n dX6_tells_30 rfl
theorem oX6_tells_31 : oP MT mX6_tells 31 (13, 3, 4, 6, []) := o_getR (M := mX6_tells) (C := RX6) (T := TX6) (ci := 6) (j := 4) (z := 6) dX6_tells_31 rfl lq_RX6_18 rfl rfl
theorem oX6_tells_34 : oP MT mX6_tells 34 (1, 2, 4, 0, []) := o_iload dX6_tells_34
theorem oX6_tells_36 : oP MT mX6_tells 36 (16, 1, 1, 0, []) := o_iaload dX6_tells_36
theorem oX6_tells_37 : oP MT mX6_tells 37 (1, 1, 2, 1, []) := o_aload_n dX6_tells_37 rfl
theorem oX6_tells_38 : oP MT mX6_tells 38 (26, 3, 0, 3, [(6, 21)]) := o_callO ((vA.cons (v_callV dX6_tells_38 (ci := 6) rfl rfl (mj := mX6_holds) mt_X6_holds cmq_X6_holds wq_72 wq_75 wq_76 (by decide) (by decide)) vA.nil))
theorem oX6_tells_41 : oP MT mX6_tells 41 (10, 3, 0, 52, []) := o_if_eq dX6_tells_41 (by decide) (by decide)
theorem oX6_tells_44 : oP MT mX6_tells 44 (1, 1, 0, 1, []) := o_aload_n dX6_tells_44 rfl
theorem oX6_tells_45 : oP MT mX6_tells 45 (13, 3, 3, 6, []) := o_getR (M := mX6_tells) (C := RX6) (T := TX6) (ci := 6) (j := 3) (z := 6) dX6_tells_45 rfl lq_RX6_15 rfl rfl
theorem oX6_tells_48 : oP MT mX6_tells 48 (1, 2, 4, 0, []) := o_iload dX6_tells_48
theorem oX6_tells_50 : oP MT mX6_tells 50 (16, 1, 1, 0, []) := o_iaload dX6_tells_50
theorem oX6_tells_51 : oP MT mX6_tells 51 (21, 1, 0, 0, []) := o_iret dX6_tells_51 rfl
theorem oX6_tells_52 : oP MT mX6_tells 52 (1, 1, 0, 1, []) := o_aload_n dX6_tells_52 rfl
theorem oX6_tells_53 : oP MT mX6_tells 53 (13, 3, 4, 6, []) := o_getR (M := mX6_tells) (C := RX6) (T := TX6) (ci := 6) (j := 4) (z := 6) dX6_tells_53 rfl lq_RX6_18 rfl rfl
theorem oX6_tells_56 : oP MT mX6_tells 56 (1, 2, 4, 0, []) := o_iload dX6_tells_56
theorem oX6_tells_58 : oP MT mX6_tells 58 (16, 1, 1, 0, []) := o_iaload dX6_tells_58
theorem oX6_tells_59 : oP MT mX6_tells 59 (2, 1, 3, 0, []) := o_istore_n dX6_tells_59 rfl (by decide)
theorem oX6_tells_60 : oP MT mX6_tells 60 (3, 3, 4, 1, []) := o_iinc dX6_tells_60 (by decide) (by decide)
theorem oX6_tells_63 : oP MT mX6_tells 63 (9, 3, 5, 0, []) := o_goto dX6_tells_63 (by decide)
theorem oX6_tells_66 : oP MT mX6_tells 66 (0, 1, 0, 0, []) := o_iconst dX6_tells_66 (by decide)
theorem oX6_tells_67 : oP MT mX6_tells 67 (21, 1, 0, 0, []) := o_iret dX6_tells_67 rfl
def ops_X6_tells : List (Nat × aO) := [(0, (0, 1, 0, 0, [])), (1, (2, 1, 3, 0, [])), (2, (0, 1, 0, 0, [])), (3, (2, 2, 4, 0, [])), (5, (1, 2, 4, 0, [])), (7, (1, 1, 0, 1, [])), (8, (12, 3, 0, 6, [])), (11, (11, 3, 3, 66, [])), (14, (1, 1, 1, 0, [])), (15, (1, 1, 0, 1, [])), (16, (13, 3, 2, 6, [])), (19, (1, 2, 4, 0, [])), (21, (16, 1, 1, 0, [])), (22, (25, 3, 20, 2, [])), (25, (10, 3, 0, 52, [])), (28, (1, 1, 0, 1, [])), (29, (1, 1, 3, 0, [])), (30, (1, 1, 0, 1, [])), (31, (13, 3, 4, 6, [])), (34, (1, 2, 4, 0, [])), (36, (16, 1, 1, 0, [])), (37, (1, 1, 2, 1, [])), (38, (26, 3, 0, 3, [(6, 21)])), (41, (10, 3, 0, 52, [])), (44, (1, 1, 0, 1, [])), (45, (13, 3, 3, 6, [])), (48, (1, 2, 4, 0, [])), (50, (16, 1, 1, 0, [])), (51, (21, 1, 0, 0, [])), (52, (1, 1, 0, 1, [])), (53, (13, 3, 4, 6, [])), (56, (1, 2, 4, 0, [])), (58, (16, 1, 1, 0, [])), (59, (2, 1, 3, 0, [])), (60, (3, 3, 4, 1, [])), (63, (9, 3, 5, 0, [])), (66, (0, 1, 0, 0, [])), (67, (21, 1, 0, 0, []))]
theorem os_X6_tells : oA MT mX6_tells ops_X6_tells := (oA.cons oX6_tells_0 (oA.cons oX6_tells_1 (oA.cons oX6_tells_2 (oA.cons oX6_tells_3 (oA.cons oX6_tells_5 (oA.cons oX6_tells_7 (oA.cons oX6_tells_8 (oA.cons oX6_tells_11 (oA.cons oX6_tells_14 (oA.cons oX6_tells_15 (oA.cons oX6_tells_16 (oA.cons oX6_tells_19 (oA.cons oX6_tells_21 (oA.cons oX6_tells_22 (oA.cons oX6_tells_25 (oA.cons oX6_tells_28 (oA.cons oX6_tells_29 (oA.cons oX6_tells_30 (oA.cons oX6_tells_31 (oA.cons oX6_tells_34 (oA.cons oX6_tells_36 (oA.cons oX6_tells_37 (oA.cons oX6_tells_38 (oA.cons oX6_tells_41 (oA.cons oX6_tells_44 (oA.cons oX6_tells_45 (oA.cons oX6_tells_48 (oA.cons oX6_tells_50 (oA.cons oX6_tells_51 (oA.cons oX6_tells_52 (oA.cons oX6_tells_53 (oA.cons oX6_tells_56 (oA.cons oX6_tells_58 (oA.cons oX6_tells_59 (oA.cons oX6_tells_60 (oA.cons oX6_tells_63 (oA.cons oX6_tells_66 (oA.cons oX6_tells_67 oA.nil))))))))))))))))))))))))))))))))))))))
theorem dX11_isOf_0 : decode cX11_isOf 0 = .ok (.iload_n 0, 1) := by decide +kernel
theorem dX11_isOf_1 : decode cX11_isOf 1 = .ok (.iload_n 1, 1) := by decide +kernel
theorem dX11_isOf_2 : decode cX11_isOf 2 = .ok (.if_icmp .eq 16, 3) := by decide +kernel
theorem dX11_isOf_5 : decode cX11_isOf 5 = .ok (.iload_n 1, 1) := by decide +kernel
theorem dX11_isOf_6 : decode cX11_isOf 6 = .ok (.ifCond .eq 12, 3) := by decide +kernel
theorem dX11_isOf_9 : decode cX11_isOf 9 = .ok (.getstatic 373, 3) := by decide +kernel
theorem dX11_isOf_12 : decode cX11_isOf 12 = .ok (.iload_n 0, 1) := by decide +kernel
theorem dX11_isOf_13 : decode cX11_isOf 13 = .ok (.iaload, 1) := by decide +kernel
theorem dX11_isOf_14 : decode cX11_isOf 14 = .ok (.iload_n 1, 1) := by decide +kernel
theorem dX11_isOf_15 : decode cX11_isOf 15 = .ok (.if_icmp .ne 7, 3) := by decide +kernel
theorem dX11_isOf_18 : decode cX11_isOf 18 = .ok (.iconst 1, 1) := by decide +kernel
theorem dX11_isOf_19 : decode cX11_isOf 19 = .ok (.goto 4, 3) := by decide +kernel
theorem dX11_isOf_22 : decode cX11_isOf 22 = .ok (.iconst 0, 1) := by decide +kernel
theorem dX11_isOf_23 : decode cX11_isOf 23 = .ok (.ireturn, 1) := by decide +kernel
theorem oX11_isOf_0 : oP MT mX11_isOf 0 (1, 1, 0, 0, []) := o_iload_n dX11_isOf_0 rfl
theorem oX11_isOf_1 : oP MT mX11_isOf 1 (1, 1, 1, 0, []) := o_iload_n dX11_isOf_1 rfl
theorem oX11_isOf_2 : oP MT mX11_isOf 2 (11, 3, 0, 18, []) := o_icmp_eq dX11_isOf_2 (by decide) (by decide)
theorem oX11_isOf_5 : oP MT mX11_isOf 5 (1, 1, 1, 0, []) := o_iload_n dX11_isOf_5 rfl
theorem oX11_isOf_6 : oP MT mX11_isOf 6 (10, 3, 0, 18, []) := o_if_eq dX11_isOf_6 (by decide) (by decide)
theorem oX11_isOf_9 : oP MT mX11_isOf 9 (30, 5, 0, 0, [((-1), 0), (0, 0), (0, 0), (2, 0), (0, 0), (4, 0)]) := o_above dX11_isOf_9 wq_77 dX11_isOf_12 dX11_isOf_13 rfl
theorem oX11_isOf_14 : oP MT mX11_isOf 14 (1, 1, 1, 0, []) := o_iload_n dX11_isOf_14 rfl
theorem oX11_isOf_15 : oP MT mX11_isOf 15 (11, 3, 1, 22, []) := o_icmp_ne dX11_isOf_15 (by decide) (by decide)
theorem oX11_isOf_18 : oP MT mX11_isOf 18 (0, 1, 0, 1, []) := o_iconst dX11_isOf_18 (by decide)
theorem oX11_isOf_19 : oP MT mX11_isOf 19 (9, 3, 23, 0, []) := o_goto dX11_isOf_19 (by decide)
theorem oX11_isOf_22 : oP MT mX11_isOf 22 (0, 1, 0, 0, []) := o_iconst dX11_isOf_22 (by decide)
theorem oX11_isOf_23 : oP MT mX11_isOf 23 (22, 1, 0, 0, []) := o_zret dX11_isOf_23 rfl
def ops_X11_isOf : List (Nat × aO) := [(0, (1, 1, 0, 0, [])), (1, (1, 1, 1, 0, [])), (2, (11, 3, 0, 18, [])), (5, (1, 1, 1, 0, [])), (6, (10, 3, 0, 18, [])), (9, (30, 5, 0, 0, [((-1), 0), (0, 0), (0, 0), (2, 0), (0, 0), (4, 0)])), (14, (1, 1, 1, 0, [])), (15, (11, 3, 1, 22, [])), (18, (0, 1, 0, 1, [])), (19, (9, 3, 23, 0, [])), (22, (0, 1, 0, 0, [])), (23, (22, 1, 0, 0, []))]
theorem os_X11_isOf : oA MT mX11_isOf ops_X11_isOf := (oA.cons oX11_isOf_0 (oA.cons oX11_isOf_1 (oA.cons oX11_isOf_2 (oA.cons oX11_isOf_5 (oA.cons oX11_isOf_6 (oA.cons oX11_isOf_9 (oA.cons oX11_isOf_14 (oA.cons oX11_isOf_15 (oA.cons oX11_isOf_18 (oA.cons oX11_isOf_19 (oA.cons oX11_isOf_22 (oA.cons oX11_isOf_23 oA.nil))))))))))))
theorem dX6_holds_0 : decode cX6_holds 0 = .ok (.iconst 1, 1) := by decide +kernel
theorem dX6_holds_1 : decode cX6_holds 1 = .ok (.istore 4, 2) := by decide +kernel
theorem dX6_holds_3 : decode cX6_holds 3 = .ok (.iload_n 1, 1) := by decide +kernel
theorem dX6_holds_4 : decode cX6_holds 4 = .ok (.istore 5, 2) := by decide +kernel
theorem dX6_holds_6 : decode cX6_holds 6 = .ok (.iload 5, 2) := by decide +kernel
theorem dX6_holds_8 : decode cX6_holds 8 = .ok (.iload_n 2, 1) := by decide +kernel
theorem dX6_holds_9 : decode cX6_holds 9 = .ok (.if_icmp .ge 154, 3) := by decide +kernel
theorem dX6_holds_12 : decode cX6_holds 12 = .ok (.iload 4, 2) := by decide +kernel
theorem dX6_holds_14 : decode cX6_holds 14 = .ok (.iconst 1, 1) := by decide +kernel
theorem dX6_holds_15 : decode cX6_holds 15 = .ok (.iand, 1) := by decide +kernel
theorem dX6_holds_16 : decode cX6_holds 16 = .ok (.istore 6, 2) := by decide +kernel
theorem dX6_holds_18 : decode cX6_holds 18 = .ok (.aload_n 0, 1) := by decide +kernel
theorem dX6_holds_19 : decode cX6_holds 19 = .ok (.getfield 21, 3) := by decide +kernel
theorem dX6_holds_22 : decode cX6_holds 22 = .ok (.iload 5, 2) := by decide +kernel
theorem dX6_holds_24 : decode cX6_holds 24 = .ok (.iaload, 1) := by decide +kernel
theorem dX6_holds_25 : decode cX6_holds 25 = .ok (.bipush 17, 2) := by decide +kernel
theorem dX6_holds_27 : decode cX6_holds 27 = .ok (.if_icmp .ne 12, 3) := by decide +kernel
theorem dX6_holds_30 : decode cX6_holds 30 = .ok (.iload 4, 2) := by decide +kernel
theorem dX6_holds_32 : decode cX6_holds 32 = .ok (.iconst 1, 1) := by decide +kernel
theorem dX6_holds_33 : decode cX6_holds 33 = .ok (.ixor, 1) := by decide +kernel
theorem dX6_holds_34 : decode cX6_holds 34 = .ok (.istore 4, 2) := by decide +kernel
theorem dX6_holds_36 : decode cX6_holds 36 = .ok (.goto 121, 3) := by decide +kernel
theorem dX6_holds_39 : decode cX6_holds 39 = .ok (.aload_n 0, 1) := by decide +kernel
theorem dX6_holds_40 : decode cX6_holds 40 = .ok (.getfield 21, 3) := by decide +kernel
theorem dX6_holds_43 : decode cX6_holds 43 = .ok (.iload 5, 2) := by decide +kernel
theorem dX6_holds_45 : decode cX6_holds 45 = .ok (.iaload, 1) := by decide +kernel
theorem dX6_holds_46 : decode cX6_holds 46 = .ok (.bipush 15, 2) := by decide +kernel
theorem dX6_holds_48 : decode cX6_holds 48 = .ok (.if_icmp .ne 18, 3) := by decide +kernel
theorem dX6_holds_51 : decode cX6_holds 51 = .ok (.iload 4, 2) := by decide +kernel
theorem dX6_holds_53 : decode cX6_holds 53 = .ok (.iconst 1, 1) := by decide +kernel
theorem dX6_holds_54 : decode cX6_holds 54 = .ok (.iushr, 1) := by decide +kernel
theorem dX6_holds_55 : decode cX6_holds 55 = .ok (.bipush (-2), 2) := by decide +kernel
theorem dX6_holds_57 : decode cX6_holds 57 = .ok (.iload 6, 2) := by decide +kernel
theorem dX6_holds_59 : decode cX6_holds 59 = .ok (.ior, 1) := by decide +kernel
theorem dX6_holds_60 : decode cX6_holds 60 = .ok (.iand, 1) := by decide +kernel
theorem dX6_holds_61 : decode cX6_holds 61 = .ok (.istore 4, 2) := by decide +kernel
theorem dX6_holds_63 : decode cX6_holds 63 = .ok (.goto 94, 3) := by decide +kernel
theorem dX6_holds_66 : decode cX6_holds 66 = .ok (.aload_n 0, 1) := by decide +kernel
theorem dX6_holds_67 : decode cX6_holds 67 = .ok (.getfield 21, 3) := by decide +kernel
theorem dX6_holds_70 : decode cX6_holds 70 = .ok (.iload 5, 2) := by decide +kernel
theorem dX6_holds_72 : decode cX6_holds 72 = .ok (.iaload, 1) := by decide +kernel
theorem dX6_holds_73 : decode cX6_holds 73 = .ok (.bipush 16, 2) := by decide +kernel
theorem dX6_holds_75 : decode cX6_holds 75 = .ok (.if_icmp .ne 15, 3) := by decide +kernel
theorem dX6_holds_78 : decode cX6_holds 78 = .ok (.iload 4, 2) := by decide +kernel
theorem dX6_holds_80 : decode cX6_holds 80 = .ok (.iconst 1, 1) := by decide +kernel
theorem dX6_holds_81 : decode cX6_holds 81 = .ok (.iushr, 1) := by decide +kernel
theorem dX6_holds_82 : decode cX6_holds 82 = .ok (.iload 6, 2) := by decide +kernel
theorem dX6_holds_84 : decode cX6_holds 84 = .ok (.ior, 1) := by decide +kernel
theorem dX6_holds_85 : decode cX6_holds 85 = .ok (.istore 4, 2) := by decide +kernel
theorem dX6_holds_87 : decode cX6_holds 87 = .ok (.goto 70, 3) := by decide +kernel
theorem dX6_holds_90 : decode cX6_holds 90 = .ok (.iload 5, 2) := by decide +kernel
theorem dX6_holds_92 : decode cX6_holds 92 = .ok (.iconst 2, 1) := by decide +kernel
theorem dX6_holds_93 : decode cX6_holds 93 = .ok (.iadd, 1) := by decide +kernel
theorem dX6_holds_94 : decode cX6_holds 94 = .ok (.iload_n 2, 1) := by decide +kernel
theorem dX6_holds_95 : decode cX6_holds 95 = .ok (.if_icmp .ge 62, 3) := by decide +kernel
theorem dX6_holds_98 : decode cX6_holds 98 = .ok (.aload_n 0, 1) := by decide +kernel
theorem dX6_holds_99 : decode cX6_holds 99 = .ok (.getfield 21, 3) := by decide +kernel
theorem dX6_holds_102 : decode cX6_holds 102 = .ok (.iload 5, 2) := by decide +kernel
theorem dX6_holds_104 : decode cX6_holds 104 = .ok (.iconst 1, 1) := by decide +kernel
theorem dX6_holds_105 : decode cX6_holds 105 = .ok (.iadd, 1) := by decide +kernel
theorem dX6_holds_106 : decode cX6_holds 106 = .ok (.iaload, 1) := by decide +kernel
theorem dX6_holds_107 : decode cX6_holds 107 = .ok (.aload_n 3, 1) := by decide +kernel
theorem dX6_holds_108 : decode cX6_holds 108 = .ok (.invokestatic 45, 3) := by decide +kernel
theorem dX6_holds_111 : decode cX6_holds 111 = .ok (.aload_n 0, 1) := by decide +kernel
theorem dX6_holds_112 : decode cX6_holds 112 = .ok (.getfield 21, 3) := by decide +kernel
theorem dX6_holds_115 : decode cX6_holds 115 = .ok (.iload 5, 2) := by decide +kernel
theorem dX6_holds_117 : decode cX6_holds 117 = .ok (.iconst 2, 1) := by decide +kernel
theorem dX6_holds_118 : decode cX6_holds 118 = .ok (.iadd, 1) := by decide +kernel
theorem dX6_holds_119 : decode cX6_holds 119 = .ok (.iaload, 1) := by decide +kernel
theorem dX6_holds_120 : decode cX6_holds 120 = .ok (.aload_n 3, 1) := by decide +kernel
theorem dX6_holds_121 : decode cX6_holds 121 = .ok (.invokestatic 45, 3) := by decide +kernel
theorem dX6_holds_124 : decode cX6_holds 124 = .ok (.isub, 1) := by decide +kernel
theorem dX6_holds_125 : decode cX6_holds 125 = .ok (.istore 7, 2) := by decide +kernel
theorem dX6_holds_127 : decode cX6_holds 127 = .ok (.iload 4, 2) := by decide +kernel
theorem dX6_holds_129 : decode cX6_holds 129 = .ok (.iconst 1, 1) := by decide +kernel
theorem dX6_holds_130 : decode cX6_holds 130 = .ok (.ishl, 1) := by decide +kernel
theorem dX6_holds_131 : decode cX6_holds 131 = .ok (.aload_n 0, 1) := by decide +kernel
theorem dX6_holds_132 : decode cX6_holds 132 = .ok (.getfield 21, 3) := by decide +kernel
theorem dX6_holds_135 : decode cX6_holds 135 = .ok (.iload 5, 2) := by decide +kernel
theorem dX6_holds_137 : decode cX6_holds 137 = .ok (.iaload, 1) := by decide +kernel
theorem dX6_holds_138 : decode cX6_holds 138 = .ok (.iload 7, 2) := by decide +kernel
theorem dX6_holds_140 : decode cX6_holds 140 = .ok (.invokestatic 49, 3) := by decide +kernel
theorem dX6_holds_143 : decode cX6_holds 143 = .ok (.ifCond .eq 7, 3) := by decide +kernel
theorem dX6_holds_146 : decode cX6_holds 146 = .ok (.iconst 1, 1) := by decide +kernel
theorem dX6_holds_147 : decode cX6_holds 147 = .ok (.goto 4, 3) := by decide +kernel
theorem dX6_holds_150 : decode cX6_holds 150 = .ok (.iconst 0, 1) := by decide +kernel
theorem dX6_holds_151 : decode cX6_holds 151 = .ok (.ior, 1) := by decide +kernel
theorem dX6_holds_152 : decode cX6_holds 152 = .ok (.istore 4, 2) := by decide +kernel
theorem dX6_holds_154 : decode cX6_holds 154 = .ok (.iinc 5 2, 3) := by decide +kernel
theorem dX6_holds_157 : decode cX6_holds 157 = .ok (.iinc 5 1, 3) := by decide +kernel
theorem dX6_holds_160 : decode cX6_holds 160 = .ok (.goto (-154), 3) := by decide +kernel
theorem dX6_holds_163 : decode cX6_holds 163 = .ok (.iload 4, 2) := by decide +kernel
theorem dX6_holds_165 : decode cX6_holds 165 = .ok (.iconst 1, 1) := by decide +kernel
theorem dX6_holds_166 : decode cX6_holds 166 = .ok (.iand, 1) := by decide +kernel
theorem dX6_holds_167 : decode cX6_holds 167 = .ok (.iconst 1, 1) := by decide +kernel
theorem dX6_holds_168 : decode cX6_holds 168 = .ok (.if_icmp .ne 7, 3) := by decide +kernel
theorem dX6_holds_171 : decode cX6_holds 171 = .ok (.iconst 1, 1) := by decide +kernel
theorem dX6_holds_172 : decode cX6_holds 172 = .ok (.goto 4, 3) := by decide +kernel
theorem dX6_holds_175 : decode cX6_holds 175 = .ok (.iconst 0, 1) := by decide +kernel
theorem dX6_holds_176 : decode cX6_holds 176 = .ok (.ireturn, 1) := by decide +kernel
theorem oX6_holds_0 : oP MT mX6_holds 0 (0, 1, 0, 1, []) := o_iconst dX6_holds_0 (by decide)
theorem oX6_holds_1 : oP MT mX6_holds 1 (2, 2, 4, 0, []) := o_istore dX6_holds_1 (by decide)
theorem oX6_holds_3 : oP MT mX6_holds 3 (1, 1, 1, 0, []) := o_iload_n dX6_holds_3 rfl
theorem oX6_holds_4 : oP MT mX6_holds 4 (2, 2, 5, 0, []) := o_istore dX6_holds_4 (by decide)
theorem oX6_holds_6 : oP MT mX6_holds 6 (1, 2, 5, 0, []) := o_iload dX6_holds_6
theorem oX6_holds_8 : oP MT mX6_holds 8 (1, 1, 2, 0, []) := o_iload_n dX6_holds_8 rfl
theorem oX6_holds_9 : oP MT mX6_holds 9 (11, 3, 3, 163, []) := o_icmp_ge dX6_holds_9 (by decide) (by decide)
theorem oX6_holds_12 : oP MT mX6_holds 12 (1, 2, 4, 0, []) := o_iload dX6_holds_12
theorem oX6_holds_14 : oP MT mX6_holds 14 (0, 1, 0, 1, []) := o_iconst dX6_holds_14 (by decide)
theorem oX6_holds_15 : oP MT mX6_holds 15 (4, 1, 3, 0, []) := o_iand dX6_holds_15
theorem oX6_holds_16 : oP MT mX6_holds 16 (2, 2, 6, 0, []) := o_istore dX6_holds_16 (by decide)
theorem oX6_holds_18 : oP MT mX6_holds 18 (1, 1, 0, 1, []) := o_aload_n dX6_holds_18 rfl
theorem oX6_holds_19 : oP MT mX6_holds 19 (13, 3, 5, 6, []) := o_getR (M := mX6_holds) (C := RX6) (T := TX6) (ci := 6) (j := 5) (z := 6) dX6_holds_19 rfl lq_RX6_21 rfl rfl
theorem oX6_holds_22 : oP MT mX6_holds 22 (1, 2, 5, 0, []) := o_iload dX6_holds_22
theorem oX6_holds_24 : oP MT mX6_holds 24 (16, 1, 1, 0, []) := o_iaload dX6_holds_24
theorem oX6_holds_25 : oP MT mX6_holds 25 (0, 2, 0, 17, []) := o_bipush dX6_holds_25 (by decide)
theorem oX6_holds_27 : oP MT mX6_holds 27 (11, 3, 1, 39, []) := o_icmp_ne dX6_holds_27 (by decide) (by decide)
theorem oX6_holds_30 : oP MT mX6_holds 30 (1, 2, 4, 0, []) := o_iload dX6_holds_30
theorem oX6_holds_32 : oP MT mX6_holds 32 (0, 1, 0, 1, []) := o_iconst dX6_holds_32 (by decide)
theorem oX6_holds_33 : oP MT mX6_holds 33 (4, 1, 5, 0, []) := o_ixor dX6_holds_33
theorem oX6_holds_34 : oP MT mX6_holds 34 (2, 2, 4, 0, []) := o_istore dX6_holds_34 (by decide)
theorem oX6_holds_36 : oP MT mX6_holds 36 (9, 3, 157, 0, []) := o_goto dX6_holds_36 (by decide)
theorem oX6_holds_39 : oP MT mX6_holds 39 (1, 1, 0, 1, []) := o_aload_n dX6_holds_39 rfl
theorem oX6_holds_40 : oP MT mX6_holds 40 (13, 3, 5, 6, []) := o_getR (M := mX6_holds) (C := RX6) (T := TX6) (ci := 6) (j := 5) (z := 6) dX6_holds_40 rfl lq_RX6_21 rfl rfl
theorem oX6_holds_43 : oP MT mX6_holds 43 (1, 2, 5, 0, []) := o_iload dX6_holds_43
theorem oX6_holds_45 : oP MT mX6_holds 45 (16, 1, 1, 0, []) := o_iaload dX6_holds_45
theorem oX6_holds_46 : oP MT mX6_holds 46 (0, 2, 0, 15, []) := o_bipush dX6_holds_46 (by decide)
theorem oX6_holds_48 : oP MT mX6_holds 48 (11, 3, 1, 66, []) := o_icmp_ne dX6_holds_48 (by decide) (by decide)
theorem oX6_holds_51 : oP MT mX6_holds 51 (1, 2, 4, 0, []) := o_iload dX6_holds_51
theorem oX6_holds_53 : oP MT mX6_holds 53 (0, 1, 0, 1, []) := o_iconst dX6_holds_53 (by decide)
theorem oX6_holds_54 : oP MT mX6_holds 54 (4, 1, 8, 0, []) := o_iushr dX6_holds_54
theorem oX6_holds_55 : oP MT mX6_holds 55 (0, 2, 0, (-2), []) := o_bipush dX6_holds_55 (by decide)
theorem oX6_holds_57 : oP MT mX6_holds 57 (1, 2, 6, 0, []) := o_iload dX6_holds_57
theorem oX6_holds_59 : oP MT mX6_holds 59 (4, 1, 4, 0, []) := o_ior dX6_holds_59
theorem oX6_holds_60 : oP MT mX6_holds 60 (4, 1, 3, 0, []) := o_iand dX6_holds_60
theorem oX6_holds_61 : oP MT mX6_holds 61 (2, 2, 4, 0, []) := o_istore dX6_holds_61 (by decide)
theorem oX6_holds_63 : oP MT mX6_holds 63 (9, 3, 157, 0, []) := o_goto dX6_holds_63 (by decide)
theorem oX6_holds_66 : oP MT mX6_holds 66 (1, 1, 0, 1, []) := o_aload_n dX6_holds_66 rfl
theorem oX6_holds_67 : oP MT mX6_holds 67 (13, 3, 5, 6, []) := o_getR (M := mX6_holds) (C := RX6) (T := TX6) (ci := 6) (j := 5) (z := 6) dX6_holds_67 rfl lq_RX6_21 rfl rfl
theorem oX6_holds_70 : oP MT mX6_holds 70 (1, 2, 5, 0, []) := o_iload dX6_holds_70
theorem oX6_holds_72 : oP MT mX6_holds 72 (16, 1, 1, 0, []) := o_iaload dX6_holds_72
theorem oX6_holds_73 : oP MT mX6_holds 73 (0, 2, 0, 16, []) := o_bipush dX6_holds_73 (by decide)
theorem oX6_holds_75 : oP MT mX6_holds 75 (11, 3, 1, 90, []) := o_icmp_ne dX6_holds_75 (by decide) (by decide)
theorem oX6_holds_78 : oP MT mX6_holds 78 (1, 2, 4, 0, []) := o_iload dX6_holds_78
theorem oX6_holds_80 : oP MT mX6_holds 80 (0, 1, 0, 1, []) := o_iconst dX6_holds_80 (by decide)
theorem oX6_holds_81 : oP MT mX6_holds 81 (4, 1, 8, 0, []) := o_iushr dX6_holds_81
theorem oX6_holds_82 : oP MT mX6_holds 82 (1, 2, 6, 0, []) := o_iload dX6_holds_82
theorem oX6_holds_84 : oP MT mX6_holds 84 (4, 1, 4, 0, []) := o_ior dX6_holds_84
theorem oX6_holds_85 : oP MT mX6_holds 85 (2, 2, 4, 0, []) := o_istore dX6_holds_85 (by decide)
theorem oX6_holds_87 : oP MT mX6_holds 87 (9, 3, 157, 0, []) := o_goto dX6_holds_87 (by decide)
theorem oX6_holds_90 : oP MT mX6_holds 90 (1, 2, 5, 0, []) := o_iload dX6_holds_90
theorem oX6_holds_92 : oP MT mX6_holds 92 (0, 1, 0, 2, []) := o_iconst dX6_holds_92 (by decide)
theorem oX6_holds_93 : oP MT mX6_holds 93 (4, 1, 0, 0, []) := o_iadd dX6_holds_93
theorem oX6_holds_94 : oP MT mX6_holds 94 (1, 1, 2, 0, []) := o_iload_n dX6_holds_94 rfl
theorem oX6_holds_95 : oP MT mX6_holds 95 (11, 3, 3, 157, []) := o_icmp_ge dX6_holds_95 (by decide) (by decide)
theorem oX6_holds_98 : oP MT mX6_holds 98 (1, 1, 0, 1, []) := o_aload_n dX6_holds_98 rfl
theorem oX6_holds_99 : oP MT mX6_holds 99 (13, 3, 5, 6, []) := o_getR (M := mX6_holds) (C := RX6) (T := TX6) (ci := 6) (j := 5) (z := 6) dX6_holds_99 rfl lq_RX6_21 rfl rfl
theorem oX6_holds_102 : oP MT mX6_holds 102 (1, 2, 5, 0, []) := o_iload dX6_holds_102
theorem oX6_holds_104 : oP MT mX6_holds 104 (0, 1, 0, 1, []) := o_iconst dX6_holds_104 (by decide)
theorem oX6_holds_105 : oP MT mX6_holds 105 (4, 1, 0, 0, []) := o_iadd dX6_holds_105
theorem oX6_holds_106 : oP MT mX6_holds 106 (16, 1, 1, 0, []) := o_iaload dX6_holds_106
theorem oX6_holds_107 : oP MT mX6_holds 107 (1, 1, 3, 1, []) := o_aload_n dX6_holds_107 rfl
theorem oX6_holds_108 : oP MT mX6_holds 108 (25, 3, 22, 2, []) := o_callS dX6_holds_108 (mj := mX6_valueOf) mt_X6_valueOf cmq_X6_valueOf wq_78 wq_80 (by decide) (by decide)
theorem oX6_holds_111 : oP MT mX6_holds 111 (1, 1, 0, 1, []) := o_aload_n dX6_holds_111 rfl
theorem oX6_holds_112 : oP MT mX6_holds 112 (13, 3, 5, 6, []) := o_getR (M := mX6_holds) (C := RX6) (T := TX6) (ci := 6) (j := 5) (z := 6) dX6_holds_112 rfl lq_RX6_21 rfl rfl
theorem oX6_holds_115 : oP MT mX6_holds 115 (1, 2, 5, 0, []) := o_iload dX6_holds_115
theorem oX6_holds_117 : oP MT mX6_holds 117 (0, 1, 0, 2, []) := o_iconst dX6_holds_117 (by decide)
theorem oX6_holds_118 : oP MT mX6_holds 118 (4, 1, 0, 0, []) := o_iadd dX6_holds_118
theorem oX6_holds_119 : oP MT mX6_holds 119 (16, 1, 1, 0, []) := o_iaload dX6_holds_119
theorem oX6_holds_120 : oP MT mX6_holds 120 (1, 1, 3, 1, []) := o_aload_n dX6_holds_120 rfl
theorem oX6_holds_121 : oP MT mX6_holds 121 (25, 3, 22, 2, []) := o_callS dX6_holds_121 (mj := mX6_valueOf) mt_X6_valueOf cmq_X6_valueOf wq_78 wq_80 (by decide) (by decide)
theorem oX6_holds_124 : oP MT mX6_holds 124 (4, 1, 1, 0, []) := o_isub dX6_holds_124
theorem oX6_holds_125 : oP MT mX6_holds 125 (2, 2, 7, 0, []) := o_istore dX6_holds_125 (by decide)
theorem oX6_holds_127 : oP MT mX6_holds 127 (1, 2, 4, 0, []) := o_iload dX6_holds_127
theorem oX6_holds_129 : oP MT mX6_holds 129 (0, 1, 0, 1, []) := o_iconst dX6_holds_129 (by decide)
theorem oX6_holds_130 : oP MT mX6_holds 130 (4, 1, 6, 0, []) := o_ishl dX6_holds_130
theorem oX6_holds_131 : oP MT mX6_holds 131 (1, 1, 0, 1, []) := o_aload_n dX6_holds_131 rfl
theorem oX6_holds_132 : oP MT mX6_holds 132 (13, 3, 5, 6, []) := o_getR (M := mX6_holds) (C := RX6) (T := TX6) (ci := 6) (j := 5) (z := 6) dX6_holds_132 rfl lq_RX6_21 rfl rfl
theorem oX6_holds_135 : oP MT mX6_holds 135 (1, 2, 5, 0, []) := o_iload dX6_holds_135
theorem oX6_holds_137 : oP MT mX6_holds 137 (16, 1, 1, 0, []) := o_iaload dX6_holds_137
theorem oX6_holds_138 : oP MT mX6_holds 138 (1, 2, 7, 0, []) := o_iload dX6_holds_138
theorem oX6_holds_140 : oP MT mX6_holds 140 (25, 3, 23, 2, []) := o_callS dX6_holds_140 (mj := mX6_isSo) mt_X6_isSo cmq_X6_isSo wq_81 wq_83 (by decide) (by decide)
theorem oX6_holds_143 : oP MT mX6_holds 143 (10, 3, 0, 150, []) := o_if_eq dX6_holds_143 (by decide) (by decide)
theorem oX6_holds_146 : oP MT mX6_holds 146 (0, 1, 0, 1, []) := o_iconst dX6_holds_146 (by decide)
theorem oX6_holds_147 : oP MT mX6_holds 147 (9, 3, 151, 0, []) := o_goto dX6_holds_147 (by decide)
theorem oX6_holds_150 : oP MT mX6_holds 150 (0, 1, 0, 0, []) := o_iconst dX6_holds_150 (by decide)
theorem oX6_holds_151 : oP MT mX6_holds 151 (4, 1, 4, 0, []) := o_ior dX6_holds_151
theorem oX6_holds_152 : oP MT mX6_holds 152 (2, 2, 4, 0, []) := o_istore dX6_holds_152 (by decide)
theorem oX6_holds_154 : oP MT mX6_holds 154 (3, 3, 5, 2, []) := o_iinc dX6_holds_154 (by decide) (by decide)
theorem oX6_holds_157 : oP MT mX6_holds 157 (3, 3, 5, 1, []) := o_iinc dX6_holds_157 (by decide) (by decide)
theorem oX6_holds_160 : oP MT mX6_holds 160 (9, 3, 6, 0, []) := o_goto dX6_holds_160 (by decide)
theorem oX6_holds_163 : oP MT mX6_holds 163 (1, 2, 4, 0, []) := o_iload dX6_holds_163
theorem oX6_holds_165 : oP MT mX6_holds 165 (0, 1, 0, 1, []) := o_iconst dX6_holds_165 (by decide)
theorem oX6_holds_166 : oP MT mX6_holds 166 (4, 1, 3, 0, []) := o_iand dX6_holds_166
theorem oX6_holds_167 : oP MT mX6_holds 167 (0, 1, 0, 1, []) := o_iconst dX6_holds_167 (by decide)
theorem oX6_holds_168 : oP MT mX6_holds 168 (11, 3, 1, 175, []) := o_icmp_ne dX6_holds_168 (by decide) (by decide)
theorem oX6_holds_171 : oP MT mX6_holds 171 (0, 1, 0, 1, []) := o_iconst dX6_holds_171 (by decide)
theorem oX6_holds_172 : oP MT mX6_holds 172 (9, 3, 176, 0, []) := o_goto dX6_holds_172 (by decide)
theorem oX6_holds_175 : oP MT mX6_holds 175 (0, 1, 0, 0, []) := o_iconst dX6_holds_175 (by decide)
theorem oX6_holds_176 : oP MT mX6_holds 176 (22, 1, 0, 0, []) := o_zret dX6_holds_176 rfl
def ops_X6_holds : List (Nat × aO) := [(0, (0, 1, 0, 1, [])), (1, (2, 2, 4, 0, [])), (3, (1, 1, 1, 0, [])), (4, (2, 2, 5, 0, [])), (6, (1, 2, 5, 0, [])), (8, (1, 1, 2, 0, [])), (9, (11, 3, 3, 163, [])), (12, (1, 2, 4, 0, [])), (14, (0, 1, 0, 1, [])), (15, (4, 1, 3, 0, [])), (16, (2, 2, 6, 0, [])), (18, (1, 1, 0, 1, [])), (19, (13, 3, 5, 6, [])), (22, (1, 2, 5, 0, [])), (24, (16, 1, 1, 0, [])), (25, (0, 2, 0, 17, [])), (27, (11, 3, 1, 39, [])), (30, (1, 2, 4, 0, [])), (32, (0, 1, 0, 1, [])), (33, (4, 1, 5, 0, [])), (34, (2, 2, 4, 0, [])), (36, (9, 3, 157, 0, [])), (39, (1, 1, 0, 1, [])), (40, (13, 3, 5, 6, [])), (43, (1, 2, 5, 0, [])), (45, (16, 1, 1, 0, [])), (46, (0, 2, 0, 15, [])), (48, (11, 3, 1, 66, [])), (51, (1, 2, 4, 0, [])), (53, (0, 1, 0, 1, [])), (54, (4, 1, 8, 0, [])), (55, (0, 2, 0, (-2), [])), (57, (1, 2, 6, 0, [])), (59, (4, 1, 4, 0, [])), (60, (4, 1, 3, 0, [])), (61, (2, 2, 4, 0, [])), (63, (9, 3, 157, 0, [])), (66, (1, 1, 0, 1, [])), (67, (13, 3, 5, 6, [])), (70, (1, 2, 5, 0, [])), (72, (16, 1, 1, 0, [])), (73, (0, 2, 0, 16, [])), (75, (11, 3, 1, 90, [])), (78, (1, 2, 4, 0, [])), (80, (0, 1, 0, 1, [])), (81, (4, 1, 8, 0, [])), (82, (1, 2, 6, 0, [])), (84, (4, 1, 4, 0, [])), (85, (2, 2, 4, 0, [])), (87, (9, 3, 157, 0, [])), (90, (1, 2, 5, 0, [])), (92, (0, 1, 0, 2, [])), (93, (4, 1, 0, 0, [])), (94, (1, 1, 2, 0, [])), (95, (11, 3, 3, 157, [])), (98, (1, 1, 0, 1, [])), (99, (13, 3, 5, 6, [])), (102, (1, 2, 5, 0, [])), (104, (0, 1, 0, 1, [])), (105, (4, 1, 0, 0, [])), (106, (16, 1, 1, 0, [])), (107, (1, 1, 3, 1, [])), (108, (25, 3, 22, 2, [])), (111, (1, 1, 0, 1, [])), (112, (13, 3, 5, 6, [])), (115, (1, 2, 5, 0, [])), (117, (0, 1, 0, 2, [])), (118, (4, 1, 0, 0, [])), (119, (16, 1, 1, 0, [])), (120, (1, 1, 3, 1, [])), (121, (25, 3, 22, 2, [])), (124, (4, 1, 1, 0, [])), (125, (2, 2, 7, 0, [])), (127, (1, 2, 4, 0, [])), (129, (0, 1, 0, 1, [])), (130, (4, 1, 6, 0, [])), (131, (1, 1, 0, 1, [])), (132, (13, 3, 5, 6, [])), (135, (1, 2, 5, 0, [])), (137, (16, 1, 1, 0, [])), (138, (1, 2, 7, 0, [])), (140, (25, 3, 23, 2, [])), (143, (10, 3, 0, 150, [])), (146, (0, 1, 0, 1, [])), (147, (9, 3, 151, 0, [])), (150, (0, 1, 0, 0, [])), (151, (4, 1, 4, 0, [])), (152, (2, 2, 4, 0, [])), (154, (3, 3, 5, 2, [])), (157, (3, 3, 5, 1, [])), (160, (9, 3, 6, 0, [])), (163, (1, 2, 4, 0, [])), (165, (0, 1, 0, 1, [])), (166, (4, 1, 3, 0, [])), (167, (0, 1, 0, 1, [])), (168, (11, 3, 1, 175, [])), (171, (0, 1, 0, 1, [])), (172, (9, 3, 176, 0, [])), (175, (0, 1, 0, 0, [])), (176, (22, 1, 0, 0, []))]
theorem os_X6_holds : oA MT mX6_holds ops_X6_holds := (oA.cons oX6_holds_0 (oA.cons oX6_holds_1 (oA.cons oX6_holds_3 (oA.cons oX6_holds_4 (oA.cons oX6_holds_6 (oA.cons oX6_holds_8 (oA.cons oX6_holds_9 (oA.cons oX6_holds_12 (oA.cons oX6_holds_14 (oA.cons oX6_holds_15 (oA.cons oX6_holds_16 (oA.cons oX6_holds_18 (oA.cons oX6_holds_19 (oA.cons oX6_holds_22 (oA.cons oX6_holds_24 (oA.cons oX6_holds_25 (oA.cons oX6_holds_27 (oA.cons oX6_holds_30 (oA.cons oX6_holds_32 (oA.cons oX6_holds_33 (oA.cons oX6_holds_34 (oA.cons oX6_holds_36 (oA.cons oX6_holds_39 (oA.cons oX6_holds_40 (oA.cons oX6_holds_43 (oA.cons oX6_holds_45 (oA.cons oX6_holds_46 (oA.cons oX6_holds_48 (oA.cons oX6_holds_51 (oA.cons oX6_holds_53 (oA.cons oX6_holds_54 (oA.cons oX6_holds_55 (oA.cons oX6_holds_57 (oA.cons oX6_holds_59 (oA.cons oX6_holds_60 (oA.cons oX6_holds_61 (oA.cons oX6_holds_63 (oA.cons oX6_holds_66 (oA.cons oX6_holds_67 (oA.cons oX6_holds_70 (oA.cons oX6_holds_72 (oA.cons oX6_holds_73 (oA.cons oX6_holds_75 (oA.cons oX6_holds_78 (oA.cons oX6_holds_80 (oA.cons oX6_holds_81 (oA.cons oX6_holds_82 (oA.cons oX6_holds_84 (oA.cons oX6_holds_85 (oA.cons oX6_holds_87 (oA.cons oX6_holds_90 (oA.cons oX6_holds_92 (oA.cons oX6_holds_93 (oA.cons oX6_holds_94 (oA.cons oX6_holds_95 (oA.cons oX6_holds_98 (oA.cons oX6_holds_99 (oA.cons oX6_holds_102 (oA.cons oX6_holds_104 (oA.cons oX6_holds_105 (oA.cons oX6_holds_106 (oA.cons oX6_holds_107 (oA.cons oX6_holds_108 (oA.cons oX6_holds_111 (oA.cons oX6_holds_112 (oA.cons oX6_holds_115 (oA.cons oX6_holds_117 (oA.cons oX6_holds_118 (oA.cons oX6_holds_119 (oA.cons oX6_holds_120 (oA.cons oX6_holds_121 (oA.cons oX6_holds_124 (oA.cons oX6_holds_125 (oA.cons oX6_holds_127 (oA.cons oX6_holds_129 (oA.cons oX6_holds_130 (oA.cons oX6_holds_131 (oA.cons oX6_holds_132 (oA.cons oX6_holds_135 (oA.cons oX6_holds_137 (oA.cons oX6_holds_138 (oA.cons oX6_holds_140 (oA.cons oX6_holds_143 (oA.cons oX6_holds_146 (oA.cons oX6_holds_147 (oA.cons oX6_holds_150 (oA.cons oX6_holds_151 (oA.cons oX6_holds_152 (oA.cons oX6_holds_154 (oA.cons oX6_holds_157 (oA.cons oX6_holds_160 (oA.cons oX6_holds_163 (oA.cons oX6_holds_165 (oA.cons oX6_holds_166 (oA.cons oX6_holds_167 (oA.cons oX6_holds_168 (oA.cons oX6_holds_171 (oA.cons oX6_holds_172 (oA.cons oX6_holds_175 (oA.cons oX6_holds_176 oA.nil))))))))))))))))))))))))))))))))))))))))))))))))))))))))))))))))))))))))))))))))))))))))))))))))))))
theorem dX6_valueOf_0 : decode cX6_valueOf 0 = .ok (.iload_n 0, 1) := by decide +kernel
theorem dX6_valueOf_1 : decode cX6_valueOf 1 = .ok (.sipush 10000, 3) := by decide +kernel
theorem dX6_valueOf_4 : decode cX6_valueOf 4 = .ok (.isub, 1) := by decide +kernel
theorem dX6_valueOf_5 : decode cX6_valueOf 5 = .ok (.istore_n 2, 1) := by decide +kernel
theorem dX6_valueOf_6 : decode cX6_valueOf 6 = .ok (.iload_n 2, 1) := by decide +kernel
theorem dX6_valueOf_7 : decode cX6_valueOf 7 = .ok (.ifCond .lt 14, 3) := by decide +kernel
theorem dX6_valueOf_10 : decode cX6_valueOf 10 = .ok (.iload_n 2, 1) := by decide +kernel
theorem dX6_valueOf_11 : decode cX6_valueOf 11 = .ok (.iconst 5, 1) := by decide +kernel
theorem dX6_valueOf_12 : decode cX6_valueOf 12 = .ok (.if_icmp .ge 9, 3) := by decide +kernel
theorem dX6_valueOf_15 : decode cX6_valueOf 15 = .ok (.aload_n 1, 1) := by decide +kernel
theorem dX6_valueOf_16 : decode cX6_valueOf 16 = .ok (.iload_n 2, 1) := by decide +kernel
theorem dX6_valueOf_17 : decode cX6_valueOf 17 = .ok (.iaload, 1) := by decide +kernel
theorem dX6_valueOf_18 : decode cX6_valueOf 18 = .ok (.goto 4, 3) := by decide +kernel
theorem dX6_valueOf_21 : decode cX6_valueOf 21 = .ok (.iload_n 0, 1) := by decide +kernel
theorem dX6_valueOf_22 : decode cX6_valueOf 22 = .ok (.ireturn, 1) := by decide +kernel
theorem oX6_valueOf_0 : oP MT mX6_valueOf 0 (1, 1, 0, 0, []) := o_iload_n dX6_valueOf_0 rfl
theorem oX6_valueOf_1 : oP MT mX6_valueOf 1 (0, 3, 0, 10000, []) := o_sipush dX6_valueOf_1 (by decide)
theorem oX6_valueOf_4 : oP MT mX6_valueOf 4 (4, 1, 1, 0, []) := o_isub dX6_valueOf_4
theorem oX6_valueOf_5 : oP MT mX6_valueOf 5 (2, 1, 2, 0, []) := o_istore_n dX6_valueOf_5 rfl (by decide)
theorem oX6_valueOf_6 : oP MT mX6_valueOf 6 (1, 1, 2, 0, []) := o_iload_n dX6_valueOf_6 rfl
theorem oX6_valueOf_7 : oP MT mX6_valueOf 7 (10, 3, 2, 21, []) := o_if_lt dX6_valueOf_7 (by decide) (by decide)
theorem oX6_valueOf_10 : oP MT mX6_valueOf 10 (1, 1, 2, 0, []) := o_iload_n dX6_valueOf_10 rfl
theorem oX6_valueOf_11 : oP MT mX6_valueOf 11 (0, 1, 0, 5, []) := o_iconst dX6_valueOf_11 (by decide)
theorem oX6_valueOf_12 : oP MT mX6_valueOf 12 (11, 3, 3, 21, []) := o_icmp_ge dX6_valueOf_12 (by decide) (by decide)
theorem oX6_valueOf_15 : oP MT mX6_valueOf 15 (1, 1, 1, 1, []) := o_aload_n dX6_valueOf_15 rfl
theorem oX6_valueOf_16 : oP MT mX6_valueOf 16 (1, 1, 2, 0, []) := o_iload_n dX6_valueOf_16 rfl
theorem oX6_valueOf_17 : oP MT mX6_valueOf 17 (16, 1, 1, 0, []) := o_iaload dX6_valueOf_17
theorem oX6_valueOf_18 : oP MT mX6_valueOf 18 (9, 3, 22, 0, []) := o_goto dX6_valueOf_18 (by decide)
theorem oX6_valueOf_21 : oP MT mX6_valueOf 21 (1, 1, 0, 0, []) := o_iload_n dX6_valueOf_21 rfl
theorem oX6_valueOf_22 : oP MT mX6_valueOf 22 (21, 1, 0, 0, []) := o_iret dX6_valueOf_22 rfl
def ops_X6_valueOf : List (Nat × aO) := [(0, (1, 1, 0, 0, [])), (1, (0, 3, 0, 10000, [])), (4, (4, 1, 1, 0, [])), (5, (2, 1, 2, 0, [])), (6, (1, 1, 2, 0, [])), (7, (10, 3, 2, 21, [])), (10, (1, 1, 2, 0, [])), (11, (0, 1, 0, 5, [])), (12, (11, 3, 3, 21, [])), (15, (1, 1, 1, 1, [])), (16, (1, 1, 2, 0, [])), (17, (16, 1, 1, 0, [])), (18, (9, 3, 22, 0, [])), (21, (1, 1, 0, 0, [])), (22, (21, 1, 0, 0, []))]
theorem os_X6_valueOf : oA MT mX6_valueOf ops_X6_valueOf := (oA.cons oX6_valueOf_0 (oA.cons oX6_valueOf_1 (oA.cons oX6_valueOf_4 (oA.cons oX6_valueOf_5 (oA.cons oX6_valueOf_6 (oA.cons oX6_valueOf_7 (oA.cons oX6_valueOf_10 (oA.cons oX6_valueOf_11 (oA.cons oX6_valueOf_12 (oA.cons oX6_valueOf_15 (oA.cons oX6_valueOf_16 (oA.cons oX6_valueOf_17 (oA.cons oX6_valueOf_18 (oA.cons oX6_valueOf_21 (oA.cons oX6_valueOf_22 oA.nil)))))))))))))))
theorem dX6_isSo_0 : decode cX6_isSo 0 = .ok (.iload_n 0, 1) := by decide +kernel
theorem dX6_isSo_1 : decode cX6_isSo 1 = .ok (.bipush 60, 2) := by decide +kernel
theorem dX6_isSo_3 : decode cX6_isSo 3 = .ok (.if_icmp .ne 13, 3) := by decide +kernel
theorem dX6_isSo_6 : decode cX6_isSo 6 = .ok (.iload_n 1, 1) := by decide +kernel
theorem dX6_isSo_7 : decode cX6_isSo 7 = .ok (.ifCond .ge 7, 3) := by decide +kernel
theorem dX6_isSo_10 : decode cX6_isSo 10 = .ok (.iconst 1, 1) := by decide +kernel
theorem dX6_isSo_11 : decode cX6_isSo 11 = .ok (.goto 4, 3) := by decide +kernel
theorem dX6_isSo_14 : decode cX6_isSo 14 = .ok (.iconst 0, 1) := by decide +kernel
theorem dX6_isSo_15 : decode cX6_isSo 15 = .ok (.ireturn, 1) := by decide +kernel
theorem dX6_isSo_16 : decode cX6_isSo 16 = .ok (.iload_n 0, 1) := by decide +kernel
theorem dX6_isSo_17 : decode cX6_isSo 17 = .ok (.bipush 61, 2) := by decide +kernel
theorem dX6_isSo_19 : decode cX6_isSo 19 = .ok (.if_icmp .ne 15, 3) := by decide +kernel
theorem dX6_isSo_22 : decode cX6_isSo 22 = .ok (.iload_n 1, 1) := by decide +kernel
theorem dX6_isSo_23 : decode cX6_isSo 23 = .ok (.ifCond .ne 7, 3) := by decide +kernel
theorem dX6_isSo_26 : decode cX6_isSo 26 = .ok (.iconst 1, 1) := by decide +kernel
theorem dX6_isSo_27 : decode cX6_isSo 27 = .ok (.goto 16, 3) := by decide +kernel
theorem dX6_isSo_30 : decode cX6_isSo 30 = .ok (.iconst 0, 1) := by decide +kernel
theorem dX6_isSo_31 : decode cX6_isSo 31 = .ok (.goto 12, 3) := by decide +kernel
theorem dX6_isSo_34 : decode cX6_isSo 34 = .ok (.iload_n 1, 1) := by decide +kernel
theorem dX6_isSo_35 : decode cX6_isSo 35 = .ok (.ifCond .le 7, 3) := by decide +kernel
theorem dX6_isSo_38 : decode cX6_isSo 38 = .ok (.iconst 1, 1) := by decide +kernel
theorem dX6_isSo_39 : decode cX6_isSo 39 = .ok (.goto 4, 3) := by decide +kernel
theorem dX6_isSo_42 : decode cX6_isSo 42 = .ok (.iconst 0, 1) := by decide +kernel
theorem dX6_isSo_43 : decode cX6_isSo 43 = .ok (.ireturn, 1) := by decide +kernel
theorem oX6_isSo_0 : oP MT mX6_isSo 0 (1, 1, 0, 0, []) := o_iload_n dX6_isSo_0 rfl
theorem oX6_isSo_1 : oP MT mX6_isSo 1 (0, 2, 0, 60, []) := o_bipush dX6_isSo_1 (by decide)
theorem oX6_isSo_3 : oP MT mX6_isSo 3 (11, 3, 1, 16, []) := o_icmp_ne dX6_isSo_3 (by decide) (by decide)
theorem oX6_isSo_6 : oP MT mX6_isSo 6 (1, 1, 1, 0, []) := o_iload_n dX6_isSo_6 rfl
theorem oX6_isSo_7 : oP MT mX6_isSo 7 (10, 3, 3, 14, []) := o_if_ge dX6_isSo_7 (by decide) (by decide)
theorem oX6_isSo_10 : oP MT mX6_isSo 10 (0, 1, 0, 1, []) := o_iconst dX6_isSo_10 (by decide)
theorem oX6_isSo_11 : oP MT mX6_isSo 11 (9, 3, 15, 0, []) := o_goto dX6_isSo_11 (by decide)
theorem oX6_isSo_14 : oP MT mX6_isSo 14 (0, 1, 0, 0, []) := o_iconst dX6_isSo_14 (by decide)
theorem oX6_isSo_15 : oP MT mX6_isSo 15 (22, 1, 0, 0, []) := o_zret dX6_isSo_15 rfl
theorem oX6_isSo_16 : oP MT mX6_isSo 16 (1, 1, 0, 0, []) := o_iload_n dX6_isSo_16 rfl
theorem oX6_isSo_17 : oP MT mX6_isSo 17 (0, 2, 0, 61, []) := o_bipush dX6_isSo_17 (by decide)
theorem oX6_isSo_19 : oP MT mX6_isSo 19 (11, 3, 1, 34, []) := o_icmp_ne dX6_isSo_19 (by decide) (by decide)
theorem oX6_isSo_22 : oP MT mX6_isSo 22 (1, 1, 1, 0, []) := o_iload_n dX6_isSo_22 rfl
theorem oX6_isSo_23 : oP MT mX6_isSo 23 (10, 3, 1, 30, []) := o_if_ne dX6_isSo_23 (by decide) (by decide)
theorem oX6_isSo_26 : oP MT mX6_isSo 26 (0, 1, 0, 1, []) := o_iconst dX6_isSo_26 (by decide)
theorem oX6_isSo_27 : oP MT mX6_isSo 27 (9, 3, 43, 0, []) := o_goto dX6_isSo_27 (by decide)
theorem oX6_isSo_30 : oP MT mX6_isSo 30 (0, 1, 0, 0, []) := o_iconst dX6_isSo_30 (by decide)
theorem oX6_isSo_31 : oP MT mX6_isSo 31 (9, 3, 43, 0, []) := o_goto dX6_isSo_31 (by decide)
theorem oX6_isSo_34 : oP MT mX6_isSo 34 (1, 1, 1, 0, []) := o_iload_n dX6_isSo_34 rfl
theorem oX6_isSo_35 : oP MT mX6_isSo 35 (10, 3, 5, 42, []) := o_if_le dX6_isSo_35 (by decide) (by decide)
theorem oX6_isSo_38 : oP MT mX6_isSo 38 (0, 1, 0, 1, []) := o_iconst dX6_isSo_38 (by decide)
theorem oX6_isSo_39 : oP MT mX6_isSo 39 (9, 3, 43, 0, []) := o_goto dX6_isSo_39 (by decide)
theorem oX6_isSo_42 : oP MT mX6_isSo 42 (0, 1, 0, 0, []) := o_iconst dX6_isSo_42 (by decide)
theorem oX6_isSo_43 : oP MT mX6_isSo 43 (22, 1, 0, 0, []) := o_zret dX6_isSo_43 rfl
def ops_X6_isSo : List (Nat × aO) := [(0, (1, 1, 0, 0, [])), (1, (0, 2, 0, 60, [])), (3, (11, 3, 1, 16, [])), (6, (1, 1, 1, 0, [])), (7, (10, 3, 3, 14, [])), (10, (0, 1, 0, 1, [])), (11, (9, 3, 15, 0, [])), (14, (0, 1, 0, 0, [])), (15, (22, 1, 0, 0, [])), (16, (1, 1, 0, 0, [])), (17, (0, 2, 0, 61, [])), (19, (11, 3, 1, 34, [])), (22, (1, 1, 1, 0, [])), (23, (10, 3, 1, 30, [])), (26, (0, 1, 0, 1, [])), (27, (9, 3, 43, 0, [])), (30, (0, 1, 0, 0, [])), (31, (9, 3, 43, 0, [])), (34, (1, 1, 1, 0, [])), (35, (10, 3, 5, 42, [])), (38, (0, 1, 0, 1, [])), (39, (9, 3, 43, 0, [])), (42, (0, 1, 0, 0, [])), (43, (22, 1, 0, 0, []))]
theorem os_X6_isSo : oA MT mX6_isSo ops_X6_isSo := (oA.cons oX6_isSo_0 (oA.cons oX6_isSo_1 (oA.cons oX6_isSo_3 (oA.cons oX6_isSo_6 (oA.cons oX6_isSo_7 (oA.cons oX6_isSo_10 (oA.cons oX6_isSo_11 (oA.cons oX6_isSo_14 (oA.cons oX6_isSo_15 (oA.cons oX6_isSo_16 (oA.cons oX6_isSo_17 (oA.cons oX6_isSo_19 (oA.cons oX6_isSo_22 (oA.cons oX6_isSo_23 (oA.cons oX6_isSo_26 (oA.cons oX6_isSo_27 (oA.cons oX6_isSo_30 (oA.cons oX6_isSo_31 (oA.cons oX6_isSo_34 (oA.cons oX6_isSo_35 (oA.cons oX6_isSo_38 (oA.cons oX6_isSo_39 (oA.cons oX6_isSo_42 (oA.cons oX6_isSo_43 oA.nil))))))))))))))))))))))))
theorem dX1_pays_0 : decode cX1_pays 0 = .ok (.aload_n 0, 1) := by decide +kernel
theorem dX1_pays_1 : decode cX1_pays 1 = .ok (.iload_n 1, 1) := by decide +kernel
theorem dX1_pays_2 : decode cX1_pays 2 = .ok (.invokevirtual 113, 3) := by decide +kernel
theorem dX1_pays_5 : decode cX1_pays 5 = .ok (.ifCond .ne 36, 3) := by decide +kernel
theorem dX1_pays_8 : decode cX1_pays 8 = .ok (.aload_n 0, 1) := by decide +kernel
theorem dX1_pays_9 : decode cX1_pays 9 = .ok (.iload_n 1, 1) := by decide +kernel
theorem dX1_pays_10 : decode cX1_pays 10 = .ok (.aload_n 0, 1) := by decide +kernel
theorem dX1_pays_11 : decode cX1_pays 11 = .ok (.getfield 22, 3) := by decide +kernel
theorem dX1_pays_14 : decode cX1_pays 14 = .ok (.aload_n 0, 1) := by decide +kernel
theorem dX1_pays_15 : decode cX1_pays 15 = .ok (.getfield 37, 3) := by decide +kernel
theorem dX1_pays_18 : decode cX1_pays 18 = .ok (.iload_n 1, 1) := by decide +kernel
theorem dX1_pays_19 : decode cX1_pays 19 = .ok (.iaload, 1) := by decide +kernel
theorem dX1_pays_20 : decode cX1_pays 20 = .ok (.iaload, 1) := by decide +kernel
theorem dX1_pays_21 : decode cX1_pays 21 = .ok (.invokevirtual 123, 3) := by decide +kernel
theorem dX1_pays_24 : decode cX1_pays 24 = .ok (.ifCond .eq 17, 3) := by decide +kernel
theorem dX1_pays_27 : decode cX1_pays 27 = .ok (.iconst 5, 1) := by decide +kernel
theorem dX1_pays_28 : decode cX1_pays 28 = .ok (.aload_n 0, 1) := by decide +kernel
theorem dX1_pays_29 : decode cX1_pays 29 = .ok (.getfield 31, 3) := by decide +kernel
theorem dX1_pays_32 : decode cX1_pays 32 = .ok (.iload_n 1, 1) := by decide +kernel
theorem dX1_pays_33 : decode cX1_pays 33 = .ok (.iaload, 1) := by decide +kernel
theorem dX1_pays_34 : decode cX1_pays 34 = .ok (.bipush 20, 2) := by decide +kernel
theorem dX1_pays_36 : decode cX1_pays 36 = .ok (.idiv, 1) := by decide +kernel
theorem dX1_pays_37 : decode cX1_pays 37 = .ok (.iadd, 1) := by decide +kernel
theorem dX1_pays_38 : decode cX1_pays 38 = .ok (.goto 4, 3) := by decide +kernel
theorem dX1_pays_41 : decode cX1_pays 41 = .ok (.iconst 0, 1) := by decide +kernel
theorem dX1_pays_42 : decode cX1_pays 42 = .ok (.ireturn, 1) := by decide +kernel
theorem oX1_pays_0 : oP MT mX1_pays 0 (1, 1, 0, 1, []) := o_aload_n dX1_pays_0 rfl
theorem oX1_pays_1 : oP MT mX1_pays 1 (1, 1, 1, 0, []) := o_iload_n dX1_pays_1 rfl
theorem oX1_pays_2 : oP MT mX1_pays 2 (26, 3, 0, 1, [(1, 11)]) := o_callO ((vA.cons (v_callV dX1_pays_2 (ci := 1) rfl rfl (mj := mX1_isTurned) mt_X1_isTurned cmq_X1_isTurned wq_31 wq_33 wq_34 (by decide) (by decide)) vA.nil))
theorem oX1_pays_5 : oP MT mX1_pays 5 (10, 3, 1, 41, []) := o_if_ne dX1_pays_5 (by decide) (by decide)
theorem oX1_pays_8 : oP MT mX1_pays 8 (1, 1, 0, 1, []) := o_aload_n dX1_pays_8 rfl
theorem oX1_pays_9 : oP MT mX1_pays 9 (1, 1, 1, 0, []) := o_iload_n dX1_pays_9 rfl
theorem oX1_pays_10 : oP MT mX1_pays 10 (1, 1, 0, 1, []) := o_aload_n dX1_pays_10 rfl
theorem oX1_pays_11 : oP MT mX1_pays 11 (13, 3, 6, 1, []) := o_getR (M := mX1_pays) (C := RX1) (T := TX1) (ci := 1) (j := 6) (z := 1) dX1_pays_11 rfl lq_RX1_22 rfl rfl
theorem oX1_pays_14 : oP MT mX1_pays 14 (1, 1, 0, 1, []) := o_aload_n dX1_pays_14 rfl
theorem oX1_pays_15 : oP MT mX1_pays 15 (13, 3, 13, 1, []) := o_getR (M := mX1_pays) (C := RX1) (T := TX1) (ci := 1) (j := 13) (z := 1) dX1_pays_15 rfl lq_RX1_37 rfl rfl
theorem oX1_pays_18 : oP MT mX1_pays 18 (1, 1, 1, 0, []) := o_iload_n dX1_pays_18 rfl
theorem oX1_pays_19 : oP MT mX1_pays 19 (16, 1, 1, 0, []) := o_iaload dX1_pays_19
theorem oX1_pays_20 : oP MT mX1_pays 20 (16, 1, 1, 0, []) := o_iaload dX1_pays_20
theorem oX1_pays_21 : oP MT mX1_pays 21 (26, 3, 0, 2, [(1, 18)]) := o_callO ((vA.cons (v_callV dX1_pays_21 (ci := 1) rfl rfl (mj := mX1_fitsWard) mt_X1_fitsWard cmq_X1_fitsWard wq_84 wq_86 wq_87 (by decide) (by decide)) vA.nil))
theorem oX1_pays_24 : oP MT mX1_pays 24 (10, 3, 0, 41, []) := o_if_eq dX1_pays_24 (by decide) (by decide)
theorem oX1_pays_27 : oP MT mX1_pays 27 (0, 1, 0, 5, []) := o_iconst dX1_pays_27 (by decide)
theorem oX1_pays_28 : oP MT mX1_pays 28 (1, 1, 0, 1, []) := o_aload_n dX1_pays_28 rfl
theorem oX1_pays_29 : oP MT mX1_pays 29 (13, 3, 11, 1, []) := o_getR (M := mX1_pays) (C := RX1) (T := TX1) (ci := 1) (j := 11) (z := 1) dX1_pays_29 rfl lq_RX1_31 rfl rfl
theorem oX1_pays_32 : oP MT mX1_pays 32 (1, 1, 1, 0, []) := o_iload_n dX1_pays_32 rfl
theorem oX1_pays_33 : oP MT mX1_pays 33 (16, 1, 1, 0, []) := o_iaload dX1_pays_33
theorem oX1_pays_34 : oP MT mX1_pays 34 (0, 2, 0, 20, []) := o_bipush dX1_pays_34 (by decide)
theorem oX1_pays_36 : oP MT mX1_pays 36 (4, 1, 9, 0, []) := o_idiv dX1_pays_36
theorem oX1_pays_37 : oP MT mX1_pays 37 (4, 1, 0, 0, []) := o_iadd dX1_pays_37
theorem oX1_pays_38 : oP MT mX1_pays 38 (9, 3, 42, 0, []) := o_goto dX1_pays_38 (by decide)
theorem oX1_pays_41 : oP MT mX1_pays 41 (0, 1, 0, 0, []) := o_iconst dX1_pays_41 (by decide)
theorem oX1_pays_42 : oP MT mX1_pays 42 (21, 1, 0, 0, []) := o_iret dX1_pays_42 rfl
def ops_X1_pays : List (Nat × aO) := [(0, (1, 1, 0, 1, [])), (1, (1, 1, 1, 0, [])), (2, (26, 3, 0, 1, [(1, 11)])), (5, (10, 3, 1, 41, [])), (8, (1, 1, 0, 1, [])), (9, (1, 1, 1, 0, [])), (10, (1, 1, 0, 1, [])), (11, (13, 3, 6, 1, [])), (14, (1, 1, 0, 1, [])), (15, (13, 3, 13, 1, [])), (18, (1, 1, 1, 0, [])), (19, (16, 1, 1, 0, [])), (20, (16, 1, 1, 0, [])), (21, (26, 3, 0, 2, [(1, 18)])), (24, (10, 3, 0, 41, [])), (27, (0, 1, 0, 5, [])), (28, (1, 1, 0, 1, [])), (29, (13, 3, 11, 1, [])), (32, (1, 1, 1, 0, [])), (33, (16, 1, 1, 0, [])), (34, (0, 2, 0, 20, [])), (36, (4, 1, 9, 0, [])), (37, (4, 1, 0, 0, [])), (38, (9, 3, 42, 0, [])), (41, (0, 1, 0, 0, [])), (42, (21, 1, 0, 0, []))]
theorem os_X1_pays : oA MT mX1_pays ops_X1_pays := (oA.cons oX1_pays_0 (oA.cons oX1_pays_1 (oA.cons oX1_pays_2 (oA.cons oX1_pays_5 (oA.cons oX1_pays_8 (oA.cons oX1_pays_9 (oA.cons oX1_pays_10 (oA.cons oX1_pays_11 (oA.cons oX1_pays_14 (oA.cons oX1_pays_15 (oA.cons oX1_pays_18 (oA.cons oX1_pays_19 (oA.cons oX1_pays_20 (oA.cons oX1_pays_21 (oA.cons oX1_pays_24 (oA.cons oX1_pays_27 (oA.cons oX1_pays_28 (oA.cons oX1_pays_29 (oA.cons oX1_pays_32 (oA.cons oX1_pays_33 (oA.cons oX1_pays_34 (oA.cons oX1_pays_36 (oA.cons oX1_pays_37 (oA.cons oX1_pays_38 (oA.cons oX1_pays_41 (oA.cons oX1_pays_42 oA.nil))))))))))))))))))))))))))
theorem dX1_will_0 : decode cX1_will 0 = .ok (.aload_n 0, 1) := by decide +kernel
theorem dX1_will_1 : decode cX1_will 1 = .ok (.getfield 50, 3) := by decide +kernel
theorem dX1_will_4 : decode cX1_will 4 = .ok (.iconst 0, 1) := by decide +kernel
theorem dX1_will_5 : decode cX1_will 5 = .ok (.aload_n 0, 1) := by decide +kernel
theorem dX1_will_6 : decode cX1_will 6 = .ok (.getfield 60, 3) := by decide +kernel
theorem dX1_will_9 : decode cX1_will 9 = .ok (.iastore, 1) := by decide +kernel
theorem dX1_will_10 : decode cX1_will 10 = .ok (.aload_n 0, 1) := by decide +kernel
theorem dX1_will_11 : decode cX1_will 11 = .ok (.getfield 50, 3) := by decide +kernel
theorem dX1_will_14 : decode cX1_will 14 = .ok (.iconst 1, 1) := by decide +kernel
theorem dX1_will_15 : decode cX1_will 15 = .ok (.aload_n 0, 1) := by decide +kernel
theorem dX1_will_16 : decode cX1_will 16 = .ok (.getfield 31, 3) := by decide +kernel
theorem dX1_will_19 : decode cX1_will 19 = .ok (.iload_n 1, 1) := by decide +kernel
theorem dX1_will_20 : decode cX1_will 20 = .ok (.iaload, 1) := by decide +kernel
theorem dX1_will_21 : decode cX1_will 21 = .ok (.iastore, 1) := by decide +kernel
theorem dX1_will_22 : decode cX1_will 22 = .ok (.aload_n 0, 1) := by decide +kernel
theorem dX1_will_23 : decode cX1_will 23 = .ok (.getfield 50, 3) := by decide +kernel
theorem dX1_will_26 : decode cX1_will 26 = .ok (.iconst 2, 1) := by decide +kernel
theorem dX1_will_27 : decode cX1_will 27 = .ok (.aload_n 0, 1) := by decide +kernel
theorem dX1_will_28 : decode cX1_will 28 = .ok (.getfield 34, 3) := by decide +kernel
theorem dX1_will_31 : decode cX1_will 31 = .ok (.iload_n 1, 1) := by decide +kernel
theorem dX1_will_32 : decode cX1_will 32 = .ok (.iaload, 1) := by decide +kernel
theorem dX1_will_33 : decode cX1_will 33 = .ok (.iastore, 1) := by decide +kernel
theorem dX1_will_34 : decode cX1_will 34 = .ok (.aload_n 0, 1) := by decide +kernel
theorem dX1_will_35 : decode cX1_will 35 = .ok (.getfield 50, 3) := by decide +kernel
theorem dX1_will_38 : decode cX1_will 38 = .ok (.iconst 3, 1) := by decide +kernel
theorem dX1_will_39 : decode cX1_will 39 = .ok (.aload_n 0, 1) := by decide +kernel
theorem dX1_will_40 : decode cX1_will 40 = .ok (.aload_n 0, 1) := by decide +kernel
theorem dX1_will_41 : decode cX1_will 41 = .ok (.getfield 60, 3) := by decide +kernel
theorem dX1_will_44 : decode cX1_will 44 = .ok (.invokevirtual 98, 3) := by decide +kernel
theorem dX1_will_47 : decode cX1_will 47 = .ok (.iastore, 1) := by decide +kernel
theorem dX1_will_48 : decode cX1_will 48 = .ok (.aload_n 0, 1) := by decide +kernel
theorem dX1_will_49 : decode cX1_will 49 = .ok (.getfield 50, 3) := by decide +kernel
theorem dX1_will_52 : decode cX1_will 52 = .ok (.iconst 4, 1) := by decide +kernel
theorem dX1_will_53 : decode cX1_will 53 = .ok (.iload_n 1, 1) := by decide +kernel
theorem dX1_will_54 : decode cX1_will 54 = .ok (.iastore, 1) := by decide +kernel
theorem dX1_will_55 : decode cX1_will 55 = .ok (.aload_n 0, 1) := by decide +kernel
theorem dX1_will_56 : decode cX1_will 56 = .ok (.getfield 43, 3) := by decide +kernel
theorem dX1_will_59 : decode cX1_will 59 = .ok (.aload_n 0, 1) := by decide +kernel
theorem dX1_will_60 : decode cX1_will 60 = .ok (.getfield 28, 3) := by decide +kernel
theorem dX1_will_63 : decode cX1_will 63 = .ok (.iload_n 1, 1) := by decide +kernel
theorem dX1_will_64 : decode cX1_will 64 = .ok (.iaload, 1) := by decide +kernel
theorem dX1_will_65 : decode cX1_will 65 = .ok (.aload_n 0, 1) := by decide +kernel
theorem dX1_will_66 : decode cX1_will 66 = .ok (.getfield 50, 3) := by decide +kernel
theorem dX1_will_69 : decode cX1_will 69 = .ok (.invokevirtual 127, 3) := by decide +kernel
theorem dX1_will_72 : decode cX1_will 72 = .ok (.ireturn, 1) := by decide +kernel
theorem oX1_will_0 : oP MT mX1_will 0 (1, 1, 0, 1, []) := o_aload_n dX1_will_0 rfl
theorem oX1_will_1 : oP MT mX1_will 1 (13, 3, 17, 1, []) := o_getR (M := mX1_will) (C := RX1) (T := TX1) (ci := 1) (j := 17) (z := 1) dX1_will_1 rfl lq_RX1_50 rfl rfl
theorem oX1_will_4 : oP MT mX1_will 4 (0, 1, 0, 0, []) := o_iconst dX1_will_4 (by decide)
theorem oX1_will_5 : oP MT mX1_will 5 (1, 1, 0, 1, []) := o_aload_n dX1_will_5 rfl
theorem oX1_will_6 : oP MT mX1_will 6 (12, 3, 1, 1, []) := o_getI (M := mX1_will) (C := RX1) (T := TX1) (ci := 1) (j := 1) (z := 1) dX1_will_6 rfl lq_RX1_60 rfl rfl
theorem oX1_will_9 : oP MT mX1_will 9 (18, 1, 0, 0, []) := o_iastore dX1_will_9
theorem oX1_will_10 : oP MT mX1_will 10 (1, 1, 0, 1, []) := o_aload_n dX1_will_10 rfl
theorem oX1_will_11 : oP MT mX1_will 11 (13, 3, 17, 1, []) := o_getR (M := mX1_will) (C := RX1) (T := TX1) (ci := 1) (j := 17) (z := 1) dX1_will_11 rfl lq_RX1_50 rfl rfl
theorem oX1_will_14 : oP MT mX1_will 14 (0, 1, 0, 1, []) := o_iconst dX1_will_14 (by decide)
theorem oX1_will_15 : oP MT mX1_will 15 (1, 1, 0, 1, []) := o_aload_n dX1_will_15 rfl
theorem oX1_will_16 : oP MT mX1_will 16 (13, 3, 11, 1, []) := o_getR (M := mX1_will) (C := RX1) (T := TX1) (ci := 1) (j := 11) (z := 1) dX1_will_16 rfl lq_RX1_31 rfl rfl
theorem oX1_will_19 : oP MT mX1_will 19 (1, 1, 1, 0, []) := o_iload_n dX1_will_19 rfl
theorem oX1_will_20 : oP MT mX1_will 20 (16, 1, 1, 0, []) := o_iaload dX1_will_20
theorem oX1_will_21 : oP MT mX1_will 21 (18, 1, 0, 0, []) := o_iastore dX1_will_21
theorem oX1_will_22 : oP MT mX1_will 22 (1, 1, 0, 1, []) := o_aload_n dX1_will_22 rfl
theorem oX1_will_23 : oP MT mX1_will 23 (13, 3, 17, 1, []) := o_getR (M := mX1_will) (C := RX1) (T := TX1) (ci := 1) (j := 17) (z := 1) dX1_will_23 rfl lq_RX1_50 rfl rfl
theorem oX1_will_26 : oP MT mX1_will 26 (0, 1, 0, 2, []) := o_iconst dX1_will_26 (by decide)
theorem oX1_will_27 : oP MT mX1_will 27 (1, 1, 0, 1, []) := o_aload_n dX1_will_27 rfl
theorem oX1_will_28 : oP MT mX1_will 28 (13, 3, 12, 1, []) := o_getR (M := mX1_will) (C := RX1) (T := TX1) (ci := 1) (j := 12) (z := 1) dX1_will_28 rfl lq_RX1_34 rfl rfl
theorem oX1_will_31 : oP MT mX1_will 31 (1, 1, 1, 0, []) := o_iload_n dX1_will_31 rfl
theorem oX1_will_32 : oP MT mX1_will 32 (16, 1, 1, 0, []) := o_iaload dX1_will_32
theorem oX1_will_33 : oP MT mX1_will 33 (18, 1, 0, 0, []) := o_iastore dX1_will_33
theorem oX1_will_34 : oP MT mX1_will 34 (1, 1, 0, 1, []) := o_aload_n dX1_will_34 rfl
theorem oX1_will_35 : oP MT mX1_will 35 (13, 3, 17, 1, []) := o_getR (M := mX1_will) (C := RX1) (T := TX1) (ci := 1) (j := 17) (z := 1) dX1_will_35 rfl lq_RX1_50 rfl rfl
theorem oX1_will_38 : oP MT mX1_will 38 (0, 1, 0, 3, []) := o_iconst dX1_will_38 (by decide)
theorem oX1_will_39 : oP MT mX1_will 39 (1, 1, 0, 1, []) := o_aload_n dX1_will_39 rfl
theorem oX1_will_40 : oP MT mX1_will 40 (1, 1, 0, 1, []) := o_aload_n dX1_will_40 rfl
theorem oX1_will_41 : oP MT mX1_will 41 (12, 3, 1, 1, []) := o_getI (M := mX1_will) (C := RX1) (T := TX1) (ci := 1) (j := 1) (z := 1) dX1_will_41 rfl lq_RX1_60 rfl rfl
theorem oX1_will_44 : oP MT mX1_will 44 (26, 3, 0, 1, [(1, 1)]) := o_callO ((vA.cons (v_callV dX1_will_44 (ci := 1) rfl rfl (mj := mX1_heatAt) mt_X1_heatAt cmq_X1_heatAt wq_88 wq_90 wq_91 (by decide) (by decide)) vA.nil))
theorem oX1_will_47 : oP MT mX1_will 47 (18, 1, 0, 0, []) := o_iastore dX1_will_47
theorem oX1_will_48 : oP MT mX1_will 48 (1, 1, 0, 1, []) := o_aload_n dX1_will_48 rfl
theorem oX1_will_49 : oP MT mX1_will 49 (13, 3, 17, 1, []) := o_getR (M := mX1_will) (C := RX1) (T := TX1) (ci := 1) (j := 17) (z := 1) dX1_will_49 rfl lq_RX1_50 rfl rfl
theorem oX1_will_52 : oP MT mX1_will 52 (0, 1, 0, 4, []) := o_iconst dX1_will_52 (by decide)
theorem oX1_will_53 : oP MT mX1_will 53 (1, 1, 1, 0, []) := o_iload_n dX1_will_53 rfl
theorem oX1_will_54 : oP MT mX1_will 54 (18, 1, 0, 0, []) := o_iastore dX1_will_54
theorem oX1_will_55 : oP MT mX1_will 55 (1, 1, 0, 1, []) := o_aload_n dX1_will_55 rfl
theorem oX1_will_56 : oP MT mX1_will 56 (13, 3, 14, 1, []) := o_getR (M := mX1_will) (C := RX1) (T := TX1) (ci := 1) (j := 14) (z := 1) dX1_will_56 rfl lq_RX1_43 rfl rfl
theorem oX1_will_59 : oP MT mX1_will 59 (1, 1, 0, 1, []) := o_aload_n dX1_will_59 rfl
theorem oX1_will_60 : oP MT mX1_will 60 (13, 3, 10, 1, []) := o_getR (M := mX1_will) (C := RX1) (T := TX1) (ci := 1) (j := 10) (z := 1) dX1_will_60 rfl lq_RX1_28 rfl rfl
theorem oX1_will_63 : oP MT mX1_will 63 (1, 1, 1, 0, []) := o_iload_n dX1_will_63 rfl
theorem oX1_will_64 : oP MT mX1_will 64 (16, 1, 1, 0, []) := o_iaload dX1_will_64
theorem oX1_will_65 : oP MT mX1_will 65 (1, 1, 0, 1, []) := o_aload_n dX1_will_65 rfl
theorem oX1_will_66 : oP MT mX1_will 66 (13, 3, 17, 1, []) := o_getR (M := mX1_will) (C := RX1) (T := TX1) (ci := 1) (j := 17) (z := 1) dX1_will_66 rfl lq_RX1_50 rfl rfl
theorem oX1_will_69 : oP MT mX1_will 69 (26, 3, 0, 2, [(6, 19)]) := o_callO ((vA.cons (v_callV dX1_will_69 (ci := 6) rfl rfl (mj := mX6_tells) mt_X6_tells cmq_X6_tells wq_92 wq_94 wq_95 (by decide) (by decide)) vA.nil))
theorem oX1_will_72 : oP MT mX1_will 72 (21, 1, 0, 0, []) := o_iret dX1_will_72 rfl
def ops_X1_will : List (Nat × aO) := [(0, (1, 1, 0, 1, [])), (1, (13, 3, 17, 1, [])), (4, (0, 1, 0, 0, [])), (5, (1, 1, 0, 1, [])), (6, (12, 3, 1, 1, [])), (9, (18, 1, 0, 0, [])), (10, (1, 1, 0, 1, [])), (11, (13, 3, 17, 1, [])), (14, (0, 1, 0, 1, [])), (15, (1, 1, 0, 1, [])), (16, (13, 3, 11, 1, [])), (19, (1, 1, 1, 0, [])), (20, (16, 1, 1, 0, [])), (21, (18, 1, 0, 0, [])), (22, (1, 1, 0, 1, [])), (23, (13, 3, 17, 1, [])), (26, (0, 1, 0, 2, [])), (27, (1, 1, 0, 1, [])), (28, (13, 3, 12, 1, [])), (31, (1, 1, 1, 0, [])), (32, (16, 1, 1, 0, [])), (33, (18, 1, 0, 0, [])), (34, (1, 1, 0, 1, [])), (35, (13, 3, 17, 1, [])), (38, (0, 1, 0, 3, [])), (39, (1, 1, 0, 1, [])), (40, (1, 1, 0, 1, [])), (41, (12, 3, 1, 1, [])), (44, (26, 3, 0, 1, [(1, 1)])), (47, (18, 1, 0, 0, [])), (48, (1, 1, 0, 1, [])), (49, (13, 3, 17, 1, [])), (52, (0, 1, 0, 4, [])), (53, (1, 1, 1, 0, [])), (54, (18, 1, 0, 0, [])), (55, (1, 1, 0, 1, [])), (56, (13, 3, 14, 1, [])), (59, (1, 1, 0, 1, [])), (60, (13, 3, 10, 1, [])), (63, (1, 1, 1, 0, [])), (64, (16, 1, 1, 0, [])), (65, (1, 1, 0, 1, [])), (66, (13, 3, 17, 1, [])), (69, (26, 3, 0, 2, [(6, 19)])), (72, (21, 1, 0, 0, []))]
theorem os_X1_will : oA MT mX1_will ops_X1_will := (oA.cons oX1_will_0 (oA.cons oX1_will_1 (oA.cons oX1_will_4 (oA.cons oX1_will_5 (oA.cons oX1_will_6 (oA.cons oX1_will_9 (oA.cons oX1_will_10 (oA.cons oX1_will_11 (oA.cons oX1_will_14 (oA.cons oX1_will_15 (oA.cons oX1_will_16 (oA.cons oX1_will_19 (oA.cons oX1_will_20 (oA.cons oX1_will_21 (oA.cons oX1_will_22 (oA.cons oX1_will_23 (oA.cons oX1_will_26 (oA.cons oX1_will_27 (oA.cons oX1_will_28 (oA.cons oX1_will_31 (oA.cons oX1_will_32 (oA.cons oX1_will_33 (oA.cons oX1_will_34 (oA.cons oX1_will_35 (oA.cons oX1_will_38 (oA.cons oX1_will_39 (oA.cons oX1_will_40 (oA.cons oX1_will_41 (oA.cons oX1_will_44 (oA.cons oX1_will_47 (oA.cons oX1_will_48 (oA.cons oX1_will_49 (oA.cons oX1_will_52 (oA.cons oX1_will_53 (oA.cons oX1_will_54 (oA.cons oX1_will_55 (oA.cons oX1_will_56 (oA.cons oX1_will_59 (oA.cons oX1_will_60 (oA.cons oX1_will_63 (oA.cons oX1_will_64 (oA.cons oX1_will_65 (oA.cons oX1_will_66 (oA.cons oX1_will_69 (oA.cons oX1_will_72 oA.nil)))))))))))))))))))))))))))))))))))))))))))))
theorem dX1_isKey_0 : decode cX1_isKey 0 = .ok (.iload_n 1, 1) := by decide +kernel
theorem dX1_isKey_1 : decode cX1_isKey 1 = .ok (.ifCond .lt 15, 3) := by decide +kernel
theorem dX1_isKey_4 : decode cX1_isKey 4 = .ok (.iload_n 1, 1) := by decide +kernel
theorem dX1_isKey_5 : decode cX1_isKey 5 = .ok (.aload_n 0, 1) := by decide +kernel
theorem dX1_isKey_6 : decode cX1_isKey 6 = .ok (.getfield 72, 3) := by decide +kernel
theorem dX1_isKey_9 : decode cX1_isKey 9 = .ok (.if_icmp .ge 7, 3) := by decide +kernel
theorem dX1_isKey_12 : decode cX1_isKey 12 = .ok (.iconst 1, 1) := by decide +kernel
theorem dX1_isKey_13 : decode cX1_isKey 13 = .ok (.goto 4, 3) := by decide +kernel
theorem dX1_isKey_16 : decode cX1_isKey 16 = .ok (.iconst 0, 1) := by decide +kernel
theorem dX1_isKey_17 : decode cX1_isKey 17 = .ok (.ireturn, 1) := by decide +kernel
theorem oX1_isKey_0 : oP MT mX1_isKey 0 (1, 1, 1, 0, []) := o_iload_n dX1_isKey_0 rfl
theorem oX1_isKey_1 : oP MT mX1_isKey 1 (10, 3, 2, 16, []) := o_if_lt dX1_isKey_1 (by decide) (by decide)
theorem oX1_isKey_4 : oP MT mX1_isKey 4 (1, 1, 1, 0, []) := o_iload_n dX1_isKey_4 rfl
theorem oX1_isKey_5 : oP MT mX1_isKey 5 (1, 1, 0, 1, []) := o_aload_n dX1_isKey_5 rfl
theorem oX1_isKey_6 : oP MT mX1_isKey 6 (12, 3, 8, 1, []) := o_getI (M := mX1_isKey) (C := RX1) (T := TX1) (ci := 1) (j := 8) (z := 1) dX1_isKey_6 rfl lq_RX1_72 rfl rfl
theorem oX1_isKey_9 : oP MT mX1_isKey 9 (11, 3, 3, 16, []) := o_icmp_ge dX1_isKey_9 (by decide) (by decide)
theorem oX1_isKey_12 : oP MT mX1_isKey 12 (0, 1, 0, 1, []) := o_iconst dX1_isKey_12 (by decide)
theorem oX1_isKey_13 : oP MT mX1_isKey 13 (9, 3, 17, 0, []) := o_goto dX1_isKey_13 (by decide)
theorem oX1_isKey_16 : oP MT mX1_isKey 16 (0, 1, 0, 0, []) := o_iconst dX1_isKey_16 (by decide)
theorem oX1_isKey_17 : oP MT mX1_isKey 17 (22, 1, 0, 0, []) := o_zret dX1_isKey_17 rfl
def ops_X1_isKey : List (Nat × aO) := [(0, (1, 1, 1, 0, [])), (1, (10, 3, 2, 16, [])), (4, (1, 1, 1, 0, [])), (5, (1, 1, 0, 1, [])), (6, (12, 3, 8, 1, [])), (9, (11, 3, 3, 16, [])), (12, (0, 1, 0, 1, [])), (13, (9, 3, 17, 0, [])), (16, (0, 1, 0, 0, [])), (17, (22, 1, 0, 0, []))]
theorem os_X1_isKey : oA MT mX1_isKey ops_X1_isKey := (oA.cons oX1_isKey_0 (oA.cons oX1_isKey_1 (oA.cons oX1_isKey_4 (oA.cons oX1_isKey_5 (oA.cons oX1_isKey_6 (oA.cons oX1_isKey_9 (oA.cons oX1_isKey_12 (oA.cons oX1_isKey_13 (oA.cons oX1_isKey_16 (oA.cons oX1_isKey_17 oA.nil))))))))))
theorem dX1_setTurned_0 : decode cX1_setTurned 0 = .ok (.aload_n 0, 1) := by decide +kernel
theorem dX1_setTurned_1 : decode cX1_setTurned 1 = .ok (.iload_n 2, 1) := by decide +kernel
theorem dX1_setTurned_2 : decode cX1_setTurned 2 = .ok (.ifCond .eq 14, 3) := by decide +kernel
theorem dX1_setTurned_5 : decode cX1_setTurned 5 = .ok (.aload_n 0, 1) := by decide +kernel
theorem dX1_setTurned_6 : decode cX1_setTurned 6 = .ok (.getfield 75, 3) := by decide +kernel
theorem dX1_setTurned_9 : decode cX1_setTurned 9 = .ok (.iconst 1, 1) := by decide +kernel
theorem dX1_setTurned_10 : decode cX1_setTurned 10 = .ok (.iload_n 1, 1) := by decide +kernel
theorem dX1_setTurned_11 : decode cX1_setTurned 11 = .ok (.ishl, 1) := by decide +kernel
theorem dX1_setTurned_12 : decode cX1_setTurned 12 = .ok (.ior, 1) := by decide +kernel
theorem dX1_setTurned_13 : decode cX1_setTurned 13 = .ok (.goto 13, 3) := by decide +kernel
theorem dX1_setTurned_16 : decode cX1_setTurned 16 = .ok (.aload_n 0, 1) := by decide +kernel
theorem dX1_setTurned_17 : decode cX1_setTurned 17 = .ok (.getfield 75, 3) := by decide +kernel
theorem dX1_setTurned_20 : decode cX1_setTurned 20 = .ok (.iconst 1, 1) := by decide +kernel
theorem dX1_setTurned_21 : decode cX1_setTurned 21 = .ok (.iload_n 1, 1) := by decide +kernel
theorem dX1_setTurned_22 : decode cX1_setTurned 22 = .ok (.ishl, 1) := by decide +kernel
theorem dX1_setTurned_23 : decode cX1_setTurned 23 = .ok (.iconst (-1), 1) := by decide +kernel
theorem dX1_setTurned_24 : decode cX1_setTurned 24 = .ok (.ixor, 1) := by decide +kernel
theorem dX1_setTurned_25 : decode cX1_setTurned 25 = .ok (.iand, 1) := by decide +kernel
theorem dX1_setTurned_26 : decode cX1_setTurned 26 = .ok (.putfield 75, 3) := by decide +kernel
theorem dX1_setTurned_29 : decode cX1_setTurned 29 = .ok (.return_, 1) := by decide +kernel
theorem oX1_setTurned_0 : oP MT mX1_setTurned 0 (1, 1, 0, 1, []) := o_aload_n dX1_setTurned_0 rfl
theorem oX1_setTurned_1 : oP MT mX1_setTurned 1 (1, 1, 2, 0, []) := o_iload_n dX1_setTurned_1 rfl
theorem oX1_setTurned_2 : oP MT mX1_setTurned 2 (10, 3, 0, 16, []) := o_if_eq dX1_setTurned_2 (by decide) (by decide)
theorem oX1_setTurned_5 : oP MT mX1_setTurned 5 (1, 1, 0, 1, []) := o_aload_n dX1_setTurned_5 rfl
theorem oX1_setTurned_6 : oP MT mX1_setTurned 6 (12, 3, 9, 1, []) := o_getI (M := mX1_setTurned) (C := RX1) (T := TX1) (ci := 1) (j := 9) (z := 1) dX1_setTurned_6 rfl lq_RX1_75 rfl rfl
theorem oX1_setTurned_9 : oP MT mX1_setTurned 9 (0, 1, 0, 1, []) := o_iconst dX1_setTurned_9 (by decide)
theorem oX1_setTurned_10 : oP MT mX1_setTurned 10 (1, 1, 1, 0, []) := o_iload_n dX1_setTurned_10 rfl
theorem oX1_setTurned_11 : oP MT mX1_setTurned 11 (4, 1, 6, 0, []) := o_ishl dX1_setTurned_11
theorem oX1_setTurned_12 : oP MT mX1_setTurned 12 (4, 1, 4, 0, []) := o_ior dX1_setTurned_12
theorem oX1_setTurned_13 : oP MT mX1_setTurned 13 (9, 3, 26, 0, []) := o_goto dX1_setTurned_13 (by decide)
theorem oX1_setTurned_16 : oP MT mX1_setTurned 16 (1, 1, 0, 1, []) := o_aload_n dX1_setTurned_16 rfl
theorem oX1_setTurned_17 : oP MT mX1_setTurned 17 (12, 3, 9, 1, []) := o_getI (M := mX1_setTurned) (C := RX1) (T := TX1) (ci := 1) (j := 9) (z := 1) dX1_setTurned_17 rfl lq_RX1_75 rfl rfl
theorem oX1_setTurned_20 : oP MT mX1_setTurned 20 (0, 1, 0, 1, []) := o_iconst dX1_setTurned_20 (by decide)
theorem oX1_setTurned_21 : oP MT mX1_setTurned 21 (1, 1, 1, 0, []) := o_iload_n dX1_setTurned_21 rfl
theorem oX1_setTurned_22 : oP MT mX1_setTurned 22 (4, 1, 6, 0, []) := o_ishl dX1_setTurned_22
theorem oX1_setTurned_23 : oP MT mX1_setTurned 23 (0, 1, 0, (-1), []) := o_iconst dX1_setTurned_23 (by decide)
theorem oX1_setTurned_24 : oP MT mX1_setTurned 24 (4, 1, 5, 0, []) := o_ixor dX1_setTurned_24
theorem oX1_setTurned_25 : oP MT mX1_setTurned 25 (4, 1, 3, 0, []) := o_iand dX1_setTurned_25
theorem oX1_setTurned_26 : oP MT mX1_setTurned 26 (14, 3, 9, 1, []) := o_putI (M := mX1_setTurned) (C := RX1) (T := TX1) (ci := 1) (j := 9) (z := 1) dX1_setTurned_26 rfl lq_RX1_75 rfl rfl rfl rfl
theorem oX1_setTurned_29 : oP MT mX1_setTurned 29 (23, 1, 0, 0, []) := o_vret dX1_setTurned_29 rfl
def ops_X1_setTurned : List (Nat × aO) := [(0, (1, 1, 0, 1, [])), (1, (1, 1, 2, 0, [])), (2, (10, 3, 0, 16, [])), (5, (1, 1, 0, 1, [])), (6, (12, 3, 9, 1, [])), (9, (0, 1, 0, 1, [])), (10, (1, 1, 1, 0, [])), (11, (4, 1, 6, 0, [])), (12, (4, 1, 4, 0, [])), (13, (9, 3, 26, 0, [])), (16, (1, 1, 0, 1, [])), (17, (12, 3, 9, 1, [])), (20, (0, 1, 0, 1, [])), (21, (1, 1, 1, 0, [])), (22, (4, 1, 6, 0, [])), (23, (0, 1, 0, (-1), [])), (24, (4, 1, 5, 0, [])), (25, (4, 1, 3, 0, [])), (26, (14, 3, 9, 1, [])), (29, (23, 1, 0, 0, []))]
theorem os_X1_setTurned : oA MT mX1_setTurned ops_X1_setTurned := (oA.cons oX1_setTurned_0 (oA.cons oX1_setTurned_1 (oA.cons oX1_setTurned_2 (oA.cons oX1_setTurned_5 (oA.cons oX1_setTurned_6 (oA.cons oX1_setTurned_9 (oA.cons oX1_setTurned_10 (oA.cons oX1_setTurned_11 (oA.cons oX1_setTurned_12 (oA.cons oX1_setTurned_13 (oA.cons oX1_setTurned_16 (oA.cons oX1_setTurned_17 (oA.cons oX1_setTurned_20 (oA.cons oX1_setTurned_21 (oA.cons oX1_setTurned_22 (oA.cons oX1_setTurned_23 (oA.cons oX1_setTurned_24 (oA.cons oX1_setTurned_25 (oA.cons oX1_setTurned_26 (oA.cons oX1_setTurned_29 oA.nil))))))))))))))))))))
theorem dX1_melts_0 : decode cX1_melts 0 = .ok (.aload_n 0, 1) := by decide +kernel
theorem dX1_melts_1 : decode cX1_melts 1 = .ok (.getfield 56, 3) := by decide +kernel
theorem dX1_melts_4 : decode cX1_melts 4 = .ok (.aload_n 0, 1) := by decide +kernel
theorem dX1_melts_5 : decode cX1_melts 5 = .ok (.getfield 28, 3) := by decide +kernel
theorem dX1_melts_8 : decode cX1_melts 8 = .ok (.iload_n 1, 1) := by decide +kernel
theorem dX1_melts_9 : decode cX1_melts 9 = .ok (.iaload, 1) := by decide +kernel
theorem dX1_melts_10 : decode cX1_melts 10 = .ok (.aaload, 1) := by decide +kernel
theorem dX1_melts_11 : decode cX1_melts 11 = .ok (.aload_n 0, 1) := by decide +kernel
theorem dX1_melts_12 : decode cX1_melts 12 = .ok (.aload_n 0, 1) := by decide +kernel
theorem dX1_melts_13 : decode cX1_melts 13 = .ok (.getfield 60, 3) := by decide +kernel
theorem dX1_melts_16 : decode cX1_melts 16 = .ok (.invokevirtual 98, 3) := by decide +kernel
theorem dX1_melts_19 : decode cX1_melts 19 = .ok (.aload_n 0, 1) := by decide +kernel
theorem dX1_melts_20 : decode cX1_melts 20 = .ok (.aload_n 0, 1) := by decide +kernel
theorem dX1_melts_21 : decode cX1_melts 21 = .ok (.getfield 60, 3) := by decide +kernel
theorem dX1_melts_24 : decode cX1_melts 24 = .ok (.invokevirtual 101, 3) := by decide +kernel
theorem dX1_melts_27 : decode cX1_melts 27 = .ok (.aload_n 0, 1) := by decide +kernel
theorem dX1_melts_28 : decode cX1_melts 28 = .ok (.getfield 60, 3) := by decide +kernel
theorem dX1_melts_31 : decode cX1_melts 31 = .ok (.invokevirtual 104, 3) := by decide +kernel
theorem dX1_melts_34 : decode cX1_melts 34 = .ok (.istore_n 2, 1) := by decide +kernel
theorem dX1_melts_35 : decode cX1_melts 35 = .ok (.iconst 0, 1) := by decide +kernel
theorem dX1_melts_36 : decode cX1_melts 36 = .ok (.iload_n 2, 1) := by decide +kernel
theorem dX1_melts_37 : decode cX1_melts 37 = .ok (.aload_n 0, 1) := by decide +kernel
theorem dX1_melts_38 : decode cX1_melts 38 = .ok (.getfield 34, 3) := by decide +kernel
theorem dX1_melts_41 : decode cX1_melts 41 = .ok (.iload_n 1, 1) := by decide +kernel
theorem dX1_melts_42 : decode cX1_melts 42 = .ok (.iaload, 1) := by decide +kernel
theorem dX1_melts_43 : decode cX1_melts 43 = .ok (.iconst 3, 1) := by decide +kernel
theorem dX1_melts_44 : decode cX1_melts 44 = .ok (.idiv, 1) := by decide +kernel
theorem dX1_melts_45 : decode cX1_melts 45 = .ok (.isub, 1) := by decide +kernel
theorem dX1_melts_46 : decode cX1_melts 46 = .ok (.aload_n 0, 1) := by decide +kernel
theorem dX1_melts_47 : decode cX1_melts 47 = .ok (.iload_n 1, 1) := by decide +kernel
theorem dX1_melts_48 : decode cX1_melts 48 = .ok (.invokevirtual 110, 3) := by decide +kernel
theorem dX1_melts_51 : decode cX1_melts 51 = .ok (.isub, 1) := by decide +kernel
theorem dX1_melts_52 : decode cX1_melts 52 = .ok (.invokestatic 91, 3) := by decide +kernel
theorem dX1_melts_55 : decode cX1_melts 55 = .ok (.ireturn, 1) := by decide +kernel
theorem oX1_melts_0 : oP MT mX1_melts 0 (1, 1, 0, 1, []) := o_aload_n dX1_melts_0 rfl
theorem oX1_melts_1 : oP MT mX1_melts 1 (13, 3, 0, 1, []) := o_getR (M := mX1_melts) (C := RX1) (T := TX1) (ci := 1) (j := 0) (z := 1) dX1_melts_1 rfl lq_RX1_56 rfl rfl
theorem oX1_melts_4 : oP MT mX1_melts 4 (1, 1, 0, 1, []) := o_aload_n dX1_melts_4 rfl
theorem oX1_melts_5 : oP MT mX1_melts 5 (13, 3, 10, 1, []) := o_getR (M := mX1_melts) (C := RX1) (T := TX1) (ci := 1) (j := 10) (z := 1) dX1_melts_5 rfl lq_RX1_28 rfl rfl
theorem oX1_melts_8 : oP MT mX1_melts 8 (1, 1, 1, 0, []) := o_iload_n dX1_melts_8 rfl
theorem oX1_melts_9 : oP MT mX1_melts 9 (16, 1, 1, 0, []) := o_iaload dX1_melts_9
theorem oX1_melts_10 : oP MT mX1_melts 10 (17, 1, 0, 0, []) := o_aaload dX1_melts_10
theorem oX1_melts_11 : oP MT mX1_melts 11 (1, 1, 0, 1, []) := o_aload_n dX1_melts_11 rfl
theorem oX1_melts_12 : oP MT mX1_melts 12 (1, 1, 0, 1, []) := o_aload_n dX1_melts_12 rfl
theorem oX1_melts_13 : oP MT mX1_melts 13 (12, 3, 1, 1, []) := o_getI (M := mX1_melts) (C := RX1) (T := TX1) (ci := 1) (j := 1) (z := 1) dX1_melts_13 rfl lq_RX1_60 rfl rfl
theorem oX1_melts_16 : oP MT mX1_melts 16 (26, 3, 0, 1, [(1, 1)]) := o_callO ((vA.cons (v_callV dX1_melts_16 (ci := 1) rfl rfl (mj := mX1_heatAt) mt_X1_heatAt cmq_X1_heatAt wq_88 wq_90 wq_91 (by decide) (by decide)) vA.nil))
theorem oX1_melts_19 : oP MT mX1_melts 19 (1, 1, 0, 1, []) := o_aload_n dX1_melts_19 rfl
theorem oX1_melts_20 : oP MT mX1_melts 20 (1, 1, 0, 1, []) := o_aload_n dX1_melts_20 rfl
theorem oX1_melts_21 : oP MT mX1_melts 21 (12, 3, 1, 1, []) := o_getI (M := mX1_melts) (C := RX1) (T := TX1) (ci := 1) (j := 1) (z := 1) dX1_melts_21 rfl lq_RX1_60 rfl rfl
theorem oX1_melts_24 : oP MT mX1_melts 24 (26, 3, 0, 1, [(1, 3)]) := o_callO ((vA.cons (v_callV dX1_melts_24 (ci := 1) rfl rfl (mj := mX1_shadeAt) mt_X1_shadeAt cmq_X1_shadeAt wq_96 wq_98 wq_99 (by decide) (by decide)) vA.nil))
theorem oX1_melts_27 : oP MT mX1_melts 27 (1, 1, 0, 1, []) := o_aload_n dX1_melts_27 rfl
theorem oX1_melts_28 : oP MT mX1_melts 28 (12, 3, 1, 1, []) := o_getI (M := mX1_melts) (C := RX1) (T := TX1) (ci := 1) (j := 1) (z := 1) dX1_melts_28 rfl lq_RX1_60 rfl rfl
theorem oX1_melts_31 : oP MT mX1_melts 31 (26, 3, 0, 3, [(2, 4), (3, 5), (7, 6), (8, 7), (9, 8), (10, 9)]) := o_callO ((vA.cons (v_callU dX1_melts_31 (ci := 2) rfl rfl (mj := mX2_melts) mt_X2_melts cmq_X2_melts wq_101 wq_12 wq_14 wq_9 wq_102 wq_103 (by decide) (by decide) (by decide)) (vA.cons (v_callV dX1_melts_31 (ci := 3) rfl rfl (mj := mX3_melts) mt_X3_melts cmq_X3_melts wq_101 wq_14 wq_104 (by decide) (by decide)) (vA.cons (v_callU dX1_melts_31 (ci := 7) rfl rfl (mj := mX7_melts) mt_X7_melts cmq_X7_melts wq_101 wq_12 wq_14 wq_9 wq_105 wq_24 (by decide) (by decide) (by decide)) (vA.cons (v_callU dX1_melts_31 (ci := 8) rfl rfl (mj := mX8_melts) mt_X8_melts cmq_X8_melts wq_101 wq_12 wq_14 wq_9 wq_106 wq_30 (by decide) (by decide) (by decide)) (vA.cons (v_callU dX1_melts_31 (ci := 9) rfl rfl (mj := mX9_melts) mt_X9_melts cmq_X9_melts wq_101 wq_12 wq_14 wq_9 wq_108 wq_109 (by decide) (by decide) (by decide)) (vA.cons (v_callU dX1_melts_31 (ci := 10) rfl rfl (mj := mX10_melts) mt_X10_melts cmq_X10_melts wq_101 wq_12 wq_14 wq_9 wq_111 wq_112 (by decide) (by decide) (by decide)) vA.nil)))))))
theorem oX1_melts_34 : oP MT mX1_melts 34 (2, 1, 2, 0, []) := o_istore_n dX1_melts_34 rfl (by decide)
theorem oX1_melts_35 : oP MT mX1_melts 35 (0, 1, 0, 0, []) := o_iconst dX1_melts_35 (by decide)
theorem oX1_melts_36 : oP MT mX1_melts 36 (1, 1, 2, 0, []) := o_iload_n dX1_melts_36 rfl
theorem oX1_melts_37 : oP MT mX1_melts 37 (1, 1, 0, 1, []) := o_aload_n dX1_melts_37 rfl
theorem oX1_melts_38 : oP MT mX1_melts 38 (13, 3, 12, 1, []) := o_getR (M := mX1_melts) (C := RX1) (T := TX1) (ci := 1) (j := 12) (z := 1) dX1_melts_38 rfl lq_RX1_34 rfl rfl
theorem oX1_melts_41 : oP MT mX1_melts 41 (1, 1, 1, 0, []) := o_iload_n dX1_melts_41 rfl
theorem oX1_melts_42 : oP MT mX1_melts 42 (16, 1, 1, 0, []) := o_iaload dX1_melts_42
theorem oX1_melts_43 : oP MT mX1_melts 43 (0, 1, 0, 3, []) := o_iconst dX1_melts_43 (by decide)
theorem oX1_melts_44 : oP MT mX1_melts 44 (4, 1, 9, 0, []) := o_idiv dX1_melts_44
theorem oX1_melts_45 : oP MT mX1_melts 45 (4, 1, 1, 0, []) := o_isub dX1_melts_45
theorem oX1_melts_46 : oP MT mX1_melts 46 (1, 1, 0, 1, []) := o_aload_n dX1_melts_46 rfl
theorem oX1_melts_47 : oP MT mX1_melts 47 (1, 1, 1, 0, []) := o_iload_n dX1_melts_47 rfl
theorem oX1_melts_48 : oP MT mX1_melts 48 (26, 3, 0, 1, [(1, 10)]) := o_callO ((vA.cons (v_callV dX1_melts_48 (ci := 1) rfl rfl (mj := mX1_others) mt_X1_others cmq_X1_others wq_113 wq_115 wq_116 (by decide) (by decide)) vA.nil))
theorem oX1_melts_51 : oP MT mX1_melts 51 (4, 1, 1, 0, []) := o_isub dX1_melts_51
theorem oX1_melts_52 : oP MT mX1_melts 52 (27, 3, 0, 0, []) := o_max dX1_melts_52 wq_117 wq_16 wq_17 wq_18
theorem oX1_melts_55 : oP MT mX1_melts 55 (21, 1, 0, 0, []) := o_iret dX1_melts_55 rfl
def ops_X1_melts : List (Nat × aO) := [(0, (1, 1, 0, 1, [])), (1, (13, 3, 0, 1, [])), (4, (1, 1, 0, 1, [])), (5, (13, 3, 10, 1, [])), (8, (1, 1, 1, 0, [])), (9, (16, 1, 1, 0, [])), (10, (17, 1, 0, 0, [])), (11, (1, 1, 0, 1, [])), (12, (1, 1, 0, 1, [])), (13, (12, 3, 1, 1, [])), (16, (26, 3, 0, 1, [(1, 1)])), (19, (1, 1, 0, 1, [])), (20, (1, 1, 0, 1, [])), (21, (12, 3, 1, 1, [])), (24, (26, 3, 0, 1, [(1, 3)])), (27, (1, 1, 0, 1, [])), (28, (12, 3, 1, 1, [])), (31, (26, 3, 0, 3, [(2, 4), (3, 5), (7, 6), (8, 7), (9, 8), (10, 9)])), (34, (2, 1, 2, 0, [])), (35, (0, 1, 0, 0, [])), (36, (1, 1, 2, 0, [])), (37, (1, 1, 0, 1, [])), (38, (13, 3, 12, 1, [])), (41, (1, 1, 1, 0, [])), (42, (16, 1, 1, 0, [])), (43, (0, 1, 0, 3, [])), (44, (4, 1, 9, 0, [])), (45, (4, 1, 1, 0, [])), (46, (1, 1, 0, 1, [])), (47, (1, 1, 1, 0, [])), (48, (26, 3, 0, 1, [(1, 10)])), (51, (4, 1, 1, 0, [])), (52, (27, 3, 0, 0, [])), (55, (21, 1, 0, 0, []))]
theorem os_X1_melts : oA MT mX1_melts ops_X1_melts := (oA.cons oX1_melts_0 (oA.cons oX1_melts_1 (oA.cons oX1_melts_4 (oA.cons oX1_melts_5 (oA.cons oX1_melts_8 (oA.cons oX1_melts_9 (oA.cons oX1_melts_10 (oA.cons oX1_melts_11 (oA.cons oX1_melts_12 (oA.cons oX1_melts_13 (oA.cons oX1_melts_16 (oA.cons oX1_melts_19 (oA.cons oX1_melts_20 (oA.cons oX1_melts_21 (oA.cons oX1_melts_24 (oA.cons oX1_melts_27 (oA.cons oX1_melts_28 (oA.cons oX1_melts_31 (oA.cons oX1_melts_34 (oA.cons oX1_melts_35 (oA.cons oX1_melts_36 (oA.cons oX1_melts_37 (oA.cons oX1_melts_38 (oA.cons oX1_melts_41 (oA.cons oX1_melts_42 (oA.cons oX1_melts_43 (oA.cons oX1_melts_44 (oA.cons oX1_melts_45 (oA.cons oX1_melts_46 (oA.cons oX1_melts_47 (oA.cons oX1_melts_48 (oA.cons oX1_melts_51 (oA.cons oX1_melts_52 (oA.cons oX1_melts_55 oA.nil))))))))))))))))))))))))))))))))))
theorem dX1_tell_0 : decode cX1_tell 0 = .ok (.iload_n 1, 1) := by decide +kernel
theorem dX1_tell_1 : decode cX1_tell 1 = .ok (.iconst 1, 1) := by decide +kernel
theorem dX1_tell_2 : decode cX1_tell 2 = .ok (.isub, 1) := by decide +kernel
theorem dX1_tell_3 : decode cX1_tell 3 = .ok (.istore_n 2, 1) := by decide +kernel
theorem dX1_tell_4 : decode cX1_tell 4 = .ok (.aload_n 0, 1) := by decide +kernel
theorem dX1_tell_5 : decode cX1_tell 5 = .ok (.iload_n 2, 1) := by decide +kernel
theorem dX1_tell_6 : decode cX1_tell 6 = .ok (.invokevirtual 144, 3) := by decide +kernel
theorem dX1_tell_9 : decode cX1_tell 9 = .ok (.ifCond .eq 11, 3) := by decide +kernel
theorem dX1_tell_12 : decode cX1_tell 12 = .ok (.aload_n 0, 1) := by decide +kernel
theorem dX1_tell_13 : decode cX1_tell 13 = .ok (.iload_n 2, 1) := by decide +kernel
theorem dX1_tell_14 : decode cX1_tell 14 = .ok (.invokevirtual 113, 3) := by decide +kernel
theorem dX1_tell_17 : decode cX1_tell 17 = .ok (.ifCond .eq 5, 3) := by decide +kernel
theorem dX1_tell_20 : decode cX1_tell 20 = .ok (.iconst 0, 1) := by decide +kernel
theorem dX1_tell_21 : decode cX1_tell 21 = .ok (.ireturn, 1) := by decide +kernel
theorem dX1_tell_22 : decode cX1_tell 22 = .ok (.aload_n 0, 1) := by decide +kernel
theorem dX1_tell_23 : decode cX1_tell 23 = .ok (.iload_n 2, 1) := by decide +kernel
theorem dX1_tell_24 : decode cX1_tell 24 = .ok (.invokevirtual 134, 3) := by decide +kernel
theorem dX1_tell_27 : decode cX1_tell 27 = .ok (.istore_n 3, 1) := by decide +kernel
theorem dX1_tell_28 : decode cX1_tell 28 = .ok (.iload_n 3, 1) := by decide +kernel
theorem dX1_tell_29 : decode cX1_tell 29 = .ok (.ifCond .ne 28, 3) := by decide +kernel
theorem dX1_tell_32 : decode cX1_tell 32 = .ok (.aload_n 0, 1) := by decide +kernel
theorem dX1_tell_33 : decode cX1_tell 33 = .ok (.iload_n 2, 1) := by decide +kernel
theorem dX1_tell_34 : decode cX1_tell 34 = .ok (.invokevirtual 131, 3) := by decide +kernel
theorem dX1_tell_37 : decode cX1_tell 37 = .ok (.istore 4, 2) := by decide +kernel
theorem dX1_tell_39 : decode cX1_tell 39 = .ok (.aload_n 0, 1) := by decide +kernel
theorem dX1_tell_40 : decode cX1_tell 40 = .ok (.iload_n 2, 1) := by decide +kernel
theorem dX1_tell_41 : decode cX1_tell 41 = .ok (.iload 4, 2) := by decide +kernel
theorem dX1_tell_43 : decode cX1_tell 43 = .ok (.ifCond .le 7, 3) := by decide +kernel
theorem dX1_tell_46 : decode cX1_tell 46 = .ok (.iconst 1, 1) := by decide +kernel
theorem dX1_tell_47 : decode cX1_tell 47 = .ok (.goto 4, 3) := by decide +kernel
theorem dX1_tell_50 : decode cX1_tell 50 = .ok (.iconst 0, 1) := by decide +kernel
theorem dX1_tell_51 : decode cX1_tell 51 = .ok (.invokevirtual 147, 3) := by decide +kernel
theorem dX1_tell_54 : decode cX1_tell 54 = .ok (.iload 4, 2) := by decide +kernel
theorem dX1_tell_56 : decode cX1_tell 56 = .ok (.ireturn, 1) := by decide +kernel
theorem dX1_tell_57 : decode cX1_tell 57 = .ok (.iload_n 3, 1) := by decide +kernel
theorem dX1_tell_58 : decode cX1_tell 58 = .ok (.iconst 2, 1) := by decide +kernel
theorem dX1_tell_59 : decode cX1_tell 59 = .ok (.if_icmp .ne 37, 3) := by decide +kernel
theorem dX1_tell_62 : decode cX1_tell 62 = .ok (.aload_n 0, 1) := by decide +kernel
theorem dX1_tell_63 : decode cX1_tell 63 = .ok (.aload_n 0, 1) := by decide +kernel
theorem dX1_tell_64 : decode cX1_tell 64 = .ok (.getfield 60, 3) := by decide +kernel
theorem dX1_tell_67 : decode cX1_tell 67 = .ok (.invokevirtual 101, 3) := by decide +kernel
theorem dX1_tell_70 : decode cX1_tell 70 = .ok (.iconst 1, 1) := by decide +kernel
theorem dX1_tell_71 : decode cX1_tell 71 = .ok (.if_icmp .le 25, 3) := by decide +kernel
theorem dX1_tell_74 : decode cX1_tell 74 = .ok (.aload_n 0, 1) := by decide +kernel
theorem dX1_tell_75 : decode cX1_tell 75 = .ok (.getfield 31, 3) := by decide +kernel
theorem dX1_tell_78 : decode cX1_tell 78 = .ok (.iload_n 2, 1) := by decide +kernel
theorem dX1_tell_79 : decode cX1_tell 79 = .ok (.bipush 99, 2) := by decide +kernel
theorem dX1_tell_81 : decode cX1_tell 81 = .ok (.aload_n 0, 1) := by decide +kernel
theorem dX1_tell_82 : decode cX1_tell 82 = .ok (.getfield 31, 3) := by decide +kernel
theorem dX1_tell_85 : decode cX1_tell 85 = .ok (.iload_n 2, 1) := by decide +kernel
theorem dX1_tell_86 : decode cX1_tell 86 = .ok (.iaload, 1) := by decide +kernel
theorem dX1_tell_87 : decode cX1_tell 87 = .ok (.bipush 7, 2) := by decide +kernel
theorem dX1_tell_89 : decode cX1_tell 89 = .ok (.iadd, 1) := by decide +kernel
theorem dX1_tell_90 : decode cX1_tell 90 = .ok (.invokestatic 85, 3) := by decide +kernel
theorem dX1_tell_93 : decode cX1_tell 93 = .ok (.iastore, 1) := by decide +kernel
theorem dX1_tell_94 : decode cX1_tell 94 = .ok (.iconst 1, 1) := by decide +kernel
theorem dX1_tell_95 : decode cX1_tell 95 = .ok (.ireturn, 1) := by decide +kernel
theorem dX1_tell_96 : decode cX1_tell 96 = .ok (.iconst 0, 1) := by decide +kernel
theorem dX1_tell_97 : decode cX1_tell 97 = .ok (.ireturn, 1) := by decide +kernel
theorem oX1_tell_0 : oP MT mX1_tell 0 (1, 1, 1, 0, []) := o_iload_n dX1_tell_0 rfl
theorem oX1_tell_1 : oP MT mX1_tell 1 (0, 1, 0, 1, []) := o_iconst dX1_tell_1 (by decide)
theorem oX1_tell_2 : oP MT mX1_tell 2 (4, 1, 1, 0, []) := o_isub dX1_tell_2
theorem oX1_tell_3 : oP MT mX1_tell 3 (2, 1, 2, 0, []) := o_istore_n dX1_tell_3 rfl (by decide)
theorem oX1_tell_4 : oP MT mX1_tell 4 (1, 1, 0, 1, []) := o_aload_n dX1_tell_4 rfl
theorem oX1_tell_5 : oP MT mX1_tell 5 (1, 1, 2, 0, []) := o_iload_n dX1_tell_5 rfl
theorem oX1_tell_6 : oP MT mX1_tell 6 (26, 3, 0, 1, [(1, 26)]) := o_callO ((vA.cons (v_callV dX1_tell_6 (ci := 1) rfl rfl (mj := mX1_isKey) mt_X1_isKey cmq_X1_isKey wq_118 wq_120 wq_121 (by decide) (by decide)) vA.nil))
theorem oX1_tell_9 : oP MT mX1_tell 9 (10, 3, 0, 20, []) := o_if_eq dX1_tell_9 (by decide) (by decide)
theorem oX1_tell_12 : oP MT mX1_tell 12 (1, 1, 0, 1, []) := o_aload_n dX1_tell_12 rfl
theorem oX1_tell_13 : oP MT mX1_tell 13 (1, 1, 2, 0, []) := o_iload_n dX1_tell_13 rfl
theorem oX1_tell_14 : oP MT mX1_tell 14 (26, 3, 0, 1, [(1, 11)]) := o_callO ((vA.cons (v_callV dX1_tell_14 (ci := 1) rfl rfl (mj := mX1_isTurned) mt_X1_isTurned cmq_X1_isTurned wq_31 wq_33 wq_34 (by decide) (by decide)) vA.nil))
theorem oX1_tell_17 : oP MT mX1_tell 17 (10, 3, 0, 22, []) := o_if_eq dX1_tell_17 (by decide) (by decide)
theorem oX1_tell_20 : oP MT mX1_tell 20 (0, 1, 0, 0, []) := o_iconst dX1_tell_20 (by decide)
theorem oX1_tell_21 : oP MT mX1_tell 21 (21, 1, 0, 0, []) := o_iret dX1_tell_21 rfl
theorem oX1_tell_22 : oP MT mX1_tell 22 (1, 1, 0, 1, []) := o_aload_n dX1_tell_22 rfl
theorem oX1_tell_23 : oP MT mX1_tell 23 (1, 1, 2, 0, []) := o_iload_n dX1_tell_23 rfl
theorem oX1_tell_24 : oP MT mX1_tell 24 (26, 3, 0, 1, [(1, 25)]) := o_callO ((vA.cons (v_callV dX1_tell_24 (ci := 1) rfl rfl (mj := mX1_will) mt_X1_will cmq_X1_will wq_122 wq_124 wq_125 (by decide) (by decide)) vA.nil))
theorem oX1_tell_27 : oP MT mX1_tell 27 (2, 1, 3, 0, []) := o_istore_n dX1_tell_27 rfl (by decide)
theorem oX1_tell_28 : oP MT mX1_tell 28 (1, 1, 3, 0, []) := o_iload_n dX1_tell_28 rfl
theorem oX1_tell_29 : oP MT mX1_tell 29 (10, 3, 1, 57, []) := o_if_ne dX1_tell_29 (by decide) (by decide)
theorem oX1_tell_32 : oP MT mX1_tell 32 (1, 1, 0, 1, []) := o_aload_n dX1_tell_32 rfl
theorem oX1_tell_33 : oP MT mX1_tell 33 (1, 1, 2, 0, []) := o_iload_n dX1_tell_33 rfl
theorem oX1_tell_34 : oP MT mX1_tell 34 (26, 3, 0, 1, [(1, 24)]) := o_callO ((vA.cons (v_callV dX1_tell_34 (ci := 1) rfl rfl (mj := mX1_pays) mt_X1_pays cmq_X1_pays wq_126 wq_128 wq_129 (by decide) (by decide)) vA.nil))
theorem oX1_tell_37 : oP MT mX1_tell 37 (2, 2, 4, 0, []) := o_istore dX1_tell_37 (by decide)
theorem oX1_tell_39 : oP MT mX1_tell 39 (1, 1, 0, 1, []) := o_aload_n dX1_tell_39 rfl
theorem oX1_tell_40 : oP MT mX1_tell 40 (1, 1, 2, 0, []) := o_iload_n dX1_tell_40 rfl
theorem oX1_tell_41 : oP MT mX1_tell 41 (1, 2, 4, 0, []) := o_iload dX1_tell_41
theorem oX1_tell_43 : oP MT mX1_tell 43 (10, 3, 5, 50, []) := o_if_le dX1_tell_43 (by decide) (by decide)
theorem oX1_tell_46 : oP MT mX1_tell 46 (0, 1, 0, 1, []) := o_iconst dX1_tell_46 (by decide)
theorem oX1_tell_47 : oP MT mX1_tell 47 (9, 3, 51, 0, []) := o_goto dX1_tell_47 (by decide)
theorem oX1_tell_50 : oP MT mX1_tell 50 (0, 1, 0, 0, []) := o_iconst dX1_tell_50 (by decide)
theorem oX1_tell_51 : oP MT mX1_tell 51 (26, 3, 0, 2, [(1, 27)]) := o_callO ((vA.cons (v_callV dX1_tell_51 (ci := 1) rfl rfl (mj := mX1_setTurned) mt_X1_setTurned cmq_X1_setTurned wq_130 wq_132 wq_133 (by decide) (by decide)) vA.nil))
theorem oX1_tell_54 : oP MT mX1_tell 54 (1, 2, 4, 0, []) := o_iload dX1_tell_54
theorem oX1_tell_56 : oP MT mX1_tell 56 (21, 1, 0, 0, []) := o_iret dX1_tell_56 rfl
theorem oX1_tell_57 : oP MT mX1_tell 57 (1, 1, 3, 0, []) := o_iload_n dX1_tell_57 rfl
theorem oX1_tell_58 : oP MT mX1_tell 58 (0, 1, 0, 2, []) := o_iconst dX1_tell_58 (by decide)
theorem oX1_tell_59 : oP MT mX1_tell 59 (11, 3, 1, 96, []) := o_icmp_ne dX1_tell_59 (by decide) (by decide)
theorem oX1_tell_62 : oP MT mX1_tell 62 (1, 1, 0, 1, []) := o_aload_n dX1_tell_62 rfl
theorem oX1_tell_63 : oP MT mX1_tell 63 (1, 1, 0, 1, []) := o_aload_n dX1_tell_63 rfl
theorem oX1_tell_64 : oP MT mX1_tell 64 (12, 3, 1, 1, []) := o_getI (M := mX1_tell) (C := RX1) (T := TX1) (ci := 1) (j := 1) (z := 1) dX1_tell_64 rfl lq_RX1_60 rfl rfl
theorem oX1_tell_67 : oP MT mX1_tell 67 (26, 3, 0, 1, [(1, 3)]) := o_callO ((vA.cons (v_callV dX1_tell_67 (ci := 1) rfl rfl (mj := mX1_shadeAt) mt_X1_shadeAt cmq_X1_shadeAt wq_96 wq_98 wq_99 (by decide) (by decide)) vA.nil))
theorem oX1_tell_70 : oP MT mX1_tell 70 (0, 1, 0, 1, []) := o_iconst dX1_tell_70 (by decide)
theorem oX1_tell_71 : oP MT mX1_tell 71 (11, 3, 5, 96, []) := o_icmp_le dX1_tell_71 (by decide) (by decide)
theorem oX1_tell_74 : oP MT mX1_tell 74 (1, 1, 0, 1, []) := o_aload_n dX1_tell_74 rfl
theorem oX1_tell_75 : oP MT mX1_tell 75 (13, 3, 11, 1, []) := o_getR (M := mX1_tell) (C := RX1) (T := TX1) (ci := 1) (j := 11) (z := 1) dX1_tell_75 rfl lq_RX1_31 rfl rfl
theorem oX1_tell_78 : oP MT mX1_tell 78 (1, 1, 2, 0, []) := o_iload_n dX1_tell_78 rfl
theorem oX1_tell_79 : oP MT mX1_tell 79 (0, 2, 0, 99, []) := o_bipush dX1_tell_79 (by decide)
theorem oX1_tell_81 : oP MT mX1_tell 81 (1, 1, 0, 1, []) := o_aload_n dX1_tell_81 rfl
theorem oX1_tell_82 : oP MT mX1_tell 82 (13, 3, 11, 1, []) := o_getR (M := mX1_tell) (C := RX1) (T := TX1) (ci := 1) (j := 11) (z := 1) dX1_tell_82 rfl lq_RX1_31 rfl rfl
theorem oX1_tell_85 : oP MT mX1_tell 85 (1, 1, 2, 0, []) := o_iload_n dX1_tell_85 rfl
theorem oX1_tell_86 : oP MT mX1_tell 86 (16, 1, 1, 0, []) := o_iaload dX1_tell_86
theorem oX1_tell_87 : oP MT mX1_tell 87 (0, 2, 0, 7, []) := o_bipush dX1_tell_87 (by decide)
theorem oX1_tell_89 : oP MT mX1_tell 89 (4, 1, 0, 0, []) := o_iadd dX1_tell_89
theorem oX1_tell_90 : oP MT mX1_tell 90 (27, 3, 1, 0, []) := o_min dX1_tell_90 wq_134 wq_40 wq_17 wq_41
theorem oX1_tell_93 : oP MT mX1_tell 93 (18, 1, 0, 0, []) := o_iastore dX1_tell_93
theorem oX1_tell_94 : oP MT mX1_tell 94 (0, 1, 0, 1, []) := o_iconst dX1_tell_94 (by decide)
theorem oX1_tell_95 : oP MT mX1_tell 95 (21, 1, 0, 0, []) := o_iret dX1_tell_95 rfl
theorem oX1_tell_96 : oP MT mX1_tell 96 (0, 1, 0, 0, []) := o_iconst dX1_tell_96 (by decide)
theorem oX1_tell_97 : oP MT mX1_tell 97 (21, 1, 0, 0, []) := o_iret dX1_tell_97 rfl
def ops_X1_tell : List (Nat × aO) := [(0, (1, 1, 1, 0, [])), (1, (0, 1, 0, 1, [])), (2, (4, 1, 1, 0, [])), (3, (2, 1, 2, 0, [])), (4, (1, 1, 0, 1, [])), (5, (1, 1, 2, 0, [])), (6, (26, 3, 0, 1, [(1, 26)])), (9, (10, 3, 0, 20, [])), (12, (1, 1, 0, 1, [])), (13, (1, 1, 2, 0, [])), (14, (26, 3, 0, 1, [(1, 11)])), (17, (10, 3, 0, 22, [])), (20, (0, 1, 0, 0, [])), (21, (21, 1, 0, 0, [])), (22, (1, 1, 0, 1, [])), (23, (1, 1, 2, 0, [])), (24, (26, 3, 0, 1, [(1, 25)])), (27, (2, 1, 3, 0, [])), (28, (1, 1, 3, 0, [])), (29, (10, 3, 1, 57, [])), (32, (1, 1, 0, 1, [])), (33, (1, 1, 2, 0, [])), (34, (26, 3, 0, 1, [(1, 24)])), (37, (2, 2, 4, 0, [])), (39, (1, 1, 0, 1, [])), (40, (1, 1, 2, 0, [])), (41, (1, 2, 4, 0, [])), (43, (10, 3, 5, 50, [])), (46, (0, 1, 0, 1, [])), (47, (9, 3, 51, 0, [])), (50, (0, 1, 0, 0, [])), (51, (26, 3, 0, 2, [(1, 27)])), (54, (1, 2, 4, 0, [])), (56, (21, 1, 0, 0, [])), (57, (1, 1, 3, 0, [])), (58, (0, 1, 0, 2, [])), (59, (11, 3, 1, 96, [])), (62, (1, 1, 0, 1, [])), (63, (1, 1, 0, 1, [])), (64, (12, 3, 1, 1, [])), (67, (26, 3, 0, 1, [(1, 3)])), (70, (0, 1, 0, 1, [])), (71, (11, 3, 5, 96, [])), (74, (1, 1, 0, 1, [])), (75, (13, 3, 11, 1, [])), (78, (1, 1, 2, 0, [])), (79, (0, 2, 0, 99, [])), (81, (1, 1, 0, 1, [])), (82, (13, 3, 11, 1, [])), (85, (1, 1, 2, 0, [])), (86, (16, 1, 1, 0, [])), (87, (0, 2, 0, 7, [])), (89, (4, 1, 0, 0, [])), (90, (27, 3, 1, 0, [])), (93, (18, 1, 0, 0, [])), (94, (0, 1, 0, 1, [])), (95, (21, 1, 0, 0, [])), (96, (0, 1, 0, 0, [])), (97, (21, 1, 0, 0, []))]
theorem os_X1_tell : oA MT mX1_tell ops_X1_tell := (oA.cons oX1_tell_0 (oA.cons oX1_tell_1 (oA.cons oX1_tell_2 (oA.cons oX1_tell_3 (oA.cons oX1_tell_4 (oA.cons oX1_tell_5 (oA.cons oX1_tell_6 (oA.cons oX1_tell_9 (oA.cons oX1_tell_12 (oA.cons oX1_tell_13 (oA.cons oX1_tell_14 (oA.cons oX1_tell_17 (oA.cons oX1_tell_20 (oA.cons oX1_tell_21 (oA.cons oX1_tell_22 (oA.cons oX1_tell_23 (oA.cons oX1_tell_24 (oA.cons oX1_tell_27 (oA.cons oX1_tell_28 (oA.cons oX1_tell_29 (oA.cons oX1_tell_32 (oA.cons oX1_tell_33 (oA.cons oX1_tell_34 (oA.cons oX1_tell_37 (oA.cons oX1_tell_39 (oA.cons oX1_tell_40 (oA.cons oX1_tell_41 (oA.cons oX1_tell_43 (oA.cons oX1_tell_46 (oA.cons oX1_tell_47 (oA.cons oX1_tell_50 (oA.cons oX1_tell_51 (oA.cons oX1_tell_54 (oA.cons oX1_tell_56 (oA.cons oX1_tell_57 (oA.cons oX1_tell_58 (oA.cons oX1_tell_59 (oA.cons oX1_tell_62 (oA.cons oX1_tell_63 (oA.cons oX1_tell_64 (oA.cons oX1_tell_67 (oA.cons oX1_tell_70 (oA.cons oX1_tell_71 (oA.cons oX1_tell_74 (oA.cons oX1_tell_75 (oA.cons oX1_tell_78 (oA.cons oX1_tell_79 (oA.cons oX1_tell_81 (oA.cons oX1_tell_82 (oA.cons oX1_tell_85 (oA.cons oX1_tell_86 (oA.cons oX1_tell_87 (oA.cons oX1_tell_89 (oA.cons oX1_tell_90 (oA.cons oX1_tell_93 (oA.cons oX1_tell_94 (oA.cons oX1_tell_95 (oA.cons oX1_tell_96 (oA.cons oX1_tell_97 oA.nil)))))))))))))))))))))))))))))))))))))))))))))))))))))))))))
theorem dX1_melt_0 : decode cX1_melt 0 = .ok (.iconst 0, 1) := by decide +kernel
theorem dX1_melt_1 : decode cX1_melt 1 = .ok (.istore_n 1, 1) := by decide +kernel
theorem dX1_melt_2 : decode cX1_melt 2 = .ok (.iconst 0, 1) := by decide +kernel
theorem dX1_melt_3 : decode cX1_melt 3 = .ok (.istore_n 2, 1) := by decide +kernel
theorem dX1_melt_4 : decode cX1_melt 4 = .ok (.iload_n 2, 1) := by decide +kernel
theorem dX1_melt_5 : decode cX1_melt 5 = .ok (.aload_n 0, 1) := by decide +kernel
theorem dX1_melt_6 : decode cX1_melt 6 = .ok (.getfield 72, 3) := by decide +kernel
theorem dX1_melt_9 : decode cX1_melt 9 = .ok (.if_icmp .ge 51, 3) := by decide +kernel
theorem dX1_melt_12 : decode cX1_melt 12 = .ok (.aload_n 0, 1) := by decide +kernel
theorem dX1_melt_13 : decode cX1_melt 13 = .ok (.getfield 31, 3) := by decide +kernel
theorem dX1_melt_16 : decode cX1_melt 16 = .ok (.iload_n 2, 1) := by decide +kernel
theorem dX1_melt_17 : decode cX1_melt 17 = .ok (.iconst 0, 1) := by decide +kernel
theorem dX1_melt_18 : decode cX1_melt 18 = .ok (.aload_n 0, 1) := by decide +kernel
theorem dX1_melt_19 : decode cX1_melt 19 = .ok (.getfield 31, 3) := by decide +kernel
theorem dX1_melt_22 : decode cX1_melt 22 = .ok (.iload_n 2, 1) := by decide +kernel
theorem dX1_melt_23 : decode cX1_melt 23 = .ok (.iaload, 1) := by decide +kernel
theorem dX1_melt_24 : decode cX1_melt 24 = .ok (.aload_n 0, 1) := by decide +kernel
theorem dX1_melt_25 : decode cX1_melt 25 = .ok (.iload_n 2, 1) := by decide +kernel
theorem dX1_melt_26 : decode cX1_melt 26 = .ok (.invokevirtual 151, 3) := by decide +kernel
theorem dX1_melt_29 : decode cX1_melt 29 = .ok (.isub, 1) := by decide +kernel
theorem dX1_melt_30 : decode cX1_melt 30 = .ok (.invokestatic 91, 3) := by decide +kernel
theorem dX1_melt_33 : decode cX1_melt 33 = .ok (.iastore, 1) := by decide +kernel
theorem dX1_melt_34 : decode cX1_melt 34 = .ok (.aload_n 0, 1) := by decide +kernel
theorem dX1_melt_35 : decode cX1_melt 35 = .ok (.iload_n 2, 1) := by decide +kernel
theorem dX1_melt_36 : decode cX1_melt 36 = .ok (.invokevirtual 113, 3) := by decide +kernel
theorem dX1_melt_39 : decode cX1_melt 39 = .ok (.ifCond .eq 15, 3) := by decide +kernel
theorem dX1_melt_42 : decode cX1_melt 42 = .ok (.aload_n 0, 1) := by decide +kernel
theorem dX1_melt_43 : decode cX1_melt 43 = .ok (.getfield 31, 3) := by decide +kernel
theorem dX1_melt_46 : decode cX1_melt 46 = .ok (.iload_n 2, 1) := by decide +kernel
theorem dX1_melt_47 : decode cX1_melt 47 = .ok (.iaload, 1) := by decide +kernel
theorem dX1_melt_48 : decode cX1_melt 48 = .ok (.ifCond .le 6, 3) := by decide +kernel
theorem dX1_melt_51 : decode cX1_melt 51 = .ok (.iinc 1 1, 3) := by decide +kernel
theorem dX1_melt_54 : decode cX1_melt 54 = .ok (.iinc 2 1, 3) := by decide +kernel
theorem dX1_melt_57 : decode cX1_melt 57 = .ok (.goto (-53), 3) := by decide +kernel
theorem dX1_melt_60 : decode cX1_melt 60 = .ok (.aload_n 0, 1) := by decide +kernel
theorem dX1_melt_61 : decode cX1_melt 61 = .ok (.dup, 1) := by decide +kernel
theorem dX1_melt_62 : decode cX1_melt 62 = .ok (.getfield 60, 3) := by decide +kernel
theorem dX1_melt_65 : decode cX1_melt 65 = .ok (.iconst 1, 1) := by decide +kernel
theorem dX1_melt_66 : decode cX1_melt 66 = .ok (.iadd, 1) := by decide +kernel
theorem dX1_melt_67 : decode cX1_melt 67 = .ok (.putfield 60, 3) := by decide +kernel
theorem dX1_melt_70 : decode cX1_melt 70 = .ok (.iload_n 1, 1) := by decide +kernel
theorem dX1_melt_71 : decode cX1_melt 71 = .ok (.ireturn, 1) := by decide +kernel
theorem oX1_melt_0 : oP MT mX1_melt 0 (0, 1, 0, 0, []) := o_iconst dX1_melt_0 (by decide)
theorem oX1_melt_1 : oP MT mX1_melt 1 (2, 1, 1, 0, []) := o_istore_n dX1_melt_1 rfl (by decide)
theorem oX1_melt_2 : oP MT mX1_melt 2 (0, 1, 0, 0, []) := o_iconst dX1_melt_2 (by decide)
theorem oX1_melt_3 : oP MT mX1_melt 3 (2, 1, 2, 0, []) := o_istore_n dX1_melt_3 rfl (by decide)
theorem oX1_melt_4 : oP MT mX1_melt 4 (1, 1, 2, 0, []) := o_iload_n dX1_melt_4 rfl
theorem oX1_melt_5 : oP MT mX1_melt 5 (1, 1, 0, 1, []) := o_aload_n dX1_melt_5 rfl
theorem oX1_melt_6 : oP MT mX1_melt 6 (12, 3, 8, 1, []) := o_getI (M := mX1_melt) (C := RX1) (T := TX1) (ci := 1) (j := 8) (z := 1) dX1_melt_6 rfl lq_RX1_72 rfl rfl
theorem oX1_melt_9 : oP MT mX1_melt 9 (11, 3, 3, 60, []) := o_icmp_ge dX1_melt_9 (by decide) (by decide)
theorem oX1_melt_12 : oP MT mX1_melt 12 (1, 1, 0, 1, []) := o_aload_n dX1_melt_12 rfl
theorem oX1_melt_13 : oP MT mX1_melt 13 (13, 3, 11, 1, []) := o_getR (M := mX1_melt) (C := RX1) (T := TX1) (ci := 1) (j := 11) (z := 1) dX1_melt_13 rfl lq_RX1_31 rfl rfl
theorem oX1_melt_16 : oP MT mX1_melt 16 (1, 1, 2, 0, []) := o_iload_n dX1_melt_16 rfl
theorem oX1_melt_17 : oP MT mX1_melt 17 (0, 1, 0, 0, []) := o_iconst dX1_melt_17 (by decide)
theorem oX1_melt_18 : oP MT mX1_melt 18 (1, 1, 0, 1, []) := o_aload_n dX1_melt_18 rfl
theorem oX1_melt_19 : oP MT mX1_melt 19 (13, 3, 11, 1, []) := o_getR (M := mX1_melt) (C := RX1) (T := TX1) (ci := 1) (j := 11) (z := 1) dX1_melt_19 rfl lq_RX1_31 rfl rfl
theorem oX1_melt_22 : oP MT mX1_melt 22 (1, 1, 2, 0, []) := o_iload_n dX1_melt_22 rfl
theorem oX1_melt_23 : oP MT mX1_melt 23 (16, 1, 1, 0, []) := o_iaload dX1_melt_23
theorem oX1_melt_24 : oP MT mX1_melt 24 (1, 1, 0, 1, []) := o_aload_n dX1_melt_24 rfl
theorem oX1_melt_25 : oP MT mX1_melt 25 (1, 1, 2, 0, []) := o_iload_n dX1_melt_25 rfl
theorem oX1_melt_26 : oP MT mX1_melt 26 (26, 3, 0, 1, [(1, 28)]) := o_callO ((vA.cons (v_callV dX1_melt_26 (ci := 1) rfl rfl (mj := mX1_melts) mt_X1_melts cmq_X1_melts wq_135 wq_137 wq_138 (by decide) (by decide)) vA.nil))
theorem oX1_melt_29 : oP MT mX1_melt 29 (4, 1, 1, 0, []) := o_isub dX1_melt_29
theorem oX1_melt_30 : oP MT mX1_melt 30 (27, 3, 0, 0, []) := o_max dX1_melt_30 wq_117 wq_16 wq_17 wq_18
theorem oX1_melt_33 : oP MT mX1_melt 33 (18, 1, 0, 0, []) := o_iastore dX1_melt_33
theorem oX1_melt_34 : oP MT mX1_melt 34 (1, 1, 0, 1, []) := o_aload_n dX1_melt_34 rfl
theorem oX1_melt_35 : oP MT mX1_melt 35 (1, 1, 2, 0, []) := o_iload_n dX1_melt_35 rfl
theorem oX1_melt_36 : oP MT mX1_melt 36 (26, 3, 0, 1, [(1, 11)]) := o_callO ((vA.cons (v_callV dX1_melt_36 (ci := 1) rfl rfl (mj := mX1_isTurned) mt_X1_isTurned cmq_X1_isTurned wq_31 wq_33 wq_34 (by decide) (by decide)) vA.nil))
theorem oX1_melt_39 : oP MT mX1_melt 39 (10, 3, 0, 54, []) := o_if_eq dX1_melt_39 (by decide) (by decide)
theorem oX1_melt_42 : oP MT mX1_melt 42 (1, 1, 0, 1, []) := o_aload_n dX1_melt_42 rfl
theorem oX1_melt_43 : oP MT mX1_melt 43 (13, 3, 11, 1, []) := o_getR (M := mX1_melt) (C := RX1) (T := TX1) (ci := 1) (j := 11) (z := 1) dX1_melt_43 rfl lq_RX1_31 rfl rfl
theorem oX1_melt_46 : oP MT mX1_melt 46 (1, 1, 2, 0, []) := o_iload_n dX1_melt_46 rfl
theorem oX1_melt_47 : oP MT mX1_melt 47 (16, 1, 1, 0, []) := o_iaload dX1_melt_47
theorem oX1_melt_48 : oP MT mX1_melt 48 (10, 3, 5, 54, []) := o_if_le dX1_melt_48 (by decide) (by decide)
theorem oX1_melt_51 : oP MT mX1_melt 51 (3, 3, 1, 1, []) := o_iinc dX1_melt_51 (by decide) (by decide)
theorem oX1_melt_54 : oP MT mX1_melt 54 (3, 3, 2, 1, []) := o_iinc dX1_melt_54 (by decide) (by decide)
theorem oX1_melt_57 : oP MT mX1_melt 57 (9, 3, 4, 0, []) := o_goto dX1_melt_57 (by decide)
theorem oX1_melt_60 : oP MT mX1_melt 60 (1, 1, 0, 1, []) := o_aload_n dX1_melt_60 rfl
theorem oX1_melt_61 : oP MT mX1_melt 61 (6, 1, 0, 0, []) := o_dup dX1_melt_61
theorem oX1_melt_62 : oP MT mX1_melt 62 (12, 3, 1, 1, []) := o_getI (M := mX1_melt) (C := RX1) (T := TX1) (ci := 1) (j := 1) (z := 1) dX1_melt_62 rfl lq_RX1_60 rfl rfl
theorem oX1_melt_65 : oP MT mX1_melt 65 (0, 1, 0, 1, []) := o_iconst dX1_melt_65 (by decide)
theorem oX1_melt_66 : oP MT mX1_melt 66 (4, 1, 0, 0, []) := o_iadd dX1_melt_66
theorem oX1_melt_67 : oP MT mX1_melt 67 (14, 3, 1, 1, []) := o_putI (M := mX1_melt) (C := RX1) (T := TX1) (ci := 1) (j := 1) (z := 1) dX1_melt_67 rfl lq_RX1_60 rfl rfl rfl rfl
theorem oX1_melt_70 : oP MT mX1_melt 70 (1, 1, 1, 0, []) := o_iload_n dX1_melt_70 rfl
theorem oX1_melt_71 : oP MT mX1_melt 71 (21, 1, 0, 0, []) := o_iret dX1_melt_71 rfl
def ops_X1_melt : List (Nat × aO) := [(0, (0, 1, 0, 0, [])), (1, (2, 1, 1, 0, [])), (2, (0, 1, 0, 0, [])), (3, (2, 1, 2, 0, [])), (4, (1, 1, 2, 0, [])), (5, (1, 1, 0, 1, [])), (6, (12, 3, 8, 1, [])), (9, (11, 3, 3, 60, [])), (12, (1, 1, 0, 1, [])), (13, (13, 3, 11, 1, [])), (16, (1, 1, 2, 0, [])), (17, (0, 1, 0, 0, [])), (18, (1, 1, 0, 1, [])), (19, (13, 3, 11, 1, [])), (22, (1, 1, 2, 0, [])), (23, (16, 1, 1, 0, [])), (24, (1, 1, 0, 1, [])), (25, (1, 1, 2, 0, [])), (26, (26, 3, 0, 1, [(1, 28)])), (29, (4, 1, 1, 0, [])), (30, (27, 3, 0, 0, [])), (33, (18, 1, 0, 0, [])), (34, (1, 1, 0, 1, [])), (35, (1, 1, 2, 0, [])), (36, (26, 3, 0, 1, [(1, 11)])), (39, (10, 3, 0, 54, [])), (42, (1, 1, 0, 1, [])), (43, (13, 3, 11, 1, [])), (46, (1, 1, 2, 0, [])), (47, (16, 1, 1, 0, [])), (48, (10, 3, 5, 54, [])), (51, (3, 3, 1, 1, [])), (54, (3, 3, 2, 1, [])), (57, (9, 3, 4, 0, [])), (60, (1, 1, 0, 1, [])), (61, (6, 1, 0, 0, [])), (62, (12, 3, 1, 1, [])), (65, (0, 1, 0, 1, [])), (66, (4, 1, 0, 0, [])), (67, (14, 3, 1, 1, [])), (70, (1, 1, 1, 0, [])), (71, (21, 1, 0, 0, []))]
theorem os_X1_melt : oA MT mX1_melt ops_X1_melt := (oA.cons oX1_melt_0 (oA.cons oX1_melt_1 (oA.cons oX1_melt_2 (oA.cons oX1_melt_3 (oA.cons oX1_melt_4 (oA.cons oX1_melt_5 (oA.cons oX1_melt_6 (oA.cons oX1_melt_9 (oA.cons oX1_melt_12 (oA.cons oX1_melt_13 (oA.cons oX1_melt_16 (oA.cons oX1_melt_17 (oA.cons oX1_melt_18 (oA.cons oX1_melt_19 (oA.cons oX1_melt_22 (oA.cons oX1_melt_23 (oA.cons oX1_melt_24 (oA.cons oX1_melt_25 (oA.cons oX1_melt_26 (oA.cons oX1_melt_29 (oA.cons oX1_melt_30 (oA.cons oX1_melt_33 (oA.cons oX1_melt_34 (oA.cons oX1_melt_35 (oA.cons oX1_melt_36 (oA.cons oX1_melt_39 (oA.cons oX1_melt_42 (oA.cons oX1_melt_43 (oA.cons oX1_melt_46 (oA.cons oX1_melt_47 (oA.cons oX1_melt_48 (oA.cons oX1_melt_51 (oA.cons oX1_melt_54 (oA.cons oX1_melt_57 (oA.cons oX1_melt_60 (oA.cons oX1_melt_61 (oA.cons oX1_melt_62 (oA.cons oX1_melt_65 (oA.cons oX1_melt_66 (oA.cons oX1_melt_67 (oA.cons oX1_melt_70 (oA.cons oX1_melt_71 oA.nil))))))))))))))))))))))))))))))))))))))))))
theorem dX1_isOver_0 : decode cX1_isOver 0 = .ok (.aload_n 0, 1) := by decide +kernel
theorem dX1_isOver_1 : decode cX1_isOver 1 = .ok (.getfield 60, 3) := by decide +kernel
theorem dX1_isOver_4 : decode cX1_isOver 4 = .ok (.aload_n 0, 1) := by decide +kernel
theorem dX1_isOver_5 : decode cX1_isOver 5 = .ok (.getfield 9, 3) := by decide +kernel
theorem dX1_isOver_8 : decode cX1_isOver 8 = .ok (.if_icmp .lt 7, 3) := by decide +kernel
theorem dX1_isOver_11 : decode cX1_isOver 11 = .ok (.iconst 1, 1) := by decide +kernel
theorem dX1_isOver_12 : decode cX1_isOver 12 = .ok (.goto 4, 3) := by decide +kernel
theorem dX1_isOver_15 : decode cX1_isOver 15 = .ok (.iconst 0, 1) := by decide +kernel
theorem dX1_isOver_16 : decode cX1_isOver 16 = .ok (.ireturn, 1) := by decide +kernel
theorem oX1_isOver_0 : oP MT mX1_isOver 0 (1, 1, 0, 1, []) := o_aload_n dX1_isOver_0 rfl
theorem oX1_isOver_1 : oP MT mX1_isOver 1 (12, 3, 1, 1, []) := o_getI (M := mX1_isOver) (C := RX1) (T := TX1) (ci := 1) (j := 1) (z := 1) dX1_isOver_1 rfl lq_RX1_60 rfl rfl
theorem oX1_isOver_4 : oP MT mX1_isOver 4 (1, 1, 0, 1, []) := o_aload_n dX1_isOver_4 rfl
theorem oX1_isOver_5 : oP MT mX1_isOver 5 (12, 3, 2, 1, []) := o_getI (M := mX1_isOver) (C := RX1) (T := TX1) (ci := 1) (j := 2) (z := 1) dX1_isOver_5 rfl lq_RX1_9 rfl rfl
theorem oX1_isOver_8 : oP MT mX1_isOver 8 (11, 3, 2, 15, []) := o_icmp_lt dX1_isOver_8 (by decide) (by decide)
theorem oX1_isOver_11 : oP MT mX1_isOver 11 (0, 1, 0, 1, []) := o_iconst dX1_isOver_11 (by decide)
theorem oX1_isOver_12 : oP MT mX1_isOver 12 (9, 3, 16, 0, []) := o_goto dX1_isOver_12 (by decide)
theorem oX1_isOver_15 : oP MT mX1_isOver 15 (0, 1, 0, 0, []) := o_iconst dX1_isOver_15 (by decide)
theorem oX1_isOver_16 : oP MT mX1_isOver 16 (22, 1, 0, 0, []) := o_zret dX1_isOver_16 rfl
def ops_X1_isOver : List (Nat × aO) := [(0, (1, 1, 0, 1, [])), (1, (12, 3, 1, 1, [])), (4, (1, 1, 0, 1, [])), (5, (12, 3, 2, 1, [])), (8, (11, 3, 2, 15, [])), (11, (0, 1, 0, 1, [])), (12, (9, 3, 16, 0, [])), (15, (0, 1, 0, 0, [])), (16, (22, 1, 0, 0, []))]
theorem os_X1_isOver : oA MT mX1_isOver ops_X1_isOver := (oA.cons oX1_isOver_0 (oA.cons oX1_isOver_1 (oA.cons oX1_isOver_4 (oA.cons oX1_isOver_5 (oA.cons oX1_isOver_8 (oA.cons oX1_isOver_11 (oA.cons oX1_isOver_12 (oA.cons oX1_isOver_15 (oA.cons oX1_isOver_16 oA.nil)))))))))
theorem dX1_restAct_0 : decode cX1_restAct 0 = .ok (.iconst 0, 1) := by decide +kernel
theorem dX1_restAct_1 : decode cX1_restAct 1 = .ok (.istore_n 1, 1) := by decide +kernel
theorem dX1_restAct_2 : decode cX1_restAct 2 = .ok (.iload_n 1, 1) := by decide +kernel
theorem dX1_restAct_3 : decode cX1_restAct 3 = .ok (.aload_n 0, 1) := by decide +kernel
theorem dX1_restAct_4 : decode cX1_restAct 4 = .ok (.getfield 72, 3) := by decide +kernel
theorem dX1_restAct_7 : decode cX1_restAct 7 = .ok (.if_icmp .ge 29, 3) := by decide +kernel
theorem dX1_restAct_10 : decode cX1_restAct 10 = .ok (.aload_n 0, 1) := by decide +kernel
theorem dX1_restAct_11 : decode cX1_restAct 11 = .ok (.iload_n 1, 1) := by decide +kernel
theorem dX1_restAct_12 : decode cX1_restAct 12 = .ok (.invokevirtual 131, 3) := by decide +kernel
theorem dX1_restAct_15 : decode cX1_restAct 15 = .ok (.ifCond .le 15, 3) := by decide +kernel
theorem dX1_restAct_18 : decode cX1_restAct 18 = .ok (.aload_n 0, 1) := by decide +kernel
theorem dX1_restAct_19 : decode cX1_restAct 19 = .ok (.iload_n 1, 1) := by decide +kernel
theorem dX1_restAct_20 : decode cX1_restAct 20 = .ok (.invokevirtual 134, 3) := by decide +kernel
theorem dX1_restAct_23 : decode cX1_restAct 23 = .ok (.ifCond .ne 7, 3) := by decide +kernel
theorem dX1_restAct_26 : decode cX1_restAct 26 = .ok (.iload_n 1, 1) := by decide +kernel
theorem dX1_restAct_27 : decode cX1_restAct 27 = .ok (.iconst 1, 1) := by decide +kernel
theorem dX1_restAct_28 : decode cX1_restAct 28 = .ok (.iadd, 1) := by decide +kernel
theorem dX1_restAct_29 : decode cX1_restAct 29 = .ok (.ireturn, 1) := by decide +kernel
theorem dX1_restAct_30 : decode cX1_restAct 30 = .ok (.iinc 1 1, 3) := by decide +kernel
theorem dX1_restAct_33 : decode cX1_restAct 33 = .ok (.goto (-31), 3) := by decide +kernel
theorem dX1_restAct_36 : decode cX1_restAct 36 = .ok (.iconst 0, 1) := by decide +kernel
theorem dX1_restAct_37 : decode cX1_restAct 37 = .ok (.ireturn, 1) := by decide +kernel
theorem oX1_restAct_0 : oP MT mX1_restAct 0 (0, 1, 0, 0, []) := o_iconst dX1_restAct_0 (by decide)
theorem oX1_restAct_1 : oP MT mX1_restAct 1 (2, 1, 1, 0, []) := o_istore_n dX1_restAct_1 rfl (by decide)
theorem oX1_restAct_2 : oP MT mX1_restAct 2 (1, 1, 1, 0, []) := o_iload_n dX1_restAct_2 rfl
theorem oX1_restAct_3 : oP MT mX1_restAct 3 (1, 1, 0, 1, []) := o_aload_n dX1_restAct_3 rfl
theorem oX1_restAct_4 : oP MT mX1_restAct 4 (12, 3, 8, 1, []) := o_getI (M := mX1_restAct) (C := RX1) (T := TX1) (ci := 1) (j := 8) (z := 1) dX1_restAct_4 rfl lq_RX1_72 rfl rfl
theorem oX1_restAct_7 : oP MT mX1_restAct 7 (11, 3, 3, 36, []) := o_icmp_ge dX1_restAct_7 (by decide) (by decide)
theorem oX1_restAct_10 : oP MT mX1_restAct 10 (1, 1, 0, 1, []) := o_aload_n dX1_restAct_10 rfl
theorem oX1_restAct_11 : oP MT mX1_restAct 11 (1, 1, 1, 0, []) := o_iload_n dX1_restAct_11 rfl
theorem oX1_restAct_12 : oP MT mX1_restAct 12 (26, 3, 0, 1, [(1, 24)]) := o_callO ((vA.cons (v_callV dX1_restAct_12 (ci := 1) rfl rfl (mj := mX1_pays) mt_X1_pays cmq_X1_pays wq_126 wq_128 wq_129 (by decide) (by decide)) vA.nil))
theorem oX1_restAct_15 : oP MT mX1_restAct 15 (10, 3, 5, 30, []) := o_if_le dX1_restAct_15 (by decide) (by decide)
theorem oX1_restAct_18 : oP MT mX1_restAct 18 (1, 1, 0, 1, []) := o_aload_n dX1_restAct_18 rfl
theorem oX1_restAct_19 : oP MT mX1_restAct 19 (1, 1, 1, 0, []) := o_iload_n dX1_restAct_19 rfl
theorem oX1_restAct_20 : oP MT mX1_restAct 20 (26, 3, 0, 1, [(1, 25)]) := o_callO ((vA.cons (v_callV dX1_restAct_20 (ci := 1) rfl rfl (mj := mX1_will) mt_X1_will cmq_X1_will wq_122 wq_124 wq_125 (by decide) (by decide)) vA.nil))
theorem oX1_restAct_23 : oP MT mX1_restAct 23 (10, 3, 1, 30, []) := o_if_ne dX1_restAct_23 (by decide) (by decide)
theorem oX1_restAct_26 : oP MT mX1_restAct 26 (1, 1, 1, 0, []) := o_iload_n dX1_restAct_26 rfl
theorem oX1_restAct_27 : oP MT mX1_restAct 27 (0, 1, 0, 1, []) := o_iconst dX1_restAct_27 (by decide)
theorem oX1_restAct_28 : oP MT mX1_restAct 28 (4, 1, 0, 0, []) := o_iadd dX1_restAct_28
theorem oX1_restAct_29 : oP MT mX1_restAct 29 (21, 1, 0, 0, []) := o_iret dX1_restAct_29 rfl
theorem oX1_restAct_30 : oP MT mX1_restAct 30 (3, 3, 1, 1, []) := o_iinc dX1_restAct_30 (by decide) (by decide)
theorem oX1_restAct_33 : oP MT mX1_restAct 33 (9, 3, 2, 0, []) := o_goto dX1_restAct_33 (by decide)
theorem oX1_restAct_36 : oP MT mX1_restAct 36 (0, 1, 0, 0, []) := o_iconst dX1_restAct_36 (by decide)
theorem oX1_restAct_37 : oP MT mX1_restAct 37 (21, 1, 0, 0, []) := o_iret dX1_restAct_37 rfl
def ops_X1_restAct : List (Nat × aO) := [(0, (0, 1, 0, 0, [])), (1, (2, 1, 1, 0, [])), (2, (1, 1, 1, 0, [])), (3, (1, 1, 0, 1, [])), (4, (12, 3, 8, 1, [])), (7, (11, 3, 3, 36, [])), (10, (1, 1, 0, 1, [])), (11, (1, 1, 1, 0, [])), (12, (26, 3, 0, 1, [(1, 24)])), (15, (10, 3, 5, 30, [])), (18, (1, 1, 0, 1, [])), (19, (1, 1, 1, 0, [])), (20, (26, 3, 0, 1, [(1, 25)])), (23, (10, 3, 1, 30, [])), (26, (1, 1, 1, 0, [])), (27, (0, 1, 0, 1, [])), (28, (4, 1, 0, 0, [])), (29, (21, 1, 0, 0, [])), (30, (3, 3, 1, 1, [])), (33, (9, 3, 2, 0, [])), (36, (0, 1, 0, 0, [])), (37, (21, 1, 0, 0, []))]
theorem os_X1_restAct : oA MT mX1_restAct ops_X1_restAct := (oA.cons oX1_restAct_0 (oA.cons oX1_restAct_1 (oA.cons oX1_restAct_2 (oA.cons oX1_restAct_3 (oA.cons oX1_restAct_4 (oA.cons oX1_restAct_7 (oA.cons oX1_restAct_10 (oA.cons oX1_restAct_11 (oA.cons oX1_restAct_12 (oA.cons oX1_restAct_15 (oA.cons oX1_restAct_18 (oA.cons oX1_restAct_19 (oA.cons oX1_restAct_20 (oA.cons oX1_restAct_23 (oA.cons oX1_restAct_26 (oA.cons oX1_restAct_27 (oA.cons oX1_restAct_28 (oA.cons oX1_restAct_29 (oA.cons oX1_restAct_30 (oA.cons oX1_restAct_33 (oA.cons oX1_restAct_36 (oA.cons oX1_restAct_37 oA.nil))))))))))))))))))))))
theorem dX1_drawAct_0 : decode cX1_drawAct 0 = .ok (.aload_n 0, 1) := by decide +kernel
theorem dX1_drawAct_1 : decode cX1_drawAct 1 = .ok (.aload_n 0, 1) := by decide +kernel
theorem dX1_drawAct_2 : decode cX1_drawAct 2 = .ok (.getfield 15, 3) := by decide +kernel
theorem dX1_drawAct_5 : decode cX1_drawAct 5 = .ok (.ldc 160, 2) := by decide +kernel
theorem dX1_drawAct_7 : decode cX1_drawAct 7 = .ok (.imul, 1) := by decide +kernel
theorem dX1_drawAct_8 : decode cX1_drawAct 8 = .ok (.sipush 12345, 3) := by decide +kernel
theorem dX1_drawAct_11 : decode cX1_drawAct 11 = .ok (.iadd, 1) := by decide +kernel
theorem dX1_drawAct_12 : decode cX1_drawAct 12 = .ok (.putfield 15, 3) := by decide +kernel
theorem dX1_drawAct_15 : decode cX1_drawAct 15 = .ok (.aload_n 0, 1) := by decide +kernel
theorem dX1_drawAct_16 : decode cX1_drawAct 16 = .ok (.getfield 15, 3) := by decide +kernel
theorem dX1_drawAct_19 : decode cX1_drawAct 19 = .ok (.bipush 16, 2) := by decide +kernel
theorem dX1_drawAct_21 : decode cX1_drawAct 21 = .ok (.iushr, 1) := by decide +kernel
theorem dX1_drawAct_22 : decode cX1_drawAct 22 = .ok (.aload_n 0, 1) := by decide +kernel
theorem dX1_drawAct_23 : decode cX1_drawAct 23 = .ok (.getfield 72, 3) := by decide +kernel
theorem dX1_drawAct_26 : decode cX1_drawAct 26 = .ok (.iconst 1, 1) := by decide +kernel
theorem dX1_drawAct_27 : decode cX1_drawAct 27 = .ok (.iadd, 1) := by decide +kernel
theorem dX1_drawAct_28 : decode cX1_drawAct 28 = .ok (.irem, 1) := by decide +kernel
theorem dX1_drawAct_29 : decode cX1_drawAct 29 = .ok (.ireturn, 1) := by decide +kernel
theorem oX1_drawAct_0 : oP MT mX1_drawAct 0 (1, 1, 0, 1, []) := o_aload_n dX1_drawAct_0 rfl
theorem oX1_drawAct_1 : oP MT mX1_drawAct 1 (1, 1, 0, 1, []) := o_aload_n dX1_drawAct_1 rfl
theorem oX1_drawAct_2 : oP MT mX1_drawAct 2 (12, 3, 4, 1, []) := o_getI (M := mX1_drawAct) (C := RX1) (T := TX1) (ci := 1) (j := 4) (z := 1) dX1_drawAct_2 rfl lq_RX1_15 rfl rfl
theorem oX1_drawAct_5 : oP MT mX1_drawAct 5 (0, 2, 0, 1103515245, []) := o_ldc dX1_drawAct_5 cq_RX1_160 (by decide)
theorem oX1_drawAct_7 : oP MT mX1_drawAct 7 (4, 1, 2, 0, []) := o_imul dX1_drawAct_7
theorem oX1_drawAct_8 : oP MT mX1_drawAct 8 (0, 3, 0, 12345, []) := o_sipush dX1_drawAct_8 (by decide)
theorem oX1_drawAct_11 : oP MT mX1_drawAct 11 (4, 1, 0, 0, []) := o_iadd dX1_drawAct_11
theorem oX1_drawAct_12 : oP MT mX1_drawAct 12 (14, 3, 4, 1, []) := o_putI (M := mX1_drawAct) (C := RX1) (T := TX1) (ci := 1) (j := 4) (z := 1) dX1_drawAct_12 rfl lq_RX1_15 rfl rfl rfl rfl
theorem oX1_drawAct_15 : oP MT mX1_drawAct 15 (1, 1, 0, 1, []) := o_aload_n dX1_drawAct_15 rfl
theorem oX1_drawAct_16 : oP MT mX1_drawAct 16 (12, 3, 4, 1, []) := o_getI (M := mX1_drawAct) (C := RX1) (T := TX1) (ci := 1) (j := 4) (z := 1) dX1_drawAct_16 rfl lq_RX1_15 rfl rfl
theorem oX1_drawAct_19 : oP MT mX1_drawAct 19 (0, 2, 0, 16, []) := o_bipush dX1_drawAct_19 (by decide)
theorem oX1_drawAct_21 : oP MT mX1_drawAct 21 (4, 1, 8, 0, []) := o_iushr dX1_drawAct_21
theorem oX1_drawAct_22 : oP MT mX1_drawAct 22 (1, 1, 0, 1, []) := o_aload_n dX1_drawAct_22 rfl
theorem oX1_drawAct_23 : oP MT mX1_drawAct 23 (12, 3, 8, 1, []) := o_getI (M := mX1_drawAct) (C := RX1) (T := TX1) (ci := 1) (j := 8) (z := 1) dX1_drawAct_23 rfl lq_RX1_72 rfl rfl
theorem oX1_drawAct_26 : oP MT mX1_drawAct 26 (0, 1, 0, 1, []) := o_iconst dX1_drawAct_26 (by decide)
theorem oX1_drawAct_27 : oP MT mX1_drawAct 27 (4, 1, 0, 0, []) := o_iadd dX1_drawAct_27
theorem oX1_drawAct_28 : oP MT mX1_drawAct 28 (4, 1, 10, 0, []) := o_irem dX1_drawAct_28
theorem oX1_drawAct_29 : oP MT mX1_drawAct 29 (21, 1, 0, 0, []) := o_iret dX1_drawAct_29 rfl
def ops_X1_drawAct : List (Nat × aO) := [(0, (1, 1, 0, 1, [])), (1, (1, 1, 0, 1, [])), (2, (12, 3, 4, 1, [])), (5, (0, 2, 0, 1103515245, [])), (7, (4, 1, 2, 0, [])), (8, (0, 3, 0, 12345, [])), (11, (4, 1, 0, 0, [])), (12, (14, 3, 4, 1, [])), (15, (1, 1, 0, 1, [])), (16, (12, 3, 4, 1, [])), (19, (0, 2, 0, 16, [])), (21, (4, 1, 8, 0, [])), (22, (1, 1, 0, 1, [])), (23, (12, 3, 8, 1, [])), (26, (0, 1, 0, 1, [])), (27, (4, 1, 0, 0, [])), (28, (4, 1, 10, 0, [])), (29, (21, 1, 0, 0, []))]
theorem os_X1_drawAct : oA MT mX1_drawAct ops_X1_drawAct := (oA.cons oX1_drawAct_0 (oA.cons oX1_drawAct_1 (oA.cons oX1_drawAct_2 (oA.cons oX1_drawAct_5 (oA.cons oX1_drawAct_7 (oA.cons oX1_drawAct_8 (oA.cons oX1_drawAct_11 (oA.cons oX1_drawAct_12 (oA.cons oX1_drawAct_15 (oA.cons oX1_drawAct_16 (oA.cons oX1_drawAct_19 (oA.cons oX1_drawAct_21 (oA.cons oX1_drawAct_22 (oA.cons oX1_drawAct_23 (oA.cons oX1_drawAct_26 (oA.cons oX1_drawAct_27 (oA.cons oX1_drawAct_28 (oA.cons oX1_drawAct_29 oA.nil))))))))))))))))))
theorem dX1_shape_0 : decode cX1_shape 0 = .ok (.aload_n 0, 1) := by decide +kernel
theorem dX1_shape_1 : decode cX1_shape 1 = .ok (.getfield 56, 3) := by decide +kernel
theorem dX1_shape_4 : decode cX1_shape 4 = .ok (.aload_n 0, 1) := by decide +kernel
theorem dX1_shape_5 : decode cX1_shape 5 = .ok (.getfield 28, 3) := by decide +kernel
theorem dX1_shape_8 : decode cX1_shape 8 = .ok (.iload_n 1, 1) := by decide +kernel
theorem dX1_shape_9 : decode cX1_shape 9 = .ok (.iaload, 1) := by decide +kernel
theorem dX1_shape_10 : decode cX1_shape 10 = .ok (.aaload, 1) := by decide +kernel
theorem dX1_shape_11 : decode cX1_shape 11 = .ok (.aload_n 0, 1) := by decide +kernel
theorem dX1_shape_12 : decode cX1_shape 12 = .ok (.getfield 31, 3) := by decide +kernel
theorem dX1_shape_15 : decode cX1_shape 15 = .ok (.iload_n 1, 1) := by decide +kernel
theorem dX1_shape_16 : decode cX1_shape 16 = .ok (.iaload, 1) := by decide +kernel
theorem dX1_shape_17 : decode cX1_shape 17 = .ok (.aload_n 0, 1) := by decide +kernel
theorem dX1_shape_18 : decode cX1_shape 18 = .ok (.getfield 34, 3) := by decide +kernel
theorem dX1_shape_21 : decode cX1_shape 21 = .ok (.iload_n 1, 1) := by decide +kernel
theorem dX1_shape_22 : decode cX1_shape 22 = .ok (.iaload, 1) := by decide +kernel
theorem dX1_shape_23 : decode cX1_shape 23 = .ok (.iload_n 1, 1) := by decide +kernel
theorem dX1_shape_24 : decode cX1_shape 24 = .ok (.invokevirtual 117, 3) := by decide +kernel
theorem dX1_shape_27 : decode cX1_shape 27 = .ok (.ireturn, 1) := by decide +kernel
theorem oX1_shape_0 : oP MT mX1_shape 0 (1, 1, 0, 1, []) := o_aload_n dX1_shape_0 rfl
theorem oX1_shape_1 : oP MT mX1_shape 1 (13, 3, 0, 1, []) := o_getR (M := mX1_shape) (C := RX1) (T := TX1) (ci := 1) (j := 0) (z := 1) dX1_shape_1 rfl lq_RX1_56 rfl rfl
theorem oX1_shape_4 : oP MT mX1_shape 4 (1, 1, 0, 1, []) := o_aload_n dX1_shape_4 rfl
theorem oX1_shape_5 : oP MT mX1_shape 5 (13, 3, 10, 1, []) := o_getR (M := mX1_shape) (C := RX1) (T := TX1) (ci := 1) (j := 10) (z := 1) dX1_shape_5 rfl lq_RX1_28 rfl rfl
theorem oX1_shape_8 : oP MT mX1_shape 8 (1, 1, 1, 0, []) := o_iload_n dX1_shape_8 rfl
theorem oX1_shape_9 : oP MT mX1_shape 9 (16, 1, 1, 0, []) := o_iaload dX1_shape_9
theorem oX1_shape_10 : oP MT mX1_shape 10 (17, 1, 0, 0, []) := o_aaload dX1_shape_10
theorem oX1_shape_11 : oP MT mX1_shape 11 (1, 1, 0, 1, []) := o_aload_n dX1_shape_11 rfl
theorem oX1_shape_12 : oP MT mX1_shape 12 (13, 3, 11, 1, []) := o_getR (M := mX1_shape) (C := RX1) (T := TX1) (ci := 1) (j := 11) (z := 1) dX1_shape_12 rfl lq_RX1_31 rfl rfl
theorem oX1_shape_15 : oP MT mX1_shape 15 (1, 1, 1, 0, []) := o_iload_n dX1_shape_15 rfl
theorem oX1_shape_16 : oP MT mX1_shape 16 (16, 1, 1, 0, []) := o_iaload dX1_shape_16
theorem oX1_shape_17 : oP MT mX1_shape 17 (1, 1, 0, 1, []) := o_aload_n dX1_shape_17 rfl
theorem oX1_shape_18 : oP MT mX1_shape 18 (13, 3, 12, 1, []) := o_getR (M := mX1_shape) (C := RX1) (T := TX1) (ci := 1) (j := 12) (z := 1) dX1_shape_18 rfl lq_RX1_34 rfl rfl
theorem oX1_shape_21 : oP MT mX1_shape 21 (1, 1, 1, 0, []) := o_iload_n dX1_shape_21 rfl
theorem oX1_shape_22 : oP MT mX1_shape 22 (16, 1, 1, 0, []) := o_iaload dX1_shape_22
theorem oX1_shape_23 : oP MT mX1_shape 23 (1, 1, 1, 0, []) := o_iload_n dX1_shape_23 rfl
theorem oX1_shape_24 : oP MT mX1_shape 24 (26, 3, 0, 3, [(2, 12), (3, 13), (7, 14), (8, 15), (9, 16), (10, 17)]) := o_callO ((vA.cons (v_callU dX1_shape_24 (ci := 2) rfl rfl (mj := mX2_shape) mt_X2_shape cmq_X2_shape wq_49 wq_50 wq_51 wq_52 wq_53 wq_54 (by decide) (by decide) (by decide)) (vA.cons (v_callV dX1_shape_24 (ci := 3) rfl rfl (mj := mX3_shape) mt_X3_shape cmq_X3_shape wq_49 wq_51 wq_55 (by decide) (by decide)) (vA.cons (v_callU dX1_shape_24 (ci := 7) rfl rfl (mj := mX7_shape) mt_X7_shape cmq_X7_shape wq_49 wq_50 wq_51 wq_52 wq_56 wq_38 (by decide) (by decide) (by decide)) (vA.cons (v_callU dX1_shape_24 (ci := 8) rfl rfl (mj := mX8_shape) mt_X8_shape cmq_X8_shape wq_49 wq_50 wq_51 wq_52 wq_57 wq_45 (by decide) (by decide) (by decide)) (vA.cons (v_callU dX1_shape_24 (ci := 9) rfl rfl (mj := mX9_shape) mt_X9_shape cmq_X9_shape wq_49 wq_50 wq_51 wq_52 wq_60 wq_61 (by decide) (by decide) (by decide)) (vA.cons (v_callU dX1_shape_24 (ci := 10) rfl rfl (mj := mX10_shape) mt_X10_shape cmq_X10_shape wq_49 wq_50 wq_51 wq_52 wq_64 wq_65 (by decide) (by decide) (by decide)) vA.nil)))))))
theorem oX1_shape_27 : oP MT mX1_shape 27 (21, 1, 0, 0, []) := o_iret dX1_shape_27 rfl
def ops_X1_shape : List (Nat × aO) := [(0, (1, 1, 0, 1, [])), (1, (13, 3, 0, 1, [])), (4, (1, 1, 0, 1, [])), (5, (13, 3, 10, 1, [])), (8, (1, 1, 1, 0, [])), (9, (16, 1, 1, 0, [])), (10, (17, 1, 0, 0, [])), (11, (1, 1, 0, 1, [])), (12, (13, 3, 11, 1, [])), (15, (1, 1, 1, 0, [])), (16, (16, 1, 1, 0, [])), (17, (1, 1, 0, 1, [])), (18, (13, 3, 12, 1, [])), (21, (1, 1, 1, 0, [])), (22, (16, 1, 1, 0, [])), (23, (1, 1, 1, 0, [])), (24, (26, 3, 0, 3, [(2, 12), (3, 13), (7, 14), (8, 15), (9, 16), (10, 17)])), (27, (21, 1, 0, 0, []))]
theorem os_X1_shape : oA MT mX1_shape ops_X1_shape := (oA.cons oX1_shape_0 (oA.cons oX1_shape_1 (oA.cons oX1_shape_4 (oA.cons oX1_shape_5 (oA.cons oX1_shape_8 (oA.cons oX1_shape_9 (oA.cons oX1_shape_10 (oA.cons oX1_shape_11 (oA.cons oX1_shape_12 (oA.cons oX1_shape_15 (oA.cons oX1_shape_16 (oA.cons oX1_shape_17 (oA.cons oX1_shape_18 (oA.cons oX1_shape_21 (oA.cons oX1_shape_22 (oA.cons oX1_shape_23 (oA.cons oX1_shape_24 (oA.cons oX1_shape_27 oA.nil))))))))))))))))))
theorem dX1_isCloseToSome_0 : decode cX1_isCloseToSome 0 = .ok (.iconst 0, 1) := by decide +kernel
theorem dX1_isCloseToSome_1 : decode cX1_isCloseToSome 1 = .ok (.istore_n 3, 1) := by decide +kernel
theorem dX1_isCloseToSome_2 : decode cX1_isCloseToSome 2 = .ok (.iload_n 3, 1) := by decide +kernel
theorem dX1_isCloseToSome_3 : decode cX1_isCloseToSome 3 = .ok (.aload_n 0, 1) := by decide +kernel
theorem dX1_isCloseToSome_4 : decode cX1_isCloseToSome 4 = .ok (.getfield 72, 3) := by decide +kernel
theorem dX1_isCloseToSome_7 : decode cX1_isCloseToSome 7 = .ok (.if_icmp .ge 48, 3) := by decide +kernel
theorem dX1_isCloseToSome_10 : decode cX1_isCloseToSome 10 = .ok (.iload_n 2, 1) := by decide +kernel
theorem dX1_isCloseToSome_11 : decode cX1_isCloseToSome 11 = .ok (.iload_n 3, 1) := by decide +kernel
theorem dX1_isCloseToSome_12 : decode cX1_isCloseToSome 12 = .ok (.ishr, 1) := by decide +kernel
theorem dX1_isCloseToSome_13 : decode cX1_isCloseToSome 13 = .ok (.iconst 1, 1) := by decide +kernel
theorem dX1_isCloseToSome_14 : decode cX1_isCloseToSome 14 = .ok (.iand, 1) := by decide +kernel
theorem dX1_isCloseToSome_15 : decode cX1_isCloseToSome 15 = .ok (.iconst 1, 1) := by decide +kernel
theorem dX1_isCloseToSome_16 : decode cX1_isCloseToSome 16 = .ok (.if_icmp .ne 33, 3) := by decide +kernel
theorem dX1_isCloseToSome_19 : decode cX1_isCloseToSome 19 = .ok (.aload_n 0, 1) := by decide +kernel
theorem dX1_isCloseToSome_20 : decode cX1_isCloseToSome 20 = .ok (.getfield 37, 3) := by decide +kernel
theorem dX1_isCloseToSome_23 : decode cX1_isCloseToSome 23 = .ok (.iload_n 1, 1) := by decide +kernel
theorem dX1_isCloseToSome_24 : decode cX1_isCloseToSome 24 = .ok (.iaload, 1) := by decide +kernel
theorem dX1_isCloseToSome_25 : decode cX1_isCloseToSome 25 = .ok (.aload_n 0, 1) := by decide +kernel
theorem dX1_isCloseToSome_26 : decode cX1_isCloseToSome 26 = .ok (.getfield 37, 3) := by decide +kernel
theorem dX1_isCloseToSome_29 : decode cX1_isCloseToSome 29 = .ok (.iload_n 3, 1) := by decide +kernel
theorem dX1_isCloseToSome_30 : decode cX1_isCloseToSome 30 = .ok (.iaload, 1) := by decide +kernel
theorem dX1_isCloseToSome_31 : decode cX1_isCloseToSome 31 = .ok (.if_icmp .eq 16, 3) := by decide +kernel
theorem dX1_isCloseToSome_34 : decode cX1_isCloseToSome 34 = .ok (.aload_n 0, 1) := by decide +kernel
theorem dX1_isCloseToSome_35 : decode cX1_isCloseToSome 35 = .ok (.iload_n 1, 1) := by decide +kernel
theorem dX1_isCloseToSome_36 : decode cX1_isCloseToSome 36 = .ok (.invokevirtual 167, 3) := by decide +kernel
theorem dX1_isCloseToSome_39 : decode cX1_isCloseToSome 39 = .ok (.aload_n 0, 1) := by decide +kernel
theorem dX1_isCloseToSome_40 : decode cX1_isCloseToSome 40 = .ok (.iload_n 3, 1) := by decide +kernel
theorem dX1_isCloseToSome_41 : decode cX1_isCloseToSome 41 = .ok (.invokevirtual 167, 3) := by decide +kernel
theorem dX1_isCloseToSome_44 : decode cX1_isCloseToSome 44 = .ok (.if_icmp .ne 5, 3) := by decide +kernel
theorem dX1_isCloseToSome_47 : decode cX1_isCloseToSome 47 = .ok (.iconst 1, 1) := by decide +kernel
theorem dX1_isCloseToSome_48 : decode cX1_isCloseToSome 48 = .ok (.ireturn, 1) := by decide +kernel
theorem dX1_isCloseToSome_49 : decode cX1_isCloseToSome 49 = .ok (.iinc 3 1, 3) := by decide +kernel
theorem dX1_isCloseToSome_52 : decode cX1_isCloseToSome 52 = .ok (.goto (-50), 3) := by decide +kernel
theorem dX1_isCloseToSome_55 : decode cX1_isCloseToSome 55 = .ok (.iconst 0, 1) := by decide +kernel
theorem dX1_isCloseToSome_56 : decode cX1_isCloseToSome 56 = .ok (.ireturn, 1) := by decide +kernel
theorem oX1_isCloseToSome_0 : oP MT mX1_isCloseToSome 0 (0, 1, 0, 0, []) := o_iconst dX1_isCloseToSome_0 (by decide)
theorem oX1_isCloseToSome_1 : oP MT mX1_isCloseToSome 1 (2, 1, 3, 0, []) := o_istore_n dX1_isCloseToSome_1 rfl (by decide)
theorem oX1_isCloseToSome_2 : oP MT mX1_isCloseToSome 2 (1, 1, 3, 0, []) := o_iload_n dX1_isCloseToSome_2 rfl
theorem oX1_isCloseToSome_3 : oP MT mX1_isCloseToSome 3 (1, 1, 0, 1, []) := o_aload_n dX1_isCloseToSome_3 rfl
theorem oX1_isCloseToSome_4 : oP MT mX1_isCloseToSome 4 (12, 3, 8, 1, []) := o_getI (M := mX1_isCloseToSome) (C := RX1) (T := TX1) (ci := 1) (j := 8) (z := 1) dX1_isCloseToSome_4 rfl lq_RX1_72 rfl rfl
theorem oX1_isCloseToSome_7 : oP MT mX1_isCloseToSome 7 (11, 3, 3, 55, []) := o_icmp_ge dX1_isCloseToSome_7 (by decide) (by decide)
theorem oX1_isCloseToSome_10 : oP MT mX1_isCloseToSome 10 (1, 1, 2, 0, []) := o_iload_n dX1_isCloseToSome_10 rfl
theorem oX1_isCloseToSome_11 : oP MT mX1_isCloseToSome 11 (1, 1, 3, 0, []) := o_iload_n dX1_isCloseToSome_11 rfl
theorem oX1_isCloseToSome_12 : oP MT mX1_isCloseToSome 12 (4, 1, 7, 0, []) := o_ishr dX1_isCloseToSome_12
theorem oX1_isCloseToSome_13 : oP MT mX1_isCloseToSome 13 (0, 1, 0, 1, []) := o_iconst dX1_isCloseToSome_13 (by decide)
theorem oX1_isCloseToSome_14 : oP MT mX1_isCloseToSome 14 (4, 1, 3, 0, []) := o_iand dX1_isCloseToSome_14
theorem oX1_isCloseToSome_15 : oP MT mX1_isCloseToSome 15 (0, 1, 0, 1, []) := o_iconst dX1_isCloseToSome_15 (by decide)
theorem oX1_isCloseToSome_16 : oP MT mX1_isCloseToSome 16 (11, 3, 1, 49, []) := o_icmp_ne dX1_isCloseToSome_16 (by decide) (by decide)
theorem oX1_isCloseToSome_19 : oP MT mX1_isCloseToSome 19 (1, 1, 0, 1, []) := o_aload_n dX1_isCloseToSome_19 rfl
theorem oX1_isCloseToSome_20 : oP MT mX1_isCloseToSome 20 (13, 3, 13, 1, []) := o_getR (M := mX1_isCloseToSome) (C := RX1) (T := TX1) (ci := 1) (j := 13) (z := 1) dX1_isCloseToSome_20 rfl lq_RX1_37 rfl rfl
theorem oX1_isCloseToSome_23 : oP MT mX1_isCloseToSome 23 (1, 1, 1, 0, []) := o_iload_n dX1_isCloseToSome_23 rfl
theorem oX1_isCloseToSome_24 : oP MT mX1_isCloseToSome 24 (16, 1, 1, 0, []) := o_iaload dX1_isCloseToSome_24
theorem oX1_isCloseToSome_25 : oP MT mX1_isCloseToSome 25 (1, 1, 0, 1, []) := o_aload_n dX1_isCloseToSome_25 rfl
theorem oX1_isCloseToSome_26 : oP MT mX1_isCloseToSome 26 (13, 3, 13, 1, []) := o_getR (M := mX1_isCloseToSome) (C := RX1) (T := TX1) (ci := 1) (j := 13) (z := 1) dX1_isCloseToSome_26 rfl lq_RX1_37 rfl rfl
theorem oX1_isCloseToSome_29 : oP MT mX1_isCloseToSome 29 (1, 1, 3, 0, []) := o_iload_n dX1_isCloseToSome_29 rfl
theorem oX1_isCloseToSome_30 : oP MT mX1_isCloseToSome 30 (16, 1, 1, 0, []) := o_iaload dX1_isCloseToSome_30
theorem oX1_isCloseToSome_31 : oP MT mX1_isCloseToSome 31 (11, 3, 0, 47, []) := o_icmp_eq dX1_isCloseToSome_31 (by decide) (by decide)
theorem oX1_isCloseToSome_34 : oP MT mX1_isCloseToSome 34 (1, 1, 0, 1, []) := o_aload_n dX1_isCloseToSome_34 rfl
theorem oX1_isCloseToSome_35 : oP MT mX1_isCloseToSome 35 (1, 1, 1, 0, []) := o_iload_n dX1_isCloseToSome_35 rfl
theorem oX1_isCloseToSome_36 : oP MT mX1_isCloseToSome 36 (26, 3, 0, 1, [(1, 34)]) := o_callO ((vA.cons (v_callV dX1_isCloseToSome_36 (ci := 1) rfl rfl (mj := mX1_shape) mt_X1_shape cmq_X1_shape wq_139 wq_141 wq_142 (by decide) (by decide)) vA.nil))
theorem oX1_isCloseToSome_39 : oP MT mX1_isCloseToSome 39 (1, 1, 0, 1, []) := o_aload_n dX1_isCloseToSome_39 rfl
theorem oX1_isCloseToSome_40 : oP MT mX1_isCloseToSome 40 (1, 1, 3, 0, []) := o_iload_n dX1_isCloseToSome_40 rfl
theorem oX1_isCloseToSome_41 : oP MT mX1_isCloseToSome 41 (26, 3, 0, 1, [(1, 34)]) := o_callO ((vA.cons (v_callV dX1_isCloseToSome_41 (ci := 1) rfl rfl (mj := mX1_shape) mt_X1_shape cmq_X1_shape wq_139 wq_141 wq_142 (by decide) (by decide)) vA.nil))
theorem oX1_isCloseToSome_44 : oP MT mX1_isCloseToSome 44 (11, 3, 1, 49, []) := o_icmp_ne dX1_isCloseToSome_44 (by decide) (by decide)
theorem oX1_isCloseToSome_47 : oP MT mX1_isCloseToSome 47 (0, 1, 0, 1, []) := o_iconst dX1_isCloseToSome_47 (by decide)
theorem oX1_isCloseToSome_48 : oP MT mX1_isCloseToSome 48 (22, 1, 0, 0, []) := o_zret dX1_isCloseToSome_48 rfl
theorem oX1_isCloseToSome_49 : oP MT mX1_isCloseToSome 49 (3, 3, 3, 1, []) := o_iinc dX1_isCloseToSome_49 (by decide) (by decide)
theorem oX1_isCloseToSome_52 : oP MT mX1_isCloseToSome 52 (9, 3, 2, 0, []) := o_goto dX1_isCloseToSome_52 (by decide)
theorem oX1_isCloseToSome_55 : oP MT mX1_isCloseToSome 55 (0, 1, 0, 0, []) := o_iconst dX1_isCloseToSome_55 (by decide)
theorem oX1_isCloseToSome_56 : oP MT mX1_isCloseToSome 56 (22, 1, 0, 0, []) := o_zret dX1_isCloseToSome_56 rfl
def ops_X1_isCloseToSome : List (Nat × aO) := [(0, (0, 1, 0, 0, [])), (1, (2, 1, 3, 0, [])), (2, (1, 1, 3, 0, [])), (3, (1, 1, 0, 1, [])), (4, (12, 3, 8, 1, [])), (7, (11, 3, 3, 55, [])), (10, (1, 1, 2, 0, [])), (11, (1, 1, 3, 0, [])), (12, (4, 1, 7, 0, [])), (13, (0, 1, 0, 1, [])), (14, (4, 1, 3, 0, [])), (15, (0, 1, 0, 1, [])), (16, (11, 3, 1, 49, [])), (19, (1, 1, 0, 1, [])), (20, (13, 3, 13, 1, [])), (23, (1, 1, 1, 0, [])), (24, (16, 1, 1, 0, [])), (25, (1, 1, 0, 1, [])), (26, (13, 3, 13, 1, [])), (29, (1, 1, 3, 0, [])), (30, (16, 1, 1, 0, [])), (31, (11, 3, 0, 47, [])), (34, (1, 1, 0, 1, [])), (35, (1, 1, 1, 0, [])), (36, (26, 3, 0, 1, [(1, 34)])), (39, (1, 1, 0, 1, [])), (40, (1, 1, 3, 0, [])), (41, (26, 3, 0, 1, [(1, 34)])), (44, (11, 3, 1, 49, [])), (47, (0, 1, 0, 1, [])), (48, (22, 1, 0, 0, [])), (49, (3, 3, 3, 1, [])), (52, (9, 3, 2, 0, [])), (55, (0, 1, 0, 0, [])), (56, (22, 1, 0, 0, []))]
theorem os_X1_isCloseToSome : oA MT mX1_isCloseToSome ops_X1_isCloseToSome := (oA.cons oX1_isCloseToSome_0 (oA.cons oX1_isCloseToSome_1 (oA.cons oX1_isCloseToSome_2 (oA.cons oX1_isCloseToSome_3 (oA.cons oX1_isCloseToSome_4 (oA.cons oX1_isCloseToSome_7 (oA.cons oX1_isCloseToSome_10 (oA.cons oX1_isCloseToSome_11 (oA.cons oX1_isCloseToSome_12 (oA.cons oX1_isCloseToSome_13 (oA.cons oX1_isCloseToSome_14 (oA.cons oX1_isCloseToSome_15 (oA.cons oX1_isCloseToSome_16 (oA.cons oX1_isCloseToSome_19 (oA.cons oX1_isCloseToSome_20 (oA.cons oX1_isCloseToSome_23 (oA.cons oX1_isCloseToSome_24 (oA.cons oX1_isCloseToSome_25 (oA.cons oX1_isCloseToSome_26 (oA.cons oX1_isCloseToSome_29 (oA.cons oX1_isCloseToSome_30 (oA.cons oX1_isCloseToSome_31 (oA.cons oX1_isCloseToSome_34 (oA.cons oX1_isCloseToSome_35 (oA.cons oX1_isCloseToSome_36 (oA.cons oX1_isCloseToSome_39 (oA.cons oX1_isCloseToSome_40 (oA.cons oX1_isCloseToSome_41 (oA.cons oX1_isCloseToSome_44 (oA.cons oX1_isCloseToSome_47 (oA.cons oX1_isCloseToSome_48 (oA.cons oX1_isCloseToSome_49 (oA.cons oX1_isCloseToSome_52 (oA.cons oX1_isCloseToSome_55 (oA.cons oX1_isCloseToSome_56 oA.nil)))))))))))))))))))))))))))))))))))
theorem dX1_misfitsAt_0 : decode cX1_misfitsAt 0 = .ok (.iconst 0, 1) := by decide +kernel
theorem dX1_misfitsAt_1 : decode cX1_misfitsAt 1 = .ok (.istore 4, 2) := by decide +kernel
theorem dX1_misfitsAt_3 : decode cX1_misfitsAt 3 = .ok (.iconst 0, 1) := by decide +kernel
theorem dX1_misfitsAt_4 : decode cX1_misfitsAt 4 = .ok (.istore 5, 2) := by decide +kernel
theorem dX1_misfitsAt_6 : decode cX1_misfitsAt 6 = .ok (.iload 5, 2) := by decide +kernel
theorem dX1_misfitsAt_8 : decode cX1_misfitsAt 8 = .ok (.aload_n 0, 1) := by decide +kernel
theorem dX1_misfitsAt_9 : decode cX1_misfitsAt 9 = .ok (.getfield 82, 3) := by decide +kernel
theorem dX1_misfitsAt_12 : decode cX1_misfitsAt 12 = .ok (.if_icmp .ge 80, 3) := by decide +kernel
theorem dX1_misfitsAt_15 : decode cX1_misfitsAt 15 = .ok (.iload 5, 2) := by decide +kernel
theorem dX1_misfitsAt_17 : decode cX1_misfitsAt 17 = .ok (.iconst 4, 1) := by decide +kernel
theorem dX1_misfitsAt_18 : decode cX1_misfitsAt 18 = .ok (.imul, 1) := by decide +kernel
theorem dX1_misfitsAt_19 : decode cX1_misfitsAt 19 = .ok (.istore 6, 2) := by decide +kernel
theorem dX1_misfitsAt_21 : decode cX1_misfitsAt 21 = .ok (.aload_n 0, 1) := by decide +kernel
theorem dX1_misfitsAt_22 : decode cX1_misfitsAt 22 = .ok (.getfield 47, 3) := by decide +kernel
theorem dX1_misfitsAt_25 : decode cX1_misfitsAt 25 = .ok (.iload 6, 2) := by decide +kernel
theorem dX1_misfitsAt_27 : decode cX1_misfitsAt 27 = .ok (.iconst 1, 1) := by decide +kernel
theorem dX1_misfitsAt_28 : decode cX1_misfitsAt 28 = .ok (.iadd, 1) := by decide +kernel
theorem dX1_misfitsAt_29 : decode cX1_misfitsAt 29 = .ok (.iaload, 1) := by decide +kernel
theorem dX1_misfitsAt_30 : decode cX1_misfitsAt 30 = .ok (.ifCond .ne 7, 3) := by decide +kernel
theorem dX1_misfitsAt_33 : decode cX1_misfitsAt 33 = .ok (.iload_n 2, 1) := by decide +kernel
theorem dX1_misfitsAt_34 : decode cX1_misfitsAt 34 = .ok (.goto 4, 3) := by decide +kernel
theorem dX1_misfitsAt_37 : decode cX1_misfitsAt 37 = .ok (.iload_n 3, 1) := by decide +kernel
theorem dX1_misfitsAt_38 : decode cX1_misfitsAt 38 = .ok (.istore 7, 2) := by decide +kernel
theorem dX1_misfitsAt_40 : decode cX1_misfitsAt 40 = .ok (.aload_n 0, 1) := by decide +kernel
theorem dX1_misfitsAt_41 : decode cX1_misfitsAt 41 = .ok (.getfield 47, 3) := by decide +kernel
theorem dX1_misfitsAt_44 : decode cX1_misfitsAt 44 = .ok (.iload 6, 2) := by decide +kernel
theorem dX1_misfitsAt_46 : decode cX1_misfitsAt 46 = .ok (.iaload, 1) := by decide +kernel
theorem dX1_misfitsAt_47 : decode cX1_misfitsAt 47 = .ok (.iload_n 1, 1) := by decide +kernel
theorem dX1_misfitsAt_48 : decode cX1_misfitsAt 48 = .ok (.if_icmp .ne 38, 3) := by decide +kernel
theorem dX1_misfitsAt_51 : decode cX1_misfitsAt 51 = .ok (.iload 7, 2) := by decide +kernel
theorem dX1_misfitsAt_53 : decode cX1_misfitsAt 53 = .ok (.aload_n 0, 1) := by decide +kernel
theorem dX1_misfitsAt_54 : decode cX1_misfitsAt 54 = .ok (.getfield 47, 3) := by decide +kernel
theorem dX1_misfitsAt_57 : decode cX1_misfitsAt 57 = .ok (.iload 6, 2) := by decide +kernel
theorem dX1_misfitsAt_59 : decode cX1_misfitsAt 59 = .ok (.iconst 2, 1) := by decide +kernel
theorem dX1_misfitsAt_60 : decode cX1_misfitsAt 60 = .ok (.iadd, 1) := by decide +kernel
theorem dX1_misfitsAt_61 : decode cX1_misfitsAt 61 = .ok (.iaload, 1) := by decide +kernel
theorem dX1_misfitsAt_62 : decode cX1_misfitsAt 62 = .ok (.aload_n 0, 1) := by decide +kernel
theorem dX1_misfitsAt_63 : decode cX1_misfitsAt 63 = .ok (.getfield 47, 3) := by decide +kernel
theorem dX1_misfitsAt_66 : decode cX1_misfitsAt 66 = .ok (.iload 6, 2) := by decide +kernel
theorem dX1_misfitsAt_68 : decode cX1_misfitsAt 68 = .ok (.iconst 3, 1) := by decide +kernel
theorem dX1_misfitsAt_69 : decode cX1_misfitsAt 69 = .ok (.iadd, 1) := by decide +kernel
theorem dX1_misfitsAt_70 : decode cX1_misfitsAt 70 = .ok (.iaload, 1) := by decide +kernel
theorem dX1_misfitsAt_71 : decode cX1_misfitsAt 71 = .ok (.invokestatic 172, 3) := by decide +kernel
theorem dX1_misfitsAt_74 : decode cX1_misfitsAt 74 = .ok (.ifCond .ne 12, 3) := by decide +kernel
theorem dX1_misfitsAt_77 : decode cX1_misfitsAt 77 = .ok (.iload 4, 2) := by decide +kernel
theorem dX1_misfitsAt_79 : decode cX1_misfitsAt 79 = .ok (.iconst 1, 1) := by decide +kernel
theorem dX1_misfitsAt_80 : decode cX1_misfitsAt 80 = .ok (.iload 5, 2) := by decide +kernel
theorem dX1_misfitsAt_82 : decode cX1_misfitsAt 82 = .ok (.ishl, 1) := by decide +kernel
theorem dX1_misfitsAt_83 : decode cX1_misfitsAt 83 = .ok (.ior, 1) := by decide +kernel
theorem dX1_misfitsAt_84 : decode cX1_misfitsAt 84 = .ok (.istore 4, 2) := by decide +kernel
theorem dX1_misfitsAt_86 : decode cX1_misfitsAt 86 = .ok (.iinc 5 1, 3) := by decide +kernel
theorem dX1_misfitsAt_89 : decode cX1_misfitsAt 89 = .ok (.goto (-83), 3) := by decide +kernel
theorem dX1_misfitsAt_92 : decode cX1_misfitsAt 92 = .ok (.iload 4, 2) := by decide +kernel
theorem dX1_misfitsAt_94 : decode cX1_misfitsAt 94 = .ok (.ireturn, 1) := by decide +kernel
theorem oX1_misfitsAt_0 : oP MT mX1_misfitsAt 0 (0, 1, 0, 0, []) := o_iconst dX1_misfitsAt_0 (by decide)
theorem oX1_misfitsAt_1 : oP MT mX1_misfitsAt 1 (2, 2, 4, 0, []) := o_istore dX1_misfitsAt_1 (by decide)
theorem oX1_misfitsAt_3 : oP MT mX1_misfitsAt 3 (0, 1, 0, 0, []) := o_iconst dX1_misfitsAt_3 (by decide)
theorem oX1_misfitsAt_4 : oP MT mX1_misfitsAt 4 (2, 2, 5, 0, []) := o_istore dX1_misfitsAt_4 (by decide)
theorem oX1_misfitsAt_6 : oP MT mX1_misfitsAt 6 (1, 2, 5, 0, []) := o_iload dX1_misfitsAt_6
theorem oX1_misfitsAt_8 : oP MT mX1_misfitsAt 8 (1, 1, 0, 1, []) := o_aload_n dX1_misfitsAt_8 rfl
theorem oX1_misfitsAt_9 : oP MT mX1_misfitsAt 9 (12, 3, 16, 1, []) := o_getI (M := mX1_misfitsAt) (C := RX1) (T := TX1) (ci := 1) (j := 16) (z := 1) dX1_misfitsAt_9 rfl lq_RX1_82 rfl rfl
theorem oX1_misfitsAt_12 : oP MT mX1_misfitsAt 12 (11, 3, 3, 92, []) := o_icmp_ge dX1_misfitsAt_12 (by decide) (by decide)
theorem oX1_misfitsAt_15 : oP MT mX1_misfitsAt 15 (1, 2, 5, 0, []) := o_iload dX1_misfitsAt_15
theorem oX1_misfitsAt_17 : oP MT mX1_misfitsAt 17 (0, 1, 0, 4, []) := o_iconst dX1_misfitsAt_17 (by decide)
theorem oX1_misfitsAt_18 : oP MT mX1_misfitsAt 18 (4, 1, 2, 0, []) := o_imul dX1_misfitsAt_18
theorem oX1_misfitsAt_19 : oP MT mX1_misfitsAt 19 (2, 2, 6, 0, []) := o_istore dX1_misfitsAt_19 (by decide)
theorem oX1_misfitsAt_21 : oP MT mX1_misfitsAt 21 (1, 1, 0, 1, []) := o_aload_n dX1_misfitsAt_21 rfl
theorem oX1_misfitsAt_22 : oP MT mX1_misfitsAt 22 (13, 3, 15, 1, []) := o_getR (M := mX1_misfitsAt) (C := RX1) (T := TX1) (ci := 1) (j := 15) (z := 1) dX1_misfitsAt_22 rfl lq_RX1_47 rfl rfl
theorem oX1_misfitsAt_25 : oP MT mX1_misfitsAt 25 (1, 2, 6, 0, []) := o_iload dX1_misfitsAt_25
theorem oX1_misfitsAt_27 : oP MT mX1_misfitsAt 27 (0, 1, 0, 1, []) := o_iconst dX1_misfitsAt_27 (by decide)
theorem oX1_misfitsAt_28 : oP MT mX1_misfitsAt 28 (4, 1, 0, 0, []) := o_iadd dX1_misfitsAt_28
theorem oX1_misfitsAt_29 : oP MT mX1_misfitsAt 29 (16, 1, 1, 0, []) := o_iaload dX1_misfitsAt_29
theorem oX1_misfitsAt_30 : oP MT mX1_misfitsAt 30 (10, 3, 1, 37, []) := o_if_ne dX1_misfitsAt_30 (by decide) (by decide)
theorem oX1_misfitsAt_33 : oP MT mX1_misfitsAt 33 (1, 1, 2, 0, []) := o_iload_n dX1_misfitsAt_33 rfl
theorem oX1_misfitsAt_34 : oP MT mX1_misfitsAt 34 (9, 3, 38, 0, []) := o_goto dX1_misfitsAt_34 (by decide)
theorem oX1_misfitsAt_37 : oP MT mX1_misfitsAt 37 (1, 1, 3, 0, []) := o_iload_n dX1_misfitsAt_37 rfl
theorem oX1_misfitsAt_38 : oP MT mX1_misfitsAt 38 (2, 2, 7, 0, []) := o_istore dX1_misfitsAt_38 (by decide)
theorem oX1_misfitsAt_40 : oP MT mX1_misfitsAt 40 (1, 1, 0, 1, []) := o_aload_n dX1_misfitsAt_40 rfl
theorem oX1_misfitsAt_41 : oP MT mX1_misfitsAt 41 (13, 3, 15, 1, []) := o_getR (M := mX1_misfitsAt) (C := RX1) (T := TX1) (ci := 1) (j := 15) (z := 1) dX1_misfitsAt_41 rfl lq_RX1_47 rfl rfl
theorem oX1_misfitsAt_44 : oP MT mX1_misfitsAt 44 (1, 2, 6, 0, []) := o_iload dX1_misfitsAt_44
theorem oX1_misfitsAt_46 : oP MT mX1_misfitsAt 46 (16, 1, 1, 0, []) := o_iaload dX1_misfitsAt_46
theorem oX1_misfitsAt_47 : oP MT mX1_misfitsAt 47 (1, 1, 1, 0, []) := o_iload_n dX1_misfitsAt_47 rfl
theorem oX1_misfitsAt_48 : oP MT mX1_misfitsAt 48 (11, 3, 1, 86, []) := o_icmp_ne dX1_misfitsAt_48 (by decide) (by decide)
theorem oX1_misfitsAt_51 : oP MT mX1_misfitsAt 51 (1, 2, 7, 0, []) := o_iload dX1_misfitsAt_51
theorem oX1_misfitsAt_53 : oP MT mX1_misfitsAt 53 (1, 1, 0, 1, []) := o_aload_n dX1_misfitsAt_53 rfl
theorem oX1_misfitsAt_54 : oP MT mX1_misfitsAt 54 (13, 3, 15, 1, []) := o_getR (M := mX1_misfitsAt) (C := RX1) (T := TX1) (ci := 1) (j := 15) (z := 1) dX1_misfitsAt_54 rfl lq_RX1_47 rfl rfl
theorem oX1_misfitsAt_57 : oP MT mX1_misfitsAt 57 (1, 2, 6, 0, []) := o_iload dX1_misfitsAt_57
theorem oX1_misfitsAt_59 : oP MT mX1_misfitsAt 59 (0, 1, 0, 2, []) := o_iconst dX1_misfitsAt_59 (by decide)
theorem oX1_misfitsAt_60 : oP MT mX1_misfitsAt 60 (4, 1, 0, 0, []) := o_iadd dX1_misfitsAt_60
theorem oX1_misfitsAt_61 : oP MT mX1_misfitsAt 61 (16, 1, 1, 0, []) := o_iaload dX1_misfitsAt_61
theorem oX1_misfitsAt_62 : oP MT mX1_misfitsAt 62 (1, 1, 0, 1, []) := o_aload_n dX1_misfitsAt_62 rfl
theorem oX1_misfitsAt_63 : oP MT mX1_misfitsAt 63 (13, 3, 15, 1, []) := o_getR (M := mX1_misfitsAt) (C := RX1) (T := TX1) (ci := 1) (j := 15) (z := 1) dX1_misfitsAt_63 rfl lq_RX1_47 rfl rfl
theorem oX1_misfitsAt_66 : oP MT mX1_misfitsAt 66 (1, 2, 6, 0, []) := o_iload dX1_misfitsAt_66
theorem oX1_misfitsAt_68 : oP MT mX1_misfitsAt 68 (0, 1, 0, 3, []) := o_iconst dX1_misfitsAt_68 (by decide)
theorem oX1_misfitsAt_69 : oP MT mX1_misfitsAt 69 (4, 1, 0, 0, []) := o_iadd dX1_misfitsAt_69
theorem oX1_misfitsAt_70 : oP MT mX1_misfitsAt 70 (16, 1, 1, 0, []) := o_iaload dX1_misfitsAt_70
theorem oX1_misfitsAt_71 : oP MT mX1_misfitsAt 71 (25, 3, 37, 3, []) := o_callSN (host := "IceKeys") dX1_misfitsAt_71 (mj := mX11_isIn) mt_X11_isIn cmq_X11_isIn (by decide) wq_144 (by decide) (by decide)
theorem oX1_misfitsAt_74 : oP MT mX1_misfitsAt 74 (10, 3, 1, 86, []) := o_if_ne dX1_misfitsAt_74 (by decide) (by decide)
theorem oX1_misfitsAt_77 : oP MT mX1_misfitsAt 77 (1, 2, 4, 0, []) := o_iload dX1_misfitsAt_77
theorem oX1_misfitsAt_79 : oP MT mX1_misfitsAt 79 (0, 1, 0, 1, []) := o_iconst dX1_misfitsAt_79 (by decide)
theorem oX1_misfitsAt_80 : oP MT mX1_misfitsAt 80 (1, 2, 5, 0, []) := o_iload dX1_misfitsAt_80
theorem oX1_misfitsAt_82 : oP MT mX1_misfitsAt 82 (4, 1, 6, 0, []) := o_ishl dX1_misfitsAt_82
theorem oX1_misfitsAt_83 : oP MT mX1_misfitsAt 83 (4, 1, 4, 0, []) := o_ior dX1_misfitsAt_83
theorem oX1_misfitsAt_84 : oP MT mX1_misfitsAt 84 (2, 2, 4, 0, []) := o_istore dX1_misfitsAt_84 (by decide)
theorem oX1_misfitsAt_86 : oP MT mX1_misfitsAt 86 (3, 3, 5, 1, []) := o_iinc dX1_misfitsAt_86 (by decide) (by decide)
theorem oX1_misfitsAt_89 : oP MT mX1_misfitsAt 89 (9, 3, 6, 0, []) := o_goto dX1_misfitsAt_89 (by decide)
theorem oX1_misfitsAt_92 : oP MT mX1_misfitsAt 92 (1, 2, 4, 0, []) := o_iload dX1_misfitsAt_92
theorem oX1_misfitsAt_94 : oP MT mX1_misfitsAt 94 (21, 1, 0, 0, []) := o_iret dX1_misfitsAt_94 rfl
def ops_X1_misfitsAt : List (Nat × aO) := [(0, (0, 1, 0, 0, [])), (1, (2, 2, 4, 0, [])), (3, (0, 1, 0, 0, [])), (4, (2, 2, 5, 0, [])), (6, (1, 2, 5, 0, [])), (8, (1, 1, 0, 1, [])), (9, (12, 3, 16, 1, [])), (12, (11, 3, 3, 92, [])), (15, (1, 2, 5, 0, [])), (17, (0, 1, 0, 4, [])), (18, (4, 1, 2, 0, [])), (19, (2, 2, 6, 0, [])), (21, (1, 1, 0, 1, [])), (22, (13, 3, 15, 1, [])), (25, (1, 2, 6, 0, [])), (27, (0, 1, 0, 1, [])), (28, (4, 1, 0, 0, [])), (29, (16, 1, 1, 0, [])), (30, (10, 3, 1, 37, [])), (33, (1, 1, 2, 0, [])), (34, (9, 3, 38, 0, [])), (37, (1, 1, 3, 0, [])), (38, (2, 2, 7, 0, [])), (40, (1, 1, 0, 1, [])), (41, (13, 3, 15, 1, [])), (44, (1, 2, 6, 0, [])), (46, (16, 1, 1, 0, [])), (47, (1, 1, 1, 0, [])), (48, (11, 3, 1, 86, [])), (51, (1, 2, 7, 0, [])), (53, (1, 1, 0, 1, [])), (54, (13, 3, 15, 1, [])), (57, (1, 2, 6, 0, [])), (59, (0, 1, 0, 2, [])), (60, (4, 1, 0, 0, [])), (61, (16, 1, 1, 0, [])), (62, (1, 1, 0, 1, [])), (63, (13, 3, 15, 1, [])), (66, (1, 2, 6, 0, [])), (68, (0, 1, 0, 3, [])), (69, (4, 1, 0, 0, [])), (70, (16, 1, 1, 0, [])), (71, (25, 3, 37, 3, [])), (74, (10, 3, 1, 86, [])), (77, (1, 2, 4, 0, [])), (79, (0, 1, 0, 1, [])), (80, (1, 2, 5, 0, [])), (82, (4, 1, 6, 0, [])), (83, (4, 1, 4, 0, [])), (84, (2, 2, 4, 0, [])), (86, (3, 3, 5, 1, [])), (89, (9, 3, 6, 0, [])), (92, (1, 2, 4, 0, [])), (94, (21, 1, 0, 0, []))]
theorem os_X1_misfitsAt : oA MT mX1_misfitsAt ops_X1_misfitsAt := (oA.cons oX1_misfitsAt_0 (oA.cons oX1_misfitsAt_1 (oA.cons oX1_misfitsAt_3 (oA.cons oX1_misfitsAt_4 (oA.cons oX1_misfitsAt_6 (oA.cons oX1_misfitsAt_8 (oA.cons oX1_misfitsAt_9 (oA.cons oX1_misfitsAt_12 (oA.cons oX1_misfitsAt_15 (oA.cons oX1_misfitsAt_17 (oA.cons oX1_misfitsAt_18 (oA.cons oX1_misfitsAt_19 (oA.cons oX1_misfitsAt_21 (oA.cons oX1_misfitsAt_22 (oA.cons oX1_misfitsAt_25 (oA.cons oX1_misfitsAt_27 (oA.cons oX1_misfitsAt_28 (oA.cons oX1_misfitsAt_29 (oA.cons oX1_misfitsAt_30 (oA.cons oX1_misfitsAt_33 (oA.cons oX1_misfitsAt_34 (oA.cons oX1_misfitsAt_37 (oA.cons oX1_misfitsAt_38 (oA.cons oX1_misfitsAt_40 (oA.cons oX1_misfitsAt_41 (oA.cons oX1_misfitsAt_44 (oA.cons oX1_misfitsAt_46 (oA.cons oX1_misfitsAt_47 (oA.cons oX1_misfitsAt_48 (oA.cons oX1_misfitsAt_51 (oA.cons oX1_misfitsAt_53 (oA.cons oX1_misfitsAt_54 (oA.cons oX1_misfitsAt_57 (oA.cons oX1_misfitsAt_59 (oA.cons oX1_misfitsAt_60 (oA.cons oX1_misfitsAt_61 (oA.cons oX1_misfitsAt_62 (oA.cons oX1_misfitsAt_63 (oA.cons oX1_misfitsAt_66 (oA.cons oX1_misfitsAt_68 (oA.cons oX1_misfitsAt_69 (oA.cons oX1_misfitsAt_70 (oA.cons oX1_misfitsAt_71 (oA.cons oX1_misfitsAt_74 (oA.cons oX1_misfitsAt_77 (oA.cons oX1_misfitsAt_79 (oA.cons oX1_misfitsAt_80 (oA.cons oX1_misfitsAt_82 (oA.cons oX1_misfitsAt_83 (oA.cons oX1_misfitsAt_84 (oA.cons oX1_misfitsAt_86 (oA.cons oX1_misfitsAt_89 (oA.cons oX1_misfitsAt_92 (oA.cons oX1_misfitsAt_94 oA.nil))))))))))))))))))))))))))))))))))))))))))))))))))))))
theorem dX11_isIn_0 : decode cX11_isIn 0 = .ok (.iload_n 0, 1) := by decide +kernel
theorem dX11_isIn_1 : decode cX11_isIn 1 = .ok (.iload_n 1, 1) := by decide +kernel
theorem dX11_isIn_2 : decode cX11_isIn 2 = .ok (.if_icmp .lt 12, 3) := by decide +kernel
theorem dX11_isIn_5 : decode cX11_isIn 5 = .ok (.iload_n 0, 1) := by decide +kernel
theorem dX11_isIn_6 : decode cX11_isIn 6 = .ok (.iload_n 2, 1) := by decide +kernel
theorem dX11_isIn_7 : decode cX11_isIn 7 = .ok (.if_icmp .gt 7, 3) := by decide +kernel
theorem dX11_isIn_10 : decode cX11_isIn 10 = .ok (.iconst 1, 1) := by decide +kernel
theorem dX11_isIn_11 : decode cX11_isIn 11 = .ok (.goto 4, 3) := by decide +kernel
theorem dX11_isIn_14 : decode cX11_isIn 14 = .ok (.iconst 0, 1) := by decide +kernel
theorem dX11_isIn_15 : decode cX11_isIn 15 = .ok (.ireturn, 1) := by decide +kernel
theorem oX11_isIn_0 : oP MT mX11_isIn 0 (1, 1, 0, 0, []) := o_iload_n dX11_isIn_0 rfl
theorem oX11_isIn_1 : oP MT mX11_isIn 1 (1, 1, 1, 0, []) := o_iload_n dX11_isIn_1 rfl
theorem oX11_isIn_2 : oP MT mX11_isIn 2 (11, 3, 2, 14, []) := o_icmp_lt dX11_isIn_2 (by decide) (by decide)
theorem oX11_isIn_5 : oP MT mX11_isIn 5 (1, 1, 0, 0, []) := o_iload_n dX11_isIn_5 rfl
theorem oX11_isIn_6 : oP MT mX11_isIn 6 (1, 1, 2, 0, []) := o_iload_n dX11_isIn_6 rfl
theorem oX11_isIn_7 : oP MT mX11_isIn 7 (11, 3, 4, 14, []) := o_icmp_gt dX11_isIn_7 (by decide) (by decide)
theorem oX11_isIn_10 : oP MT mX11_isIn 10 (0, 1, 0, 1, []) := o_iconst dX11_isIn_10 (by decide)
theorem oX11_isIn_11 : oP MT mX11_isIn 11 (9, 3, 15, 0, []) := o_goto dX11_isIn_11 (by decide)
theorem oX11_isIn_14 : oP MT mX11_isIn 14 (0, 1, 0, 0, []) := o_iconst dX11_isIn_14 (by decide)
theorem oX11_isIn_15 : oP MT mX11_isIn 15 (22, 1, 0, 0, []) := o_zret dX11_isIn_15 rfl
def ops_X11_isIn : List (Nat × aO) := [(0, (1, 1, 0, 0, [])), (1, (1, 1, 1, 0, [])), (2, (11, 3, 2, 14, [])), (5, (1, 1, 0, 0, [])), (6, (1, 1, 2, 0, [])), (7, (11, 3, 4, 14, [])), (10, (0, 1, 0, 1, [])), (11, (9, 3, 15, 0, [])), (14, (0, 1, 0, 0, [])), (15, (22, 1, 0, 0, []))]
theorem os_X11_isIn : oA MT mX11_isIn ops_X11_isIn := (oA.cons oX11_isIn_0 (oA.cons oX11_isIn_1 (oA.cons oX11_isIn_2 (oA.cons oX11_isIn_5 (oA.cons oX11_isIn_6 (oA.cons oX11_isIn_7 (oA.cons oX11_isIn_10 (oA.cons oX11_isIn_11 (oA.cons oX11_isIn_14 (oA.cons oX11_isIn_15 oA.nil))))))))))
theorem dX0_ran_0 : decode cX0_ran 0 = .ok (.aload_n 0, 1) := by decide +kernel
theorem dX0_ran_1 : decode cX0_ran 1 = .ok (.getfield 22, 3) := by decide +kernel
theorem dX0_ran_4 : decode cX0_ran 4 = .ok (.ifCond .ne 32, 3) := by decide +kernel
theorem dX0_ran_7 : decode cX0_ran 7 = .ok (.aload_n 0, 1) := by decide +kernel
theorem dX0_ran_8 : decode cX0_ran 8 = .ok (.getfield 26, 3) := by decide +kernel
theorem dX0_ran_11 : decode cX0_ran 11 = .ok (.bipush 30, 2) := by decide +kernel
theorem dX0_ran_13 : decode cX0_ran 13 = .ok (.if_icmp .ge 23, 3) := by decide +kernel
theorem dX0_ran_16 : decode cX0_ran 16 = .ok (.aload_n 0, 1) := by decide +kernel
theorem dX0_ran_17 : decode cX0_ran 17 = .ok (.getfield 9, 3) := by decide +kernel
theorem dX0_ran_20 : decode cX0_ran 20 = .ok (.aload_n 0, 1) := by decide +kernel
theorem dX0_ran_21 : decode cX0_ran 21 = .ok (.getfield 26, 3) := by decide +kernel
theorem dX0_ran_24 : decode cX0_ran 24 = .ok (.iload_n 1, 1) := by decide +kernel
theorem dX0_ran_25 : decode cX0_ran 25 = .ok (.iastore, 1) := by decide +kernel
theorem dX0_ran_26 : decode cX0_ran 26 = .ok (.aload_n 0, 1) := by decide +kernel
theorem dX0_ran_27 : decode cX0_ran 27 = .ok (.dup, 1) := by decide +kernel
theorem dX0_ran_28 : decode cX0_ran 28 = .ok (.getfield 26, 3) := by decide +kernel
theorem dX0_ran_31 : decode cX0_ran 31 = .ok (.iconst 1, 1) := by decide +kernel
theorem dX0_ran_32 : decode cX0_ran 32 = .ok (.iadd, 1) := by decide +kernel
theorem dX0_ran_33 : decode cX0_ran 33 = .ok (.putfield 26, 3) := by decide +kernel
theorem dX0_ran_36 : decode cX0_ran 36 = .ok (.return_, 1) := by decide +kernel
theorem oX0_ran_0 : oP MT mX0_ran 0 (1, 1, 0, 1, []) := o_aload_n dX0_ran_0 rfl
theorem oX0_ran_1 : oP MT mX0_ran 1 (12, 3, 2, 0, []) := o_getI (M := mX0_ran) (C := RX0) (T := TX0) (ci := 0) (j := 2) (z := 0) dX0_ran_1 rfl lq_RX0_22 rfl rfl
theorem oX0_ran_4 : oP MT mX0_ran 4 (10, 3, 1, 36, []) := o_if_ne dX0_ran_4 (by decide) (by decide)
theorem oX0_ran_7 : oP MT mX0_ran 7 (1, 1, 0, 1, []) := o_aload_n dX0_ran_7 rfl
theorem oX0_ran_8 : oP MT mX0_ran 8 (12, 3, 3, 0, []) := o_getI (M := mX0_ran) (C := RX0) (T := TX0) (ci := 0) (j := 3) (z := 0) dX0_ran_8 rfl lq_RX0_26 rfl rfl
theorem oX0_ran_11 : oP MT mX0_ran 11 (0, 2, 0, 30, []) := o_bipush dX0_ran_11 (by decide)
theorem oX0_ran_13 : oP MT mX0_ran 13 (11, 3, 3, 36, []) := o_icmp_ge dX0_ran_13 (by decide) (by decide)
theorem oX0_ran_16 : oP MT mX0_ran 16 (1, 1, 0, 1, []) := o_aload_n dX0_ran_16 rfl
theorem oX0_ran_17 : oP MT mX0_ran 17 (13, 3, 4, 0, []) := o_getR (M := mX0_ran) (C := RX0) (T := TX0) (ci := 0) (j := 4) (z := 0) dX0_ran_17 rfl lq_RX0_9 rfl rfl
theorem oX0_ran_20 : oP MT mX0_ran 20 (1, 1, 0, 1, []) := o_aload_n dX0_ran_20 rfl
theorem oX0_ran_21 : oP MT mX0_ran 21 (12, 3, 3, 0, []) := o_getI (M := mX0_ran) (C := RX0) (T := TX0) (ci := 0) (j := 3) (z := 0) dX0_ran_21 rfl lq_RX0_26 rfl rfl
theorem oX0_ran_24 : oP MT mX0_ran 24 (1, 1, 1, 0, []) := o_iload_n dX0_ran_24 rfl
theorem oX0_ran_25 : oP MT mX0_ran 25 (18, 1, 0, 0, []) := o_iastore dX0_ran_25
theorem oX0_ran_26 : oP MT mX0_ran 26 (1, 1, 0, 1, []) := o_aload_n dX0_ran_26 rfl
theorem oX0_ran_27 : oP MT mX0_ran 27 (6, 1, 0, 0, []) := o_dup dX0_ran_27
theorem oX0_ran_28 : oP MT mX0_ran 28 (12, 3, 3, 0, []) := o_getI (M := mX0_ran) (C := RX0) (T := TX0) (ci := 0) (j := 3) (z := 0) dX0_ran_28 rfl lq_RX0_26 rfl rfl
theorem oX0_ran_31 : oP MT mX0_ran 31 (0, 1, 0, 1, []) := o_iconst dX0_ran_31 (by decide)
theorem oX0_ran_32 : oP MT mX0_ran 32 (4, 1, 0, 0, []) := o_iadd dX0_ran_32
theorem oX0_ran_33 : oP MT mX0_ran 33 (14, 3, 3, 0, []) := o_putI (M := mX0_ran) (C := RX0) (T := TX0) (ci := 0) (j := 3) (z := 0) dX0_ran_33 rfl lq_RX0_26 rfl rfl rfl rfl
theorem oX0_ran_36 : oP MT mX0_ran 36 (23, 1, 0, 0, []) := o_vret dX0_ran_36 rfl
def ops_X0_ran : List (Nat × aO) := [(0, (1, 1, 0, 1, [])), (1, (12, 3, 2, 0, [])), (4, (10, 3, 1, 36, [])), (7, (1, 1, 0, 1, [])), (8, (12, 3, 3, 0, [])), (11, (0, 2, 0, 30, [])), (13, (11, 3, 3, 36, [])), (16, (1, 1, 0, 1, [])), (17, (13, 3, 4, 0, [])), (20, (1, 1, 0, 1, [])), (21, (12, 3, 3, 0, [])), (24, (1, 1, 1, 0, [])), (25, (18, 1, 0, 0, [])), (26, (1, 1, 0, 1, [])), (27, (6, 1, 0, 0, [])), (28, (12, 3, 3, 0, [])), (31, (0, 1, 0, 1, [])), (32, (4, 1, 0, 0, [])), (33, (14, 3, 3, 0, [])), (36, (23, 1, 0, 0, []))]
theorem os_X0_ran : oA MT mX0_ran ops_X0_ran := (oA.cons oX0_ran_0 (oA.cons oX0_ran_1 (oA.cons oX0_ran_4 (oA.cons oX0_ran_7 (oA.cons oX0_ran_8 (oA.cons oX0_ran_11 (oA.cons oX0_ran_13 (oA.cons oX0_ran_16 (oA.cons oX0_ran_17 (oA.cons oX0_ran_20 (oA.cons oX0_ran_21 (oA.cons oX0_ran_24 (oA.cons oX0_ran_25 (oA.cons oX0_ran_26 (oA.cons oX0_ran_27 (oA.cons oX0_ran_28 (oA.cons oX0_ran_31 (oA.cons oX0_ran_32 (oA.cons oX0_ran_33 (oA.cons oX0_ran_36 oA.nil))))))))))))))))))))
theorem dX2_drips_0 : decode cX2_drips 0 = .ok (.aload_n 2, 1) := by decide +kernel
theorem dX2_drips_1 : decode cX2_drips 1 = .ok (.bipush 20, 2) := by decide +kernel
theorem dX2_drips_3 : decode cX2_drips 3 = .ok (.invokevirtual 7, 3) := by decide +kernel
theorem dX2_drips_6 : decode cX2_drips 6 = .ok (.aload_n 0, 1) := by decide +kernel
theorem dX2_drips_7 : decode cX2_drips 7 = .ok (.iload_n 1, 1) := by decide +kernel
theorem dX2_drips_8 : decode cX2_drips 8 = .ok (.aload_n 2, 1) := by decide +kernel
theorem dX2_drips_9 : decode cX2_drips 9 = .ok (.invokespecial 13, 3) := by decide +kernel
theorem dX2_drips_12 : decode cX2_drips 12 = .ok (.bipush 26, 2) := by decide +kernel
theorem dX2_drips_14 : decode cX2_drips 14 = .ok (.ixor, 1) := by decide +kernel
theorem dX2_drips_15 : decode cX2_drips 15 = .ok (.ireturn, 1) := by decide +kernel
theorem oX2_drips_0 : oP MT mX2_drips 0 (1, 1, 2, 1, []) := o_aload_n dX2_drips_0 rfl
theorem oX2_drips_1 : oP MT mX2_drips 1 (0, 2, 0, 20, []) := o_bipush dX2_drips_1 (by decide)
theorem oX2_drips_3 : oP MT mX2_drips 3 (26, 3, 0, 1, [(0, 38)]) := o_callO ((vA.cons (v_callV dX2_drips_3 (ci := 0) rfl rfl (mj := mX0_ran) mt_X0_ran cmq_X0_ran wq_145 wq_148 wq_149 (by decide) (by decide)) vA.nil))
theorem oX2_drips_6 : oP MT mX2_drips 6 (1, 1, 0, 1, []) := o_aload_n dX2_drips_6 rfl
theorem oX2_drips_7 : oP MT mX2_drips 7 (1, 1, 1, 0, []) := o_iload_n dX2_drips_7 rfl
theorem oX2_drips_8 : oP MT mX2_drips 8 (1, 1, 2, 1, []) := o_aload_n dX2_drips_8 rfl
theorem oX2_drips_9 : oP MT mX2_drips 9 (26, 3, 0, 2, [(2, 40)]) := o_callO ((vA.cons (v_callSU dX2_drips_9 (ci := 2) rfl rfl (mj := mX3_drips) mt_X3_drips cmq_X3_drips wq_151 wq_152 wq_153 wq_154 (by decide) (by decide) (by decide)) vA.nil))
theorem oX2_drips_12 : oP MT mX2_drips 12 (0, 2, 0, 26, []) := o_bipush dX2_drips_12 (by decide)
theorem oX2_drips_14 : oP MT mX2_drips 14 (4, 1, 5, 0, []) := o_ixor dX2_drips_14
theorem oX2_drips_15 : oP MT mX2_drips 15 (21, 1, 0, 0, []) := o_iret dX2_drips_15 rfl
def ops_X2_drips : List (Nat × aO) := [(0, (1, 1, 2, 1, [])), (1, (0, 2, 0, 20, [])), (3, (26, 3, 0, 1, [(0, 38)])), (6, (1, 1, 0, 1, [])), (7, (1, 1, 1, 0, [])), (8, (1, 1, 2, 1, [])), (9, (26, 3, 0, 2, [(2, 40)])), (12, (0, 2, 0, 26, [])), (14, (4, 1, 5, 0, [])), (15, (21, 1, 0, 0, []))]
theorem os_X2_drips : oA MT mX2_drips ops_X2_drips := (oA.cons oX2_drips_0 (oA.cons oX2_drips_1 (oA.cons oX2_drips_3 (oA.cons oX2_drips_6 (oA.cons oX2_drips_7 (oA.cons oX2_drips_8 (oA.cons oX2_drips_9 (oA.cons oX2_drips_12 (oA.cons oX2_drips_14 (oA.cons oX2_drips_15 oA.nil))))))))))
theorem dX3_drips_0 : decode cX3_drips 0 = .ok (.aload_n 2, 1) := by decide +kernel
theorem dX3_drips_1 : decode cX3_drips 1 = .ok (.bipush 10, 2) := by decide +kernel
theorem dX3_drips_3 : decode cX3_drips 3 = .ok (.invokevirtual 7, 3) := by decide +kernel
theorem dX3_drips_6 : decode cX3_drips 6 = .ok (.iload_n 1, 1) := by decide +kernel
theorem dX3_drips_7 : decode cX3_drips 7 = .ok (.bipush 8, 2) := by decide +kernel
theorem dX3_drips_9 : decode cX3_drips 9 = .ok (.imul, 1) := by decide +kernel
theorem dX3_drips_10 : decode cX3_drips 10 = .ok (.aload_n 2, 1) := by decide +kernel
theorem dX3_drips_11 : decode cX3_drips 11 = .ok (.getfield 13, 3) := by decide +kernel
theorem dX3_drips_14 : decode cX3_drips 14 = .ok (.iadd, 1) := by decide +kernel
theorem dX3_drips_15 : decode cX3_drips 15 = .ok (.ireturn, 1) := by decide +kernel
theorem oX3_drips_0 : oP MT mX3_drips 0 (1, 1, 2, 1, []) := o_aload_n dX3_drips_0 rfl
theorem oX3_drips_1 : oP MT mX3_drips 1 (0, 2, 0, 10, []) := o_bipush dX3_drips_1 (by decide)
theorem oX3_drips_3 : oP MT mX3_drips 3 (26, 3, 0, 1, [(0, 38)]) := o_callO ((vA.cons (v_callV dX3_drips_3 (ci := 0) rfl rfl (mj := mX0_ran) mt_X0_ran cmq_X0_ran wq_155 wq_148 wq_149 (by decide) (by decide)) vA.nil))
theorem oX3_drips_6 : oP MT mX3_drips 6 (1, 1, 1, 0, []) := o_iload_n dX3_drips_6 rfl
theorem oX3_drips_7 : oP MT mX3_drips 7 (0, 2, 0, 8, []) := o_bipush dX3_drips_7 (by decide)
theorem oX3_drips_9 : oP MT mX3_drips 9 (4, 1, 2, 0, []) := o_imul dX3_drips_9
theorem oX3_drips_10 : oP MT mX3_drips 10 (1, 1, 2, 1, []) := o_aload_n dX3_drips_10 rfl
theorem oX3_drips_11 : oP MT mX3_drips 11 (12, 3, 0, 0, []) := o_getI (M := mX3_drips) (C := RX0) (T := TX0) (ci := 0) (j := 0) (z := 0) dX3_drips_11 rfl lq_RX3_13 rfl rfl
theorem oX3_drips_14 : oP MT mX3_drips 14 (4, 1, 0, 0, []) := o_iadd dX3_drips_14
theorem oX3_drips_15 : oP MT mX3_drips 15 (21, 1, 0, 0, []) := o_iret dX3_drips_15 rfl
def ops_X3_drips : List (Nat × aO) := [(0, (1, 1, 2, 1, [])), (1, (0, 2, 0, 10, [])), (3, (26, 3, 0, 1, [(0, 38)])), (6, (1, 1, 1, 0, [])), (7, (0, 2, 0, 8, [])), (9, (4, 1, 2, 0, [])), (10, (1, 1, 2, 1, [])), (11, (12, 3, 0, 0, [])), (14, (4, 1, 0, 0, [])), (15, (21, 1, 0, 0, []))]
theorem os_X3_drips : oA MT mX3_drips ops_X3_drips := (oA.cons oX3_drips_0 (oA.cons oX3_drips_1 (oA.cons oX3_drips_3 (oA.cons oX3_drips_6 (oA.cons oX3_drips_7 (oA.cons oX3_drips_9 (oA.cons oX3_drips_10 (oA.cons oX3_drips_11 (oA.cons oX3_drips_14 (oA.cons oX3_drips_15 oA.nil))))))))))
theorem dX10_drips_0 : decode cX10_drips 0 = .ok (.aload_n 2, 1) := by decide +kernel
theorem dX10_drips_1 : decode cX10_drips 1 = .ok (.bipush 50, 2) := by decide +kernel
theorem dX10_drips_3 : decode cX10_drips 3 = .ok (.invokevirtual 20, 3) := by decide +kernel
theorem dX10_drips_6 : decode cX10_drips 6 = .ok (.aload_n 0, 1) := by decide +kernel
theorem dX10_drips_7 : decode cX10_drips 7 = .ok (.iload_n 1, 1) := by decide +kernel
theorem dX10_drips_8 : decode cX10_drips 8 = .ok (.bipush 10, 2) := by decide +kernel
theorem dX10_drips_10 : decode cX10_drips 10 = .ok (.isub, 1) := by decide +kernel
theorem dX10_drips_11 : decode cX10_drips 11 = .ok (.aload_n 2, 1) := by decide +kernel
theorem dX10_drips_12 : decode cX10_drips 12 = .ok (.invokespecial 26, 3) := by decide +kernel
theorem dX10_drips_15 : decode cX10_drips 15 = .ok (.ireturn, 1) := by decide +kernel
theorem oX10_drips_0 : oP MT mX10_drips 0 (1, 1, 2, 1, []) := o_aload_n dX10_drips_0 rfl
theorem oX10_drips_1 : oP MT mX10_drips 1 (0, 2, 0, 50, []) := o_bipush dX10_drips_1 (by decide)
theorem oX10_drips_3 : oP MT mX10_drips 3 (26, 3, 0, 1, [(0, 38)]) := o_callO ((vA.cons (v_callV dX10_drips_3 (ci := 0) rfl rfl (mj := mX0_ran) mt_X0_ran cmq_X0_ran wq_156 wq_148 wq_149 (by decide) (by decide)) vA.nil))
theorem oX10_drips_6 : oP MT mX10_drips 6 (1, 1, 0, 1, []) := o_aload_n dX10_drips_6 rfl
theorem oX10_drips_7 : oP MT mX10_drips 7 (1, 1, 1, 0, []) := o_iload_n dX10_drips_7 rfl
theorem oX10_drips_8 : oP MT mX10_drips 8 (0, 2, 0, 10, []) := o_bipush dX10_drips_8 (by decide)
theorem oX10_drips_10 : oP MT mX10_drips 10 (4, 1, 1, 0, []) := o_isub dX10_drips_10
theorem oX10_drips_11 : oP MT mX10_drips 11 (1, 1, 2, 1, []) := o_aload_n dX10_drips_11 rfl
theorem oX10_drips_12 : oP MT mX10_drips 12 (26, 3, 0, 2, [(10, 40)]) := o_callO ((vA.cons (v_callSO (xm := ⟨"IceKeys$Sleeve", "drips", "(ILIceKeys$Deed;)I"⟩) dX10_drips_12 (ci := 10) rfl rfl (mj := mX3_drips) mt_X3_drips cmq_X3_drips wq_157 wq_158 wq_159 wq_160 wq_154 (by decide) rfl (by decide) (by decide)) vA.nil))
theorem oX10_drips_15 : oP MT mX10_drips 15 (21, 1, 0, 0, []) := o_iret dX10_drips_15 rfl
def ops_X10_drips : List (Nat × aO) := [(0, (1, 1, 2, 1, [])), (1, (0, 2, 0, 50, [])), (3, (26, 3, 0, 1, [(0, 38)])), (6, (1, 1, 0, 1, [])), (7, (1, 1, 1, 0, [])), (8, (0, 2, 0, 10, [])), (10, (4, 1, 1, 0, [])), (11, (1, 1, 2, 1, [])), (12, (26, 3, 0, 2, [(10, 40)])), (15, (21, 1, 0, 0, []))]
theorem os_X10_drips : oA MT mX10_drips ops_X10_drips := (oA.cons oX10_drips_0 (oA.cons oX10_drips_1 (oA.cons oX10_drips_3 (oA.cons oX10_drips_6 (oA.cons oX10_drips_7 (oA.cons oX10_drips_8 (oA.cons oX10_drips_10 (oA.cons oX10_drips_11 (oA.cons oX10_drips_12 (oA.cons oX10_drips_15 oA.nil))))))))))
theorem dX3_turns_0 : decode cX3_turns 0 = .ok (.aload_n 2, 1) := by decide +kernel
theorem dX3_turns_1 : decode cX3_turns 1 = .ok (.bipush 11, 2) := by decide +kernel
theorem dX3_turns_3 : decode cX3_turns 3 = .ok (.invokevirtual 7, 3) := by decide +kernel
theorem dX3_turns_6 : decode cX3_turns 6 = .ok (.aload_n 0, 1) := by decide +kernel
theorem dX3_turns_7 : decode cX3_turns 7 = .ok (.iload_n 1, 1) := by decide +kernel
theorem dX3_turns_8 : decode cX3_turns 8 = .ok (.aload_n 2, 1) := by decide +kernel
theorem dX3_turns_9 : decode cX3_turns 9 = .ok (.invokevirtual 17, 3) := by decide +kernel
theorem dX3_turns_12 : decode cX3_turns 12 = .ok (.iconst 5, 1) := by decide +kernel
theorem dX3_turns_13 : decode cX3_turns 13 = .ok (.aload_n 2, 1) := by decide +kernel
theorem dX3_turns_14 : decode cX3_turns 14 = .ok (.getfield 23, 3) := by decide +kernel
theorem dX3_turns_17 : decode cX3_turns 17 = .ok (.imul, 1) := by decide +kernel
theorem dX3_turns_18 : decode cX3_turns 18 = .ok (.isub, 1) := by decide +kernel
theorem dX3_turns_19 : decode cX3_turns 19 = .ok (.ireturn, 1) := by decide +kernel
theorem oX3_turns_0 : oP MT mX3_turns 0 (1, 1, 2, 1, []) := o_aload_n dX3_turns_0 rfl
theorem oX3_turns_1 : oP MT mX3_turns 1 (0, 2, 0, 11, []) := o_bipush dX3_turns_1 (by decide)
theorem oX3_turns_3 : oP MT mX3_turns 3 (26, 3, 0, 1, [(0, 38)]) := o_callO ((vA.cons (v_callV dX3_turns_3 (ci := 0) rfl rfl (mj := mX0_ran) mt_X0_ran cmq_X0_ran wq_155 wq_148 wq_149 (by decide) (by decide)) vA.nil))
theorem oX3_turns_6 : oP MT mX3_turns 6 (1, 1, 0, 1, []) := o_aload_n dX3_turns_6 rfl
theorem oX3_turns_7 : oP MT mX3_turns 7 (1, 1, 1, 0, []) := o_iload_n dX3_turns_7 rfl
theorem oX3_turns_8 : oP MT mX3_turns 8 (1, 1, 2, 1, []) := o_aload_n dX3_turns_8 rfl
theorem oX3_turns_9 : oP MT mX3_turns 9 (26, 3, 0, 2, [(2, 39), (3, 40), (7, 40), (8, 40), (9, 40), (10, 41)]) := o_callO ((vA.cons (v_callU dX3_turns_9 (ci := 2) rfl rfl (mj := mX2_drips) mt_X2_drips cmq_X2_drips wq_162 wq_152 wq_154 wq_150 wq_163 wq_164 (by decide) (by decide) (by decide)) (vA.cons (v_callV dX3_turns_9 (ci := 3) rfl rfl (mj := mX3_drips) mt_X3_drips cmq_X3_drips wq_162 wq_154 wq_165 (by decide) (by decide)) (vA.cons (v_callU dX3_turns_9 (ci := 7) rfl rfl (mj := mX3_drips) mt_X3_drips cmq_X3_drips wq_162 wq_152 wq_154 wq_150 wq_166 wq_154 (by decide) (by decide) (by decide)) (vA.cons (v_callU dX3_turns_9 (ci := 8) rfl rfl (mj := mX3_drips) mt_X3_drips cmq_X3_drips wq_162 wq_152 wq_154 wq_150 wq_167 wq_154 (by decide) (by decide) (by decide)) (vA.cons (v_callU dX3_turns_9 (ci := 9) rfl rfl (mj := mX3_drips) mt_X3_drips cmq_X3_drips wq_162 wq_152 wq_154 wq_150 wq_168 wq_154 (by decide) (by decide) (by decide)) (vA.cons (v_callU dX3_turns_9 (ci := 10) rfl rfl (mj := mX10_drips) mt_X10_drips cmq_X10_drips wq_162 wq_152 wq_154 wq_150 wq_170 wq_171 (by decide) (by decide) (by decide)) vA.nil)))))))
theorem oX3_turns_12 : oP MT mX3_turns 12 (0, 1, 0, 5, []) := o_iconst dX3_turns_12 (by decide)
theorem oX3_turns_13 : oP MT mX3_turns 13 (1, 1, 2, 1, []) := o_aload_n dX3_turns_13 rfl
theorem oX3_turns_14 : oP MT mX3_turns 14 (12, 3, 1, 0, []) := o_getI (M := mX3_turns) (C := RX0) (T := TX0) (ci := 0) (j := 1) (z := 0) dX3_turns_14 rfl lq_RX3_23 rfl rfl
theorem oX3_turns_17 : oP MT mX3_turns 17 (4, 1, 2, 0, []) := o_imul dX3_turns_17
theorem oX3_turns_18 : oP MT mX3_turns 18 (4, 1, 1, 0, []) := o_isub dX3_turns_18
theorem oX3_turns_19 : oP MT mX3_turns 19 (21, 1, 0, 0, []) := o_iret dX3_turns_19 rfl
def ops_X3_turns : List (Nat × aO) := [(0, (1, 1, 2, 1, [])), (1, (0, 2, 0, 11, [])), (3, (26, 3, 0, 1, [(0, 38)])), (6, (1, 1, 0, 1, [])), (7, (1, 1, 1, 0, [])), (8, (1, 1, 2, 1, [])), (9, (26, 3, 0, 2, [(2, 39), (3, 40), (7, 40), (8, 40), (9, 40), (10, 41)])), (12, (0, 1, 0, 5, [])), (13, (1, 1, 2, 1, [])), (14, (12, 3, 1, 0, [])), (17, (4, 1, 2, 0, [])), (18, (4, 1, 1, 0, [])), (19, (21, 1, 0, 0, []))]
theorem os_X3_turns : oA MT mX3_turns ops_X3_turns := (oA.cons oX3_turns_0 (oA.cons oX3_turns_1 (oA.cons oX3_turns_3 (oA.cons oX3_turns_6 (oA.cons oX3_turns_7 (oA.cons oX3_turns_8 (oA.cons oX3_turns_9 (oA.cons oX3_turns_12 (oA.cons oX3_turns_13 (oA.cons oX3_turns_14 (oA.cons oX3_turns_17 (oA.cons oX3_turns_18 (oA.cons oX3_turns_19 oA.nil)))))))))))))
theorem dX7_halves_0 : decode cX7_halves 0 = .ok (.aload_n 2, 1) := by decide +kernel
theorem dX7_halves_1 : decode cX7_halves 1 = .ok (.bipush 40, 2) := by decide +kernel
theorem dX7_halves_3 : decode cX7_halves 3 = .ok (.invokevirtual 7, 3) := by decide +kernel
theorem dX7_halves_6 : decode cX7_halves 6 = .ok (.aload_n 0, 1) := by decide +kernel
theorem dX7_halves_7 : decode cX7_halves 7 = .ok (.iload_n 1, 1) := by decide +kernel
theorem dX7_halves_8 : decode cX7_halves 8 = .ok (.aload_n 2, 1) := by decide +kernel
theorem dX7_halves_9 : decode cX7_halves 9 = .ok (.invokespecial 13, 3) := by decide +kernel
theorem dX7_halves_12 : decode cX7_halves 12 = .ok (.bipush 9, 2) := by decide +kernel
theorem dX7_halves_14 : decode cX7_halves 14 = .ok (.isub, 1) := by decide +kernel
theorem dX7_halves_15 : decode cX7_halves 15 = .ok (.ireturn, 1) := by decide +kernel
theorem oX7_halves_0 : oP MT mX7_halves 0 (1, 1, 2, 1, []) := o_aload_n dX7_halves_0 rfl
theorem oX7_halves_1 : oP MT mX7_halves 1 (0, 2, 0, 40, []) := o_bipush dX7_halves_1 (by decide)
theorem oX7_halves_3 : oP MT mX7_halves 3 (26, 3, 0, 1, [(0, 38)]) := o_callO ((vA.cons (v_callV dX7_halves_3 (ci := 0) rfl rfl (mj := mX0_ran) mt_X0_ran cmq_X0_ran wq_172 wq_148 wq_149 (by decide) (by decide)) vA.nil))
theorem oX7_halves_6 : oP MT mX7_halves 6 (1, 1, 0, 1, []) := o_aload_n dX7_halves_6 rfl
theorem oX7_halves_7 : oP MT mX7_halves 7 (1, 1, 1, 0, []) := o_iload_n dX7_halves_7 rfl
theorem oX7_halves_8 : oP MT mX7_halves 8 (1, 1, 2, 1, []) := o_aload_n dX7_halves_8 rfl
theorem oX7_halves_9 : oP MT mX7_halves 9 (26, 3, 0, 2, [(7, 44), (9, 44)]) := o_callO ((vA.cons (v_callSU dX7_halves_9 (ci := 7) rfl rfl (mj := mX3_halves) mt_X3_halves cmq_X3_halves wq_174 wq_175 wq_176 wq_177 (by decide) (by decide) (by decide)) (vA.cons (v_callSU dX7_halves_9 (ci := 9) rfl rfl (mj := mX3_halves) mt_X3_halves cmq_X3_halves wq_174 wq_175 wq_176 wq_177 (by decide) (by decide) (by decide)) vA.nil)))
theorem oX7_halves_12 : oP MT mX7_halves 12 (0, 2, 0, 9, []) := o_bipush dX7_halves_12 (by decide)
theorem oX7_halves_14 : oP MT mX7_halves 14 (4, 1, 1, 0, []) := o_isub dX7_halves_14
theorem oX7_halves_15 : oP MT mX7_halves 15 (21, 1, 0, 0, []) := o_iret dX7_halves_15 rfl
def ops_X7_halves : List (Nat × aO) := [(0, (1, 1, 2, 1, [])), (1, (0, 2, 0, 40, [])), (3, (26, 3, 0, 1, [(0, 38)])), (6, (1, 1, 0, 1, [])), (7, (1, 1, 1, 0, [])), (8, (1, 1, 2, 1, [])), (9, (26, 3, 0, 2, [(7, 44), (9, 44)])), (12, (0, 2, 0, 9, [])), (14, (4, 1, 1, 0, [])), (15, (21, 1, 0, 0, []))]
theorem os_X7_halves : oA MT mX7_halves ops_X7_halves := (oA.cons oX7_halves_0 (oA.cons oX7_halves_1 (oA.cons oX7_halves_3 (oA.cons oX7_halves_6 (oA.cons oX7_halves_7 (oA.cons oX7_halves_8 (oA.cons oX7_halves_9 (oA.cons oX7_halves_12 (oA.cons oX7_halves_14 (oA.cons oX7_halves_15 oA.nil))))))))))
theorem dX3_halves_0 : decode cX3_halves 0 = .ok (.aload_n 2, 1) := by decide +kernel
theorem dX3_halves_1 : decode cX3_halves 1 = .ok (.bipush 12, 2) := by decide +kernel
theorem dX3_halves_3 : decode cX3_halves 3 = .ok (.invokevirtual 7, 3) := by decide +kernel
theorem dX3_halves_6 : decode cX3_halves 6 = .ok (.aload_n 2, 1) := by decide +kernel
theorem dX3_halves_7 : decode cX3_halves 7 = .ok (.iload_n 1, 1) := by decide +kernel
theorem dX3_halves_8 : decode cX3_halves 8 = .ok (.aload_n 2, 1) := by decide +kernel
theorem dX3_halves_9 : decode cX3_halves 9 = .ok (.getfield 23, 3) := by decide +kernel
theorem dX3_halves_12 : decode cX3_halves 12 = .ok (.aload_n 2, 1) := by decide +kernel
theorem dX3_halves_13 : decode cX3_halves 13 = .ok (.getfield 13, 3) := by decide +kernel
theorem dX3_halves_16 : decode cX3_halves 16 = .ok (.isub, 1) := by decide +kernel
theorem dX3_halves_17 : decode cX3_halves 17 = .ok (.iconst 3, 1) := by decide +kernel
theorem dX3_halves_18 : decode cX3_halves 18 = .ok (.iadd, 1) := by decide +kernel
theorem dX3_halves_19 : decode cX3_halves 19 = .ok (.invokevirtual 26, 3) := by decide +kernel
theorem dX3_halves_22 : decode cX3_halves 22 = .ok (.ireturn, 1) := by decide +kernel
theorem oX3_halves_0 : oP MT mX3_halves 0 (1, 1, 2, 1, []) := o_aload_n dX3_halves_0 rfl
theorem oX3_halves_1 : oP MT mX3_halves 1 (0, 2, 0, 12, []) := o_bipush dX3_halves_1 (by decide)
theorem oX3_halves_3 : oP MT mX3_halves 3 (26, 3, 0, 1, [(0, 38)]) := o_callO ((vA.cons (v_callV dX3_halves_3 (ci := 0) rfl rfl (mj := mX0_ran) mt_X0_ran cmq_X0_ran wq_155 wq_148 wq_149 (by decide) (by decide)) vA.nil))
theorem oX3_halves_6 : oP MT mX3_halves 6 (1, 1, 2, 1, []) := o_aload_n dX3_halves_6 rfl
theorem oX3_halves_7 : oP MT mX3_halves 7 (1, 1, 1, 0, []) := o_iload_n dX3_halves_7 rfl
theorem oX3_halves_8 : oP MT mX3_halves 8 (1, 1, 2, 1, []) := o_aload_n dX3_halves_8 rfl
theorem oX3_halves_9 : oP MT mX3_halves 9 (12, 3, 1, 0, []) := o_getI (M := mX3_halves) (C := RX0) (T := TX0) (ci := 0) (j := 1) (z := 0) dX3_halves_9 rfl lq_RX3_23 rfl rfl
theorem oX3_halves_12 : oP MT mX3_halves 12 (1, 1, 2, 1, []) := o_aload_n dX3_halves_12 rfl
theorem oX3_halves_13 : oP MT mX3_halves 13 (12, 3, 0, 0, []) := o_getI (M := mX3_halves) (C := RX0) (T := TX0) (ci := 0) (j := 0) (z := 0) dX3_halves_13 rfl lq_RX3_13 rfl rfl
theorem oX3_halves_16 : oP MT mX3_halves 16 (4, 1, 1, 0, []) := o_isub dX3_halves_16
theorem oX3_halves_17 : oP MT mX3_halves 17 (0, 1, 0, 3, []) := o_iconst dX3_halves_17 (by decide)
theorem oX3_halves_18 : oP MT mX3_halves 18 (4, 1, 0, 0, []) := o_iadd dX3_halves_18
theorem oX3_halves_19 : oP MT mX3_halves 19 (26, 3, 0, 2, [(0, 45)]) := o_callO ((vA.cons (v_callV dX3_halves_19 (ci := 0) rfl rfl (mj := mX0_leave) mt_X0_leave cmq_X0_leave wq_178 wq_180 wq_181 (by decide) (by decide)) vA.nil))
theorem oX3_halves_22 : oP MT mX3_halves 22 (21, 1, 0, 0, []) := o_iret dX3_halves_22 rfl
def ops_X3_halves : List (Nat × aO) := [(0, (1, 1, 2, 1, [])), (1, (0, 2, 0, 12, [])), (3, (26, 3, 0, 1, [(0, 38)])), (6, (1, 1, 2, 1, [])), (7, (1, 1, 1, 0, [])), (8, (1, 1, 2, 1, [])), (9, (12, 3, 1, 0, [])), (12, (1, 1, 2, 1, [])), (13, (12, 3, 0, 0, [])), (16, (4, 1, 1, 0, [])), (17, (0, 1, 0, 3, [])), (18, (4, 1, 0, 0, [])), (19, (26, 3, 0, 2, [(0, 45)])), (22, (21, 1, 0, 0, []))]
theorem os_X3_halves : oA MT mX3_halves ops_X3_halves := (oA.cons oX3_halves_0 (oA.cons oX3_halves_1 (oA.cons oX3_halves_3 (oA.cons oX3_halves_6 (oA.cons oX3_halves_7 (oA.cons oX3_halves_8 (oA.cons oX3_halves_9 (oA.cons oX3_halves_12 (oA.cons oX3_halves_13 (oA.cons oX3_halves_16 (oA.cons oX3_halves_17 (oA.cons oX3_halves_18 (oA.cons oX3_halves_19 (oA.cons oX3_halves_22 oA.nil))))))))))))))
theorem dX0_leave_0 : decode cX0_leave 0 = .ok (.iload_n 2, 1) := by decide +kernel
theorem dX0_leave_1 : decode cX0_leave 1 = .ok (.ifCond .ne 10, 3) := by decide +kernel
theorem dX0_leave_4 : decode cX0_leave 4 = .ok (.aload_n 0, 1) := by decide +kernel
theorem dX0_leave_5 : decode cX0_leave 5 = .ok (.iconst 1, 1) := by decide +kernel
theorem dX0_leave_6 : decode cX0_leave 6 = .ok (.putfield 22, 3) := by decide +kernel
theorem dX0_leave_9 : decode cX0_leave 9 = .ok (.iconst 0, 1) := by decide +kernel
theorem dX0_leave_10 : decode cX0_leave 10 = .ok (.ireturn, 1) := by decide +kernel
theorem dX0_leave_11 : decode cX0_leave 11 = .ok (.iload_n 1, 1) := by decide +kernel
theorem dX0_leave_12 : decode cX0_leave 12 = .ok (.iload_n 2, 1) := by decide +kernel
theorem dX0_leave_13 : decode cX0_leave 13 = .ok (.irem, 1) := by decide +kernel
theorem dX0_leave_14 : decode cX0_leave 14 = .ok (.ireturn, 1) := by decide +kernel
theorem oX0_leave_0 : oP MT mX0_leave 0 (1, 1, 2, 0, []) := o_iload_n dX0_leave_0 rfl
theorem oX0_leave_1 : oP MT mX0_leave 1 (10, 3, 1, 11, []) := o_if_ne dX0_leave_1 (by decide) (by decide)
theorem oX0_leave_4 : oP MT mX0_leave 4 (1, 1, 0, 1, []) := o_aload_n dX0_leave_4 rfl
theorem oX0_leave_5 : oP MT mX0_leave 5 (0, 1, 0, 1, []) := o_iconst dX0_leave_5 (by decide)
theorem oX0_leave_6 : oP MT mX0_leave 6 (15, 3, 2, 0, []) := o_putZ (M := mX0_leave) (C := RX0) (T := TX0) (ci := 0) (j := 2) (z := 0) dX0_leave_6 rfl lq_RX0_22 rfl rfl rfl rfl
theorem oX0_leave_9 : oP MT mX0_leave 9 (0, 1, 0, 0, []) := o_iconst dX0_leave_9 (by decide)
theorem oX0_leave_10 : oP MT mX0_leave 10 (21, 1, 0, 0, []) := o_iret dX0_leave_10 rfl
theorem oX0_leave_11 : oP MT mX0_leave 11 (1, 1, 1, 0, []) := o_iload_n dX0_leave_11 rfl
theorem oX0_leave_12 : oP MT mX0_leave 12 (1, 1, 2, 0, []) := o_iload_n dX0_leave_12 rfl
theorem oX0_leave_13 : oP MT mX0_leave 13 (4, 1, 10, 0, []) := o_irem dX0_leave_13
theorem oX0_leave_14 : oP MT mX0_leave 14 (21, 1, 0, 0, []) := o_iret dX0_leave_14 rfl
def ops_X0_leave : List (Nat × aO) := [(0, (1, 1, 2, 0, [])), (1, (10, 3, 1, 11, [])), (4, (1, 1, 0, 1, [])), (5, (0, 1, 0, 1, [])), (6, (15, 3, 2, 0, [])), (9, (0, 1, 0, 0, [])), (10, (21, 1, 0, 0, [])), (11, (1, 1, 1, 0, [])), (12, (1, 1, 2, 0, [])), (13, (4, 1, 10, 0, [])), (14, (21, 1, 0, 0, []))]
theorem os_X0_leave : oA MT mX0_leave ops_X0_leave := (oA.cons oX0_leave_0 (oA.cons oX0_leave_1 (oA.cons oX0_leave_4 (oA.cons oX0_leave_5 (oA.cons oX0_leave_6 (oA.cons oX0_leave_9 (oA.cons oX0_leave_10 (oA.cons oX0_leave_11 (oA.cons oX0_leave_12 (oA.cons oX0_leave_13 (oA.cons oX0_leave_14 oA.nil)))))))))))
theorem dX8_turns_0 : decode cX8_turns 0 = .ok (.aload_n 2, 1) := by decide +kernel
theorem dX8_turns_1 : decode cX8_turns 1 = .ok (.bipush 30, 2) := by decide +kernel
theorem dX8_turns_3 : decode cX8_turns 3 = .ok (.invokevirtual 17, 3) := by decide +kernel
theorem dX8_turns_6 : decode cX8_turns 6 = .ok (.aload_n 0, 1) := by decide +kernel
theorem dX8_turns_7 : decode cX8_turns 7 = .ok (.iload_n 1, 1) := by decide +kernel
theorem dX8_turns_8 : decode cX8_turns 8 = .ok (.aload_n 2, 1) := by decide +kernel
theorem dX8_turns_9 : decode cX8_turns 9 = .ok (.invokespecial 23, 3) := by decide +kernel
theorem dX8_turns_12 : decode cX8_turns 12 = .ok (.iconst 3, 1) := by decide +kernel
theorem dX8_turns_13 : decode cX8_turns 13 = .ok (.imul, 1) := by decide +kernel
theorem dX8_turns_14 : decode cX8_turns 14 = .ok (.ireturn, 1) := by decide +kernel
theorem oX8_turns_0 : oP MT mX8_turns 0 (1, 1, 2, 1, []) := o_aload_n dX8_turns_0 rfl
theorem oX8_turns_1 : oP MT mX8_turns 1 (0, 2, 0, 30, []) := o_bipush dX8_turns_1 (by decide)
theorem oX8_turns_3 : oP MT mX8_turns 3 (26, 3, 0, 1, [(0, 38)]) := o_callO ((vA.cons (v_callV dX8_turns_3 (ci := 0) rfl rfl (mj := mX0_ran) mt_X0_ran cmq_X0_ran wq_182 wq_148 wq_149 (by decide) (by decide)) vA.nil))
theorem oX8_turns_6 : oP MT mX8_turns 6 (1, 1, 0, 1, []) := o_aload_n dX8_turns_6 rfl
theorem oX8_turns_7 : oP MT mX8_turns 7 (1, 1, 1, 0, []) := o_iload_n dX8_turns_7 rfl
theorem oX8_turns_8 : oP MT mX8_turns 8 (1, 1, 2, 1, []) := o_aload_n dX8_turns_8 rfl
theorem oX8_turns_9 : oP MT mX8_turns 9 (26, 3, 0, 2, [(8, 42), (10, 42)]) := o_callO ((vA.cons (v_callSU dX8_turns_9 (ci := 8) rfl rfl (mj := mX3_turns) mt_X3_turns cmq_X3_turns wq_184 wq_185 wq_13 wq_186 (by decide) (by decide) (by decide)) (vA.cons (v_callSU dX8_turns_9 (ci := 10) rfl rfl (mj := mX3_turns) mt_X3_turns cmq_X3_turns wq_184 wq_185 wq_13 wq_186 (by decide) (by decide) (by decide)) vA.nil)))
theorem oX8_turns_12 : oP MT mX8_turns 12 (0, 1, 0, 3, []) := o_iconst dX8_turns_12 (by decide)
theorem oX8_turns_13 : oP MT mX8_turns 13 (4, 1, 2, 0, []) := o_imul dX8_turns_13
theorem oX8_turns_14 : oP MT mX8_turns 14 (21, 1, 0, 0, []) := o_iret dX8_turns_14 rfl
def ops_X8_turns : List (Nat × aO) := [(0, (1, 1, 2, 1, [])), (1, (0, 2, 0, 30, [])), (3, (26, 3, 0, 1, [(0, 38)])), (6, (1, 1, 0, 1, [])), (7, (1, 1, 1, 0, [])), (8, (1, 1, 2, 1, [])), (9, (26, 3, 0, 2, [(8, 42), (10, 42)])), (12, (0, 1, 0, 3, [])), (13, (4, 1, 2, 0, [])), (14, (21, 1, 0, 0, []))]
theorem os_X8_turns : oA MT mX8_turns ops_X8_turns := (oA.cons oX8_turns_0 (oA.cons oX8_turns_1 (oA.cons oX8_turns_3 (oA.cons oX8_turns_6 (oA.cons oX8_turns_7 (oA.cons oX8_turns_8 (oA.cons oX8_turns_9 (oA.cons oX8_turns_12 (oA.cons oX8_turns_13 (oA.cons oX8_turns_14 oA.nil))))))))))
theorem dX9_turns_0 : decode cX9_turns 0 = .ok (.aload_n 2, 1) := by decide +kernel
theorem dX9_turns_1 : decode cX9_turns 1 = .ok (.bipush 60, 2) := by decide +kernel
theorem dX9_turns_3 : decode cX9_turns 3 = .ok (.invokevirtual 20, 3) := by decide +kernel
theorem dX9_turns_6 : decode cX9_turns 6 = .ok (.iconst 0, 1) := by decide +kernel
theorem dX9_turns_7 : decode cX9_turns 7 = .ok (.aload_n 0, 1) := by decide +kernel
theorem dX9_turns_8 : decode cX9_turns 8 = .ok (.iload_n 1, 1) := by decide +kernel
theorem dX9_turns_9 : decode cX9_turns 9 = .ok (.aload_n 2, 1) := by decide +kernel
theorem dX9_turns_10 : decode cX9_turns 10 = .ok (.invokespecial 26, 3) := by decide +kernel
theorem dX9_turns_13 : decode cX9_turns 13 = .ok (.isub, 1) := by decide +kernel
theorem dX9_turns_14 : decode cX9_turns 14 = .ok (.ireturn, 1) := by decide +kernel
theorem oX9_turns_0 : oP MT mX9_turns 0 (1, 1, 2, 1, []) := o_aload_n dX9_turns_0 rfl
theorem oX9_turns_1 : oP MT mX9_turns 1 (0, 2, 0, 60, []) := o_bipush dX9_turns_1 (by decide)
theorem oX9_turns_3 : oP MT mX9_turns 3 (26, 3, 0, 1, [(0, 38)]) := o_callO ((vA.cons (v_callV dX9_turns_3 (ci := 0) rfl rfl (mj := mX0_ran) mt_X0_ran cmq_X0_ran wq_187 wq_148 wq_149 (by decide) (by decide)) vA.nil))
theorem oX9_turns_6 : oP MT mX9_turns 6 (0, 1, 0, 0, []) := o_iconst dX9_turns_6 (by decide)
theorem oX9_turns_7 : oP MT mX9_turns 7 (1, 1, 0, 1, []) := o_aload_n dX9_turns_7 rfl
theorem oX9_turns_8 : oP MT mX9_turns 8 (1, 1, 1, 0, []) := o_iload_n dX9_turns_8 rfl
theorem oX9_turns_9 : oP MT mX9_turns 9 (1, 1, 2, 1, []) := o_aload_n dX9_turns_9 rfl
theorem oX9_turns_10 : oP MT mX9_turns 10 (26, 3, 0, 2, [(9, 42)]) := o_callO ((vA.cons (v_callSO (xm := ⟨"IceKeys$Salt", "turns", "(ILIceKeys$Deed;)I"⟩) dX9_turns_10 (ci := 9) rfl rfl (mj := mX3_turns) mt_X3_turns cmq_X3_turns wq_188 wq_189 wq_190 wq_191 wq_186 (by decide) rfl (by decide) (by decide)) vA.nil))
theorem oX9_turns_13 : oP MT mX9_turns 13 (4, 1, 1, 0, []) := o_isub dX9_turns_13
theorem oX9_turns_14 : oP MT mX9_turns 14 (21, 1, 0, 0, []) := o_iret dX9_turns_14 rfl
def ops_X9_turns : List (Nat × aO) := [(0, (1, 1, 2, 1, [])), (1, (0, 2, 0, 60, [])), (3, (26, 3, 0, 1, [(0, 38)])), (6, (0, 1, 0, 0, [])), (7, (1, 1, 0, 1, [])), (8, (1, 1, 1, 0, [])), (9, (1, 1, 2, 1, [])), (10, (26, 3, 0, 2, [(9, 42)])), (13, (4, 1, 1, 0, [])), (14, (21, 1, 0, 0, []))]
theorem os_X9_turns : oA MT mX9_turns ops_X9_turns := (oA.cons oX9_turns_0 (oA.cons oX9_turns_1 (oA.cons oX9_turns_3 (oA.cons oX9_turns_6 (oA.cons oX9_turns_7 (oA.cons oX9_turns_8 (oA.cons oX9_turns_9 (oA.cons oX9_turns_10 (oA.cons oX9_turns_13 (oA.cons oX9_turns_14 oA.nil))))))))))
theorem dX9_halves_0 : decode cX9_halves 0 = .ok (.aload_n 2, 1) := by decide +kernel
theorem dX9_halves_1 : decode cX9_halves 1 = .ok (.bipush 61, 2) := by decide +kernel
theorem dX9_halves_3 : decode cX9_halves 3 = .ok (.invokevirtual 20, 3) := by decide +kernel
theorem dX9_halves_6 : decode cX9_halves 6 = .ok (.aload_n 0, 1) := by decide +kernel
theorem dX9_halves_7 : decode cX9_halves 7 = .ok (.iload_n 1, 1) := by decide +kernel
theorem dX9_halves_8 : decode cX9_halves 8 = .ok (.aload_n 2, 1) := by decide +kernel
theorem dX9_halves_9 : decode cX9_halves 9 = .ok (.invokespecial 30, 3) := by decide +kernel
theorem dX9_halves_12 : decode cX9_halves 12 = .ok (.istore_n 3, 1) := by decide +kernel
theorem dX9_halves_13 : decode cX9_halves 13 = .ok (.iload_n 3, 1) := by decide +kernel
theorem dX9_halves_14 : decode cX9_halves 14 = .ok (.aload_n 0, 1) := by decide +kernel
theorem dX9_halves_15 : decode cX9_halves 15 = .ok (.aload_n 2, 1) := by decide +kernel
theorem dX9_halves_16 : decode cX9_halves 16 = .ok (.getfield 33, 3) := by decide +kernel
theorem dX9_halves_19 : decode cX9_halves 19 = .ok (.aload_n 2, 1) := by decide +kernel
theorem dX9_halves_20 : decode cX9_halves 20 = .ok (.invokevirtual 37, 3) := by decide +kernel
theorem dX9_halves_23 : decode cX9_halves 23 = .ok (.iadd, 1) := by decide +kernel
theorem dX9_halves_24 : decode cX9_halves 24 = .ok (.ireturn, 1) := by decide +kernel
theorem oX9_halves_0 : oP MT mX9_halves 0 (1, 1, 2, 1, []) := o_aload_n dX9_halves_0 rfl
theorem oX9_halves_1 : oP MT mX9_halves 1 (0, 2, 0, 61, []) := o_bipush dX9_halves_1 (by decide)
theorem oX9_halves_3 : oP MT mX9_halves 3 (26, 3, 0, 1, [(0, 38)]) := o_callO ((vA.cons (v_callV dX9_halves_3 (ci := 0) rfl rfl (mj := mX0_ran) mt_X0_ran cmq_X0_ran wq_187 wq_148 wq_149 (by decide) (by decide)) vA.nil))
theorem oX9_halves_6 : oP MT mX9_halves 6 (1, 1, 0, 1, []) := o_aload_n dX9_halves_6 rfl
theorem oX9_halves_7 : oP MT mX9_halves 7 (1, 1, 1, 0, []) := o_iload_n dX9_halves_7 rfl
theorem oX9_halves_8 : oP MT mX9_halves 8 (1, 1, 2, 1, []) := o_aload_n dX9_halves_8 rfl
theorem oX9_halves_9 : oP MT mX9_halves 9 (26, 3, 0, 2, [(9, 43)]) := o_callO ((vA.cons (v_callSU dX9_halves_9 (ci := 9) rfl rfl (mj := mX7_halves) mt_X7_halves cmq_X7_halves wq_193 wq_194 wq_23 wq_195 (by decide) (by decide) (by decide)) vA.nil))
theorem oX9_halves_12 : oP MT mX9_halves 12 (2, 1, 3, 0, []) := o_istore_n dX9_halves_12 rfl (by decide)
theorem oX9_halves_13 : oP MT mX9_halves 13 (1, 1, 3, 0, []) := o_iload_n dX9_halves_13 rfl
theorem oX9_halves_14 : oP MT mX9_halves 14 (1, 1, 0, 1, []) := o_aload_n dX9_halves_14 rfl
theorem oX9_halves_15 : oP MT mX9_halves 15 (1, 1, 2, 1, []) := o_aload_n dX9_halves_15 rfl
theorem oX9_halves_16 : oP MT mX9_halves 16 (12, 3, 0, 0, []) := o_getI (M := mX9_halves) (C := RX0) (T := TX0) (ci := 0) (j := 0) (z := 0) dX9_halves_16 rfl lq_RX9_33 rfl rfl
theorem oX9_halves_19 : oP MT mX9_halves 19 (1, 1, 2, 1, []) := o_aload_n dX9_halves_19 rfl
theorem oX9_halves_20 : oP MT mX9_halves 20 (26, 3, 0, 2, [(9, 40)]) := o_callO ((vA.cons (v_callUI (xm := ⟨"IceKeys$Spare", "drips", "(ILIceKeys$Deed;)I"⟩) dX9_halves_20 (ci := 9) rfl rfl (mj := mX3_drips) mt_X3_drips cmq_X3_drips wq_196 wq_197 wq_198 wq_154 rfl (by decide) (by decide)) vA.nil))
theorem oX9_halves_23 : oP MT mX9_halves 23 (4, 1, 0, 0, []) := o_iadd dX9_halves_23
theorem oX9_halves_24 : oP MT mX9_halves 24 (21, 1, 0, 0, []) := o_iret dX9_halves_24 rfl
def ops_X9_halves : List (Nat × aO) := [(0, (1, 1, 2, 1, [])), (1, (0, 2, 0, 61, [])), (3, (26, 3, 0, 1, [(0, 38)])), (6, (1, 1, 0, 1, [])), (7, (1, 1, 1, 0, [])), (8, (1, 1, 2, 1, [])), (9, (26, 3, 0, 2, [(9, 43)])), (12, (2, 1, 3, 0, [])), (13, (1, 1, 3, 0, [])), (14, (1, 1, 0, 1, [])), (15, (1, 1, 2, 1, [])), (16, (12, 3, 0, 0, [])), (19, (1, 1, 2, 1, [])), (20, (26, 3, 0, 2, [(9, 40)])), (23, (4, 1, 0, 0, [])), (24, (21, 1, 0, 0, []))]
theorem os_X9_halves : oA MT mX9_halves ops_X9_halves := (oA.cons oX9_halves_0 (oA.cons oX9_halves_1 (oA.cons oX9_halves_3 (oA.cons oX9_halves_6 (oA.cons oX9_halves_7 (oA.cons oX9_halves_8 (oA.cons oX9_halves_9 (oA.cons oX9_halves_12 (oA.cons oX9_halves_13 (oA.cons oX9_halves_14 (oA.cons oX9_halves_15 (oA.cons oX9_halves_16 (oA.cons oX9_halves_19 (oA.cons oX9_halves_20 (oA.cons oX9_halves_23 (oA.cons oX9_halves_24 oA.nil))))))))))))))))
theorem dX4_isLast_0 : decode cX4_isLast 0 = .ok (.iload_n 2, 1) := by decide +kernel
theorem dX4_isLast_1 : decode cX4_isLast 1 = .ok (.ifCond .le 18, 3) := by decide +kernel
theorem dX4_isLast_4 : decode cX4_isLast 4 = .ok (.iload_n 1, 1) := by decide +kernel
theorem dX4_isLast_5 : decode cX4_isLast 5 = .ok (.iconst 4, 1) := by decide +kernel
theorem dX4_isLast_6 : decode cX4_isLast 6 = .ok (.if_icmp .ge 13, 3) := by decide +kernel
theorem dX4_isLast_9 : decode cX4_isLast 9 = .ok (.aload_n 0, 1) := by decide +kernel
theorem dX4_isLast_10 : decode cX4_isLast 10 = .ok (.getfield 21, 3) := by decide +kernel
theorem dX4_isLast_13 : decode cX4_isLast 13 = .ok (.invokevirtual 25, 3) := by decide +kernel
theorem dX4_isLast_16 : decode cX4_isLast 16 = .ok (.ifCond .eq 7, 3) := by decide +kernel
theorem dX4_isLast_19 : decode cX4_isLast 19 = .ok (.iconst 1, 1) := by decide +kernel
theorem dX4_isLast_20 : decode cX4_isLast 20 = .ok (.goto 4, 3) := by decide +kernel
theorem dX4_isLast_23 : decode cX4_isLast 23 = .ok (.iconst 0, 1) := by decide +kernel
theorem dX4_isLast_24 : decode cX4_isLast 24 = .ok (.ireturn, 1) := by decide +kernel
theorem oX4_isLast_0 : oP MT mX4_isLast 0 (1, 1, 2, 0, []) := o_iload_n dX4_isLast_0 rfl
theorem oX4_isLast_1 : oP MT mX4_isLast 1 (10, 3, 5, 19, []) := o_if_le dX4_isLast_1 (by decide) (by decide)
theorem oX4_isLast_4 : oP MT mX4_isLast 4 (1, 1, 1, 0, []) := o_iload_n dX4_isLast_4 rfl
theorem oX4_isLast_5 : oP MT mX4_isLast 5 (0, 1, 0, 4, []) := o_iconst dX4_isLast_5 (by decide)
theorem oX4_isLast_6 : oP MT mX4_isLast 6 (11, 3, 3, 19, []) := o_icmp_ge dX4_isLast_6 (by decide) (by decide)
theorem oX4_isLast_9 : oP MT mX4_isLast 9 (1, 1, 0, 1, []) := o_aload_n dX4_isLast_9 rfl
theorem oX4_isLast_10 : oP MT mX4_isLast 10 (13, 3, 0, 4, []) := o_getR (M := mX4_isLast) (C := RX4) (T := TX4) (ci := 4) (j := 0) (z := 4) dX4_isLast_10 rfl lq_RX4_21 rfl rfl
theorem oX4_isLast_13 : oP MT mX4_isLast 13 (26, 3, 0, 0, [(1, 31)]) := o_callO ((vA.cons (v_callV dX4_isLast_13 (ci := 1) rfl rfl (mj := mX1_isOver) mt_X1_isOver cmq_X1_isOver wq_199 wq_201 wq_202 (by decide) (by decide)) vA.nil))
theorem oX4_isLast_16 : oP MT mX4_isLast 16 (10, 3, 0, 23, []) := o_if_eq dX4_isLast_16 (by decide) (by decide)
theorem oX4_isLast_19 : oP MT mX4_isLast 19 (0, 1, 0, 1, []) := o_iconst dX4_isLast_19 (by decide)
theorem oX4_isLast_20 : oP MT mX4_isLast 20 (9, 3, 24, 0, []) := o_goto dX4_isLast_20 (by decide)
theorem oX4_isLast_23 : oP MT mX4_isLast 23 (0, 1, 0, 0, []) := o_iconst dX4_isLast_23 (by decide)
theorem oX4_isLast_24 : oP MT mX4_isLast 24 (22, 1, 0, 0, []) := o_zret dX4_isLast_24 rfl
def ops_X4_isLast : List (Nat × aO) := [(0, (1, 1, 2, 0, [])), (1, (10, 3, 5, 19, [])), (4, (1, 1, 1, 0, [])), (5, (0, 1, 0, 4, [])), (6, (11, 3, 3, 19, [])), (9, (1, 1, 0, 1, [])), (10, (13, 3, 0, 4, [])), (13, (26, 3, 0, 0, [(1, 31)])), (16, (10, 3, 0, 23, [])), (19, (0, 1, 0, 1, [])), (20, (9, 3, 24, 0, [])), (23, (0, 1, 0, 0, [])), (24, (22, 1, 0, 0, []))]
theorem os_X4_isLast : oA MT mX4_isLast ops_X4_isLast := (oA.cons oX4_isLast_0 (oA.cons oX4_isLast_1 (oA.cons oX4_isLast_4 (oA.cons oX4_isLast_5 (oA.cons oX4_isLast_6 (oA.cons oX4_isLast_9 (oA.cons oX4_isLast_10 (oA.cons oX4_isLast_13 (oA.cons oX4_isLast_16 (oA.cons oX4_isLast_19 (oA.cons oX4_isLast_20 (oA.cons oX4_isLast_23 (oA.cons oX4_isLast_24 oA.nil)))))))))))))
theorem dX1_save_0 : decode cX1_save 0 = .ok (.iload_n 1, 1) := by decide +kernel
theorem dX1_save_1 : decode cX1_save 1 = .ok (.bipush 8, 2) := by decide +kernel
theorem dX1_save_3 : decode cX1_save 3 = .ok (.imul, 1) := by decide +kernel
theorem dX1_save_4 : decode cX1_save 4 = .ok (.istore_n 2, 1) := by decide +kernel
theorem dX1_save_5 : decode cX1_save 5 = .ok (.aload_n 0, 1) := by decide +kernel
theorem dX1_save_6 : decode cX1_save 6 = .ok (.getfield 31, 3) := by decide +kernel
theorem dX1_save_9 : decode cX1_save 9 = .ok (.iconst 0, 1) := by decide +kernel
theorem dX1_save_10 : decode cX1_save 10 = .ok (.aload_n 0, 1) := by decide +kernel
theorem dX1_save_11 : decode cX1_save 11 = .ok (.getfield 53, 3) := by decide +kernel
theorem dX1_save_14 : decode cX1_save 14 = .ok (.iload_n 2, 1) := by decide +kernel
theorem dX1_save_15 : decode cX1_save 15 = .ok (.bipush 6, 2) := by decide +kernel
theorem dX1_save_17 : decode cX1_save 17 = .ok (.invokestatic 66, 3) := by decide +kernel
theorem dX1_save_20 : decode cX1_save 20 = .ok (.aload_n 0, 1) := by decide +kernel
theorem dX1_save_21 : decode cX1_save 21 = .ok (.getfield 53, 3) := by decide +kernel
theorem dX1_save_24 : decode cX1_save 24 = .ok (.iload_n 2, 1) := by decide +kernel
theorem dX1_save_25 : decode cX1_save 25 = .ok (.bipush 6, 2) := by decide +kernel
theorem dX1_save_27 : decode cX1_save 27 = .ok (.iadd, 1) := by decide +kernel
theorem dX1_save_28 : decode cX1_save 28 = .ok (.aload_n 0, 1) := by decide +kernel
theorem dX1_save_29 : decode cX1_save 29 = .ok (.getfield 75, 3) := by decide +kernel
theorem dX1_save_32 : decode cX1_save 32 = .ok (.iastore, 1) := by decide +kernel
theorem dX1_save_33 : decode cX1_save 33 = .ok (.aload_n 0, 1) := by decide +kernel
theorem dX1_save_34 : decode cX1_save 34 = .ok (.getfield 53, 3) := by decide +kernel
theorem dX1_save_37 : decode cX1_save 37 = .ok (.iload_n 2, 1) := by decide +kernel
theorem dX1_save_38 : decode cX1_save 38 = .ok (.bipush 6, 2) := by decide +kernel
theorem dX1_save_40 : decode cX1_save 40 = .ok (.iadd, 1) := by decide +kernel
theorem dX1_save_41 : decode cX1_save 41 = .ok (.iconst 1, 1) := by decide +kernel
theorem dX1_save_42 : decode cX1_save 42 = .ok (.iadd, 1) := by decide +kernel
theorem dX1_save_43 : decode cX1_save 43 = .ok (.aload_n 0, 1) := by decide +kernel
theorem dX1_save_44 : decode cX1_save 44 = .ok (.getfield 60, 3) := by decide +kernel
theorem dX1_save_47 : decode cX1_save 47 = .ok (.iastore, 1) := by decide +kernel
theorem dX1_save_48 : decode cX1_save 48 = .ok (.return_, 1) := by decide +kernel
theorem oX1_save_0 : oP MT mX1_save 0 (1, 1, 1, 0, []) := o_iload_n dX1_save_0 rfl
theorem oX1_save_1 : oP MT mX1_save 1 (0, 2, 0, 8, []) := o_bipush dX1_save_1 (by decide)
theorem oX1_save_3 : oP MT mX1_save 3 (4, 1, 2, 0, []) := o_imul dX1_save_3
theorem oX1_save_4 : oP MT mX1_save 4 (2, 1, 2, 0, []) := o_istore_n dX1_save_4 rfl (by decide)
theorem oX1_save_5 : oP MT mX1_save 5 (1, 1, 0, 1, []) := o_aload_n dX1_save_5 rfl
theorem oX1_save_6 : oP MT mX1_save 6 (13, 3, 11, 1, []) := o_getR (M := mX1_save) (C := RX1) (T := TX1) (ci := 1) (j := 11) (z := 1) dX1_save_6 rfl lq_RX1_31 rfl rfl
theorem oX1_save_9 : oP MT mX1_save 9 (0, 1, 0, 0, []) := o_iconst dX1_save_9 (by decide)
theorem oX1_save_10 : oP MT mX1_save 10 (1, 1, 0, 1, []) := o_aload_n dX1_save_10 rfl
theorem oX1_save_11 : oP MT mX1_save 11 (13, 3, 18, 1, []) := o_getR (M := mX1_save) (C := RX1) (T := TX1) (ci := 1) (j := 18) (z := 1) dX1_save_11 rfl lq_RX1_53 rfl rfl
theorem oX1_save_14 : oP MT mX1_save 14 (1, 1, 2, 0, []) := o_iload_n dX1_save_14 rfl
theorem oX1_save_15 : oP MT mX1_save 15 (0, 2, 0, 6, []) := o_bipush dX1_save_15 (by decide)
theorem oX1_save_17 : oP MT mX1_save 17 (29, 3, 0, 0, []) := o_copy dX1_save_17 wq_203 wq_1 wq_2 wq_3
theorem oX1_save_20 : oP MT mX1_save 20 (1, 1, 0, 1, []) := o_aload_n dX1_save_20 rfl
theorem oX1_save_21 : oP MT mX1_save 21 (13, 3, 18, 1, []) := o_getR (M := mX1_save) (C := RX1) (T := TX1) (ci := 1) (j := 18) (z := 1) dX1_save_21 rfl lq_RX1_53 rfl rfl
theorem oX1_save_24 : oP MT mX1_save 24 (1, 1, 2, 0, []) := o_iload_n dX1_save_24 rfl
theorem oX1_save_25 : oP MT mX1_save 25 (0, 2, 0, 6, []) := o_bipush dX1_save_25 (by decide)
theorem oX1_save_27 : oP MT mX1_save 27 (4, 1, 0, 0, []) := o_iadd dX1_save_27
theorem oX1_save_28 : oP MT mX1_save 28 (1, 1, 0, 1, []) := o_aload_n dX1_save_28 rfl
theorem oX1_save_29 : oP MT mX1_save 29 (12, 3, 9, 1, []) := o_getI (M := mX1_save) (C := RX1) (T := TX1) (ci := 1) (j := 9) (z := 1) dX1_save_29 rfl lq_RX1_75 rfl rfl
theorem oX1_save_32 : oP MT mX1_save 32 (18, 1, 0, 0, []) := o_iastore dX1_save_32
theorem oX1_save_33 : oP MT mX1_save 33 (1, 1, 0, 1, []) := o_aload_n dX1_save_33 rfl
theorem oX1_save_34 : oP MT mX1_save 34 (13, 3, 18, 1, []) := o_getR (M := mX1_save) (C := RX1) (T := TX1) (ci := 1) (j := 18) (z := 1) dX1_save_34 rfl lq_RX1_53 rfl rfl
theorem oX1_save_37 : oP MT mX1_save 37 (1, 1, 2, 0, []) := o_iload_n dX1_save_37 rfl
theorem oX1_save_38 : oP MT mX1_save 38 (0, 2, 0, 6, []) := o_bipush dX1_save_38 (by decide)
theorem oX1_save_40 : oP MT mX1_save 40 (4, 1, 0, 0, []) := o_iadd dX1_save_40
theorem oX1_save_41 : oP MT mX1_save 41 (0, 1, 0, 1, []) := o_iconst dX1_save_41 (by decide)
theorem oX1_save_42 : oP MT mX1_save 42 (4, 1, 0, 0, []) := o_iadd dX1_save_42
theorem oX1_save_43 : oP MT mX1_save 43 (1, 1, 0, 1, []) := o_aload_n dX1_save_43 rfl
theorem oX1_save_44 : oP MT mX1_save 44 (12, 3, 1, 1, []) := o_getI (M := mX1_save) (C := RX1) (T := TX1) (ci := 1) (j := 1) (z := 1) dX1_save_44 rfl lq_RX1_60 rfl rfl
theorem oX1_save_47 : oP MT mX1_save 47 (18, 1, 0, 0, []) := o_iastore dX1_save_47
theorem oX1_save_48 : oP MT mX1_save 48 (23, 1, 0, 0, []) := o_vret dX1_save_48 rfl
def ops_X1_save : List (Nat × aO) := [(0, (1, 1, 1, 0, [])), (1, (0, 2, 0, 8, [])), (3, (4, 1, 2, 0, [])), (4, (2, 1, 2, 0, [])), (5, (1, 1, 0, 1, [])), (6, (13, 3, 11, 1, [])), (9, (0, 1, 0, 0, [])), (10, (1, 1, 0, 1, [])), (11, (13, 3, 18, 1, [])), (14, (1, 1, 2, 0, [])), (15, (0, 2, 0, 6, [])), (17, (29, 3, 0, 0, [])), (20, (1, 1, 0, 1, [])), (21, (13, 3, 18, 1, [])), (24, (1, 1, 2, 0, [])), (25, (0, 2, 0, 6, [])), (27, (4, 1, 0, 0, [])), (28, (1, 1, 0, 1, [])), (29, (12, 3, 9, 1, [])), (32, (18, 1, 0, 0, [])), (33, (1, 1, 0, 1, [])), (34, (13, 3, 18, 1, [])), (37, (1, 1, 2, 0, [])), (38, (0, 2, 0, 6, [])), (40, (4, 1, 0, 0, [])), (41, (0, 1, 0, 1, [])), (42, (4, 1, 0, 0, [])), (43, (1, 1, 0, 1, [])), (44, (12, 3, 1, 1, [])), (47, (18, 1, 0, 0, [])), (48, (23, 1, 0, 0, []))]
theorem os_X1_save : oA MT mX1_save ops_X1_save := (oA.cons oX1_save_0 (oA.cons oX1_save_1 (oA.cons oX1_save_3 (oA.cons oX1_save_4 (oA.cons oX1_save_5 (oA.cons oX1_save_6 (oA.cons oX1_save_9 (oA.cons oX1_save_10 (oA.cons oX1_save_11 (oA.cons oX1_save_14 (oA.cons oX1_save_15 (oA.cons oX1_save_17 (oA.cons oX1_save_20 (oA.cons oX1_save_21 (oA.cons oX1_save_24 (oA.cons oX1_save_25 (oA.cons oX1_save_27 (oA.cons oX1_save_28 (oA.cons oX1_save_29 (oA.cons oX1_save_32 (oA.cons oX1_save_33 (oA.cons oX1_save_34 (oA.cons oX1_save_37 (oA.cons oX1_save_38 (oA.cons oX1_save_40 (oA.cons oX1_save_41 (oA.cons oX1_save_42 (oA.cons oX1_save_43 (oA.cons oX1_save_44 (oA.cons oX1_save_47 (oA.cons oX1_save_48 oA.nil)))))))))))))))))))))))))))))))
theorem dX1_restore_0 : decode cX1_restore 0 = .ok (.iload_n 1, 1) := by decide +kernel
theorem dX1_restore_1 : decode cX1_restore 1 = .ok (.bipush 8, 2) := by decide +kernel
theorem dX1_restore_3 : decode cX1_restore 3 = .ok (.imul, 1) := by decide +kernel
theorem dX1_restore_4 : decode cX1_restore 4 = .ok (.istore_n 2, 1) := by decide +kernel
theorem dX1_restore_5 : decode cX1_restore 5 = .ok (.aload_n 0, 1) := by decide +kernel
theorem dX1_restore_6 : decode cX1_restore 6 = .ok (.getfield 53, 3) := by decide +kernel
theorem dX1_restore_9 : decode cX1_restore 9 = .ok (.iload_n 2, 1) := by decide +kernel
theorem dX1_restore_10 : decode cX1_restore 10 = .ok (.aload_n 0, 1) := by decide +kernel
theorem dX1_restore_11 : decode cX1_restore 11 = .ok (.getfield 31, 3) := by decide +kernel
theorem dX1_restore_14 : decode cX1_restore 14 = .ok (.iconst 0, 1) := by decide +kernel
theorem dX1_restore_15 : decode cX1_restore 15 = .ok (.bipush 6, 2) := by decide +kernel
theorem dX1_restore_17 : decode cX1_restore 17 = .ok (.invokestatic 66, 3) := by decide +kernel
theorem dX1_restore_20 : decode cX1_restore 20 = .ok (.aload_n 0, 1) := by decide +kernel
theorem dX1_restore_21 : decode cX1_restore 21 = .ok (.aload_n 0, 1) := by decide +kernel
theorem dX1_restore_22 : decode cX1_restore 22 = .ok (.getfield 53, 3) := by decide +kernel
theorem dX1_restore_25 : decode cX1_restore 25 = .ok (.iload_n 2, 1) := by decide +kernel
theorem dX1_restore_26 : decode cX1_restore 26 = .ok (.bipush 6, 2) := by decide +kernel
theorem dX1_restore_28 : decode cX1_restore 28 = .ok (.iadd, 1) := by decide +kernel
theorem dX1_restore_29 : decode cX1_restore 29 = .ok (.iaload, 1) := by decide +kernel
theorem dX1_restore_30 : decode cX1_restore 30 = .ok (.putfield 75, 3) := by decide +kernel
theorem dX1_restore_33 : decode cX1_restore 33 = .ok (.aload_n 0, 1) := by decide +kernel
theorem dX1_restore_34 : decode cX1_restore 34 = .ok (.aload_n 0, 1) := by decide +kernel
theorem dX1_restore_35 : decode cX1_restore 35 = .ok (.getfield 53, 3) := by decide +kernel
theorem dX1_restore_38 : decode cX1_restore 38 = .ok (.iload_n 2, 1) := by decide +kernel
theorem dX1_restore_39 : decode cX1_restore 39 = .ok (.bipush 6, 2) := by decide +kernel
theorem dX1_restore_41 : decode cX1_restore 41 = .ok (.iadd, 1) := by decide +kernel
theorem dX1_restore_42 : decode cX1_restore 42 = .ok (.iconst 1, 1) := by decide +kernel
theorem dX1_restore_43 : decode cX1_restore 43 = .ok (.iadd, 1) := by decide +kernel
theorem dX1_restore_44 : decode cX1_restore 44 = .ok (.iaload, 1) := by decide +kernel
theorem dX1_restore_45 : decode cX1_restore 45 = .ok (.putfield 60, 3) := by decide +kernel
theorem dX1_restore_48 : decode cX1_restore 48 = .ok (.return_, 1) := by decide +kernel
theorem oX1_restore_0 : oP MT mX1_restore 0 (1, 1, 1, 0, []) := o_iload_n dX1_restore_0 rfl
theorem oX1_restore_1 : oP MT mX1_restore 1 (0, 2, 0, 8, []) := o_bipush dX1_restore_1 (by decide)
theorem oX1_restore_3 : oP MT mX1_restore 3 (4, 1, 2, 0, []) := o_imul dX1_restore_3
theorem oX1_restore_4 : oP MT mX1_restore 4 (2, 1, 2, 0, []) := o_istore_n dX1_restore_4 rfl (by decide)
theorem oX1_restore_5 : oP MT mX1_restore 5 (1, 1, 0, 1, []) := o_aload_n dX1_restore_5 rfl
theorem oX1_restore_6 : oP MT mX1_restore 6 (13, 3, 18, 1, []) := o_getR (M := mX1_restore) (C := RX1) (T := TX1) (ci := 1) (j := 18) (z := 1) dX1_restore_6 rfl lq_RX1_53 rfl rfl
theorem oX1_restore_9 : oP MT mX1_restore 9 (1, 1, 2, 0, []) := o_iload_n dX1_restore_9 rfl
theorem oX1_restore_10 : oP MT mX1_restore 10 (1, 1, 0, 1, []) := o_aload_n dX1_restore_10 rfl
theorem oX1_restore_11 : oP MT mX1_restore 11 (13, 3, 11, 1, []) := o_getR (M := mX1_restore) (C := RX1) (T := TX1) (ci := 1) (j := 11) (z := 1) dX1_restore_11 rfl lq_RX1_31 rfl rfl
theorem oX1_restore_14 : oP MT mX1_restore 14 (0, 1, 0, 0, []) := o_iconst dX1_restore_14 (by decide)
theorem oX1_restore_15 : oP MT mX1_restore 15 (0, 2, 0, 6, []) := o_bipush dX1_restore_15 (by decide)
theorem oX1_restore_17 : oP MT mX1_restore 17 (29, 3, 0, 0, []) := o_copy dX1_restore_17 wq_203 wq_1 wq_2 wq_3
theorem oX1_restore_20 : oP MT mX1_restore 20 (1, 1, 0, 1, []) := o_aload_n dX1_restore_20 rfl
theorem oX1_restore_21 : oP MT mX1_restore 21 (1, 1, 0, 1, []) := o_aload_n dX1_restore_21 rfl
theorem oX1_restore_22 : oP MT mX1_restore 22 (13, 3, 18, 1, []) := o_getR (M := mX1_restore) (C := RX1) (T := TX1) (ci := 1) (j := 18) (z := 1) dX1_restore_22 rfl lq_RX1_53 rfl rfl
theorem oX1_restore_25 : oP MT mX1_restore 25 (1, 1, 2, 0, []) := o_iload_n dX1_restore_25 rfl
theorem oX1_restore_26 : oP MT mX1_restore 26 (0, 2, 0, 6, []) := o_bipush dX1_restore_26 (by decide)
theorem oX1_restore_28 : oP MT mX1_restore 28 (4, 1, 0, 0, []) := o_iadd dX1_restore_28
theorem oX1_restore_29 : oP MT mX1_restore 29 (16, 1, 1, 0, []) := o_iaload dX1_restore_29
theorem oX1_restore_30 : oP MT mX1_restore 30 (14, 3, 9, 1, []) := o_putI (M := mX1_restore) (C := RX1) (T := TX1) (ci := 1) (j := 9) (z := 1) dX1_restore_30 rfl lq_RX1_75 rfl rfl rfl rfl
theorem oX1_restore_33 : oP MT mX1_restore 33 (1, 1, 0, 1, []) := o_aload_n dX1_restore_33 rfl
theorem oX1_restore_34 : oP MT mX1_restore 34 (1, 1, 0, 1, []) := o_aload_n dX1_restore_34 rfl
theorem oX1_restore_35 : oP MT mX1_restore 35 (13, 3, 18, 1, []) := o_getR (M := mX1_restore) (C := RX1) (T := TX1) (ci := 1) (j := 18) (z := 1) dX1_restore_35 rfl lq_RX1_53 rfl rfl
theorem oX1_restore_38 : oP MT mX1_restore 38 (1, 1, 2, 0, []) := o_iload_n dX1_restore_38 rfl
theorem oX1_restore_39 : oP MT mX1_restore 39 (0, 2, 0, 6, []) := o_bipush dX1_restore_39 (by decide)
theorem oX1_restore_41 : oP MT mX1_restore 41 (4, 1, 0, 0, []) := o_iadd dX1_restore_41
theorem oX1_restore_42 : oP MT mX1_restore 42 (0, 1, 0, 1, []) := o_iconst dX1_restore_42 (by decide)
theorem oX1_restore_43 : oP MT mX1_restore 43 (4, 1, 0, 0, []) := o_iadd dX1_restore_43
theorem oX1_restore_44 : oP MT mX1_restore 44 (16, 1, 1, 0, []) := o_iaload dX1_restore_44
theorem oX1_restore_45 : oP MT mX1_restore 45 (14, 3, 1, 1, []) := o_putI (M := mX1_restore) (C := RX1) (T := TX1) (ci := 1) (j := 1) (z := 1) dX1_restore_45 rfl lq_RX1_60 rfl rfl rfl rfl
theorem oX1_restore_48 : oP MT mX1_restore 48 (23, 1, 0, 0, []) := o_vret dX1_restore_48 rfl
def ops_X1_restore : List (Nat × aO) := [(0, (1, 1, 1, 0, [])), (1, (0, 2, 0, 8, [])), (3, (4, 1, 2, 0, [])), (4, (2, 1, 2, 0, [])), (5, (1, 1, 0, 1, [])), (6, (13, 3, 18, 1, [])), (9, (1, 1, 2, 0, [])), (10, (1, 1, 0, 1, [])), (11, (13, 3, 11, 1, [])), (14, (0, 1, 0, 0, [])), (15, (0, 2, 0, 6, [])), (17, (29, 3, 0, 0, [])), (20, (1, 1, 0, 1, [])), (21, (1, 1, 0, 1, [])), (22, (13, 3, 18, 1, [])), (25, (1, 1, 2, 0, [])), (26, (0, 2, 0, 6, [])), (28, (4, 1, 0, 0, [])), (29, (16, 1, 1, 0, [])), (30, (14, 3, 9, 1, [])), (33, (1, 1, 0, 1, [])), (34, (1, 1, 0, 1, [])), (35, (13, 3, 18, 1, [])), (38, (1, 1, 2, 0, [])), (39, (0, 2, 0, 6, [])), (41, (4, 1, 0, 0, [])), (42, (0, 1, 0, 1, [])), (43, (4, 1, 0, 0, [])), (44, (16, 1, 1, 0, [])), (45, (14, 3, 1, 1, [])), (48, (23, 1, 0, 0, []))]
theorem os_X1_restore : oA MT mX1_restore ops_X1_restore := (oA.cons oX1_restore_0 (oA.cons oX1_restore_1 (oA.cons oX1_restore_3 (oA.cons oX1_restore_4 (oA.cons oX1_restore_5 (oA.cons oX1_restore_6 (oA.cons oX1_restore_9 (oA.cons oX1_restore_10 (oA.cons oX1_restore_11 (oA.cons oX1_restore_14 (oA.cons oX1_restore_15 (oA.cons oX1_restore_17 (oA.cons oX1_restore_20 (oA.cons oX1_restore_21 (oA.cons oX1_restore_22 (oA.cons oX1_restore_25 (oA.cons oX1_restore_26 (oA.cons oX1_restore_28 (oA.cons oX1_restore_29 (oA.cons oX1_restore_30 (oA.cons oX1_restore_33 (oA.cons oX1_restore_34 (oA.cons oX1_restore_35 (oA.cons oX1_restore_38 (oA.cons oX1_restore_39 (oA.cons oX1_restore_41 (oA.cons oX1_restore_42 (oA.cons oX1_restore_43 (oA.cons oX1_restore_44 (oA.cons oX1_restore_45 (oA.cons oX1_restore_48 oA.nil)))))))))))))))))))))))))))))))
theorem dX4_weigh_0 : decode cX4_weigh 0 = .ok (.iload_n 2, 1) := by decide +kernel
theorem dX4_weigh_1 : decode cX4_weigh 1 = .ok (.aload_n 0, 1) := by decide +kernel
theorem dX4_weigh_2 : decode cX4_weigh 2 = .ok (.getfield 9, 3) := by decide +kernel
theorem dX4_weigh_5 : decode cX4_weigh 5 = .ok (.iload_n 1, 1) := by decide +kernel
theorem dX4_weigh_6 : decode cX4_weigh 6 = .ok (.iaload, 1) := by decide +kernel
theorem dX4_weigh_7 : decode cX4_weigh 7 = .ok (.if_icmp .le 28, 3) := by decide +kernel
theorem dX4_weigh_10 : decode cX4_weigh 10 = .ok (.aload_n 0, 1) := by decide +kernel
theorem dX4_weigh_11 : decode cX4_weigh 11 = .ok (.getfield 9, 3) := by decide +kernel
theorem dX4_weigh_14 : decode cX4_weigh 14 = .ok (.iload_n 1, 1) := by decide +kernel
theorem dX4_weigh_15 : decode cX4_weigh 15 = .ok (.iload_n 2, 1) := by decide +kernel
theorem dX4_weigh_16 : decode cX4_weigh 16 = .ok (.iastore, 1) := by decide +kernel
theorem dX4_weigh_17 : decode cX4_weigh 17 = .ok (.aload_n 0, 1) := by decide +kernel
theorem dX4_weigh_18 : decode cX4_weigh 18 = .ok (.getfield 15, 3) := by decide +kernel
theorem dX4_weigh_21 : decode cX4_weigh 21 = .ok (.iload_n 1, 1) := by decide +kernel
theorem dX4_weigh_22 : decode cX4_weigh 22 = .ok (.iload_n 3, 1) := by decide +kernel
theorem dX4_weigh_23 : decode cX4_weigh 23 = .ok (.iastore, 1) := by decide +kernel
theorem dX4_weigh_24 : decode cX4_weigh 24 = .ok (.aload_n 0, 1) := by decide +kernel
theorem dX4_weigh_25 : decode cX4_weigh 25 = .ok (.getfield 18, 3) := by decide +kernel
theorem dX4_weigh_28 : decode cX4_weigh 28 = .ok (.iload_n 1, 1) := by decide +kernel
theorem dX4_weigh_29 : decode cX4_weigh 29 = .ok (.iload 4, 2) := by decide +kernel
theorem dX4_weigh_31 : decode cX4_weigh 31 = .ok (.iastore, 1) := by decide +kernel
theorem dX4_weigh_32 : decode cX4_weigh 32 = .ok (.goto 23, 3) := by decide +kernel
theorem dX4_weigh_35 : decode cX4_weigh 35 = .ok (.iload_n 2, 1) := by decide +kernel
theorem dX4_weigh_36 : decode cX4_weigh 36 = .ok (.aload_n 0, 1) := by decide +kernel
theorem dX4_weigh_37 : decode cX4_weigh 37 = .ok (.getfield 9, 3) := by decide +kernel
theorem dX4_weigh_40 : decode cX4_weigh 40 = .ok (.iload_n 1, 1) := by decide +kernel
theorem dX4_weigh_41 : decode cX4_weigh 41 = .ok (.iaload, 1) := by decide +kernel
theorem dX4_weigh_42 : decode cX4_weigh 42 = .ok (.if_icmp .ne 13, 3) := by decide +kernel
theorem dX4_weigh_45 : decode cX4_weigh 45 = .ok (.aload_n 0, 1) := by decide +kernel
theorem dX4_weigh_46 : decode cX4_weigh 46 = .ok (.getfield 15, 3) := by decide +kernel
theorem dX4_weigh_49 : decode cX4_weigh 49 = .ok (.iload_n 1, 1) := by decide +kernel
theorem dX4_weigh_50 : decode cX4_weigh 50 = .ok (.dup2, 1) := by decide +kernel
theorem dX4_weigh_51 : decode cX4_weigh 51 = .ok (.iaload, 1) := by decide +kernel
theorem dX4_weigh_52 : decode cX4_weigh 52 = .ok (.iload_n 3, 1) := by decide +kernel
theorem dX4_weigh_53 : decode cX4_weigh 53 = .ok (.iadd, 1) := by decide +kernel
theorem dX4_weigh_54 : decode cX4_weigh 54 = .ok (.iastore, 1) := by decide +kernel
theorem dX4_weigh_55 : decode cX4_weigh 55 = .ok (.return_, 1) := by decide +kernel
theorem oX4_weigh_0 : oP MT mX4_weigh 0 (1, 1, 2, 0, []) := o_iload_n dX4_weigh_0 rfl
theorem oX4_weigh_1 : oP MT mX4_weigh 1 (1, 1, 0, 1, []) := o_aload_n dX4_weigh_1 rfl
theorem oX4_weigh_2 : oP MT mX4_weigh 2 (13, 3, 1, 4, []) := o_getR (M := mX4_weigh) (C := RX4) (T := TX4) (ci := 4) (j := 1) (z := 4) dX4_weigh_2 rfl lq_RX4_9 rfl rfl
theorem oX4_weigh_5 : oP MT mX4_weigh 5 (1, 1, 1, 0, []) := o_iload_n dX4_weigh_5 rfl
theorem oX4_weigh_6 : oP MT mX4_weigh 6 (16, 1, 1, 0, []) := o_iaload dX4_weigh_6
theorem oX4_weigh_7 : oP MT mX4_weigh 7 (11, 3, 5, 35, []) := o_icmp_le dX4_weigh_7 (by decide) (by decide)
theorem oX4_weigh_10 : oP MT mX4_weigh 10 (1, 1, 0, 1, []) := o_aload_n dX4_weigh_10 rfl
theorem oX4_weigh_11 : oP MT mX4_weigh 11 (13, 3, 1, 4, []) := o_getR (M := mX4_weigh) (C := RX4) (T := TX4) (ci := 4) (j := 1) (z := 4) dX4_weigh_11 rfl lq_RX4_9 rfl rfl
theorem oX4_weigh_14 : oP MT mX4_weigh 14 (1, 1, 1, 0, []) := o_iload_n dX4_weigh_14 rfl
theorem oX4_weigh_15 : oP MT mX4_weigh 15 (1, 1, 2, 0, []) := o_iload_n dX4_weigh_15 rfl
theorem oX4_weigh_16 : oP MT mX4_weigh 16 (18, 1, 0, 0, []) := o_iastore dX4_weigh_16
theorem oX4_weigh_17 : oP MT mX4_weigh 17 (1, 1, 0, 1, []) := o_aload_n dX4_weigh_17 rfl
theorem oX4_weigh_18 : oP MT mX4_weigh 18 (13, 3, 2, 4, []) := o_getR (M := mX4_weigh) (C := RX4) (T := TX4) (ci := 4) (j := 2) (z := 4) dX4_weigh_18 rfl lq_RX4_15 rfl rfl
theorem oX4_weigh_21 : oP MT mX4_weigh 21 (1, 1, 1, 0, []) := o_iload_n dX4_weigh_21 rfl
theorem oX4_weigh_22 : oP MT mX4_weigh 22 (1, 1, 3, 0, []) := o_iload_n dX4_weigh_22 rfl
theorem oX4_weigh_23 : oP MT mX4_weigh 23 (18, 1, 0, 0, []) := o_iastore dX4_weigh_23
theorem oX4_weigh_24 : oP MT mX4_weigh 24 (1, 1, 0, 1, []) := o_aload_n dX4_weigh_24 rfl
theorem oX4_weigh_25 : oP MT mX4_weigh 25 (13, 3, 3, 4, []) := o_getR (M := mX4_weigh) (C := RX4) (T := TX4) (ci := 4) (j := 3) (z := 4) dX4_weigh_25 rfl lq_RX4_18 rfl rfl
theorem oX4_weigh_28 : oP MT mX4_weigh 28 (1, 1, 1, 0, []) := o_iload_n dX4_weigh_28 rfl
theorem oX4_weigh_29 : oP MT mX4_weigh 29 (1, 2, 4, 0, []) := o_iload dX4_weigh_29
theorem oX4_weigh_31 : oP MT mX4_weigh 31 (18, 1, 0, 0, []) := o_iastore dX4_weigh_31
theorem oX4_weigh_32 : oP MT mX4_weigh 32 (9, 3, 55, 0, []) := o_goto dX4_weigh_32 (by decide)
theorem oX4_weigh_35 : oP MT mX4_weigh 35 (1, 1, 2, 0, []) := o_iload_n dX4_weigh_35 rfl
theorem oX4_weigh_36 : oP MT mX4_weigh 36 (1, 1, 0, 1, []) := o_aload_n dX4_weigh_36 rfl
theorem oX4_weigh_37 : oP MT mX4_weigh 37 (13, 3, 1, 4, []) := o_getR (M := mX4_weigh) (C := RX4) (T := TX4) (ci := 4) (j := 1) (z := 4) dX4_weigh_37 rfl lq_RX4_9 rfl rfl
theorem oX4_weigh_40 : oP MT mX4_weigh 40 (1, 1, 1, 0, []) := o_iload_n dX4_weigh_40 rfl
theorem oX4_weigh_41 : oP MT mX4_weigh 41 (16, 1, 1, 0, []) := o_iaload dX4_weigh_41
theorem oX4_weigh_42 : oP MT mX4_weigh 42 (11, 3, 1, 55, []) := o_icmp_ne dX4_weigh_42 (by decide) (by decide)
theorem oX4_weigh_45 : oP MT mX4_weigh 45 (1, 1, 0, 1, []) := o_aload_n dX4_weigh_45 rfl
theorem oX4_weigh_46 : oP MT mX4_weigh 46 (13, 3, 2, 4, []) := o_getR (M := mX4_weigh) (C := RX4) (T := TX4) (ci := 4) (j := 2) (z := 4) dX4_weigh_46 rfl lq_RX4_15 rfl rfl
theorem oX4_weigh_49 : oP MT mX4_weigh 49 (1, 1, 1, 0, []) := o_iload_n dX4_weigh_49 rfl
theorem oX4_weigh_50 : oP MT mX4_weigh 50 (7, 1, 0, 0, []) := o_dup2 dX4_weigh_50
theorem oX4_weigh_51 : oP MT mX4_weigh 51 (16, 1, 1, 0, []) := o_iaload dX4_weigh_51
theorem oX4_weigh_52 : oP MT mX4_weigh 52 (1, 1, 3, 0, []) := o_iload_n dX4_weigh_52 rfl
theorem oX4_weigh_53 : oP MT mX4_weigh 53 (4, 1, 0, 0, []) := o_iadd dX4_weigh_53
theorem oX4_weigh_54 : oP MT mX4_weigh 54 (18, 1, 0, 0, []) := o_iastore dX4_weigh_54
theorem oX4_weigh_55 : oP MT mX4_weigh 55 (23, 1, 0, 0, []) := o_vret dX4_weigh_55 rfl
def ops_X4_weigh : List (Nat × aO) := [(0, (1, 1, 2, 0, [])), (1, (1, 1, 0, 1, [])), (2, (13, 3, 1, 4, [])), (5, (1, 1, 1, 0, [])), (6, (16, 1, 1, 0, [])), (7, (11, 3, 5, 35, [])), (10, (1, 1, 0, 1, [])), (11, (13, 3, 1, 4, [])), (14, (1, 1, 1, 0, [])), (15, (1, 1, 2, 0, [])), (16, (18, 1, 0, 0, [])), (17, (1, 1, 0, 1, [])), (18, (13, 3, 2, 4, [])), (21, (1, 1, 1, 0, [])), (22, (1, 1, 3, 0, [])), (23, (18, 1, 0, 0, [])), (24, (1, 1, 0, 1, [])), (25, (13, 3, 3, 4, [])), (28, (1, 1, 1, 0, [])), (29, (1, 2, 4, 0, [])), (31, (18, 1, 0, 0, [])), (32, (9, 3, 55, 0, [])), (35, (1, 1, 2, 0, [])), (36, (1, 1, 0, 1, [])), (37, (13, 3, 1, 4, [])), (40, (1, 1, 1, 0, [])), (41, (16, 1, 1, 0, [])), (42, (11, 3, 1, 55, [])), (45, (1, 1, 0, 1, [])), (46, (13, 3, 2, 4, [])), (49, (1, 1, 1, 0, [])), (50, (7, 1, 0, 0, [])), (51, (16, 1, 1, 0, [])), (52, (1, 1, 3, 0, [])), (53, (4, 1, 0, 0, [])), (54, (18, 1, 0, 0, [])), (55, (23, 1, 0, 0, []))]
theorem os_X4_weigh : oA MT mX4_weigh ops_X4_weigh := (oA.cons oX4_weigh_0 (oA.cons oX4_weigh_1 (oA.cons oX4_weigh_2 (oA.cons oX4_weigh_5 (oA.cons oX4_weigh_6 (oA.cons oX4_weigh_7 (oA.cons oX4_weigh_10 (oA.cons oX4_weigh_11 (oA.cons oX4_weigh_14 (oA.cons oX4_weigh_15 (oA.cons oX4_weigh_16 (oA.cons oX4_weigh_17 (oA.cons oX4_weigh_18 (oA.cons oX4_weigh_21 (oA.cons oX4_weigh_22 (oA.cons oX4_weigh_23 (oA.cons oX4_weigh_24 (oA.cons oX4_weigh_25 (oA.cons oX4_weigh_28 (oA.cons oX4_weigh_29 (oA.cons oX4_weigh_31 (oA.cons oX4_weigh_32 (oA.cons oX4_weigh_35 (oA.cons oX4_weigh_36 (oA.cons oX4_weigh_37 (oA.cons oX4_weigh_40 (oA.cons oX4_weigh_41 (oA.cons oX4_weigh_42 (oA.cons oX4_weigh_45 (oA.cons oX4_weigh_46 (oA.cons oX4_weigh_49 (oA.cons oX4_weigh_50 (oA.cons oX4_weigh_51 (oA.cons oX4_weigh_52 (oA.cons oX4_weigh_53 (oA.cons oX4_weigh_54 (oA.cons oX4_weigh_55 oA.nil)))))))))))))))))))))))))))))))))))))
theorem dX5_isLetter_0 : decode cX5_isLetter 0 = .ok (.iload_n 0, 1) := by decide +kernel
theorem dX5_isLetter_1 : decode cX5_isLetter 1 = .ok (.bipush 97, 2) := by decide +kernel
theorem dX5_isLetter_3 : decode cX5_isLetter 3 = .ok (.if_icmp .lt 13, 3) := by decide +kernel
theorem dX5_isLetter_6 : decode cX5_isLetter 6 = .ok (.iload_n 0, 1) := by decide +kernel
theorem dX5_isLetter_7 : decode cX5_isLetter 7 = .ok (.bipush 122, 2) := by decide +kernel
theorem dX5_isLetter_9 : decode cX5_isLetter 9 = .ok (.if_icmp .gt 7, 3) := by decide +kernel
theorem dX5_isLetter_12 : decode cX5_isLetter 12 = .ok (.iconst 1, 1) := by decide +kernel
theorem dX5_isLetter_13 : decode cX5_isLetter 13 = .ok (.goto 4, 3) := by decide +kernel
theorem dX5_isLetter_16 : decode cX5_isLetter 16 = .ok (.iconst 0, 1) := by decide +kernel
theorem dX5_isLetter_17 : decode cX5_isLetter 17 = .ok (.ireturn, 1) := by decide +kernel
theorem oX5_isLetter_0 : oP MT mX5_isLetter 0 (1, 1, 0, 0, []) := o_iload_n dX5_isLetter_0 rfl
theorem oX5_isLetter_1 : oP MT mX5_isLetter 1 (0, 2, 0, 97, []) := o_bipush dX5_isLetter_1 (by decide)
theorem oX5_isLetter_3 : oP MT mX5_isLetter 3 (11, 3, 2, 16, []) := o_icmp_lt dX5_isLetter_3 (by decide) (by decide)
theorem oX5_isLetter_6 : oP MT mX5_isLetter 6 (1, 1, 0, 0, []) := o_iload_n dX5_isLetter_6 rfl
theorem oX5_isLetter_7 : oP MT mX5_isLetter 7 (0, 2, 0, 122, []) := o_bipush dX5_isLetter_7 (by decide)
theorem oX5_isLetter_9 : oP MT mX5_isLetter 9 (11, 3, 4, 16, []) := o_icmp_gt dX5_isLetter_9 (by decide) (by decide)
theorem oX5_isLetter_12 : oP MT mX5_isLetter 12 (0, 1, 0, 1, []) := o_iconst dX5_isLetter_12 (by decide)
theorem oX5_isLetter_13 : oP MT mX5_isLetter 13 (9, 3, 17, 0, []) := o_goto dX5_isLetter_13 (by decide)
theorem oX5_isLetter_16 : oP MT mX5_isLetter 16 (0, 1, 0, 0, []) := o_iconst dX5_isLetter_16 (by decide)
theorem oX5_isLetter_17 : oP MT mX5_isLetter 17 (22, 1, 0, 0, []) := o_zret dX5_isLetter_17 rfl
def ops_X5_isLetter : List (Nat × aO) := [(0, (1, 1, 0, 0, [])), (1, (0, 2, 0, 97, [])), (3, (11, 3, 2, 16, [])), (6, (1, 1, 0, 0, [])), (7, (0, 2, 0, 122, [])), (9, (11, 3, 4, 16, [])), (12, (0, 1, 0, 1, [])), (13, (9, 3, 17, 0, [])), (16, (0, 1, 0, 0, [])), (17, (22, 1, 0, 0, []))]
theorem os_X5_isLetter : oA MT mX5_isLetter ops_X5_isLetter := (oA.cons oX5_isLetter_0 (oA.cons oX5_isLetter_1 (oA.cons oX5_isLetter_3 (oA.cons oX5_isLetter_6 (oA.cons oX5_isLetter_7 (oA.cons oX5_isLetter_9 (oA.cons oX5_isLetter_12 (oA.cons oX5_isLetter_13 (oA.cons oX5_isLetter_16 (oA.cons oX5_isLetter_17 oA.nil))))))))))
theorem dX5_isDigit_0 : decode cX5_isDigit 0 = .ok (.iload_n 0, 1) := by decide +kernel
theorem dX5_isDigit_1 : decode cX5_isDigit 1 = .ok (.bipush 48, 2) := by decide +kernel
theorem dX5_isDigit_3 : decode cX5_isDigit 3 = .ok (.if_icmp .lt 13, 3) := by decide +kernel
theorem dX5_isDigit_6 : decode cX5_isDigit 6 = .ok (.iload_n 0, 1) := by decide +kernel
theorem dX5_isDigit_7 : decode cX5_isDigit 7 = .ok (.bipush 57, 2) := by decide +kernel
theorem dX5_isDigit_9 : decode cX5_isDigit 9 = .ok (.if_icmp .gt 7, 3) := by decide +kernel
theorem dX5_isDigit_12 : decode cX5_isDigit 12 = .ok (.iconst 1, 1) := by decide +kernel
theorem dX5_isDigit_13 : decode cX5_isDigit 13 = .ok (.goto 4, 3) := by decide +kernel
theorem dX5_isDigit_16 : decode cX5_isDigit 16 = .ok (.iconst 0, 1) := by decide +kernel
theorem dX5_isDigit_17 : decode cX5_isDigit 17 = .ok (.ireturn, 1) := by decide +kernel
theorem oX5_isDigit_0 : oP MT mX5_isDigit 0 (1, 1, 0, 0, []) := o_iload_n dX5_isDigit_0 rfl
theorem oX5_isDigit_1 : oP MT mX5_isDigit 1 (0, 2, 0, 48, []) := o_bipush dX5_isDigit_1 (by decide)
theorem oX5_isDigit_3 : oP MT mX5_isDigit 3 (11, 3, 2, 16, []) := o_icmp_lt dX5_isDigit_3 (by decide) (by decide)
theorem oX5_isDigit_6 : oP MT mX5_isDigit 6 (1, 1, 0, 0, []) := o_iload_n dX5_isDigit_6 rfl
theorem oX5_isDigit_7 : oP MT mX5_isDigit 7 (0, 2, 0, 57, []) := o_bipush dX5_isDigit_7 (by decide)
theorem oX5_isDigit_9 : oP MT mX5_isDigit 9 (11, 3, 4, 16, []) := o_icmp_gt dX5_isDigit_9 (by decide) (by decide)
theorem oX5_isDigit_12 : oP MT mX5_isDigit 12 (0, 1, 0, 1, []) := o_iconst dX5_isDigit_12 (by decide)
theorem oX5_isDigit_13 : oP MT mX5_isDigit 13 (9, 3, 17, 0, []) := o_goto dX5_isDigit_13 (by decide)
theorem oX5_isDigit_16 : oP MT mX5_isDigit 16 (0, 1, 0, 0, []) := o_iconst dX5_isDigit_16 (by decide)
theorem oX5_isDigit_17 : oP MT mX5_isDigit 17 (22, 1, 0, 0, []) := o_zret dX5_isDigit_17 rfl
def ops_X5_isDigit : List (Nat × aO) := [(0, (1, 1, 0, 0, [])), (1, (0, 2, 0, 48, [])), (3, (11, 3, 2, 16, [])), (6, (1, 1, 0, 0, [])), (7, (0, 2, 0, 57, [])), (9, (11, 3, 4, 16, [])), (12, (0, 1, 0, 1, [])), (13, (9, 3, 17, 0, [])), (16, (0, 1, 0, 0, [])), (17, (22, 1, 0, 0, []))]
theorem os_X5_isDigit : oA MT mX5_isDigit ops_X5_isDigit := (oA.cons oX5_isDigit_0 (oA.cons oX5_isDigit_1 (oA.cons oX5_isDigit_3 (oA.cons oX5_isDigit_6 (oA.cons oX5_isDigit_7 (oA.cons oX5_isDigit_9 (oA.cons oX5_isDigit_12 (oA.cons oX5_isDigit_13 (oA.cons oX5_isDigit_16 (oA.cons oX5_isDigit_17 oA.nil))))))))))
theorem dX5_nextNumber_0 : decode cX5_nextNumber 0 = .ok (.aload_n 0, 1) := by decide +kernel
theorem dX5_nextNumber_1 : decode cX5_nextNumber 1 = .ok (.iconst 0, 1) := by decide +kernel
theorem dX5_nextNumber_2 : decode cX5_nextNumber 2 = .ok (.putfield 93, 3) := by decide +kernel
theorem dX5_nextNumber_5 : decode cX5_nextNumber 5 = .ok (.aload_n 0, 1) := by decide +kernel
theorem dX5_nextNumber_6 : decode cX5_nextNumber 6 = .ok (.getfield 58, 3) := by decide +kernel
theorem dX5_nextNumber_9 : decode cX5_nextNumber 9 = .ok (.aload_n 0, 1) := by decide +kernel
theorem dX5_nextNumber_10 : decode cX5_nextNumber 10 = .ok (.getfield 32, 3) := by decide +kernel
theorem dX5_nextNumber_13 : decode cX5_nextNumber 13 = .ok (.if_icmp .ge 55, 3) := by decide +kernel
theorem dX5_nextNumber_16 : decode cX5_nextNumber 16 = .ok (.aload_n 0, 1) := by decide +kernel
theorem dX5_nextNumber_17 : decode cX5_nextNumber 17 = .ok (.getfield 9, 3) := by decide +kernel
theorem dX5_nextNumber_20 : decode cX5_nextNumber 20 = .ok (.aload_n 0, 1) := by decide +kernel
theorem dX5_nextNumber_21 : decode cX5_nextNumber 21 = .ok (.getfield 58, 3) := by decide +kernel
theorem dX5_nextNumber_24 : decode cX5_nextNumber 24 = .ok (.iaload, 1) := by decide +kernel
theorem dX5_nextNumber_25 : decode cX5_nextNumber 25 = .ok (.invokestatic 68, 3) := by decide +kernel
theorem dX5_nextNumber_28 : decode cX5_nextNumber 28 = .ok (.ifCond .eq 40, 3) := by decide +kernel
theorem dX5_nextNumber_31 : decode cX5_nextNumber 31 = .ok (.aload_n 0, 1) := by decide +kernel
theorem dX5_nextNumber_32 : decode cX5_nextNumber 32 = .ok (.aload_n 0, 1) := by decide +kernel
theorem dX5_nextNumber_33 : decode cX5_nextNumber 33 = .ok (.getfield 93, 3) := by decide +kernel
theorem dX5_nextNumber_36 : decode cX5_nextNumber 36 = .ok (.bipush 10, 2) := by decide +kernel
theorem dX5_nextNumber_38 : decode cX5_nextNumber 38 = .ok (.imul, 1) := by decide +kernel
theorem dX5_nextNumber_39 : decode cX5_nextNumber 39 = .ok (.aload_n 0, 1) := by decide +kernel
theorem dX5_nextNumber_40 : decode cX5_nextNumber 40 = .ok (.getfield 9, 3) := by decide +kernel
theorem dX5_nextNumber_43 : decode cX5_nextNumber 43 = .ok (.aload_n 0, 1) := by decide +kernel
theorem dX5_nextNumber_44 : decode cX5_nextNumber 44 = .ok (.getfield 58, 3) := by decide +kernel
theorem dX5_nextNumber_47 : decode cX5_nextNumber 47 = .ok (.iaload, 1) := by decide +kernel
theorem dX5_nextNumber_48 : decode cX5_nextNumber 48 = .ok (.iadd, 1) := by decide +kernel
theorem dX5_nextNumber_49 : decode cX5_nextNumber 49 = .ok (.bipush 48, 2) := by decide +kernel
theorem dX5_nextNumber_51 : decode cX5_nextNumber 51 = .ok (.isub, 1) := by decide +kernel
theorem dX5_nextNumber_52 : decode cX5_nextNumber 52 = .ok (.putfield 93, 3) := by decide +kernel
theorem dX5_nextNumber_55 : decode cX5_nextNumber 55 = .ok (.aload_n 0, 1) := by decide +kernel
theorem dX5_nextNumber_56 : decode cX5_nextNumber 56 = .ok (.dup, 1) := by decide +kernel
theorem dX5_nextNumber_57 : decode cX5_nextNumber 57 = .ok (.getfield 58, 3) := by decide +kernel
theorem dX5_nextNumber_60 : decode cX5_nextNumber 60 = .ok (.iconst 1, 1) := by decide +kernel
theorem dX5_nextNumber_61 : decode cX5_nextNumber 61 = .ok (.iadd, 1) := by decide +kernel
theorem dX5_nextNumber_62 : decode cX5_nextNumber 62 = .ok (.putfield 58, 3) := by decide +kernel
theorem dX5_nextNumber_65 : decode cX5_nextNumber 65 = .ok (.goto (-60), 3) := by decide +kernel
theorem dX5_nextNumber_68 : decode cX5_nextNumber 68 = .ok (.aload_n 0, 1) := by decide +kernel
theorem dX5_nextNumber_69 : decode cX5_nextNumber 69 = .ok (.aload_n 0, 1) := by decide +kernel
theorem dX5_nextNumber_70 : decode cX5_nextNumber 70 = .ok (.getfield 58, 3) := by decide +kernel
theorem dX5_nextNumber_73 : decode cX5_nextNumber 73 = .ok (.aload_n 0, 1) := by decide +kernel
theorem dX5_nextNumber_74 : decode cX5_nextNumber 74 = .ok (.getfield 52, 3) := by decide +kernel
theorem dX5_nextNumber_77 : decode cX5_nextNumber 77 = .ok (.isub, 1) := by decide +kernel
theorem dX5_nextNumber_78 : decode cX5_nextNumber 78 = .ok (.iconst 4, 1) := by decide +kernel
theorem dX5_nextNumber_79 : decode cX5_nextNumber 79 = .ok (.if_icmp .le 7, 3) := by decide +kernel
theorem dX5_nextNumber_82 : decode cX5_nextNumber 82 = .ok (.iconst (-1), 1) := by decide +kernel
theorem dX5_nextNumber_83 : decode cX5_nextNumber 83 = .ok (.goto 5, 3) := by decide +kernel
theorem dX5_nextNumber_86 : decode cX5_nextNumber 86 = .ok (.bipush 18, 2) := by decide +kernel
theorem dX5_nextNumber_88 : decode cX5_nextNumber 88 = .ok (.putfield 42, 3) := by decide +kernel
theorem dX5_nextNumber_91 : decode cX5_nextNumber 91 = .ok (.return_, 1) := by decide +kernel
theorem oX5_nextNumber_0 : oP MT mX5_nextNumber 0 (1, 1, 0, 1, []) := o_aload_n dX5_nextNumber_0 rfl
theorem oX5_nextNumber_1 : oP MT mX5_nextNumber 1 (0, 1, 0, 0, []) := o_iconst dX5_nextNumber_1 (by decide)
theorem oX5_nextNumber_2 : oP MT mX5_nextNumber 2 (14, 3, 6, 5, []) := o_putI (M := mX5_nextNumber) (C := RX5) (T := TX5) (ci := 5) (j := 6) (z := 5) dX5_nextNumber_2 rfl lq_RX5_93 rfl rfl rfl rfl
theorem oX5_nextNumber_5 : oP MT mX5_nextNumber 5 (1, 1, 0, 1, []) := o_aload_n dX5_nextNumber_5 rfl
theorem oX5_nextNumber_6 : oP MT mX5_nextNumber 6 (12, 3, 3, 5, []) := o_getI (M := mX5_nextNumber) (C := RX5) (T := TX5) (ci := 5) (j := 3) (z := 5) dX5_nextNumber_6 rfl lq_RX5_58 rfl rfl
theorem oX5_nextNumber_9 : oP MT mX5_nextNumber 9 (1, 1, 0, 1, []) := o_aload_n dX5_nextNumber_9 rfl
theorem oX5_nextNumber_10 : oP MT mX5_nextNumber 10 (12, 3, 1, 5, []) := o_getI (M := mX5_nextNumber) (C := RX5) (T := TX5) (ci := 5) (j := 1) (z := 5) dX5_nextNumber_10 rfl lq_RX5_32 rfl rfl
theorem oX5_nextNumber_13 : oP MT mX5_nextNumber 13 (11, 3, 3, 68, []) := o_icmp_ge dX5_nextNumber_13 (by decide) (by decide)
theorem oX5_nextNumber_16 : oP MT mX5_nextNumber 16 (1, 1, 0, 1, []) := o_aload_n dX5_nextNumber_16 rfl
theorem oX5_nextNumber_17 : oP MT mX5_nextNumber 17 (13, 3, 0, 5, []) := o_getR (M := mX5_nextNumber) (C := RX5) (T := TX5) (ci := 5) (j := 0) (z := 5) dX5_nextNumber_17 rfl lq_RX5_9 rfl rfl
theorem oX5_nextNumber_20 : oP MT mX5_nextNumber 20 (1, 1, 0, 1, []) := o_aload_n dX5_nextNumber_20 rfl
theorem oX5_nextNumber_21 : oP MT mX5_nextNumber 21 (12, 3, 3, 5, []) := o_getI (M := mX5_nextNumber) (C := RX5) (T := TX5) (ci := 5) (j := 3) (z := 5) dX5_nextNumber_21 rfl lq_RX5_58 rfl rfl
theorem oX5_nextNumber_24 : oP MT mX5_nextNumber 24 (16, 1, 1, 0, []) := o_iaload dX5_nextNumber_24
theorem oX5_nextNumber_25 : oP MT mX5_nextNumber 25 (25, 3, 56, 1, []) := o_callS dX5_nextNumber_25 (mj := mX5_isDigit) mt_X5_isDigit cmq_X5_isDigit wq_204 wq_207 (by decide) (by decide)
theorem oX5_nextNumber_28 : oP MT mX5_nextNumber 28 (10, 3, 0, 68, []) := o_if_eq dX5_nextNumber_28 (by decide) (by decide)
theorem oX5_nextNumber_31 : oP MT mX5_nextNumber 31 (1, 1, 0, 1, []) := o_aload_n dX5_nextNumber_31 rfl
theorem oX5_nextNumber_32 : oP MT mX5_nextNumber 32 (1, 1, 0, 1, []) := o_aload_n dX5_nextNumber_32 rfl
theorem oX5_nextNumber_33 : oP MT mX5_nextNumber 33 (12, 3, 6, 5, []) := o_getI (M := mX5_nextNumber) (C := RX5) (T := TX5) (ci := 5) (j := 6) (z := 5) dX5_nextNumber_33 rfl lq_RX5_93 rfl rfl
theorem oX5_nextNumber_36 : oP MT mX5_nextNumber 36 (0, 2, 0, 10, []) := o_bipush dX5_nextNumber_36 (by decide)
theorem oX5_nextNumber_38 : oP MT mX5_nextNumber 38 (4, 1, 2, 0, []) := o_imul dX5_nextNumber_38
theorem oX5_nextNumber_39 : oP MT mX5_nextNumber 39 (1, 1, 0, 1, []) := o_aload_n dX5_nextNumber_39 rfl
theorem oX5_nextNumber_40 : oP MT mX5_nextNumber 40 (13, 3, 0, 5, []) := o_getR (M := mX5_nextNumber) (C := RX5) (T := TX5) (ci := 5) (j := 0) (z := 5) dX5_nextNumber_40 rfl lq_RX5_9 rfl rfl
theorem oX5_nextNumber_43 : oP MT mX5_nextNumber 43 (1, 1, 0, 1, []) := o_aload_n dX5_nextNumber_43 rfl
theorem oX5_nextNumber_44 : oP MT mX5_nextNumber 44 (12, 3, 3, 5, []) := o_getI (M := mX5_nextNumber) (C := RX5) (T := TX5) (ci := 5) (j := 3) (z := 5) dX5_nextNumber_44 rfl lq_RX5_58 rfl rfl
theorem oX5_nextNumber_47 : oP MT mX5_nextNumber 47 (16, 1, 1, 0, []) := o_iaload dX5_nextNumber_47
theorem oX5_nextNumber_48 : oP MT mX5_nextNumber 48 (4, 1, 0, 0, []) := o_iadd dX5_nextNumber_48
theorem oX5_nextNumber_49 : oP MT mX5_nextNumber 49 (0, 2, 0, 48, []) := o_bipush dX5_nextNumber_49 (by decide)
theorem oX5_nextNumber_51 : oP MT mX5_nextNumber 51 (4, 1, 1, 0, []) := o_isub dX5_nextNumber_51
theorem oX5_nextNumber_52 : oP MT mX5_nextNumber 52 (14, 3, 6, 5, []) := o_putI (M := mX5_nextNumber) (C := RX5) (T := TX5) (ci := 5) (j := 6) (z := 5) dX5_nextNumber_52 rfl lq_RX5_93 rfl rfl rfl rfl
theorem oX5_nextNumber_55 : oP MT mX5_nextNumber 55 (1, 1, 0, 1, []) := o_aload_n dX5_nextNumber_55 rfl
theorem oX5_nextNumber_56 : oP MT mX5_nextNumber 56 (6, 1, 0, 0, []) := o_dup dX5_nextNumber_56
theorem oX5_nextNumber_57 : oP MT mX5_nextNumber 57 (12, 3, 3, 5, []) := o_getI (M := mX5_nextNumber) (C := RX5) (T := TX5) (ci := 5) (j := 3) (z := 5) dX5_nextNumber_57 rfl lq_RX5_58 rfl rfl
theorem oX5_nextNumber_60 : oP MT mX5_nextNumber 60 (0, 1, 0, 1, []) := o_iconst dX5_nextNumber_60 (by decide)
theorem oX5_nextNumber_61 : oP MT mX5_nextNumber 61 (4, 1, 0, 0, []) := o_iadd dX5_nextNumber_61
theorem oX5_nextNumber_62 : oP MT mX5_nextNumber 62 (14, 3, 3, 5, []) := o_putI (M := mX5_nextNumber) (C := RX5) (T := TX5) (ci := 5) (j := 3) (z := 5) dX5_nextNumber_62 rfl lq_RX5_58 rfl rfl rfl rfl
theorem oX5_nextNumber_65 : oP MT mX5_nextNumber 65 (9, 3, 5, 0, []) := o_goto dX5_nextNumber_65 (by decide)
theorem oX5_nextNumber_68 : oP MT mX5_nextNumber 68 (1, 1, 0, 1, []) := o_aload_n dX5_nextNumber_68 rfl
theorem oX5_nextNumber_69 : oP MT mX5_nextNumber 69 (1, 1, 0, 1, []) := o_aload_n dX5_nextNumber_69 rfl
theorem oX5_nextNumber_70 : oP MT mX5_nextNumber 70 (12, 3, 3, 5, []) := o_getI (M := mX5_nextNumber) (C := RX5) (T := TX5) (ci := 5) (j := 3) (z := 5) dX5_nextNumber_70 rfl lq_RX5_58 rfl rfl
theorem oX5_nextNumber_73 : oP MT mX5_nextNumber 73 (1, 1, 0, 1, []) := o_aload_n dX5_nextNumber_73 rfl
theorem oX5_nextNumber_74 : oP MT mX5_nextNumber 74 (12, 3, 4, 5, []) := o_getI (M := mX5_nextNumber) (C := RX5) (T := TX5) (ci := 5) (j := 4) (z := 5) dX5_nextNumber_74 rfl lq_RX5_52 rfl rfl
theorem oX5_nextNumber_77 : oP MT mX5_nextNumber 77 (4, 1, 1, 0, []) := o_isub dX5_nextNumber_77
theorem oX5_nextNumber_78 : oP MT mX5_nextNumber 78 (0, 1, 0, 4, []) := o_iconst dX5_nextNumber_78 (by decide)
theorem oX5_nextNumber_79 : oP MT mX5_nextNumber 79 (11, 3, 5, 86, []) := o_icmp_le dX5_nextNumber_79 (by decide) (by decide)
theorem oX5_nextNumber_82 : oP MT mX5_nextNumber 82 (0, 1, 0, (-1), []) := o_iconst dX5_nextNumber_82 (by decide)
theorem oX5_nextNumber_83 : oP MT mX5_nextNumber 83 (9, 3, 88, 0, []) := o_goto dX5_nextNumber_83 (by decide)
theorem oX5_nextNumber_86 : oP MT mX5_nextNumber 86 (0, 2, 0, 18, []) := o_bipush dX5_nextNumber_86 (by decide)
theorem oX5_nextNumber_88 : oP MT mX5_nextNumber 88 (14, 3, 5, 5, []) := o_putI (M := mX5_nextNumber) (C := RX5) (T := TX5) (ci := 5) (j := 5) (z := 5) dX5_nextNumber_88 rfl lq_RX5_42 rfl rfl rfl rfl
theorem oX5_nextNumber_91 : oP MT mX5_nextNumber 91 (23, 1, 0, 0, []) := o_vret dX5_nextNumber_91 rfl
def ops_X5_nextNumber : List (Nat × aO) := [(0, (1, 1, 0, 1, [])), (1, (0, 1, 0, 0, [])), (2, (14, 3, 6, 5, [])), (5, (1, 1, 0, 1, [])), (6, (12, 3, 3, 5, [])), (9, (1, 1, 0, 1, [])), (10, (12, 3, 1, 5, [])), (13, (11, 3, 3, 68, [])), (16, (1, 1, 0, 1, [])), (17, (13, 3, 0, 5, [])), (20, (1, 1, 0, 1, [])), (21, (12, 3, 3, 5, [])), (24, (16, 1, 1, 0, [])), (25, (25, 3, 56, 1, [])), (28, (10, 3, 0, 68, [])), (31, (1, 1, 0, 1, [])), (32, (1, 1, 0, 1, [])), (33, (12, 3, 6, 5, [])), (36, (0, 2, 0, 10, [])), (38, (4, 1, 2, 0, [])), (39, (1, 1, 0, 1, [])), (40, (13, 3, 0, 5, [])), (43, (1, 1, 0, 1, [])), (44, (12, 3, 3, 5, [])), (47, (16, 1, 1, 0, [])), (48, (4, 1, 0, 0, [])), (49, (0, 2, 0, 48, [])), (51, (4, 1, 1, 0, [])), (52, (14, 3, 6, 5, [])), (55, (1, 1, 0, 1, [])), (56, (6, 1, 0, 0, [])), (57, (12, 3, 3, 5, [])), (60, (0, 1, 0, 1, [])), (61, (4, 1, 0, 0, [])), (62, (14, 3, 3, 5, [])), (65, (9, 3, 5, 0, [])), (68, (1, 1, 0, 1, [])), (69, (1, 1, 0, 1, [])), (70, (12, 3, 3, 5, [])), (73, (1, 1, 0, 1, [])), (74, (12, 3, 4, 5, [])), (77, (4, 1, 1, 0, [])), (78, (0, 1, 0, 4, [])), (79, (11, 3, 5, 86, [])), (82, (0, 1, 0, (-1), [])), (83, (9, 3, 88, 0, [])), (86, (0, 2, 0, 18, [])), (88, (14, 3, 5, 5, [])), (91, (23, 1, 0, 0, []))]
theorem os_X5_nextNumber : oA MT mX5_nextNumber ops_X5_nextNumber := (oA.cons oX5_nextNumber_0 (oA.cons oX5_nextNumber_1 (oA.cons oX5_nextNumber_2 (oA.cons oX5_nextNumber_5 (oA.cons oX5_nextNumber_6 (oA.cons oX5_nextNumber_9 (oA.cons oX5_nextNumber_10 (oA.cons oX5_nextNumber_13 (oA.cons oX5_nextNumber_16 (oA.cons oX5_nextNumber_17 (oA.cons oX5_nextNumber_20 (oA.cons oX5_nextNumber_21 (oA.cons oX5_nextNumber_24 (oA.cons oX5_nextNumber_25 (oA.cons oX5_nextNumber_28 (oA.cons oX5_nextNumber_31 (oA.cons oX5_nextNumber_32 (oA.cons oX5_nextNumber_33 (oA.cons oX5_nextNumber_36 (oA.cons oX5_nextNumber_38 (oA.cons oX5_nextNumber_39 (oA.cons oX5_nextNumber_40 (oA.cons oX5_nextNumber_43 (oA.cons oX5_nextNumber_44 (oA.cons oX5_nextNumber_47 (oA.cons oX5_nextNumber_48 (oA.cons oX5_nextNumber_49 (oA.cons oX5_nextNumber_51 (oA.cons oX5_nextNumber_52 (oA.cons oX5_nextNumber_55 (oA.cons oX5_nextNumber_56 (oA.cons oX5_nextNumber_57 (oA.cons oX5_nextNumber_60 (oA.cons oX5_nextNumber_61 (oA.cons oX5_nextNumber_62 (oA.cons oX5_nextNumber_65 (oA.cons oX5_nextNumber_68 (oA.cons oX5_nextNumber_69 (oA.cons oX5_nextNumber_70 (oA.cons oX5_nextNumber_73 (oA.cons oX5_nextNumber_74 (oA.cons oX5_nextNumber_77 (oA.cons oX5_nextNumber_78 (oA.cons oX5_nextNumber_79 (oA.cons oX5_nextNumber_82 (oA.cons oX5_nextNumber_83 (oA.cons oX5_nextNumber_86 (oA.cons oX5_nextNumber_88 (oA.cons oX5_nextNumber_91 oA.nil)))))))))))))))))))))))))))))))))))))))))))))))))
theorem dX5_isMark_0 : decode cX5_isMark 0 = .ok (.iload_n 0, 1) := by decide +kernel
theorem dX5_isMark_1 : decode cX5_isMark 1 = .ok (.bipush 40, 2) := by decide +kernel
theorem dX5_isMark_3 : decode cX5_isMark 3 = .ok (.if_icmp .eq 33, 3) := by decide +kernel
theorem dX5_isMark_6 : decode cX5_isMark 6 = .ok (.iload_n 0, 1) := by decide +kernel
theorem dX5_isMark_7 : decode cX5_isMark 7 = .ok (.bipush 41, 2) := by decide +kernel
theorem dX5_isMark_9 : decode cX5_isMark 9 = .ok (.if_icmp .eq 27, 3) := by decide +kernel
theorem dX5_isMark_12 : decode cX5_isMark 12 = .ok (.iload_n 0, 1) := by decide +kernel
theorem dX5_isMark_13 : decode cX5_isMark 13 = .ok (.bipush 59, 2) := by decide +kernel
theorem dX5_isMark_15 : decode cX5_isMark 15 = .ok (.if_icmp .eq 21, 3) := by decide +kernel
theorem dX5_isMark_18 : decode cX5_isMark 18 = .ok (.iload_n 0, 1) := by decide +kernel
theorem dX5_isMark_19 : decode cX5_isMark 19 = .ok (.bipush 60, 2) := by decide +kernel
theorem dX5_isMark_21 : decode cX5_isMark 21 = .ok (.if_icmp .eq 15, 3) := by decide +kernel
theorem dX5_isMark_24 : decode cX5_isMark 24 = .ok (.iload_n 0, 1) := by decide +kernel
theorem dX5_isMark_25 : decode cX5_isMark 25 = .ok (.bipush 61, 2) := by decide +kernel
theorem dX5_isMark_27 : decode cX5_isMark 27 = .ok (.if_icmp .eq 9, 3) := by decide +kernel
theorem dX5_isMark_30 : decode cX5_isMark 30 = .ok (.iload_n 0, 1) := by decide +kernel
theorem dX5_isMark_31 : decode cX5_isMark 31 = .ok (.bipush 62, 2) := by decide +kernel
theorem dX5_isMark_33 : decode cX5_isMark 33 = .ok (.if_icmp .ne 7, 3) := by decide +kernel
theorem dX5_isMark_36 : decode cX5_isMark 36 = .ok (.iconst 1, 1) := by decide +kernel
theorem dX5_isMark_37 : decode cX5_isMark 37 = .ok (.goto 4, 3) := by decide +kernel
theorem dX5_isMark_40 : decode cX5_isMark 40 = .ok (.iconst 0, 1) := by decide +kernel
theorem dX5_isMark_41 : decode cX5_isMark 41 = .ok (.ireturn, 1) := by decide +kernel
theorem oX5_isMark_0 : oP MT mX5_isMark 0 (1, 1, 0, 0, []) := o_iload_n dX5_isMark_0 rfl
theorem oX5_isMark_1 : oP MT mX5_isMark 1 (0, 2, 0, 40, []) := o_bipush dX5_isMark_1 (by decide)
theorem oX5_isMark_3 : oP MT mX5_isMark 3 (11, 3, 0, 36, []) := o_icmp_eq dX5_isMark_3 (by decide) (by decide)
theorem oX5_isMark_6 : oP MT mX5_isMark 6 (1, 1, 0, 0, []) := o_iload_n dX5_isMark_6 rfl
theorem oX5_isMark_7 : oP MT mX5_isMark 7 (0, 2, 0, 41, []) := o_bipush dX5_isMark_7 (by decide)
theorem oX5_isMark_9 : oP MT mX5_isMark 9 (11, 3, 0, 36, []) := o_icmp_eq dX5_isMark_9 (by decide) (by decide)
theorem oX5_isMark_12 : oP MT mX5_isMark 12 (1, 1, 0, 0, []) := o_iload_n dX5_isMark_12 rfl
theorem oX5_isMark_13 : oP MT mX5_isMark 13 (0, 2, 0, 59, []) := o_bipush dX5_isMark_13 (by decide)
theorem oX5_isMark_15 : oP MT mX5_isMark 15 (11, 3, 0, 36, []) := o_icmp_eq dX5_isMark_15 (by decide) (by decide)
theorem oX5_isMark_18 : oP MT mX5_isMark 18 (1, 1, 0, 0, []) := o_iload_n dX5_isMark_18 rfl
theorem oX5_isMark_19 : oP MT mX5_isMark 19 (0, 2, 0, 60, []) := o_bipush dX5_isMark_19 (by decide)
theorem oX5_isMark_21 : oP MT mX5_isMark 21 (11, 3, 0, 36, []) := o_icmp_eq dX5_isMark_21 (by decide) (by decide)
theorem oX5_isMark_24 : oP MT mX5_isMark 24 (1, 1, 0, 0, []) := o_iload_n dX5_isMark_24 rfl
theorem oX5_isMark_25 : oP MT mX5_isMark 25 (0, 2, 0, 61, []) := o_bipush dX5_isMark_25 (by decide)
theorem oX5_isMark_27 : oP MT mX5_isMark 27 (11, 3, 0, 36, []) := o_icmp_eq dX5_isMark_27 (by decide) (by decide)
theorem oX5_isMark_30 : oP MT mX5_isMark 30 (1, 1, 0, 0, []) := o_iload_n dX5_isMark_30 rfl
theorem oX5_isMark_31 : oP MT mX5_isMark 31 (0, 2, 0, 62, []) := o_bipush dX5_isMark_31 (by decide)
theorem oX5_isMark_33 : oP MT mX5_isMark 33 (11, 3, 1, 40, []) := o_icmp_ne dX5_isMark_33 (by decide) (by decide)
theorem oX5_isMark_36 : oP MT mX5_isMark 36 (0, 1, 0, 1, []) := o_iconst dX5_isMark_36 (by decide)
theorem oX5_isMark_37 : oP MT mX5_isMark 37 (9, 3, 41, 0, []) := o_goto dX5_isMark_37 (by decide)
theorem oX5_isMark_40 : oP MT mX5_isMark 40 (0, 1, 0, 0, []) := o_iconst dX5_isMark_40 (by decide)
theorem oX5_isMark_41 : oP MT mX5_isMark 41 (22, 1, 0, 0, []) := o_zret dX5_isMark_41 rfl
def ops_X5_isMark : List (Nat × aO) := [(0, (1, 1, 0, 0, [])), (1, (0, 2, 0, 40, [])), (3, (11, 3, 0, 36, [])), (6, (1, 1, 0, 0, [])), (7, (0, 2, 0, 41, [])), (9, (11, 3, 0, 36, [])), (12, (1, 1, 0, 0, [])), (13, (0, 2, 0, 59, [])), (15, (11, 3, 0, 36, [])), (18, (1, 1, 0, 0, [])), (19, (0, 2, 0, 60, [])), (21, (11, 3, 0, 36, [])), (24, (1, 1, 0, 0, [])), (25, (0, 2, 0, 61, [])), (27, (11, 3, 0, 36, [])), (30, (1, 1, 0, 0, [])), (31, (0, 2, 0, 62, [])), (33, (11, 3, 1, 40, [])), (36, (0, 1, 0, 1, [])), (37, (9, 3, 41, 0, [])), (40, (0, 1, 0, 0, [])), (41, (22, 1, 0, 0, []))]
theorem os_X5_isMark : oA MT mX5_isMark ops_X5_isMark := (oA.cons oX5_isMark_0 (oA.cons oX5_isMark_1 (oA.cons oX5_isMark_3 (oA.cons oX5_isMark_6 (oA.cons oX5_isMark_7 (oA.cons oX5_isMark_9 (oA.cons oX5_isMark_12 (oA.cons oX5_isMark_13 (oA.cons oX5_isMark_15 (oA.cons oX5_isMark_18 (oA.cons oX5_isMark_19 (oA.cons oX5_isMark_21 (oA.cons oX5_isMark_24 (oA.cons oX5_isMark_25 (oA.cons oX5_isMark_27 (oA.cons oX5_isMark_30 (oA.cons oX5_isMark_31 (oA.cons oX5_isMark_33 (oA.cons oX5_isMark_36 (oA.cons oX5_isMark_37 (oA.cons oX5_isMark_40 (oA.cons oX5_isMark_41 oA.nil))))))))))))))))))))))
theorem dX5_endCondition_0 : decode cX5_endCondition 0 = .ok (.aload_n 0, 1) := by decide +kernel
theorem dX5_endCondition_1 : decode cX5_endCondition 1 = .ok (.getfield 29, 3) := by decide +kernel
theorem dX5_endCondition_4 : decode cX5_endCondition 4 = .ok (.aload_n 0, 1) := by decide +kernel
theorem dX5_endCondition_5 : decode cX5_endCondition 5 = .ok (.getfield 130, 3) := by decide +kernel
theorem dX5_endCondition_8 : decode cX5_endCondition 8 = .ok (.baload, 1) := by decide +kernel
theorem dX5_endCondition_9 : decode cX5_endCondition 9 = .ok (.ifCond .eq 22, 3) := by decide +kernel
theorem dX5_endCondition_12 : decode cX5_endCondition 12 = .ok (.aload_n 0, 1) := by decide +kernel
theorem dX5_endCondition_13 : decode cX5_endCondition 13 = .ok (.getfield 18, 3) := by decide +kernel
theorem dX5_endCondition_16 : decode cX5_endCondition 16 = .ok (.bipush 16, 2) := by decide +kernel
theorem dX5_endCondition_18 : decode cX5_endCondition 18 = .ok (.invokevirtual 152, 3) := by decide +kernel
theorem dX5_endCondition_21 : decode cX5_endCondition 21 = .ok (.aload_n 0, 1) := by decide +kernel
theorem dX5_endCondition_22 : decode cX5_endCondition 22 = .ok (.getfield 29, 3) := by decide +kernel
theorem dX5_endCondition_25 : decode cX5_endCondition 25 = .ok (.aload_n 0, 1) := by decide +kernel
theorem dX5_endCondition_26 : decode cX5_endCondition 26 = .ok (.getfield 130, 3) := by decide +kernel
theorem dX5_endCondition_29 : decode cX5_endCondition 29 = .ok (.iconst 0, 1) := by decide +kernel
theorem dX5_endCondition_30 : decode cX5_endCondition 30 = .ok (.bastore, 1) := by decide +kernel
theorem dX5_endCondition_31 : decode cX5_endCondition 31 = .ok (.return_, 1) := by decide +kernel
theorem oX5_endCondition_0 : oP MT mX5_endCondition 0 (1, 1, 0, 1, []) := o_aload_n dX5_endCondition_0 rfl
theorem oX5_endCondition_1 : oP MT mX5_endCondition 1 (13, 3, 14, 5, []) := o_getR (M := mX5_endCondition) (C := RX5) (T := TX5) (ci := 5) (j := 14) (z := 5) dX5_endCondition_1 rfl lq_RX5_29 rfl rfl
theorem oX5_endCondition_4 : oP MT mX5_endCondition 4 (1, 1, 0, 1, []) := o_aload_n dX5_endCondition_4 rfl
theorem oX5_endCondition_5 : oP MT mX5_endCondition 5 (12, 3, 11, 5, []) := o_getI (M := mX5_endCondition) (C := RX5) (T := TX5) (ci := 5) (j := 11) (z := 5) dX5_endCondition_5 rfl lq_RX5_130 rfl rfl
theorem oX5_endCondition_8 : oP MT mX5_endCondition 8 (16, 1, 2, 0, []) := o_baload dX5_endCondition_8
theorem oX5_endCondition_9 : oP MT mX5_endCondition 9 (10, 3, 0, 31, []) := o_if_eq dX5_endCondition_9 (by decide) (by decide)
theorem oX5_endCondition_12 : oP MT mX5_endCondition 12 (1, 1, 0, 1, []) := o_aload_n dX5_endCondition_12 rfl
theorem oX5_endCondition_13 : oP MT mX5_endCondition 13 (13, 3, 2, 5, []) := o_getR (M := mX5_endCondition) (C := RX5) (T := TX5) (ci := 5) (j := 2) (z := 5) dX5_endCondition_13 rfl lq_RX5_18 rfl rfl
theorem oX5_endCondition_16 : oP MT mX5_endCondition 16 (0, 2, 0, 16, []) := o_bipush dX5_endCondition_16 (by decide)
theorem oX5_endCondition_18 : oP MT mX5_endCondition 18 (26, 3, 0, 1, [(6, 60)]) := o_callO ((vA.cons (v_callV dX5_endCondition_18 (ci := 6) rfl rfl (mj := mX6_addCode) mt_X6_addCode cmq_X6_addCode wq_208 wq_210 wq_211 (by decide) (by decide)) vA.nil))
theorem oX5_endCondition_21 : oP MT mX5_endCondition 21 (1, 1, 0, 1, []) := o_aload_n dX5_endCondition_21 rfl
theorem oX5_endCondition_22 : oP MT mX5_endCondition 22 (13, 3, 14, 5, []) := o_getR (M := mX5_endCondition) (C := RX5) (T := TX5) (ci := 5) (j := 14) (z := 5) dX5_endCondition_22 rfl lq_RX5_29 rfl rfl
theorem oX5_endCondition_25 : oP MT mX5_endCondition 25 (1, 1, 0, 1, []) := o_aload_n dX5_endCondition_25 rfl
theorem oX5_endCondition_26 : oP MT mX5_endCondition 26 (12, 3, 11, 5, []) := o_getI (M := mX5_endCondition) (C := RX5) (T := TX5) (ci := 5) (j := 11) (z := 5) dX5_endCondition_26 rfl lq_RX5_130 rfl rfl
theorem oX5_endCondition_29 : oP MT mX5_endCondition 29 (0, 1, 0, 0, []) := o_iconst dX5_endCondition_29 (by decide)
theorem oX5_endCondition_30 : oP MT mX5_endCondition 30 (19, 1, 0, 0, []) := o_bastore dX5_endCondition_30
theorem oX5_endCondition_31 : oP MT mX5_endCondition 31 (23, 1, 0, 0, []) := o_vret dX5_endCondition_31 rfl
def ops_X5_endCondition : List (Nat × aO) := [(0, (1, 1, 0, 1, [])), (1, (13, 3, 14, 5, [])), (4, (1, 1, 0, 1, [])), (5, (12, 3, 11, 5, [])), (8, (16, 1, 2, 0, [])), (9, (10, 3, 0, 31, [])), (12, (1, 1, 0, 1, [])), (13, (13, 3, 2, 5, [])), (16, (0, 2, 0, 16, [])), (18, (26, 3, 0, 1, [(6, 60)])), (21, (1, 1, 0, 1, [])), (22, (13, 3, 14, 5, [])), (25, (1, 1, 0, 1, [])), (26, (12, 3, 11, 5, [])), (29, (0, 1, 0, 0, [])), (30, (19, 1, 0, 0, [])), (31, (23, 1, 0, 0, []))]
theorem os_X5_endCondition : oA MT mX5_endCondition ops_X5_endCondition := (oA.cons oX5_endCondition_0 (oA.cons oX5_endCondition_1 (oA.cons oX5_endCondition_4 (oA.cons oX5_endCondition_5 (oA.cons oX5_endCondition_8 (oA.cons oX5_endCondition_9 (oA.cons oX5_endCondition_12 (oA.cons oX5_endCondition_13 (oA.cons oX5_endCondition_16 (oA.cons oX5_endCondition_18 (oA.cons oX5_endCondition_21 (oA.cons oX5_endCondition_22 (oA.cons oX5_endCondition_25 (oA.cons oX5_endCondition_26 (oA.cons oX5_endCondition_29 (oA.cons oX5_endCondition_30 (oA.cons oX5_endCondition_31 oA.nil)))))))))))))))))
theorem dX6_addCode_0 : decode cX6_addCode 0 = .ok (.aload_n 0, 1) := by decide +kernel
theorem dX6_addCode_1 : decode cX6_addCode 1 = .ok (.getfield 28, 3) := by decide +kernel
theorem dX6_addCode_4 : decode cX6_addCode 4 = .ok (.sipush 200, 3) := by decide +kernel
theorem dX6_addCode_7 : decode cX6_addCode 7 = .ok (.if_icmp .ge 23, 3) := by decide +kernel
theorem dX6_addCode_10 : decode cX6_addCode 10 = .ok (.aload_n 0, 1) := by decide +kernel
theorem dX6_addCode_11 : decode cX6_addCode 11 = .ok (.getfield 21, 3) := by decide +kernel
theorem dX6_addCode_14 : decode cX6_addCode 14 = .ok (.aload_n 0, 1) := by decide +kernel
theorem dX6_addCode_15 : decode cX6_addCode 15 = .ok (.getfield 28, 3) := by decide +kernel
theorem dX6_addCode_18 : decode cX6_addCode 18 = .ok (.iload_n 1, 1) := by decide +kernel
theorem dX6_addCode_19 : decode cX6_addCode 19 = .ok (.iastore, 1) := by decide +kernel
theorem dX6_addCode_20 : decode cX6_addCode 20 = .ok (.aload_n 0, 1) := by decide +kernel
theorem dX6_addCode_21 : decode cX6_addCode 21 = .ok (.dup, 1) := by decide +kernel
theorem dX6_addCode_22 : decode cX6_addCode 22 = .ok (.getfield 28, 3) := by decide +kernel
theorem dX6_addCode_25 : decode cX6_addCode 25 = .ok (.iconst 1, 1) := by decide +kernel
theorem dX6_addCode_26 : decode cX6_addCode 26 = .ok (.iadd, 1) := by decide +kernel
theorem dX6_addCode_27 : decode cX6_addCode 27 = .ok (.putfield 28, 3) := by decide +kernel
theorem dX6_addCode_30 : decode cX6_addCode 30 = .ok (.return_, 1) := by decide +kernel
theorem oX6_addCode_0 : oP MT mX6_addCode 0 (1, 1, 0, 1, []) := o_aload_n dX6_addCode_0 rfl
theorem oX6_addCode_1 : oP MT mX6_addCode 1 (12, 3, 1, 6, []) := o_getI (M := mX6_addCode) (C := RX6) (T := TX6) (ci := 6) (j := 1) (z := 6) dX6_addCode_1 rfl lq_RX6_28 rfl rfl
theorem oX6_addCode_4 : oP MT mX6_addCode 4 (0, 3, 0, 200, []) := o_sipush dX6_addCode_4 (by decide)
theorem oX6_addCode_7 : oP MT mX6_addCode 7 (11, 3, 3, 30, []) := o_icmp_ge dX6_addCode_7 (by decide) (by decide)
theorem oX6_addCode_10 : oP MT mX6_addCode 10 (1, 1, 0, 1, []) := o_aload_n dX6_addCode_10 rfl
theorem oX6_addCode_11 : oP MT mX6_addCode 11 (13, 3, 5, 6, []) := o_getR (M := mX6_addCode) (C := RX6) (T := TX6) (ci := 6) (j := 5) (z := 6) dX6_addCode_11 rfl lq_RX6_21 rfl rfl
theorem oX6_addCode_14 : oP MT mX6_addCode 14 (1, 1, 0, 1, []) := o_aload_n dX6_addCode_14 rfl
theorem oX6_addCode_15 : oP MT mX6_addCode 15 (12, 3, 1, 6, []) := o_getI (M := mX6_addCode) (C := RX6) (T := TX6) (ci := 6) (j := 1) (z := 6) dX6_addCode_15 rfl lq_RX6_28 rfl rfl
theorem oX6_addCode_18 : oP MT mX6_addCode 18 (1, 1, 1, 0, []) := o_iload_n dX6_addCode_18 rfl
theorem oX6_addCode_19 : oP MT mX6_addCode 19 (18, 1, 0, 0, []) := o_iastore dX6_addCode_19
theorem oX6_addCode_20 : oP MT mX6_addCode 20 (1, 1, 0, 1, []) := o_aload_n dX6_addCode_20 rfl
theorem oX6_addCode_21 : oP MT mX6_addCode 21 (6, 1, 0, 0, []) := o_dup dX6_addCode_21
theorem oX6_addCode_22 : oP MT mX6_addCode 22 (12, 3, 1, 6, []) := o_getI (M := mX6_addCode) (C := RX6) (T := TX6) (ci := 6) (j := 1) (z := 6) dX6_addCode_22 rfl lq_RX6_28 rfl rfl
theorem oX6_addCode_25 : oP MT mX6_addCode 25 (0, 1, 0, 1, []) := o_iconst dX6_addCode_25 (by decide)
theorem oX6_addCode_26 : oP MT mX6_addCode 26 (4, 1, 0, 0, []) := o_iadd dX6_addCode_26
theorem oX6_addCode_27 : oP MT mX6_addCode 27 (14, 3, 1, 6, []) := o_putI (M := mX6_addCode) (C := RX6) (T := TX6) (ci := 6) (j := 1) (z := 6) dX6_addCode_27 rfl lq_RX6_28 rfl rfl rfl rfl
theorem oX6_addCode_30 : oP MT mX6_addCode 30 (23, 1, 0, 0, []) := o_vret dX6_addCode_30 rfl
def ops_X6_addCode : List (Nat × aO) := [(0, (1, 1, 0, 1, [])), (1, (12, 3, 1, 6, [])), (4, (0, 3, 0, 200, [])), (7, (11, 3, 3, 30, [])), (10, (1, 1, 0, 1, [])), (11, (13, 3, 5, 6, [])), (14, (1, 1, 0, 1, [])), (15, (12, 3, 1, 6, [])), (18, (1, 1, 1, 0, [])), (19, (18, 1, 0, 0, [])), (20, (1, 1, 0, 1, [])), (21, (6, 1, 0, 0, [])), (22, (12, 3, 1, 6, [])), (25, (0, 1, 0, 1, [])), (26, (4, 1, 0, 0, [])), (27, (14, 3, 1, 6, [])), (30, (23, 1, 0, 0, []))]
theorem os_X6_addCode : oA MT mX6_addCode ops_X6_addCode := (oA.cons oX6_addCode_0 (oA.cons oX6_addCode_1 (oA.cons oX6_addCode_4 (oA.cons oX6_addCode_7 (oA.cons oX6_addCode_10 (oA.cons oX6_addCode_11 (oA.cons oX6_addCode_14 (oA.cons oX6_addCode_15 (oA.cons oX6_addCode_18 (oA.cons oX6_addCode_19 (oA.cons oX6_addCode_20 (oA.cons oX6_addCode_21 (oA.cons oX6_addCode_22 (oA.cons oX6_addCode_25 (oA.cons oX6_addCode_26 (oA.cons oX6_addCode_27 (oA.cons oX6_addCode_30 oA.nil)))))))))))))))))
theorem dX6_addRule_0 : decode cX6_addRule 0 = .ok (.aload_n 0, 1) := by decide +kernel
theorem dX6_addRule_1 : decode cX6_addRule 1 = .ok (.getfield 24, 3) := by decide +kernel
theorem dX6_addRule_4 : decode cX6_addRule 4 = .ok (.bipush 8, 2) := by decide +kernel
theorem dX6_addRule_6 : decode cX6_addRule 6 = .ok (.if_icmp .ge 46, 3) := by decide +kernel
theorem dX6_addRule_9 : decode cX6_addRule 9 = .ok (.aload_n 0, 1) := by decide +kernel
theorem dX6_addRule_10 : decode cX6_addRule 10 = .ok (.getfield 9, 3) := by decide +kernel
theorem dX6_addRule_13 : decode cX6_addRule 13 = .ok (.aload_n 0, 1) := by decide +kernel
theorem dX6_addRule_14 : decode cX6_addRule 14 = .ok (.getfield 24, 3) := by decide +kernel
theorem dX6_addRule_17 : decode cX6_addRule 17 = .ok (.iload_n 1, 1) := by decide +kernel
theorem dX6_addRule_18 : decode cX6_addRule 18 = .ok (.iastore, 1) := by decide +kernel
theorem dX6_addRule_19 : decode cX6_addRule 19 = .ok (.aload_n 0, 1) := by decide +kernel
theorem dX6_addRule_20 : decode cX6_addRule 20 = .ok (.getfield 15, 3) := by decide +kernel
theorem dX6_addRule_23 : decode cX6_addRule 23 = .ok (.aload_n 0, 1) := by decide +kernel
theorem dX6_addRule_24 : decode cX6_addRule 24 = .ok (.getfield 24, 3) := by decide +kernel
theorem dX6_addRule_27 : decode cX6_addRule 27 = .ok (.iload_n 2, 1) := by decide +kernel
theorem dX6_addRule_28 : decode cX6_addRule 28 = .ok (.iastore, 1) := by decide +kernel
theorem dX6_addRule_29 : decode cX6_addRule 29 = .ok (.aload_n 0, 1) := by decide +kernel
theorem dX6_addRule_30 : decode cX6_addRule 30 = .ok (.getfield 18, 3) := by decide +kernel
theorem dX6_addRule_33 : decode cX6_addRule 33 = .ok (.aload_n 0, 1) := by decide +kernel
theorem dX6_addRule_34 : decode cX6_addRule 34 = .ok (.getfield 24, 3) := by decide +kernel
theorem dX6_addRule_37 : decode cX6_addRule 37 = .ok (.aload_n 0, 1) := by decide +kernel
theorem dX6_addRule_38 : decode cX6_addRule 38 = .ok (.getfield 28, 3) := by decide +kernel
theorem dX6_addRule_41 : decode cX6_addRule 41 = .ok (.iastore, 1) := by decide +kernel
theorem dX6_addRule_42 : decode cX6_addRule 42 = .ok (.aload_n 0, 1) := by decide +kernel
theorem dX6_addRule_43 : decode cX6_addRule 43 = .ok (.dup, 1) := by decide +kernel
theorem dX6_addRule_44 : decode cX6_addRule 44 = .ok (.getfield 24, 3) := by decide +kernel
theorem dX6_addRule_47 : decode cX6_addRule 47 = .ok (.iconst 1, 1) := by decide +kernel
theorem dX6_addRule_48 : decode cX6_addRule 48 = .ok (.iadd, 1) := by decide +kernel
theorem dX6_addRule_49 : decode cX6_addRule 49 = .ok (.putfield 24, 3) := by decide +kernel
theorem dX6_addRule_52 : decode cX6_addRule 52 = .ok (.return_, 1) := by decide +kernel
theorem oX6_addRule_0 : oP MT mX6_addRule 0 (1, 1, 0, 1, []) := o_aload_n dX6_addRule_0 rfl
theorem oX6_addRule_1 : oP MT mX6_addRule 1 (12, 3, 0, 6, []) := o_getI (M := mX6_addRule) (C := RX6) (T := TX6) (ci := 6) (j := 0) (z := 6) dX6_addRule_1 rfl lq_RX6_24 rfl rfl
theorem oX6_addRule_4 : oP MT mX6_addRule 4 (0, 2, 0, 8, []) := o_bipush dX6_addRule_4 (by decide)
theorem oX6_addRule_6 : oP MT mX6_addRule 6 (11, 3, 3, 52, []) := o_icmp_ge dX6_addRule_6 (by decide) (by decide)
theorem oX6_addRule_9 : oP MT mX6_addRule 9 (1, 1, 0, 1, []) := o_aload_n dX6_addRule_9 rfl
theorem oX6_addRule_10 : oP MT mX6_addRule 10 (13, 3, 2, 6, []) := o_getR (M := mX6_addRule) (C := RX6) (T := TX6) (ci := 6) (j := 2) (z := 6) dX6_addRule_10 rfl lq_RX6_9 rfl rfl
theorem oX6_addRule_13 : oP MT mX6_addRule 13 (1, 1, 0, 1, []) := o_aload_n dX6_addRule_13 rfl
theorem oX6_addRule_14 : oP MT mX6_addRule 14 (12, 3, 0, 6, []) := o_getI (M := mX6_addRule) (C := RX6) (T := TX6) (ci := 6) (j := 0) (z := 6) dX6_addRule_14 rfl lq_RX6_24 rfl rfl
theorem oX6_addRule_17 : oP MT mX6_addRule 17 (1, 1, 1, 0, []) := o_iload_n dX6_addRule_17 rfl
theorem oX6_addRule_18 : oP MT mX6_addRule 18 (18, 1, 0, 0, []) := o_iastore dX6_addRule_18
theorem oX6_addRule_19 : oP MT mX6_addRule 19 (1, 1, 0, 1, []) := o_aload_n dX6_addRule_19 rfl
theorem oX6_addRule_20 : oP MT mX6_addRule 20 (13, 3, 3, 6, []) := o_getR (M := mX6_addRule) (C := RX6) (T := TX6) (ci := 6) (j := 3) (z := 6) dX6_addRule_20 rfl lq_RX6_15 rfl rfl
theorem oX6_addRule_23 : oP MT mX6_addRule 23 (1, 1, 0, 1, []) := o_aload_n dX6_addRule_23 rfl
theorem oX6_addRule_24 : oP MT mX6_addRule 24 (12, 3, 0, 6, []) := o_getI (M := mX6_addRule) (C := RX6) (T := TX6) (ci := 6) (j := 0) (z := 6) dX6_addRule_24 rfl lq_RX6_24 rfl rfl
theorem oX6_addRule_27 : oP MT mX6_addRule 27 (1, 1, 2, 0, []) := o_iload_n dX6_addRule_27 rfl
theorem oX6_addRule_28 : oP MT mX6_addRule 28 (18, 1, 0, 0, []) := o_iastore dX6_addRule_28
theorem oX6_addRule_29 : oP MT mX6_addRule 29 (1, 1, 0, 1, []) := o_aload_n dX6_addRule_29 rfl
theorem oX6_addRule_30 : oP MT mX6_addRule 30 (13, 3, 4, 6, []) := o_getR (M := mX6_addRule) (C := RX6) (T := TX6) (ci := 6) (j := 4) (z := 6) dX6_addRule_30 rfl lq_RX6_18 rfl rfl
theorem oX6_addRule_33 : oP MT mX6_addRule 33 (1, 1, 0, 1, []) := o_aload_n dX6_addRule_33 rfl
theorem oX6_addRule_34 : oP MT mX6_addRule 34 (12, 3, 0, 6, []) := o_getI (M := mX6_addRule) (C := RX6) (T := TX6) (ci := 6) (j := 0) (z := 6) dX6_addRule_34 rfl lq_RX6_24 rfl rfl
theorem oX6_addRule_37 : oP MT mX6_addRule 37 (1, 1, 0, 1, []) := o_aload_n dX6_addRule_37 rfl
theorem oX6_addRule_38 : oP MT mX6_addRule 38 (12, 3, 1, 6, []) := o_getI (M := mX6_addRule) (C := RX6) (T := TX6) (ci := 6) (j := 1) (z := 6) dX6_addRule_38 rfl lq_RX6_28 rfl rfl
theorem oX6_addRule_41 : oP MT mX6_addRule 41 (18, 1, 0, 0, []) := o_iastore dX6_addRule_41
theorem oX6_addRule_42 : oP MT mX6_addRule 42 (1, 1, 0, 1, []) := o_aload_n dX6_addRule_42 rfl
theorem oX6_addRule_43 : oP MT mX6_addRule 43 (6, 1, 0, 0, []) := o_dup dX6_addRule_43
theorem oX6_addRule_44 : oP MT mX6_addRule 44 (12, 3, 0, 6, []) := o_getI (M := mX6_addRule) (C := RX6) (T := TX6) (ci := 6) (j := 0) (z := 6) dX6_addRule_44 rfl lq_RX6_24 rfl rfl
theorem oX6_addRule_47 : oP MT mX6_addRule 47 (0, 1, 0, 1, []) := o_iconst dX6_addRule_47 (by decide)
theorem oX6_addRule_48 : oP MT mX6_addRule 48 (4, 1, 0, 0, []) := o_iadd dX6_addRule_48
theorem oX6_addRule_49 : oP MT mX6_addRule 49 (14, 3, 0, 6, []) := o_putI (M := mX6_addRule) (C := RX6) (T := TX6) (ci := 6) (j := 0) (z := 6) dX6_addRule_49 rfl lq_RX6_24 rfl rfl rfl rfl
theorem oX6_addRule_52 : oP MT mX6_addRule 52 (23, 1, 0, 0, []) := o_vret dX6_addRule_52 rfl
def ops_X6_addRule : List (Nat × aO) := [(0, (1, 1, 0, 1, [])), (1, (12, 3, 0, 6, [])), (4, (0, 2, 0, 8, [])), (6, (11, 3, 3, 52, [])), (9, (1, 1, 0, 1, [])), (10, (13, 3, 2, 6, [])), (13, (1, 1, 0, 1, [])), (14, (12, 3, 0, 6, [])), (17, (1, 1, 1, 0, [])), (18, (18, 1, 0, 0, [])), (19, (1, 1, 0, 1, [])), (20, (13, 3, 3, 6, [])), (23, (1, 1, 0, 1, [])), (24, (12, 3, 0, 6, [])), (27, (1, 1, 2, 0, [])), (28, (18, 1, 0, 0, [])), (29, (1, 1, 0, 1, [])), (30, (13, 3, 4, 6, [])), (33, (1, 1, 0, 1, [])), (34, (12, 3, 0, 6, [])), (37, (1, 1, 0, 1, [])), (38, (12, 3, 1, 6, [])), (41, (18, 1, 0, 0, [])), (42, (1, 1, 0, 1, [])), (43, (6, 1, 0, 0, [])), (44, (12, 3, 0, 6, [])), (47, (0, 1, 0, 1, [])), (48, (4, 1, 0, 0, [])), (49, (14, 3, 0, 6, [])), (52, (23, 1, 0, 0, []))]
theorem os_X6_addRule : oA MT mX6_addRule ops_X6_addRule := (oA.cons oX6_addRule_0 (oA.cons oX6_addRule_1 (oA.cons oX6_addRule_4 (oA.cons oX6_addRule_6 (oA.cons oX6_addRule_9 (oA.cons oX6_addRule_10 (oA.cons oX6_addRule_13 (oA.cons oX6_addRule_14 (oA.cons oX6_addRule_17 (oA.cons oX6_addRule_18 (oA.cons oX6_addRule_19 (oA.cons oX6_addRule_20 (oA.cons oX6_addRule_23 (oA.cons oX6_addRule_24 (oA.cons oX6_addRule_27 (oA.cons oX6_addRule_28 (oA.cons oX6_addRule_29 (oA.cons oX6_addRule_30 (oA.cons oX6_addRule_33 (oA.cons oX6_addRule_34 (oA.cons oX6_addRule_37 (oA.cons oX6_addRule_38 (oA.cons oX6_addRule_41 (oA.cons oX6_addRule_42 (oA.cons oX6_addRule_43 (oA.cons oX6_addRule_44 (oA.cons oX6_addRule_47 (oA.cons oX6_addRule_48 (oA.cons oX6_addRule_49 (oA.cons oX6_addRule_52 oA.nil))))))))))))))))))))))))))))))
theorem dX5_isValue_0 : decode cX5_isValue 0 = .ok (.aload_n 0, 1) := by decide +kernel
theorem dX5_isValue_1 : decode cX5_isValue 1 = .ok (.getfield 42, 3) := by decide +kernel
theorem dX5_isValue_4 : decode cX5_isValue 4 = .ok (.bipush 18, 2) := by decide +kernel
theorem dX5_isValue_6 : decode cX5_isValue 6 = .ok (.if_icmp .eq 17, 3) := by decide +kernel
theorem dX5_isValue_9 : decode cX5_isValue 9 = .ok (.aload_n 0, 1) := by decide +kernel
theorem dX5_isValue_10 : decode cX5_isValue 10 = .ok (.getfield 42, 3) := by decide +kernel
theorem dX5_isValue_13 : decode cX5_isValue 13 = .ok (.bipush 9, 2) := by decide +kernel
theorem dX5_isValue_15 : decode cX5_isValue 15 = .ok (.bipush 13, 2) := by decide +kernel
theorem dX5_isValue_17 : decode cX5_isValue 17 = .ok (.invokestatic 123, 3) := by decide +kernel
theorem dX5_isValue_20 : decode cX5_isValue 20 = .ok (.ifCond .eq 7, 3) := by decide +kernel
theorem dX5_isValue_23 : decode cX5_isValue 23 = .ok (.iconst 1, 1) := by decide +kernel
theorem dX5_isValue_24 : decode cX5_isValue 24 = .ok (.goto 4, 3) := by decide +kernel
theorem dX5_isValue_27 : decode cX5_isValue 27 = .ok (.iconst 0, 1) := by decide +kernel
theorem dX5_isValue_28 : decode cX5_isValue 28 = .ok (.ireturn, 1) := by decide +kernel
theorem oX5_isValue_0 : oP MT mX5_isValue 0 (1, 1, 0, 1, []) := o_aload_n dX5_isValue_0 rfl
theorem oX5_isValue_1 : oP MT mX5_isValue 1 (12, 3, 5, 5, []) := o_getI (M := mX5_isValue) (C := RX5) (T := TX5) (ci := 5) (j := 5) (z := 5) dX5_isValue_1 rfl lq_RX5_42 rfl rfl
theorem oX5_isValue_4 : oP MT mX5_isValue 4 (0, 2, 0, 18, []) := o_bipush dX5_isValue_4 (by decide)
theorem oX5_isValue_6 : oP MT mX5_isValue 6 (11, 3, 0, 23, []) := o_icmp_eq dX5_isValue_6 (by decide) (by decide)
theorem oX5_isValue_9 : oP MT mX5_isValue 9 (1, 1, 0, 1, []) := o_aload_n dX5_isValue_9 rfl
theorem oX5_isValue_10 : oP MT mX5_isValue 10 (12, 3, 5, 5, []) := o_getI (M := mX5_isValue) (C := RX5) (T := TX5) (ci := 5) (j := 5) (z := 5) dX5_isValue_10 rfl lq_RX5_42 rfl rfl
theorem oX5_isValue_13 : oP MT mX5_isValue 13 (0, 2, 0, 9, []) := o_bipush dX5_isValue_13 (by decide)
theorem oX5_isValue_15 : oP MT mX5_isValue 15 (0, 2, 0, 13, []) := o_bipush dX5_isValue_15 (by decide)
theorem oX5_isValue_17 : oP MT mX5_isValue 17 (25, 3, 37, 3, []) := o_callSN (host := "IceKeys") dX5_isValue_17 (mj := mX11_isIn) mt_X11_isIn cmq_X11_isIn (by decide) wq_144 (by decide) (by decide)
theorem oX5_isValue_20 : oP MT mX5_isValue 20 (10, 3, 0, 27, []) := o_if_eq dX5_isValue_20 (by decide) (by decide)
theorem oX5_isValue_23 : oP MT mX5_isValue 23 (0, 1, 0, 1, []) := o_iconst dX5_isValue_23 (by decide)
theorem oX5_isValue_24 : oP MT mX5_isValue 24 (9, 3, 28, 0, []) := o_goto dX5_isValue_24 (by decide)
theorem oX5_isValue_27 : oP MT mX5_isValue 27 (0, 1, 0, 0, []) := o_iconst dX5_isValue_27 (by decide)
theorem oX5_isValue_28 : oP MT mX5_isValue 28 (22, 1, 0, 0, []) := o_zret dX5_isValue_28 rfl
def ops_X5_isValue : List (Nat × aO) := [(0, (1, 1, 0, 1, [])), (1, (12, 3, 5, 5, [])), (4, (0, 2, 0, 18, [])), (6, (11, 3, 0, 23, [])), (9, (1, 1, 0, 1, [])), (10, (12, 3, 5, 5, [])), (13, (0, 2, 0, 9, [])), (15, (0, 2, 0, 13, [])), (17, (25, 3, 37, 3, [])), (20, (10, 3, 0, 27, [])), (23, (0, 1, 0, 1, [])), (24, (9, 3, 28, 0, [])), (27, (0, 1, 0, 0, [])), (28, (22, 1, 0, 0, []))]
theorem os_X5_isValue : oA MT mX5_isValue ops_X5_isValue := (oA.cons oX5_isValue_0 (oA.cons oX5_isValue_1 (oA.cons oX5_isValue_4 (oA.cons oX5_isValue_6 (oA.cons oX5_isValue_9 (oA.cons oX5_isValue_10 (oA.cons oX5_isValue_13 (oA.cons oX5_isValue_15 (oA.cons oX5_isValue_17 (oA.cons oX5_isValue_20 (oA.cons oX5_isValue_23 (oA.cons oX5_isValue_24 (oA.cons oX5_isValue_27 (oA.cons oX5_isValue_28 oA.nil))))))))))))))
theorem dX5_value_0 : decode cX5_value 0 = .ok (.aload_n 0, 1) := by decide +kernel
theorem dX5_value_1 : decode cX5_value 1 = .ok (.getfield 42, 3) := by decide +kernel
theorem dX5_value_4 : decode cX5_value 4 = .ok (.bipush 18, 2) := by decide +kernel
theorem dX5_value_6 : decode cX5_value 6 = .ok (.if_icmp .ne 10, 3) := by decide +kernel
theorem dX5_value_9 : decode cX5_value 9 = .ok (.aload_n 0, 1) := by decide +kernel
theorem dX5_value_10 : decode cX5_value 10 = .ok (.getfield 93, 3) := by decide +kernel
theorem dX5_value_13 : decode cX5_value 13 = .ok (.goto 14, 3) := by decide +kernel
theorem dX5_value_16 : decode cX5_value 16 = .ok (.sipush 10000, 3) := by decide +kernel
theorem dX5_value_19 : decode cX5_value 19 = .ok (.aload_n 0, 1) := by decide +kernel
theorem dX5_value_20 : decode cX5_value 20 = .ok (.getfield 42, 3) := by decide +kernel
theorem dX5_value_23 : decode cX5_value 23 = .ok (.iadd, 1) := by decide +kernel
theorem dX5_value_24 : decode cX5_value 24 = .ok (.bipush 9, 2) := by decide +kernel
theorem dX5_value_26 : decode cX5_value 26 = .ok (.isub, 1) := by decide +kernel
theorem dX5_value_27 : decode cX5_value 27 = .ok (.ireturn, 1) := by decide +kernel
theorem oX5_value_0 : oP MT mX5_value 0 (1, 1, 0, 1, []) := o_aload_n dX5_value_0 rfl
theorem oX5_value_1 : oP MT mX5_value 1 (12, 3, 5, 5, []) := o_getI (M := mX5_value) (C := RX5) (T := TX5) (ci := 5) (j := 5) (z := 5) dX5_value_1 rfl lq_RX5_42 rfl rfl
theorem oX5_value_4 : oP MT mX5_value 4 (0, 2, 0, 18, []) := o_bipush dX5_value_4 (by decide)
theorem oX5_value_6 : oP MT mX5_value 6 (11, 3, 1, 16, []) := o_icmp_ne dX5_value_6 (by decide) (by decide)
theorem oX5_value_9 : oP MT mX5_value 9 (1, 1, 0, 1, []) := o_aload_n dX5_value_9 rfl
theorem oX5_value_10 : oP MT mX5_value 10 (12, 3, 6, 5, []) := o_getI (M := mX5_value) (C := RX5) (T := TX5) (ci := 5) (j := 6) (z := 5) dX5_value_10 rfl lq_RX5_93 rfl rfl
theorem oX5_value_13 : oP MT mX5_value 13 (9, 3, 27, 0, []) := o_goto dX5_value_13 (by decide)
theorem oX5_value_16 : oP MT mX5_value 16 (0, 3, 0, 10000, []) := o_sipush dX5_value_16 (by decide)
theorem oX5_value_19 : oP MT mX5_value 19 (1, 1, 0, 1, []) := o_aload_n dX5_value_19 rfl
theorem oX5_value_20 : oP MT mX5_value 20 (12, 3, 5, 5, []) := o_getI (M := mX5_value) (C := RX5) (T := TX5) (ci := 5) (j := 5) (z := 5) dX5_value_20 rfl lq_RX5_42 rfl rfl
theorem oX5_value_23 : oP MT mX5_value 23 (4, 1, 0, 0, []) := o_iadd dX5_value_23
theorem oX5_value_24 : oP MT mX5_value 24 (0, 2, 0, 9, []) := o_bipush dX5_value_24 (by decide)
theorem oX5_value_26 : oP MT mX5_value 26 (4, 1, 1, 0, []) := o_isub dX5_value_26
theorem oX5_value_27 : oP MT mX5_value 27 (21, 1, 0, 0, []) := o_iret dX5_value_27 rfl
def ops_X5_value : List (Nat × aO) := [(0, (1, 1, 0, 1, [])), (1, (12, 3, 5, 5, [])), (4, (0, 2, 0, 18, [])), (6, (11, 3, 1, 16, [])), (9, (1, 1, 0, 1, [])), (10, (12, 3, 6, 5, [])), (13, (9, 3, 27, 0, [])), (16, (0, 3, 0, 10000, [])), (19, (1, 1, 0, 1, [])), (20, (12, 3, 5, 5, [])), (23, (4, 1, 0, 0, [])), (24, (0, 2, 0, 9, [])), (26, (4, 1, 1, 0, [])), (27, (21, 1, 0, 0, []))]
theorem os_X5_value : oA MT mX5_value ops_X5_value := (oA.cons oX5_value_0 (oA.cons oX5_value_1 (oA.cons oX5_value_4 (oA.cons oX5_value_6 (oA.cons oX5_value_9 (oA.cons oX5_value_10 (oA.cons oX5_value_13 (oA.cons oX5_value_16 (oA.cons oX5_value_19 (oA.cons oX5_value_20 (oA.cons oX5_value_23 (oA.cons oX5_value_24 (oA.cons oX5_value_26 (oA.cons oX5_value_27 oA.nil))))))))))))))
theorem dX5_endOne_0 : decode cX5_endOne 0 = .ok (.aload_n 0, 1) := by decide +kernel
theorem dX5_endOne_1 : decode cX5_endOne 1 = .ok (.getfield 22, 3) := by decide +kernel
theorem dX5_endOne_4 : decode cX5_endOne 4 = .ok (.aload_n 0, 1) := by decide +kernel
theorem dX5_endOne_5 : decode cX5_endOne 5 = .ok (.getfield 130, 3) := by decide +kernel
theorem dX5_endOne_8 : decode cX5_endOne 8 = .ok (.baload, 1) := by decide +kernel
theorem dX5_endOne_9 : decode cX5_endOne 9 = .ok (.ifCond .eq 22, 3) := by decide +kernel
theorem dX5_endOne_12 : decode cX5_endOne 12 = .ok (.aload_n 0, 1) := by decide +kernel
theorem dX5_endOne_13 : decode cX5_endOne 13 = .ok (.getfield 18, 3) := by decide +kernel
theorem dX5_endOne_16 : decode cX5_endOne 16 = .ok (.bipush 17, 2) := by decide +kernel
theorem dX5_endOne_18 : decode cX5_endOne 18 = .ok (.invokevirtual 152, 3) := by decide +kernel
theorem dX5_endOne_21 : decode cX5_endOne 21 = .ok (.aload_n 0, 1) := by decide +kernel
theorem dX5_endOne_22 : decode cX5_endOne 22 = .ok (.getfield 22, 3) := by decide +kernel
theorem dX5_endOne_25 : decode cX5_endOne 25 = .ok (.aload_n 0, 1) := by decide +kernel
theorem dX5_endOne_26 : decode cX5_endOne 26 = .ok (.getfield 130, 3) := by decide +kernel
theorem dX5_endOne_29 : decode cX5_endOne 29 = .ok (.iconst 0, 1) := by decide +kernel
theorem dX5_endOne_30 : decode cX5_endOne 30 = .ok (.bastore, 1) := by decide +kernel
theorem dX5_endOne_31 : decode cX5_endOne 31 = .ok (.aload_n 0, 1) := by decide +kernel
theorem dX5_endOne_32 : decode cX5_endOne 32 = .ok (.getfield 26, 3) := by decide +kernel
theorem dX5_endOne_35 : decode cX5_endOne 35 = .ok (.aload_n 0, 1) := by decide +kernel
theorem dX5_endOne_36 : decode cX5_endOne 36 = .ok (.getfield 130, 3) := by decide +kernel
theorem dX5_endOne_39 : decode cX5_endOne 39 = .ok (.baload, 1) := by decide +kernel
theorem dX5_endOne_40 : decode cX5_endOne 40 = .ok (.ifCond .eq 22, 3) := by decide +kernel
theorem dX5_endOne_43 : decode cX5_endOne 43 = .ok (.aload_n 0, 1) := by decide +kernel
theorem dX5_endOne_44 : decode cX5_endOne 44 = .ok (.getfield 18, 3) := by decide +kernel
theorem dX5_endOne_47 : decode cX5_endOne 47 = .ok (.bipush 15, 2) := by decide +kernel
theorem dX5_endOne_49 : decode cX5_endOne 49 = .ok (.invokevirtual 152, 3) := by decide +kernel
theorem dX5_endOne_52 : decode cX5_endOne 52 = .ok (.aload_n 0, 1) := by decide +kernel
theorem dX5_endOne_53 : decode cX5_endOne 53 = .ok (.getfield 26, 3) := by decide +kernel
theorem dX5_endOne_56 : decode cX5_endOne 56 = .ok (.aload_n 0, 1) := by decide +kernel
theorem dX5_endOne_57 : decode cX5_endOne 57 = .ok (.getfield 130, 3) := by decide +kernel
theorem dX5_endOne_60 : decode cX5_endOne 60 = .ok (.iconst 0, 1) := by decide +kernel
theorem dX5_endOne_61 : decode cX5_endOne 61 = .ok (.bastore, 1) := by decide +kernel
theorem dX5_endOne_62 : decode cX5_endOne 62 = .ok (.return_, 1) := by decide +kernel
theorem oX5_endOne_0 : oP MT mX5_endOne 0 (1, 1, 0, 1, []) := o_aload_n dX5_endOne_0 rfl
theorem oX5_endOne_1 : oP MT mX5_endOne 1 (13, 3, 12, 5, []) := o_getR (M := mX5_endOne) (C := RX5) (T := TX5) (ci := 5) (j := 12) (z := 5) dX5_endOne_1 rfl lq_RX5_22 rfl rfl
theorem oX5_endOne_4 : oP MT mX5_endOne 4 (1, 1, 0, 1, []) := o_aload_n dX5_endOne_4 rfl
theorem oX5_endOne_5 : oP MT mX5_endOne 5 (12, 3, 11, 5, []) := o_getI (M := mX5_endOne) (C := RX5) (T := TX5) (ci := 5) (j := 11) (z := 5) dX5_endOne_5 rfl lq_RX5_130 rfl rfl
theorem oX5_endOne_8 : oP MT mX5_endOne 8 (16, 1, 2, 0, []) := o_baload dX5_endOne_8
theorem oX5_endOne_9 : oP MT mX5_endOne 9 (10, 3, 0, 31, []) := o_if_eq dX5_endOne_9 (by decide) (by decide)
theorem oX5_endOne_12 : oP MT mX5_endOne 12 (1, 1, 0, 1, []) := o_aload_n dX5_endOne_12 rfl
theorem oX5_endOne_13 : oP MT mX5_endOne 13 (13, 3, 2, 5, []) := o_getR (M := mX5_endOne) (C := RX5) (T := TX5) (ci := 5) (j := 2) (z := 5) dX5_endOne_13 rfl lq_RX5_18 rfl rfl
theorem oX5_endOne_16 : oP MT mX5_endOne 16 (0, 2, 0, 17, []) := o_bipush dX5_endOne_16 (by decide)
theorem oX5_endOne_18 : oP MT mX5_endOne 18 (26, 3, 0, 1, [(6, 60)]) := o_callO ((vA.cons (v_callV dX5_endOne_18 (ci := 6) rfl rfl (mj := mX6_addCode) mt_X6_addCode cmq_X6_addCode wq_208 wq_210 wq_211 (by decide) (by decide)) vA.nil))
theorem oX5_endOne_21 : oP MT mX5_endOne 21 (1, 1, 0, 1, []) := o_aload_n dX5_endOne_21 rfl
theorem oX5_endOne_22 : oP MT mX5_endOne 22 (13, 3, 12, 5, []) := o_getR (M := mX5_endOne) (C := RX5) (T := TX5) (ci := 5) (j := 12) (z := 5) dX5_endOne_22 rfl lq_RX5_22 rfl rfl
theorem oX5_endOne_25 : oP MT mX5_endOne 25 (1, 1, 0, 1, []) := o_aload_n dX5_endOne_25 rfl
theorem oX5_endOne_26 : oP MT mX5_endOne 26 (12, 3, 11, 5, []) := o_getI (M := mX5_endOne) (C := RX5) (T := TX5) (ci := 5) (j := 11) (z := 5) dX5_endOne_26 rfl lq_RX5_130 rfl rfl
theorem oX5_endOne_29 : oP MT mX5_endOne 29 (0, 1, 0, 0, []) := o_iconst dX5_endOne_29 (by decide)
theorem oX5_endOne_30 : oP MT mX5_endOne 30 (19, 1, 0, 0, []) := o_bastore dX5_endOne_30
theorem oX5_endOne_31 : oP MT mX5_endOne 31 (1, 1, 0, 1, []) := o_aload_n dX5_endOne_31 rfl
theorem oX5_endOne_32 : oP MT mX5_endOne 32 (13, 3, 13, 5, []) := o_getR (M := mX5_endOne) (C := RX5) (T := TX5) (ci := 5) (j := 13) (z := 5) dX5_endOne_32 rfl lq_RX5_26 rfl rfl
theorem oX5_endOne_35 : oP MT mX5_endOne 35 (1, 1, 0, 1, []) := o_aload_n dX5_endOne_35 rfl
theorem oX5_endOne_36 : oP MT mX5_endOne 36 (12, 3, 11, 5, []) := o_getI (M := mX5_endOne) (C := RX5) (T := TX5) (ci := 5) (j := 11) (z := 5) dX5_endOne_36 rfl lq_RX5_130 rfl rfl
theorem oX5_endOne_39 : oP MT mX5_endOne 39 (16, 1, 2, 0, []) := o_baload dX5_endOne_39
theorem oX5_endOne_40 : oP MT mX5_endOne 40 (10, 3, 0, 62, []) := o_if_eq dX5_endOne_40 (by decide) (by decide)
theorem oX5_endOne_43 : oP MT mX5_endOne 43 (1, 1, 0, 1, []) := o_aload_n dX5_endOne_43 rfl
theorem oX5_endOne_44 : oP MT mX5_endOne 44 (13, 3, 2, 5, []) := o_getR (M := mX5_endOne) (C := RX5) (T := TX5) (ci := 5) (j := 2) (z := 5) dX5_endOne_44 rfl lq_RX5_18 rfl rfl
theorem oX5_endOne_47 : oP MT mX5_endOne 47 (0, 2, 0, 15, []) := o_bipush dX5_endOne_47 (by decide)
theorem oX5_endOne_49 : oP MT mX5_endOne 49 (26, 3, 0, 1, [(6, 60)]) := o_callO ((vA.cons (v_callV dX5_endOne_49 (ci := 6) rfl rfl (mj := mX6_addCode) mt_X6_addCode cmq_X6_addCode wq_208 wq_210 wq_211 (by decide) (by decide)) vA.nil))
theorem oX5_endOne_52 : oP MT mX5_endOne 52 (1, 1, 0, 1, []) := o_aload_n dX5_endOne_52 rfl
theorem oX5_endOne_53 : oP MT mX5_endOne 53 (13, 3, 13, 5, []) := o_getR (M := mX5_endOne) (C := RX5) (T := TX5) (ci := 5) (j := 13) (z := 5) dX5_endOne_53 rfl lq_RX5_26 rfl rfl
theorem oX5_endOne_56 : oP MT mX5_endOne 56 (1, 1, 0, 1, []) := o_aload_n dX5_endOne_56 rfl
theorem oX5_endOne_57 : oP MT mX5_endOne 57 (12, 3, 11, 5, []) := o_getI (M := mX5_endOne) (C := RX5) (T := TX5) (ci := 5) (j := 11) (z := 5) dX5_endOne_57 rfl lq_RX5_130 rfl rfl
theorem oX5_endOne_60 : oP MT mX5_endOne 60 (0, 1, 0, 0, []) := o_iconst dX5_endOne_60 (by decide)
theorem oX5_endOne_61 : oP MT mX5_endOne 61 (19, 1, 0, 0, []) := o_bastore dX5_endOne_61
theorem oX5_endOne_62 : oP MT mX5_endOne 62 (23, 1, 0, 0, []) := o_vret dX5_endOne_62 rfl
def ops_X5_endOne : List (Nat × aO) := [(0, (1, 1, 0, 1, [])), (1, (13, 3, 12, 5, [])), (4, (1, 1, 0, 1, [])), (5, (12, 3, 11, 5, [])), (8, (16, 1, 2, 0, [])), (9, (10, 3, 0, 31, [])), (12, (1, 1, 0, 1, [])), (13, (13, 3, 2, 5, [])), (16, (0, 2, 0, 17, [])), (18, (26, 3, 0, 1, [(6, 60)])), (21, (1, 1, 0, 1, [])), (22, (13, 3, 12, 5, [])), (25, (1, 1, 0, 1, [])), (26, (12, 3, 11, 5, [])), (29, (0, 1, 0, 0, [])), (30, (19, 1, 0, 0, [])), (31, (1, 1, 0, 1, [])), (32, (13, 3, 13, 5, [])), (35, (1, 1, 0, 1, [])), (36, (12, 3, 11, 5, [])), (39, (16, 1, 2, 0, [])), (40, (10, 3, 0, 62, [])), (43, (1, 1, 0, 1, [])), (44, (13, 3, 2, 5, [])), (47, (0, 2, 0, 15, [])), (49, (26, 3, 0, 1, [(6, 60)])), (52, (1, 1, 0, 1, [])), (53, (13, 3, 13, 5, [])), (56, (1, 1, 0, 1, [])), (57, (12, 3, 11, 5, [])), (60, (0, 1, 0, 0, [])), (61, (19, 1, 0, 0, [])), (62, (23, 1, 0, 0, []))]
theorem os_X5_endOne : oA MT mX5_endOne ops_X5_endOne := (oA.cons oX5_endOne_0 (oA.cons oX5_endOne_1 (oA.cons oX5_endOne_4 (oA.cons oX5_endOne_5 (oA.cons oX5_endOne_8 (oA.cons oX5_endOne_9 (oA.cons oX5_endOne_12 (oA.cons oX5_endOne_13 (oA.cons oX5_endOne_16 (oA.cons oX5_endOne_18 (oA.cons oX5_endOne_21 (oA.cons oX5_endOne_22 (oA.cons oX5_endOne_25 (oA.cons oX5_endOne_26 (oA.cons oX5_endOne_29 (oA.cons oX5_endOne_30 (oA.cons oX5_endOne_31 (oA.cons oX5_endOne_32 (oA.cons oX5_endOne_35 (oA.cons oX5_endOne_36 (oA.cons oX5_endOne_39 (oA.cons oX5_endOne_40 (oA.cons oX5_endOne_43 (oA.cons oX5_endOne_44 (oA.cons oX5_endOne_47 (oA.cons oX5_endOne_49 (oA.cons oX5_endOne_52 (oA.cons oX5_endOne_53 (oA.cons oX5_endOne_56 (oA.cons oX5_endOne_57 (oA.cons oX5_endOne_60 (oA.cons oX5_endOne_61 (oA.cons oX5_endOne_62 oA.nil)))))))))))))))))))))))))))))))))
theorem dX5_takesDo_0 : decode cX5_takesDo 0 = .ok (.aload_n 0, 1) := by decide +kernel
theorem dX5_takesDo_1 : decode cX5_takesDo 1 = .ok (.getfield 130, 3) := by decide +kernel
theorem dX5_takesDo_4 : decode cX5_takesDo 4 = .ok (.ifCond .gt 17, 3) := by decide +kernel
theorem dX5_takesDo_7 : decode cX5_takesDo 7 = .ok (.aload_n 0, 1) := by decide +kernel
theorem dX5_takesDo_8 : decode cX5_takesDo 8 = .ok (.getfield 42, 3) := by decide +kernel
theorem dX5_takesDo_11 : decode cX5_takesDo 11 = .ok (.bipush 6, 2) := by decide +kernel
theorem dX5_takesDo_13 : decode cX5_takesDo 13 = .ok (.bipush 8, 2) := by decide +kernel
theorem dX5_takesDo_15 : decode cX5_takesDo 15 = .ok (.invokestatic 123, 3) := by decide +kernel
theorem dX5_takesDo_18 : decode cX5_takesDo 18 = .ok (.ifCond .ne 5, 3) := by decide +kernel
theorem dX5_takesDo_21 : decode cX5_takesDo 21 = .ok (.iconst 0, 1) := by decide +kernel
theorem dX5_takesDo_22 : decode cX5_takesDo 22 = .ok (.ireturn, 1) := by decide +kernel
theorem dX5_takesDo_23 : decode cX5_takesDo 23 = .ok (.aload_n 0, 1) := by decide +kernel
theorem dX5_takesDo_24 : decode cX5_takesDo 24 = .ok (.invokevirtual 133, 3) := by decide +kernel
theorem dX5_takesDo_27 : decode cX5_takesDo 27 = .ok (.aload_n 0, 1) := by decide +kernel
theorem dX5_takesDo_28 : decode cX5_takesDo 28 = .ok (.getfield 18, 3) := by decide +kernel
theorem dX5_takesDo_31 : decode cX5_takesDo 31 = .ok (.aload_n 0, 1) := by decide +kernel
theorem dX5_takesDo_32 : decode cX5_takesDo 32 = .ok (.getfield 127, 3) := by decide +kernel
theorem dX5_takesDo_35 : decode cX5_takesDo 35 = .ok (.aload_n 0, 1) := by decide +kernel
theorem dX5_takesDo_36 : decode cX5_takesDo 36 = .ok (.getfield 42, 3) := by decide +kernel
theorem dX5_takesDo_39 : decode cX5_takesDo 39 = .ok (.bipush 6, 2) := by decide +kernel
theorem dX5_takesDo_41 : decode cX5_takesDo 41 = .ok (.isub, 1) := by decide +kernel
theorem dX5_takesDo_42 : decode cX5_takesDo 42 = .ok (.invokevirtual 136, 3) := by decide +kernel
theorem dX5_takesDo_45 : decode cX5_takesDo 45 = .ok (.aload_n 0, 1) := by decide +kernel
theorem dX5_takesDo_46 : decode cX5_takesDo 46 = .ok (.bipush 6, 2) := by decide +kernel
theorem dX5_takesDo_48 : decode cX5_takesDo 48 = .ok (.putfield 45, 3) := by decide +kernel
theorem dX5_takesDo_51 : decode cX5_takesDo 51 = .ok (.iconst 1, 1) := by decide +kernel
theorem dX5_takesDo_52 : decode cX5_takesDo 52 = .ok (.ireturn, 1) := by decide +kernel
theorem oX5_takesDo_0 : oP MT mX5_takesDo 0 (1, 1, 0, 1, []) := o_aload_n dX5_takesDo_0 rfl
theorem oX5_takesDo_1 : oP MT mX5_takesDo 1 (12, 3, 11, 5, []) := o_getI (M := mX5_takesDo) (C := RX5) (T := TX5) (ci := 5) (j := 11) (z := 5) dX5_takesDo_1 rfl lq_RX5_130 rfl rfl
theorem oX5_takesDo_4 : oP MT mX5_takesDo 4 (10, 3, 4, 21, []) := o_if_gt dX5_takesDo_4 (by decide) (by decide)
theorem oX5_takesDo_7 : oP MT mX5_takesDo 7 (1, 1, 0, 1, []) := o_aload_n dX5_takesDo_7 rfl
theorem oX5_takesDo_8 : oP MT mX5_takesDo 8 (12, 3, 5, 5, []) := o_getI (M := mX5_takesDo) (C := RX5) (T := TX5) (ci := 5) (j := 5) (z := 5) dX5_takesDo_8 rfl lq_RX5_42 rfl rfl
theorem oX5_takesDo_11 : oP MT mX5_takesDo 11 (0, 2, 0, 6, []) := o_bipush dX5_takesDo_11 (by decide)
theorem oX5_takesDo_13 : oP MT mX5_takesDo 13 (0, 2, 0, 8, []) := o_bipush dX5_takesDo_13 (by decide)
theorem oX5_takesDo_15 : oP MT mX5_takesDo 15 (25, 3, 37, 3, []) := o_callSN (host := "IceKeys") dX5_takesDo_15 (mj := mX11_isIn) mt_X11_isIn cmq_X11_isIn (by decide) wq_144 (by decide) (by decide)
theorem oX5_takesDo_18 : oP MT mX5_takesDo 18 (10, 3, 1, 23, []) := o_if_ne dX5_takesDo_18 (by decide) (by decide)
theorem oX5_takesDo_21 : oP MT mX5_takesDo 21 (0, 1, 0, 0, []) := o_iconst dX5_takesDo_21 (by decide)
theorem oX5_takesDo_22 : oP MT mX5_takesDo 22 (22, 1, 0, 0, []) := o_zret dX5_takesDo_22 rfl
theorem oX5_takesDo_23 : oP MT mX5_takesDo 23 (1, 1, 0, 1, []) := o_aload_n dX5_takesDo_23 rfl
theorem oX5_takesDo_24 : oP MT mX5_takesDo 24 (26, 3, 0, 0, [(5, 59)]) := o_callO ((vA.cons (v_callV dX5_takesDo_24 (ci := 5) rfl rfl (mj := mX5_endCondition) mt_X5_endCondition cmq_X5_endCondition wq_212 wq_214 wq_215 (by decide) (by decide)) vA.nil))
theorem oX5_takesDo_27 : oP MT mX5_takesDo 27 (1, 1, 0, 1, []) := o_aload_n dX5_takesDo_27 rfl
theorem oX5_takesDo_28 : oP MT mX5_takesDo 28 (13, 3, 2, 5, []) := o_getR (M := mX5_takesDo) (C := RX5) (T := TX5) (ci := 5) (j := 2) (z := 5) dX5_takesDo_28 rfl lq_RX5_18 rfl rfl
theorem oX5_takesDo_31 : oP MT mX5_takesDo 31 (1, 1, 0, 1, []) := o_aload_n dX5_takesDo_31 rfl
theorem oX5_takesDo_32 : oP MT mX5_takesDo 32 (12, 3, 8, 5, []) := o_getI (M := mX5_takesDo) (C := RX5) (T := TX5) (ci := 5) (j := 8) (z := 5) dX5_takesDo_32 rfl lq_RX5_127 rfl rfl
theorem oX5_takesDo_35 : oP MT mX5_takesDo 35 (1, 1, 0, 1, []) := o_aload_n dX5_takesDo_35 rfl
theorem oX5_takesDo_36 : oP MT mX5_takesDo 36 (12, 3, 5, 5, []) := o_getI (M := mX5_takesDo) (C := RX5) (T := TX5) (ci := 5) (j := 5) (z := 5) dX5_takesDo_36 rfl lq_RX5_42 rfl rfl
theorem oX5_takesDo_39 : oP MT mX5_takesDo 39 (0, 2, 0, 6, []) := o_bipush dX5_takesDo_39 (by decide)
theorem oX5_takesDo_41 : oP MT mX5_takesDo 41 (4, 1, 1, 0, []) := o_isub dX5_takesDo_41
theorem oX5_takesDo_42 : oP MT mX5_takesDo 42 (26, 3, 0, 2, [(6, 61)]) := o_callO ((vA.cons (v_callV dX5_takesDo_42 (ci := 6) rfl rfl (mj := mX6_addRule) mt_X6_addRule cmq_X6_addRule wq_216 wq_218 wq_219 (by decide) (by decide)) vA.nil))
theorem oX5_takesDo_45 : oP MT mX5_takesDo 45 (1, 1, 0, 1, []) := o_aload_n dX5_takesDo_45 rfl
theorem oX5_takesDo_46 : oP MT mX5_takesDo 46 (0, 2, 0, 6, []) := o_bipush dX5_takesDo_46 (by decide)
theorem oX5_takesDo_48 : oP MT mX5_takesDo 48 (14, 3, 7, 5, []) := o_putI (M := mX5_takesDo) (C := RX5) (T := TX5) (ci := 5) (j := 7) (z := 5) dX5_takesDo_48 rfl lq_RX5_45 rfl rfl rfl rfl
theorem oX5_takesDo_51 : oP MT mX5_takesDo 51 (0, 1, 0, 1, []) := o_iconst dX5_takesDo_51 (by decide)
theorem oX5_takesDo_52 : oP MT mX5_takesDo 52 (22, 1, 0, 0, []) := o_zret dX5_takesDo_52 rfl
def ops_X5_takesDo : List (Nat × aO) := [(0, (1, 1, 0, 1, [])), (1, (12, 3, 11, 5, [])), (4, (10, 3, 4, 21, [])), (7, (1, 1, 0, 1, [])), (8, (12, 3, 5, 5, [])), (11, (0, 2, 0, 6, [])), (13, (0, 2, 0, 8, [])), (15, (25, 3, 37, 3, [])), (18, (10, 3, 1, 23, [])), (21, (0, 1, 0, 0, [])), (22, (22, 1, 0, 0, [])), (23, (1, 1, 0, 1, [])), (24, (26, 3, 0, 0, [(5, 59)])), (27, (1, 1, 0, 1, [])), (28, (13, 3, 2, 5, [])), (31, (1, 1, 0, 1, [])), (32, (12, 3, 8, 5, [])), (35, (1, 1, 0, 1, [])), (36, (12, 3, 5, 5, [])), (39, (0, 2, 0, 6, [])), (41, (4, 1, 1, 0, [])), (42, (26, 3, 0, 2, [(6, 61)])), (45, (1, 1, 0, 1, [])), (46, (0, 2, 0, 6, [])), (48, (14, 3, 7, 5, [])), (51, (0, 1, 0, 1, [])), (52, (22, 1, 0, 0, []))]
theorem os_X5_takesDo : oA MT mX5_takesDo ops_X5_takesDo := (oA.cons oX5_takesDo_0 (oA.cons oX5_takesDo_1 (oA.cons oX5_takesDo_4 (oA.cons oX5_takesDo_7 (oA.cons oX5_takesDo_8 (oA.cons oX5_takesDo_11 (oA.cons oX5_takesDo_13 (oA.cons oX5_takesDo_15 (oA.cons oX5_takesDo_18 (oA.cons oX5_takesDo_21 (oA.cons oX5_takesDo_22 (oA.cons oX5_takesDo_23 (oA.cons oX5_takesDo_24 (oA.cons oX5_takesDo_27 (oA.cons oX5_takesDo_28 (oA.cons oX5_takesDo_31 (oA.cons oX5_takesDo_32 (oA.cons oX5_takesDo_35 (oA.cons oX5_takesDo_36 (oA.cons oX5_takesDo_39 (oA.cons oX5_takesDo_41 (oA.cons oX5_takesDo_42 (oA.cons oX5_takesDo_45 (oA.cons oX5_takesDo_46 (oA.cons oX5_takesDo_48 (oA.cons oX5_takesDo_51 (oA.cons oX5_takesDo_52 oA.nil)))))))))))))))))))))))))))
theorem dX5_takesKind_0 : decode cX5_takesKind 0 = .ok (.aload_n 0, 1) := by decide +kernel
theorem dX5_takesKind_1 : decode cX5_takesKind 1 = .ok (.getfield 18, 3) := by decide +kernel
theorem dX5_takesKind_4 : decode cX5_takesKind 4 = .ok (.getfield 120, 3) := by decide +kernel
theorem dX5_takesKind_7 : decode cX5_takesKind 7 = .ok (.bipush 8, 2) := by decide +kernel
theorem dX5_takesKind_9 : decode cX5_takesKind 9 = .ok (.if_icmp .ge 15, 3) := by decide +kernel
theorem dX5_takesKind_12 : decode cX5_takesKind 12 = .ok (.aload_n 0, 1) := by decide +kernel
theorem dX5_takesKind_13 : decode cX5_takesKind 13 = .ok (.getfield 42, 3) := by decide +kernel
theorem dX5_takesKind_16 : decode cX5_takesKind 16 = .ok (.iconst 0, 1) := by decide +kernel
theorem dX5_takesKind_17 : decode cX5_takesKind 17 = .ok (.iconst 5, 1) := by decide +kernel
theorem dX5_takesKind_18 : decode cX5_takesKind 18 = .ok (.invokestatic 123, 3) := by decide +kernel
theorem dX5_takesKind_21 : decode cX5_takesKind 21 = .ok (.ifCond .ne 5, 3) := by decide +kernel
theorem dX5_takesKind_24 : decode cX5_takesKind 24 = .ok (.iconst 0, 1) := by decide +kernel
theorem dX5_takesKind_25 : decode cX5_takesKind 25 = .ok (.ireturn, 1) := by decide +kernel
theorem dX5_takesKind_26 : decode cX5_takesKind 26 = .ok (.aload_n 0, 1) := by decide +kernel
theorem dX5_takesKind_27 : decode cX5_takesKind 27 = .ok (.aload_n 0, 1) := by decide +kernel
theorem dX5_takesKind_28 : decode cX5_takesKind 28 = .ok (.getfield 42, 3) := by decide +kernel
theorem dX5_takesKind_31 : decode cX5_takesKind 31 = .ok (.putfield 127, 3) := by decide +kernel
theorem dX5_takesKind_34 : decode cX5_takesKind 34 = .ok (.aload_n 0, 1) := by decide +kernel
theorem dX5_takesKind_35 : decode cX5_takesKind 35 = .ok (.iconst 0, 1) := by decide +kernel
theorem dX5_takesKind_36 : decode cX5_takesKind 36 = .ok (.putfield 130, 3) := by decide +kernel
theorem dX5_takesKind_39 : decode cX5_takesKind 39 = .ok (.aload_n 0, 1) := by decide +kernel
theorem dX5_takesKind_40 : decode cX5_takesKind 40 = .ok (.iconst 1, 1) := by decide +kernel
theorem dX5_takesKind_41 : decode cX5_takesKind 41 = .ok (.putfield 45, 3) := by decide +kernel
theorem dX5_takesKind_44 : decode cX5_takesKind 44 = .ok (.iconst 1, 1) := by decide +kernel
theorem dX5_takesKind_45 : decode cX5_takesKind 45 = .ok (.ireturn, 1) := by decide +kernel
theorem oX5_takesKind_0 : oP MT mX5_takesKind 0 (1, 1, 0, 1, []) := o_aload_n dX5_takesKind_0 rfl
theorem oX5_takesKind_1 : oP MT mX5_takesKind 1 (13, 3, 2, 5, []) := o_getR (M := mX5_takesKind) (C := RX5) (T := TX5) (ci := 5) (j := 2) (z := 5) dX5_takesKind_1 rfl lq_RX5_18 rfl rfl
theorem oX5_takesKind_4 : oP MT mX5_takesKind 4 (12, 3, 0, 6, []) := o_getI (M := mX5_takesKind) (C := RX6) (T := TX6) (ci := 6) (j := 0) (z := 6) dX5_takesKind_4 rfl lq_RX5_120 rfl rfl
theorem oX5_takesKind_7 : oP MT mX5_takesKind 7 (0, 2, 0, 8, []) := o_bipush dX5_takesKind_7 (by decide)
theorem oX5_takesKind_9 : oP MT mX5_takesKind 9 (11, 3, 3, 24, []) := o_icmp_ge dX5_takesKind_9 (by decide) (by decide)
theorem oX5_takesKind_12 : oP MT mX5_takesKind 12 (1, 1, 0, 1, []) := o_aload_n dX5_takesKind_12 rfl
theorem oX5_takesKind_13 : oP MT mX5_takesKind 13 (12, 3, 5, 5, []) := o_getI (M := mX5_takesKind) (C := RX5) (T := TX5) (ci := 5) (j := 5) (z := 5) dX5_takesKind_13 rfl lq_RX5_42 rfl rfl
theorem oX5_takesKind_16 : oP MT mX5_takesKind 16 (0, 1, 0, 0, []) := o_iconst dX5_takesKind_16 (by decide)
theorem oX5_takesKind_17 : oP MT mX5_takesKind 17 (0, 1, 0, 5, []) := o_iconst dX5_takesKind_17 (by decide)
theorem oX5_takesKind_18 : oP MT mX5_takesKind 18 (25, 3, 37, 3, []) := o_callSN (host := "IceKeys") dX5_takesKind_18 (mj := mX11_isIn) mt_X11_isIn cmq_X11_isIn (by decide) wq_144 (by decide) (by decide)
theorem oX5_takesKind_21 : oP MT mX5_takesKind 21 (10, 3, 1, 26, []) := o_if_ne dX5_takesKind_21 (by decide) (by decide)
theorem oX5_takesKind_24 : oP MT mX5_takesKind 24 (0, 1, 0, 0, []) := o_iconst dX5_takesKind_24 (by decide)
theorem oX5_takesKind_25 : oP MT mX5_takesKind 25 (22, 1, 0, 0, []) := o_zret dX5_takesKind_25 rfl
theorem oX5_takesKind_26 : oP MT mX5_takesKind 26 (1, 1, 0, 1, []) := o_aload_n dX5_takesKind_26 rfl
theorem oX5_takesKind_27 : oP MT mX5_takesKind 27 (1, 1, 0, 1, []) := o_aload_n dX5_takesKind_27 rfl
theorem oX5_takesKind_28 : oP MT mX5_takesKind 28 (12, 3, 5, 5, []) := o_getI (M := mX5_takesKind) (C := RX5) (T := TX5) (ci := 5) (j := 5) (z := 5) dX5_takesKind_28 rfl lq_RX5_42 rfl rfl
theorem oX5_takesKind_31 : oP MT mX5_takesKind 31 (14, 3, 8, 5, []) := o_putI (M := mX5_takesKind) (C := RX5) (T := TX5) (ci := 5) (j := 8) (z := 5) dX5_takesKind_31 rfl lq_RX5_127 rfl rfl rfl rfl
theorem oX5_takesKind_34 : oP MT mX5_takesKind 34 (1, 1, 0, 1, []) := o_aload_n dX5_takesKind_34 rfl
theorem oX5_takesKind_35 : oP MT mX5_takesKind 35 (0, 1, 0, 0, []) := o_iconst dX5_takesKind_35 (by decide)
theorem oX5_takesKind_36 : oP MT mX5_takesKind 36 (14, 3, 11, 5, []) := o_putI (M := mX5_takesKind) (C := RX5) (T := TX5) (ci := 5) (j := 11) (z := 5) dX5_takesKind_36 rfl lq_RX5_130 rfl rfl rfl rfl
theorem oX5_takesKind_39 : oP MT mX5_takesKind 39 (1, 1, 0, 1, []) := o_aload_n dX5_takesKind_39 rfl
theorem oX5_takesKind_40 : oP MT mX5_takesKind 40 (0, 1, 0, 1, []) := o_iconst dX5_takesKind_40 (by decide)
theorem oX5_takesKind_41 : oP MT mX5_takesKind 41 (14, 3, 7, 5, []) := o_putI (M := mX5_takesKind) (C := RX5) (T := TX5) (ci := 5) (j := 7) (z := 5) dX5_takesKind_41 rfl lq_RX5_45 rfl rfl rfl rfl
theorem oX5_takesKind_44 : oP MT mX5_takesKind 44 (0, 1, 0, 1, []) := o_iconst dX5_takesKind_44 (by decide)
theorem oX5_takesKind_45 : oP MT mX5_takesKind 45 (22, 1, 0, 0, []) := o_zret dX5_takesKind_45 rfl
def ops_X5_takesKind : List (Nat × aO) := [(0, (1, 1, 0, 1, [])), (1, (13, 3, 2, 5, [])), (4, (12, 3, 0, 6, [])), (7, (0, 2, 0, 8, [])), (9, (11, 3, 3, 24, [])), (12, (1, 1, 0, 1, [])), (13, (12, 3, 5, 5, [])), (16, (0, 1, 0, 0, [])), (17, (0, 1, 0, 5, [])), (18, (25, 3, 37, 3, [])), (21, (10, 3, 1, 26, [])), (24, (0, 1, 0, 0, [])), (25, (22, 1, 0, 0, [])), (26, (1, 1, 0, 1, [])), (27, (1, 1, 0, 1, [])), (28, (12, 3, 5, 5, [])), (31, (14, 3, 8, 5, [])), (34, (1, 1, 0, 1, [])), (35, (0, 1, 0, 0, [])), (36, (14, 3, 11, 5, [])), (39, (1, 1, 0, 1, [])), (40, (0, 1, 0, 1, [])), (41, (14, 3, 7, 5, [])), (44, (0, 1, 0, 1, [])), (45, (22, 1, 0, 0, []))]
theorem os_X5_takesKind : oA MT mX5_takesKind ops_X5_takesKind := (oA.cons oX5_takesKind_0 (oA.cons oX5_takesKind_1 (oA.cons oX5_takesKind_4 (oA.cons oX5_takesKind_7 (oA.cons oX5_takesKind_9 (oA.cons oX5_takesKind_12 (oA.cons oX5_takesKind_13 (oA.cons oX5_takesKind_16 (oA.cons oX5_takesKind_17 (oA.cons oX5_takesKind_18 (oA.cons oX5_takesKind_21 (oA.cons oX5_takesKind_24 (oA.cons oX5_takesKind_25 (oA.cons oX5_takesKind_26 (oA.cons oX5_takesKind_27 (oA.cons oX5_takesKind_28 (oA.cons oX5_takesKind_31 (oA.cons oX5_takesKind_34 (oA.cons oX5_takesKind_35 (oA.cons oX5_takesKind_36 (oA.cons oX5_takesKind_39 (oA.cons oX5_takesKind_40 (oA.cons oX5_takesKind_41 (oA.cons oX5_takesKind_44 (oA.cons oX5_takesKind_45 oA.nil)))))))))))))))))))))))))
theorem dX5_takesIf_0 : decode cX5_takesIf 0 = .ok (.aload_n 0, 1) := by decide +kernel
theorem dX5_takesIf_1 : decode cX5_takesIf 1 = .ok (.getfield 42, 3) := by decide +kernel
theorem dX5_takesIf_4 : decode cX5_takesIf 4 = .ok (.bipush 14, 2) := by decide +kernel
theorem dX5_takesIf_6 : decode cX5_takesIf 6 = .ok (.if_icmp .eq 5, 3) := by decide +kernel
theorem dX5_takesIf_9 : decode cX5_takesIf 9 = .ok (.iconst 0, 1) := by decide +kernel
theorem dX5_takesIf_10 : decode cX5_takesIf 10 = .ok (.ireturn, 1) := by decide +kernel
theorem dX5_takesIf_11 : decode cX5_takesIf 11 = .ok (.aload_n 0, 1) := by decide +kernel
theorem dX5_takesIf_12 : decode cX5_takesIf 12 = .ok (.iconst 2, 1) := by decide +kernel
theorem dX5_takesIf_13 : decode cX5_takesIf 13 = .ok (.putfield 45, 3) := by decide +kernel
theorem dX5_takesIf_16 : decode cX5_takesIf 16 = .ok (.iconst 1, 1) := by decide +kernel
theorem dX5_takesIf_17 : decode cX5_takesIf 17 = .ok (.ireturn, 1) := by decide +kernel
theorem oX5_takesIf_0 : oP MT mX5_takesIf 0 (1, 1, 0, 1, []) := o_aload_n dX5_takesIf_0 rfl
theorem oX5_takesIf_1 : oP MT mX5_takesIf 1 (12, 3, 5, 5, []) := o_getI (M := mX5_takesIf) (C := RX5) (T := TX5) (ci := 5) (j := 5) (z := 5) dX5_takesIf_1 rfl lq_RX5_42 rfl rfl
theorem oX5_takesIf_4 : oP MT mX5_takesIf 4 (0, 2, 0, 14, []) := o_bipush dX5_takesIf_4 (by decide)
theorem oX5_takesIf_6 : oP MT mX5_takesIf 6 (11, 3, 0, 11, []) := o_icmp_eq dX5_takesIf_6 (by decide) (by decide)
theorem oX5_takesIf_9 : oP MT mX5_takesIf 9 (0, 1, 0, 0, []) := o_iconst dX5_takesIf_9 (by decide)
theorem oX5_takesIf_10 : oP MT mX5_takesIf 10 (22, 1, 0, 0, []) := o_zret dX5_takesIf_10 rfl
theorem oX5_takesIf_11 : oP MT mX5_takesIf 11 (1, 1, 0, 1, []) := o_aload_n dX5_takesIf_11 rfl
theorem oX5_takesIf_12 : oP MT mX5_takesIf 12 (0, 1, 0, 2, []) := o_iconst dX5_takesIf_12 (by decide)
theorem oX5_takesIf_13 : oP MT mX5_takesIf 13 (14, 3, 7, 5, []) := o_putI (M := mX5_takesIf) (C := RX5) (T := TX5) (ci := 5) (j := 7) (z := 5) dX5_takesIf_13 rfl lq_RX5_45 rfl rfl rfl rfl
theorem oX5_takesIf_16 : oP MT mX5_takesIf 16 (0, 1, 0, 1, []) := o_iconst dX5_takesIf_16 (by decide)
theorem oX5_takesIf_17 : oP MT mX5_takesIf 17 (22, 1, 0, 0, []) := o_zret dX5_takesIf_17 rfl
def ops_X5_takesIf : List (Nat × aO) := [(0, (1, 1, 0, 1, [])), (1, (12, 3, 5, 5, [])), (4, (0, 2, 0, 14, [])), (6, (11, 3, 0, 11, [])), (9, (0, 1, 0, 0, [])), (10, (22, 1, 0, 0, [])), (11, (1, 1, 0, 1, [])), (12, (0, 1, 0, 2, [])), (13, (14, 3, 7, 5, [])), (16, (0, 1, 0, 1, [])), (17, (22, 1, 0, 0, []))]
theorem os_X5_takesIf : oA MT mX5_takesIf ops_X5_takesIf := (oA.cons oX5_takesIf_0 (oA.cons oX5_takesIf_1 (oA.cons oX5_takesIf_4 (oA.cons oX5_takesIf_6 (oA.cons oX5_takesIf_9 (oA.cons oX5_takesIf_10 (oA.cons oX5_takesIf_11 (oA.cons oX5_takesIf_12 (oA.cons oX5_takesIf_13 (oA.cons oX5_takesIf_16 (oA.cons oX5_takesIf_17 oA.nil)))))))))))
theorem dX5_takesOne_0 : decode cX5_takesOne 0 = .ok (.aload_n 0, 1) := by decide +kernel
theorem dX5_takesOne_1 : decode cX5_takesOne 1 = .ok (.getfield 42, 3) := by decide +kernel
theorem dX5_takesOne_4 : decode cX5_takesOne 4 = .ok (.bipush 17, 2) := by decide +kernel
theorem dX5_takesOne_6 : decode cX5_takesOne 6 = .ok (.if_icmp .ne 31, 3) := by decide +kernel
theorem dX5_takesOne_9 : decode cX5_takesOne 9 = .ok (.aload_n 0, 1) := by decide +kernel
theorem dX5_takesOne_10 : decode cX5_takesOne 10 = .ok (.getfield 22, 3) := by decide +kernel
theorem dX5_takesOne_13 : decode cX5_takesOne 13 = .ok (.aload_n 0, 1) := by decide +kernel
theorem dX5_takesOne_14 : decode cX5_takesOne 14 = .ok (.getfield 130, 3) := by decide +kernel
theorem dX5_takesOne_17 : decode cX5_takesOne 17 = .ok (.aload_n 0, 1) := by decide +kernel
theorem dX5_takesOne_18 : decode cX5_takesOne 18 = .ok (.getfield 22, 3) := by decide +kernel
theorem dX5_takesOne_21 : decode cX5_takesOne 21 = .ok (.aload_n 0, 1) := by decide +kernel
theorem dX5_takesOne_22 : decode cX5_takesOne 22 = .ok (.getfield 130, 3) := by decide +kernel
theorem dX5_takesOne_25 : decode cX5_takesOne 25 = .ok (.baload, 1) := by decide +kernel
theorem dX5_takesOne_26 : decode cX5_takesOne 26 = .ok (.ifCond .ne 7, 3) := by decide +kernel
theorem dX5_takesOne_29 : decode cX5_takesOne 29 = .ok (.iconst 1, 1) := by decide +kernel
theorem dX5_takesOne_30 : decode cX5_takesOne 30 = .ok (.goto 4, 3) := by decide +kernel
theorem dX5_takesOne_33 : decode cX5_takesOne 33 = .ok (.iconst 0, 1) := by decide +kernel
theorem dX5_takesOne_34 : decode cX5_takesOne 34 = .ok (.bastore, 1) := by decide +kernel
theorem dX5_takesOne_35 : decode cX5_takesOne 35 = .ok (.iconst 1, 1) := by decide +kernel
theorem dX5_takesOne_36 : decode cX5_takesOne 36 = .ok (.ireturn, 1) := by decide +kernel
theorem dX5_takesOne_37 : decode cX5_takesOne 37 = .ok (.aload_n 0, 1) := by decide +kernel
theorem dX5_takesOne_38 : decode cX5_takesOne 38 = .ok (.getfield 42, 3) := by decide +kernel
theorem dX5_takesOne_41 : decode cX5_takesOne 41 = .ok (.bipush 40, 2) := by decide +kernel
theorem dX5_takesOne_43 : decode cX5_takesOne 43 = .ok (.if_icmp .ne 23, 3) := by decide +kernel
theorem dX5_takesOne_46 : decode cX5_takesOne 46 = .ok (.aload_n 0, 1) := by decide +kernel
theorem dX5_takesOne_47 : decode cX5_takesOne 47 = .ok (.getfield 130, 3) := by decide +kernel
theorem dX5_takesOne_50 : decode cX5_takesOne 50 = .ok (.iconst 3, 1) := by decide +kernel
theorem dX5_takesOne_51 : decode cX5_takesOne 51 = .ok (.if_icmp .ge 15, 3) := by decide +kernel
theorem dX5_takesOne_54 : decode cX5_takesOne 54 = .ok (.aload_n 0, 1) := by decide +kernel
theorem dX5_takesOne_55 : decode cX5_takesOne 55 = .ok (.dup, 1) := by decide +kernel
theorem dX5_takesOne_56 : decode cX5_takesOne 56 = .ok (.getfield 130, 3) := by decide +kernel
theorem dX5_takesOne_59 : decode cX5_takesOne 59 = .ok (.iconst 1, 1) := by decide +kernel
theorem dX5_takesOne_60 : decode cX5_takesOne 60 = .ok (.iadd, 1) := by decide +kernel
theorem dX5_takesOne_61 : decode cX5_takesOne 61 = .ok (.putfield 130, 3) := by decide +kernel
theorem dX5_takesOne_64 : decode cX5_takesOne 64 = .ok (.iconst 1, 1) := by decide +kernel
theorem dX5_takesOne_65 : decode cX5_takesOne 65 = .ok (.ireturn, 1) := by decide +kernel
theorem dX5_takesOne_66 : decode cX5_takesOne 66 = .ok (.aload_n 0, 1) := by decide +kernel
theorem dX5_takesOne_67 : decode cX5_takesOne 67 = .ok (.invokevirtual 140, 3) := by decide +kernel
theorem dX5_takesOne_70 : decode cX5_takesOne 70 = .ok (.ifCond .ne 5, 3) := by decide +kernel
theorem dX5_takesOne_73 : decode cX5_takesOne 73 = .ok (.iconst 0, 1) := by decide +kernel
theorem dX5_takesOne_74 : decode cX5_takesOne 74 = .ok (.ireturn, 1) := by decide +kernel
theorem dX5_takesOne_75 : decode cX5_takesOne 75 = .ok (.aload_n 0, 1) := by decide +kernel
theorem dX5_takesOne_76 : decode cX5_takesOne 76 = .ok (.aload_n 0, 1) := by decide +kernel
theorem dX5_takesOne_77 : decode cX5_takesOne 77 = .ok (.invokevirtual 143, 3) := by decide +kernel
theorem dX5_takesOne_80 : decode cX5_takesOne 80 = .ok (.putfield 146, 3) := by decide +kernel
theorem dX5_takesOne_83 : decode cX5_takesOne 83 = .ok (.aload_n 0, 1) := by decide +kernel
theorem dX5_takesOne_84 : decode cX5_takesOne 84 = .ok (.iconst 3, 1) := by decide +kernel
theorem dX5_takesOne_85 : decode cX5_takesOne 85 = .ok (.putfield 45, 3) := by decide +kernel
theorem dX5_takesOne_88 : decode cX5_takesOne 88 = .ok (.iconst 1, 1) := by decide +kernel
theorem dX5_takesOne_89 : decode cX5_takesOne 89 = .ok (.ireturn, 1) := by decide +kernel
theorem oX5_takesOne_0 : oP MT mX5_takesOne 0 (1, 1, 0, 1, []) := o_aload_n dX5_takesOne_0 rfl
theorem oX5_takesOne_1 : oP MT mX5_takesOne 1 (12, 3, 5, 5, []) := o_getI (M := mX5_takesOne) (C := RX5) (T := TX5) (ci := 5) (j := 5) (z := 5) dX5_takesOne_1 rfl lq_RX5_42 rfl rfl
theorem oX5_takesOne_4 : oP MT mX5_takesOne 4 (0, 2, 0, 17, []) := o_bipush dX5_takesOne_4 (by decide)
theorem oX5_takesOne_6 : oP MT mX5_takesOne 6 (11, 3, 1, 37, []) := o_icmp_ne dX5_takesOne_6 (by decide) (by decide)
theorem oX5_takesOne_9 : oP MT mX5_takesOne 9 (1, 1, 0, 1, []) := o_aload_n dX5_takesOne_9 rfl
theorem oX5_takesOne_10 : oP MT mX5_takesOne 10 (13, 3, 12, 5, []) := o_getR (M := mX5_takesOne) (C := RX5) (T := TX5) (ci := 5) (j := 12) (z := 5) dX5_takesOne_10 rfl lq_RX5_22 rfl rfl
theorem oX5_takesOne_13 : oP MT mX5_takesOne 13 (1, 1, 0, 1, []) := o_aload_n dX5_takesOne_13 rfl
theorem oX5_takesOne_14 : oP MT mX5_takesOne 14 (12, 3, 11, 5, []) := o_getI (M := mX5_takesOne) (C := RX5) (T := TX5) (ci := 5) (j := 11) (z := 5) dX5_takesOne_14 rfl lq_RX5_130 rfl rfl
theorem oX5_takesOne_17 : oP MT mX5_takesOne 17 (1, 1, 0, 1, []) := o_aload_n dX5_takesOne_17 rfl
theorem oX5_takesOne_18 : oP MT mX5_takesOne 18 (13, 3, 12, 5, []) := o_getR (M := mX5_takesOne) (C := RX5) (T := TX5) (ci := 5) (j := 12) (z := 5) dX5_takesOne_18 rfl lq_RX5_22 rfl rfl
theorem oX5_takesOne_21 : oP MT mX5_takesOne 21 (1, 1, 0, 1, []) := o_aload_n dX5_takesOne_21 rfl
theorem oX5_takesOne_22 : oP MT mX5_takesOne 22 (12, 3, 11, 5, []) := o_getI (M := mX5_takesOne) (C := RX5) (T := TX5) (ci := 5) (j := 11) (z := 5) dX5_takesOne_22 rfl lq_RX5_130 rfl rfl
theorem oX5_takesOne_25 : oP MT mX5_takesOne 25 (16, 1, 2, 0, []) := o_baload dX5_takesOne_25
theorem oX5_takesOne_26 : oP MT mX5_takesOne 26 (10, 3, 1, 33, []) := o_if_ne dX5_takesOne_26 (by decide) (by decide)
theorem oX5_takesOne_29 : oP MT mX5_takesOne 29 (0, 1, 0, 1, []) := o_iconst dX5_takesOne_29 (by decide)
theorem oX5_takesOne_30 : oP MT mX5_takesOne 30 (9, 3, 34, 0, []) := o_goto dX5_takesOne_30 (by decide)
theorem oX5_takesOne_33 : oP MT mX5_takesOne 33 (0, 1, 0, 0, []) := o_iconst dX5_takesOne_33 (by decide)
theorem oX5_takesOne_34 : oP MT mX5_takesOne 34 (19, 1, 0, 0, []) := o_bastore dX5_takesOne_34
theorem oX5_takesOne_35 : oP MT mX5_takesOne 35 (0, 1, 0, 1, []) := o_iconst dX5_takesOne_35 (by decide)
theorem oX5_takesOne_36 : oP MT mX5_takesOne 36 (22, 1, 0, 0, []) := o_zret dX5_takesOne_36 rfl
theorem oX5_takesOne_37 : oP MT mX5_takesOne 37 (1, 1, 0, 1, []) := o_aload_n dX5_takesOne_37 rfl
theorem oX5_takesOne_38 : oP MT mX5_takesOne 38 (12, 3, 5, 5, []) := o_getI (M := mX5_takesOne) (C := RX5) (T := TX5) (ci := 5) (j := 5) (z := 5) dX5_takesOne_38 rfl lq_RX5_42 rfl rfl
theorem oX5_takesOne_41 : oP MT mX5_takesOne 41 (0, 2, 0, 40, []) := o_bipush dX5_takesOne_41 (by decide)
theorem oX5_takesOne_43 : oP MT mX5_takesOne 43 (11, 3, 1, 66, []) := o_icmp_ne dX5_takesOne_43 (by decide) (by decide)
theorem oX5_takesOne_46 : oP MT mX5_takesOne 46 (1, 1, 0, 1, []) := o_aload_n dX5_takesOne_46 rfl
theorem oX5_takesOne_47 : oP MT mX5_takesOne 47 (12, 3, 11, 5, []) := o_getI (M := mX5_takesOne) (C := RX5) (T := TX5) (ci := 5) (j := 11) (z := 5) dX5_takesOne_47 rfl lq_RX5_130 rfl rfl
theorem oX5_takesOne_50 : oP MT mX5_takesOne 50 (0, 1, 0, 3, []) := o_iconst dX5_takesOne_50 (by decide)
theorem oX5_takesOne_51 : oP MT mX5_takesOne 51 (11, 3, 3, 66, []) := o_icmp_ge dX5_takesOne_51 (by decide) (by decide)
theorem oX5_takesOne_54 : oP MT mX5_takesOne 54 (1, 1, 0, 1, []) := o_aload_n dX5_takesOne_54 rfl
theorem oX5_takesOne_55 : oP MT mX5_takesOne 55 (6, 1, 0, 0, []) := o_dup dX5_takesOne_55
theorem oX5_takesOne_56 : oP MT mX5_takesOne 56 (12, 3, 11, 5, []) := o_getI (M := mX5_takesOne) (C := RX5) (T := TX5) (ci := 5) (j := 11) (z := 5) dX5_takesOne_56 rfl lq_RX5_130 rfl rfl
theorem oX5_takesOne_59 : oP MT mX5_takesOne 59 (0, 1, 0, 1, []) := o_iconst dX5_takesOne_59 (by decide)
theorem oX5_takesOne_60 : oP MT mX5_takesOne 60 (4, 1, 0, 0, []) := o_iadd dX5_takesOne_60
theorem oX5_takesOne_61 : oP MT mX5_takesOne 61 (14, 3, 11, 5, []) := o_putI (M := mX5_takesOne) (C := RX5) (T := TX5) (ci := 5) (j := 11) (z := 5) dX5_takesOne_61 rfl lq_RX5_130 rfl rfl rfl rfl
theorem oX5_takesOne_64 : oP MT mX5_takesOne 64 (0, 1, 0, 1, []) := o_iconst dX5_takesOne_64 (by decide)
theorem oX5_takesOne_65 : oP MT mX5_takesOne 65 (22, 1, 0, 0, []) := o_zret dX5_takesOne_65 rfl
theorem oX5_takesOne_66 : oP MT mX5_takesOne 66 (1, 1, 0, 1, []) := o_aload_n dX5_takesOne_66 rfl
theorem oX5_takesOne_67 : oP MT mX5_takesOne 67 (26, 3, 0, 0, [(5, 62)]) := o_callO ((vA.cons (v_callV dX5_takesOne_67 (ci := 5) rfl rfl (mj := mX5_isValue) mt_X5_isValue cmq_X5_isValue wq_220 wq_222 wq_223 (by decide) (by decide)) vA.nil))
theorem oX5_takesOne_70 : oP MT mX5_takesOne 70 (10, 3, 1, 75, []) := o_if_ne dX5_takesOne_70 (by decide) (by decide)
theorem oX5_takesOne_73 : oP MT mX5_takesOne 73 (0, 1, 0, 0, []) := o_iconst dX5_takesOne_73 (by decide)
theorem oX5_takesOne_74 : oP MT mX5_takesOne 74 (22, 1, 0, 0, []) := o_zret dX5_takesOne_74 rfl
theorem oX5_takesOne_75 : oP MT mX5_takesOne 75 (1, 1, 0, 1, []) := o_aload_n dX5_takesOne_75 rfl
theorem oX5_takesOne_76 : oP MT mX5_takesOne 76 (1, 1, 0, 1, []) := o_aload_n dX5_takesOne_76 rfl
theorem oX5_takesOne_77 : oP MT mX5_takesOne 77 (26, 3, 0, 0, [(5, 63)]) := o_callO ((vA.cons (v_callV dX5_takesOne_77 (ci := 5) rfl rfl (mj := mX5_value) mt_X5_value cmq_X5_value wq_224 wq_226 wq_227 (by decide) (by decide)) vA.nil))
theorem oX5_takesOne_80 : oP MT mX5_takesOne 80 (14, 3, 9, 5, []) := o_putI (M := mX5_takesOne) (C := RX5) (T := TX5) (ci := 5) (j := 9) (z := 5) dX5_takesOne_80 rfl lq_RX5_146 rfl rfl rfl rfl
theorem oX5_takesOne_83 : oP MT mX5_takesOne 83 (1, 1, 0, 1, []) := o_aload_n dX5_takesOne_83 rfl
theorem oX5_takesOne_84 : oP MT mX5_takesOne 84 (0, 1, 0, 3, []) := o_iconst dX5_takesOne_84 (by decide)
theorem oX5_takesOne_85 : oP MT mX5_takesOne 85 (14, 3, 7, 5, []) := o_putI (M := mX5_takesOne) (C := RX5) (T := TX5) (ci := 5) (j := 7) (z := 5) dX5_takesOne_85 rfl lq_RX5_45 rfl rfl rfl rfl
theorem oX5_takesOne_88 : oP MT mX5_takesOne 88 (0, 1, 0, 1, []) := o_iconst dX5_takesOne_88 (by decide)
theorem oX5_takesOne_89 : oP MT mX5_takesOne 89 (22, 1, 0, 0, []) := o_zret dX5_takesOne_89 rfl
def ops_X5_takesOne : List (Nat × aO) := [(0, (1, 1, 0, 1, [])), (1, (12, 3, 5, 5, [])), (4, (0, 2, 0, 17, [])), (6, (11, 3, 1, 37, [])), (9, (1, 1, 0, 1, [])), (10, (13, 3, 12, 5, [])), (13, (1, 1, 0, 1, [])), (14, (12, 3, 11, 5, [])), (17, (1, 1, 0, 1, [])), (18, (13, 3, 12, 5, [])), (21, (1, 1, 0, 1, [])), (22, (12, 3, 11, 5, [])), (25, (16, 1, 2, 0, [])), (26, (10, 3, 1, 33, [])), (29, (0, 1, 0, 1, [])), (30, (9, 3, 34, 0, [])), (33, (0, 1, 0, 0, [])), (34, (19, 1, 0, 0, [])), (35, (0, 1, 0, 1, [])), (36, (22, 1, 0, 0, [])), (37, (1, 1, 0, 1, [])), (38, (12, 3, 5, 5, [])), (41, (0, 2, 0, 40, [])), (43, (11, 3, 1, 66, [])), (46, (1, 1, 0, 1, [])), (47, (12, 3, 11, 5, [])), (50, (0, 1, 0, 3, [])), (51, (11, 3, 3, 66, [])), (54, (1, 1, 0, 1, [])), (55, (6, 1, 0, 0, [])), (56, (12, 3, 11, 5, [])), (59, (0, 1, 0, 1, [])), (60, (4, 1, 0, 0, [])), (61, (14, 3, 11, 5, [])), (64, (0, 1, 0, 1, [])), (65, (22, 1, 0, 0, [])), (66, (1, 1, 0, 1, [])), (67, (26, 3, 0, 0, [(5, 62)])), (70, (10, 3, 1, 75, [])), (73, (0, 1, 0, 0, [])), (74, (22, 1, 0, 0, [])), (75, (1, 1, 0, 1, [])), (76, (1, 1, 0, 1, [])), (77, (26, 3, 0, 0, [(5, 63)])), (80, (14, 3, 9, 5, [])), (83, (1, 1, 0, 1, [])), (84, (0, 1, 0, 3, [])), (85, (14, 3, 7, 5, [])), (88, (0, 1, 0, 1, [])), (89, (22, 1, 0, 0, []))]
theorem os_X5_takesOne : oA MT mX5_takesOne ops_X5_takesOne := (oA.cons oX5_takesOne_0 (oA.cons oX5_takesOne_1 (oA.cons oX5_takesOne_4 (oA.cons oX5_takesOne_6 (oA.cons oX5_takesOne_9 (oA.cons oX5_takesOne_10 (oA.cons oX5_takesOne_13 (oA.cons oX5_takesOne_14 (oA.cons oX5_takesOne_17 (oA.cons oX5_takesOne_18 (oA.cons oX5_takesOne_21 (oA.cons oX5_takesOne_22 (oA.cons oX5_takesOne_25 (oA.cons oX5_takesOne_26 (oA.cons oX5_takesOne_29 (oA.cons oX5_takesOne_30 (oA.cons oX5_takesOne_33 (oA.cons oX5_takesOne_34 (oA.cons oX5_takesOne_35 (oA.cons oX5_takesOne_36 (oA.cons oX5_takesOne_37 (oA.cons oX5_takesOne_38 (oA.cons oX5_takesOne_41 (oA.cons oX5_takesOne_43 (oA.cons oX5_takesOne_46 (oA.cons oX5_takesOne_47 (oA.cons oX5_takesOne_50 (oA.cons oX5_takesOne_51 (oA.cons oX5_takesOne_54 (oA.cons oX5_takesOne_55 (oA.cons oX5_takesOne_56 (oA.cons oX5_takesOne_59 (oA.cons oX5_takesOne_60 (oA.cons oX5_takesOne_61 (oA.cons oX5_takesOne_64 (oA.cons oX5_takesOne_65 (oA.cons oX5_takesOne_66 (oA.cons oX5_takesOne_67 (oA.cons oX5_takesOne_70 (oA.cons oX5_takesOne_73 (oA.cons oX5_takesOne_74 (oA.cons oX5_takesOne_75 (oA.cons oX5_takesOne_76 (oA.cons oX5_takesOne_77 (oA.cons oX5_takesOne_80 (oA.cons oX5_takesOne_83 (oA.cons oX5_takesOne_84 (oA.cons oX5_takesOne_85 (oA.cons oX5_takesOne_88 (oA.cons oX5_takesOne_89 oA.nil))))))))))))))))))))))))))))))))))))))))))))))))))
theorem dX5_takesSign_0 : decode cX5_takesSign 0 = .ok (.aload_n 0, 1) := by decide +kernel
theorem dX5_takesSign_1 : decode cX5_takesSign 1 = .ok (.getfield 42, 3) := by decide +kernel
theorem dX5_takesSign_4 : decode cX5_takesSign 4 = .ok (.bipush 60, 2) := by decide +kernel
theorem dX5_takesSign_6 : decode cX5_takesSign 6 = .ok (.if_icmp .eq 23, 3) := by decide +kernel
theorem dX5_takesSign_9 : decode cX5_takesSign 9 = .ok (.aload_n 0, 1) := by decide +kernel
theorem dX5_takesSign_10 : decode cX5_takesSign 10 = .ok (.getfield 42, 3) := by decide +kernel
theorem dX5_takesSign_13 : decode cX5_takesSign 13 = .ok (.bipush 61, 2) := by decide +kernel
theorem dX5_takesSign_15 : decode cX5_takesSign 15 = .ok (.if_icmp .eq 14, 3) := by decide +kernel
theorem dX5_takesSign_18 : decode cX5_takesSign 18 = .ok (.aload_n 0, 1) := by decide +kernel
theorem dX5_takesSign_19 : decode cX5_takesSign 19 = .ok (.getfield 42, 3) := by decide +kernel
theorem dX5_takesSign_22 : decode cX5_takesSign 22 = .ok (.bipush 62, 2) := by decide +kernel
theorem dX5_takesSign_24 : decode cX5_takesSign 24 = .ok (.if_icmp .eq 5, 3) := by decide +kernel
theorem dX5_takesSign_27 : decode cX5_takesSign 27 = .ok (.iconst 0, 1) := by decide +kernel
theorem dX5_takesSign_28 : decode cX5_takesSign 28 = .ok (.ireturn, 1) := by decide +kernel
theorem dX5_takesSign_29 : decode cX5_takesSign 29 = .ok (.aload_n 0, 1) := by decide +kernel
theorem dX5_takesSign_30 : decode cX5_takesSign 30 = .ok (.aload_n 0, 1) := by decide +kernel
theorem dX5_takesSign_31 : decode cX5_takesSign 31 = .ok (.getfield 42, 3) := by decide +kernel
theorem dX5_takesSign_34 : decode cX5_takesSign 34 = .ok (.putfield 149, 3) := by decide +kernel
theorem dX5_takesSign_37 : decode cX5_takesSign 37 = .ok (.aload_n 0, 1) := by decide +kernel
theorem dX5_takesSign_38 : decode cX5_takesSign 38 = .ok (.iconst 4, 1) := by decide +kernel
theorem dX5_takesSign_39 : decode cX5_takesSign 39 = .ok (.putfield 45, 3) := by decide +kernel
theorem dX5_takesSign_42 : decode cX5_takesSign 42 = .ok (.iconst 1, 1) := by decide +kernel
theorem dX5_takesSign_43 : decode cX5_takesSign 43 = .ok (.ireturn, 1) := by decide +kernel
theorem oX5_takesSign_0 : oP MT mX5_takesSign 0 (1, 1, 0, 1, []) := o_aload_n dX5_takesSign_0 rfl
theorem oX5_takesSign_1 : oP MT mX5_takesSign 1 (12, 3, 5, 5, []) := o_getI (M := mX5_takesSign) (C := RX5) (T := TX5) (ci := 5) (j := 5) (z := 5) dX5_takesSign_1 rfl lq_RX5_42 rfl rfl
theorem oX5_takesSign_4 : oP MT mX5_takesSign 4 (0, 2, 0, 60, []) := o_bipush dX5_takesSign_4 (by decide)
theorem oX5_takesSign_6 : oP MT mX5_takesSign 6 (11, 3, 0, 29, []) := o_icmp_eq dX5_takesSign_6 (by decide) (by decide)
theorem oX5_takesSign_9 : oP MT mX5_takesSign 9 (1, 1, 0, 1, []) := o_aload_n dX5_takesSign_9 rfl
theorem oX5_takesSign_10 : oP MT mX5_takesSign 10 (12, 3, 5, 5, []) := o_getI (M := mX5_takesSign) (C := RX5) (T := TX5) (ci := 5) (j := 5) (z := 5) dX5_takesSign_10 rfl lq_RX5_42 rfl rfl
theorem oX5_takesSign_13 : oP MT mX5_takesSign 13 (0, 2, 0, 61, []) := o_bipush dX5_takesSign_13 (by decide)
theorem oX5_takesSign_15 : oP MT mX5_takesSign 15 (11, 3, 0, 29, []) := o_icmp_eq dX5_takesSign_15 (by decide) (by decide)
theorem oX5_takesSign_18 : oP MT mX5_takesSign 18 (1, 1, 0, 1, []) := o_aload_n dX5_takesSign_18 rfl
theorem oX5_takesSign_19 : oP MT mX5_takesSign 19 (12, 3, 5, 5, []) := o_getI (M := mX5_takesSign) (C := RX5) (T := TX5) (ci := 5) (j := 5) (z := 5) dX5_takesSign_19 rfl lq_RX5_42 rfl rfl
theorem oX5_takesSign_22 : oP MT mX5_takesSign 22 (0, 2, 0, 62, []) := o_bipush dX5_takesSign_22 (by decide)
theorem oX5_takesSign_24 : oP MT mX5_takesSign 24 (11, 3, 0, 29, []) := o_icmp_eq dX5_takesSign_24 (by decide) (by decide)
theorem oX5_takesSign_27 : oP MT mX5_takesSign 27 (0, 1, 0, 0, []) := o_iconst dX5_takesSign_27 (by decide)
theorem oX5_takesSign_28 : oP MT mX5_takesSign 28 (22, 1, 0, 0, []) := o_zret dX5_takesSign_28 rfl
theorem oX5_takesSign_29 : oP MT mX5_takesSign 29 (1, 1, 0, 1, []) := o_aload_n dX5_takesSign_29 rfl
theorem oX5_takesSign_30 : oP MT mX5_takesSign 30 (1, 1, 0, 1, []) := o_aload_n dX5_takesSign_30 rfl
theorem oX5_takesSign_31 : oP MT mX5_takesSign 31 (12, 3, 5, 5, []) := o_getI (M := mX5_takesSign) (C := RX5) (T := TX5) (ci := 5) (j := 5) (z := 5) dX5_takesSign_31 rfl lq_RX5_42 rfl rfl
theorem oX5_takesSign_34 : oP MT mX5_takesSign 34 (14, 3, 10, 5, []) := o_putI (M := mX5_takesSign) (C := RX5) (T := TX5) (ci := 5) (j := 10) (z := 5) dX5_takesSign_34 rfl lq_RX5_149 rfl rfl rfl rfl
theorem oX5_takesSign_37 : oP MT mX5_takesSign 37 (1, 1, 0, 1, []) := o_aload_n dX5_takesSign_37 rfl
theorem oX5_takesSign_38 : oP MT mX5_takesSign 38 (0, 1, 0, 4, []) := o_iconst dX5_takesSign_38 (by decide)
theorem oX5_takesSign_39 : oP MT mX5_takesSign 39 (14, 3, 7, 5, []) := o_putI (M := mX5_takesSign) (C := RX5) (T := TX5) (ci := 5) (j := 7) (z := 5) dX5_takesSign_39 rfl lq_RX5_45 rfl rfl rfl rfl
theorem oX5_takesSign_42 : oP MT mX5_takesSign 42 (0, 1, 0, 1, []) := o_iconst dX5_takesSign_42 (by decide)
theorem oX5_takesSign_43 : oP MT mX5_takesSign 43 (22, 1, 0, 0, []) := o_zret dX5_takesSign_43 rfl
def ops_X5_takesSign : List (Nat × aO) := [(0, (1, 1, 0, 1, [])), (1, (12, 3, 5, 5, [])), (4, (0, 2, 0, 60, [])), (6, (11, 3, 0, 29, [])), (9, (1, 1, 0, 1, [])), (10, (12, 3, 5, 5, [])), (13, (0, 2, 0, 61, [])), (15, (11, 3, 0, 29, [])), (18, (1, 1, 0, 1, [])), (19, (12, 3, 5, 5, [])), (22, (0, 2, 0, 62, [])), (24, (11, 3, 0, 29, [])), (27, (0, 1, 0, 0, [])), (28, (22, 1, 0, 0, [])), (29, (1, 1, 0, 1, [])), (30, (1, 1, 0, 1, [])), (31, (12, 3, 5, 5, [])), (34, (14, 3, 10, 5, [])), (37, (1, 1, 0, 1, [])), (38, (0, 1, 0, 4, [])), (39, (14, 3, 7, 5, [])), (42, (0, 1, 0, 1, [])), (43, (22, 1, 0, 0, []))]
theorem os_X5_takesSign : oA MT mX5_takesSign ops_X5_takesSign := (oA.cons oX5_takesSign_0 (oA.cons oX5_takesSign_1 (oA.cons oX5_takesSign_4 (oA.cons oX5_takesSign_6 (oA.cons oX5_takesSign_9 (oA.cons oX5_takesSign_10 (oA.cons oX5_takesSign_13 (oA.cons oX5_takesSign_15 (oA.cons oX5_takesSign_18 (oA.cons oX5_takesSign_19 (oA.cons oX5_takesSign_22 (oA.cons oX5_takesSign_24 (oA.cons oX5_takesSign_27 (oA.cons oX5_takesSign_28 (oA.cons oX5_takesSign_29 (oA.cons oX5_takesSign_30 (oA.cons oX5_takesSign_31 (oA.cons oX5_takesSign_34 (oA.cons oX5_takesSign_37 (oA.cons oX5_takesSign_38 (oA.cons oX5_takesSign_39 (oA.cons oX5_takesSign_42 (oA.cons oX5_takesSign_43 oA.nil)))))))))))))))))))))))
