theorem dX12_layDown_0 : decode cX12_layDown 0 = .ok (.iconst 0, 1) := by decide +kernel
theorem dX12_layDown_1 : decode cX12_layDown 1 = .ok (.istore_n 1, 1) := by decide +kernel
theorem dX12_layDown_2 : decode cX12_layDown 2 = .ok (.iload_n 1, 1) := by decide +kernel
theorem dX12_layDown_3 : decode cX12_layDown 3 = .ok (.bipush 65, 2) := by decide +kernel
theorem dX12_layDown_5 : decode cX12_layDown 5 = .ok (.if_icmp .ge 21, 3) := by decide +kernel
theorem dX12_layDown_8 : decode cX12_layDown 8 = .ok (.aload_n 0, 1) := by decide +kernel
theorem dX12_layDown_9 : decode cX12_layDown 9 = .ok (.getfield 16, 3) := by decide +kernel
theorem dX12_layDown_12 : decode cX12_layDown 12 = .ok (.iload_n 1, 1) := by decide +kernel
theorem dX12_layDown_13 : decode cX12_layDown 13 = .ok (.aload_n 0, 1) := by decide +kernel
theorem dX12_layDown_14 : decode cX12_layDown 14 = .ok (.getfield 9, 3) := by decide +kernel
theorem dX12_layDown_17 : decode cX12_layDown 17 = .ok (.iload_n 1, 1) := by decide +kernel
theorem dX12_layDown_18 : decode cX12_layDown 18 = .ok (.iaload, 1) := by decide +kernel
theorem dX12_layDown_19 : decode cX12_layDown 19 = .ok (.iastore, 1) := by decide +kernel
theorem dX12_layDown_20 : decode cX12_layDown 20 = .ok (.iinc 1 1, 3) := by decide +kernel
theorem dX12_layDown_23 : decode cX12_layDown 23 = .ok (.goto (-21), 3) := by decide +kernel
theorem dX12_layDown_26 : decode cX12_layDown 26 = .ok (.return_, 1) := by decide +kernel
theorem oX12_layDown_0 : oP MT mX12_layDown 0 (0, 1, 0, 0, []) := o_iconst dX12_layDown_0 (by decide)
theorem oX12_layDown_1 : oP MT mX12_layDown 1 (2, 1, 1, 0, []) := o_istore_n dX12_layDown_1 rfl (by decide)
theorem oX12_layDown_2 : oP MT mX12_layDown 2 (1, 1, 1, 0, []) := o_iload_n dX12_layDown_2 rfl
theorem oX12_layDown_3 : oP MT mX12_layDown 3 (0, 2, 0, 65, []) := o_bipush dX12_layDown_3 (by decide)
theorem oX12_layDown_5 : oP MT mX12_layDown 5 (11, 3, 3, 26, []) := o_icmp_ge dX12_layDown_5 (by decide) (by decide)
theorem oX12_layDown_8 : oP MT mX12_layDown 8 (1, 1, 0, 1, []) := o_aload_n dX12_layDown_8 rfl
theorem oX12_layDown_9 : oP MT mX12_layDown 9 (13, 3, 2, 12, []) := o_getR (M := mX12_layDown) (C := RX12) (T := TX12) (ci := 12) (j := 2) (z := 12) dX12_layDown_9 rfl lq_RX12_16 rfl rfl
theorem oX12_layDown_12 : oP MT mX12_layDown 12 (1, 1, 1, 0, []) := o_iload_n dX12_layDown_12 rfl
theorem oX12_layDown_13 : oP MT mX12_layDown 13 (1, 1, 0, 1, []) := o_aload_n dX12_layDown_13 rfl
theorem oX12_layDown_14 : oP MT mX12_layDown 14 (13, 3, 0, 12, []) := o_getR (M := mX12_layDown) (C := RX12) (T := TX12) (ci := 12) (j := 0) (z := 12) dX12_layDown_14 rfl lq_RX12_9 rfl rfl
theorem oX12_layDown_17 : oP MT mX12_layDown 17 (1, 1, 1, 0, []) := o_iload_n dX12_layDown_17 rfl
theorem oX12_layDown_18 : oP MT mX12_layDown 18 (16, 1, 1, 0, []) := o_iaload dX12_layDown_18
theorem oX12_layDown_19 : oP MT mX12_layDown 19 (18, 1, 0, 0, []) := o_iastore dX12_layDown_19
theorem oX12_layDown_20 : oP MT mX12_layDown 20 (3, 3, 1, 1, []) := o_iinc dX12_layDown_20 (by decide) (by decide)
theorem oX12_layDown_23 : oP MT mX12_layDown 23 (9, 3, 2, 0, []) := o_goto dX12_layDown_23 (by decide)
theorem oX12_layDown_26 : oP MT mX12_layDown 26 (23, 1, 0, 0, []) := o_vret dX12_layDown_26 rfl
def ops_X12_layDown : List (Nat × aO) := [(0, (0, 1, 0, 0, [])), (1, (2, 1, 1, 0, [])), (2, (1, 1, 1, 0, [])), (3, (0, 2, 0, 65, [])), (5, (11, 3, 3, 26, [])), (8, (1, 1, 0, 1, [])), (9, (13, 3, 2, 12, [])), (12, (1, 1, 1, 0, [])), (13, (1, 1, 0, 1, [])), (14, (13, 3, 0, 12, [])), (17, (1, 1, 1, 0, [])), (18, (16, 1, 1, 0, [])), (19, (18, 1, 0, 0, [])), (20, (3, 3, 1, 1, [])), (23, (9, 3, 2, 0, [])), (26, (23, 1, 0, 0, []))]
theorem os_X12_layDown : oA MT mX12_layDown ops_X12_layDown := (oA.cons oX12_layDown_0 (oA.cons oX12_layDown_1 (oA.cons oX12_layDown_2 (oA.cons oX12_layDown_3 (oA.cons oX12_layDown_5 (oA.cons oX12_layDown_8 (oA.cons oX12_layDown_9 (oA.cons oX12_layDown_12 (oA.cons oX12_layDown_13 (oA.cons oX12_layDown_14 (oA.cons oX12_layDown_17 (oA.cons oX12_layDown_18 (oA.cons oX12_layDown_19 (oA.cons oX12_layDown_20 (oA.cons oX12_layDown_23 (oA.cons oX12_layDown_26 oA.nil))))))))))))))))
theorem dX12_restOf_0 : decode cX12_restOf 0 = .ok (.iconst 0, 1) := by decide +kernel
theorem dX12_restOf_1 : decode cX12_restOf 1 = .ok (.istore_n 2, 1) := by decide +kernel
theorem dX12_restOf_2 : decode cX12_restOf 2 = .ok (.iconst 0, 1) := by decide +kernel
theorem dX12_restOf_3 : decode cX12_restOf 3 = .ok (.istore_n 3, 1) := by decide +kernel
theorem dX12_restOf_4 : decode cX12_restOf 4 = .ok (.iload_n 3, 1) := by decide +kernel
theorem dX12_restOf_5 : decode cX12_restOf 5 = .ok (.iload_n 1, 1) := by decide +kernel
theorem dX12_restOf_6 : decode cX12_restOf 6 = .ok (.if_icmp .ge 24, 3) := by decide +kernel
theorem dX12_restOf_9 : decode cX12_restOf 9 = .ok (.aload_n 0, 1) := by decide +kernel
theorem dX12_restOf_10 : decode cX12_restOf 10 = .ok (.invokevirtual 229, 3) := by decide +kernel
theorem dX12_restOf_13 : decode cX12_restOf 13 = .ok (.ifCond .ne 17, 3) := by decide +kernel
theorem dX12_restOf_16 : decode cX12_restOf 16 = .ok (.iload_n 2, 1) := by decide +kernel
theorem dX12_restOf_17 : decode cX12_restOf 17 = .ok (.aload_n 0, 1) := by decide +kernel
theorem dX12_restOf_18 : decode cX12_restOf 18 = .ok (.iconst (-1), 1) := by decide +kernel
theorem dX12_restOf_19 : decode cX12_restOf 19 = .ok (.invokevirtual 238, 3) := by decide +kernel
theorem dX12_restOf_22 : decode cX12_restOf 22 = .ok (.iadd, 1) := by decide +kernel
theorem dX12_restOf_23 : decode cX12_restOf 23 = .ok (.istore_n 2, 1) := by decide +kernel
theorem dX12_restOf_24 : decode cX12_restOf 24 = .ok (.iinc 3 1, 3) := by decide +kernel
theorem dX12_restOf_27 : decode cX12_restOf 27 = .ok (.goto (-23), 3) := by decide +kernel
theorem dX12_restOf_30 : decode cX12_restOf 30 = .ok (.iload_n 2, 1) := by decide +kernel
theorem dX12_restOf_31 : decode cX12_restOf 31 = .ok (.ireturn, 1) := by decide +kernel
theorem oX12_restOf_0 : oP MT mX12_restOf 0 (0, 1, 0, 0, []) := o_iconst dX12_restOf_0 (by decide)
theorem oX12_restOf_1 : oP MT mX12_restOf 1 (2, 1, 2, 0, []) := o_istore_n dX12_restOf_1 rfl (by decide)
theorem oX12_restOf_2 : oP MT mX12_restOf 2 (0, 1, 0, 0, []) := o_iconst dX12_restOf_2 (by decide)
theorem oX12_restOf_3 : oP MT mX12_restOf 3 (2, 1, 3, 0, []) := o_istore_n dX12_restOf_3 rfl (by decide)
theorem oX12_restOf_4 : oP MT mX12_restOf 4 (1, 1, 3, 0, []) := o_iload_n dX12_restOf_4 rfl
theorem oX12_restOf_5 : oP MT mX12_restOf 5 (1, 1, 1, 0, []) := o_iload_n dX12_restOf_5 rfl
theorem oX12_restOf_6 : oP MT mX12_restOf 6 (11, 3, 3, 30, []) := o_icmp_ge dX12_restOf_6 (by decide) (by decide)
theorem oX12_restOf_9 : oP MT mX12_restOf 9 (1, 1, 0, 1, []) := o_aload_n dX12_restOf_9 rfl
theorem oX12_restOf_10 : oP MT mX12_restOf 10 (26, 3, 0, 0, [(12, 150)]) := o_callO ((vA.cons (v_callV dX12_restOf_10 (ci := 12) rfl rfl (mj := mX12_isOver) mt_X12_isOver cmq_X12_isOver wq_557 wq_559 wq_560 (by decide) (by decide)) vA.nil))
theorem oX12_restOf_13 : oP MT mX12_restOf 13 (10, 3, 1, 30, []) := o_if_ne dX12_restOf_13 (by decide) (by decide)
theorem oX12_restOf_16 : oP MT mX12_restOf 16 (1, 1, 2, 0, []) := o_iload_n dX12_restOf_16 rfl
theorem oX12_restOf_17 : oP MT mX12_restOf 17 (1, 1, 0, 1, []) := o_aload_n dX12_restOf_17 rfl
theorem oX12_restOf_18 : oP MT mX12_restOf 18 (0, 1, 0, (-1), []) := o_iconst dX12_restOf_18 (by decide)
theorem oX12_restOf_19 : oP MT mX12_restOf 19 (26, 3, 0, 1, [(12, 151)]) := o_callO ((vA.cons (v_callV dX12_restOf_19 (ci := 12) rfl rfl (mj := mX12_goesBy) mt_X12_goesBy cmq_X12_goesBy wq_561 wq_563 wq_564 (by decide) (by decide)) vA.nil))
theorem oX12_restOf_22 : oP MT mX12_restOf 22 (4, 1, 0, 0, []) := o_iadd dX12_restOf_22
theorem oX12_restOf_23 : oP MT mX12_restOf 23 (2, 1, 2, 0, []) := o_istore_n dX12_restOf_23 rfl (by decide)
theorem oX12_restOf_24 : oP MT mX12_restOf 24 (3, 3, 3, 1, []) := o_iinc dX12_restOf_24 (by decide) (by decide)
theorem oX12_restOf_27 : oP MT mX12_restOf 27 (9, 3, 4, 0, []) := o_goto dX12_restOf_27 (by decide)
theorem oX12_restOf_30 : oP MT mX12_restOf 30 (1, 1, 2, 0, []) := o_iload_n dX12_restOf_30 rfl
theorem oX12_restOf_31 : oP MT mX12_restOf 31 (21, 1, 0, 0, []) := o_iret dX12_restOf_31 rfl
def ops_X12_restOf : List (Nat × aO) := [(0, (0, 1, 0, 0, [])), (1, (2, 1, 2, 0, [])), (2, (0, 1, 0, 0, [])), (3, (2, 1, 3, 0, [])), (4, (1, 1, 3, 0, [])), (5, (1, 1, 1, 0, [])), (6, (11, 3, 3, 30, [])), (9, (1, 1, 0, 1, [])), (10, (26, 3, 0, 0, [(12, 150)])), (13, (10, 3, 1, 30, [])), (16, (1, 1, 2, 0, [])), (17, (1, 1, 0, 1, [])), (18, (0, 1, 0, (-1), [])), (19, (26, 3, 0, 1, [(12, 151)])), (22, (4, 1, 0, 0, [])), (23, (2, 1, 2, 0, [])), (24, (3, 3, 3, 1, [])), (27, (9, 3, 4, 0, [])), (30, (1, 1, 2, 0, [])), (31, (21, 1, 0, 0, []))]
theorem os_X12_restOf : oA MT mX12_restOf ops_X12_restOf := (oA.cons oX12_restOf_0 (oA.cons oX12_restOf_1 (oA.cons oX12_restOf_2 (oA.cons oX12_restOf_3 (oA.cons oX12_restOf_4 (oA.cons oX12_restOf_5 (oA.cons oX12_restOf_6 (oA.cons oX12_restOf_9 (oA.cons oX12_restOf_10 (oA.cons oX12_restOf_13 (oA.cons oX12_restOf_16 (oA.cons oX12_restOf_17 (oA.cons oX12_restOf_18 (oA.cons oX12_restOf_19 (oA.cons oX12_restOf_22 (oA.cons oX12_restOf_23 (oA.cons oX12_restOf_24 (oA.cons oX12_restOf_27 (oA.cons oX12_restOf_30 (oA.cons oX12_restOf_31 oA.nil))))))))))))))))))))
theorem dX12_layBack_0 : decode cX12_layBack 0 = .ok (.iconst 0, 1) := by decide +kernel
theorem dX12_layBack_1 : decode cX12_layBack 1 = .ok (.istore_n 1, 1) := by decide +kernel
theorem dX12_layBack_2 : decode cX12_layBack 2 = .ok (.iload_n 1, 1) := by decide +kernel
theorem dX12_layBack_3 : decode cX12_layBack 3 = .ok (.bipush 65, 2) := by decide +kernel
theorem dX12_layBack_5 : decode cX12_layBack 5 = .ok (.if_icmp .ge 21, 3) := by decide +kernel
theorem dX12_layBack_8 : decode cX12_layBack 8 = .ok (.aload_n 0, 1) := by decide +kernel
theorem dX12_layBack_9 : decode cX12_layBack 9 = .ok (.getfield 9, 3) := by decide +kernel
theorem dX12_layBack_12 : decode cX12_layBack 12 = .ok (.iload_n 1, 1) := by decide +kernel
theorem dX12_layBack_13 : decode cX12_layBack 13 = .ok (.aload_n 0, 1) := by decide +kernel
theorem dX12_layBack_14 : decode cX12_layBack 14 = .ok (.getfield 16, 3) := by decide +kernel
theorem dX12_layBack_17 : decode cX12_layBack 17 = .ok (.iload_n 1, 1) := by decide +kernel
theorem dX12_layBack_18 : decode cX12_layBack 18 = .ok (.iaload, 1) := by decide +kernel
theorem dX12_layBack_19 : decode cX12_layBack 19 = .ok (.iastore, 1) := by decide +kernel
theorem dX12_layBack_20 : decode cX12_layBack 20 = .ok (.iinc 1 1, 3) := by decide +kernel
theorem dX12_layBack_23 : decode cX12_layBack 23 = .ok (.goto (-21), 3) := by decide +kernel
theorem dX12_layBack_26 : decode cX12_layBack 26 = .ok (.return_, 1) := by decide +kernel
theorem oX12_layBack_0 : oP MT mX12_layBack 0 (0, 1, 0, 0, []) := o_iconst dX12_layBack_0 (by decide)
theorem oX12_layBack_1 : oP MT mX12_layBack 1 (2, 1, 1, 0, []) := o_istore_n dX12_layBack_1 rfl (by decide)
theorem oX12_layBack_2 : oP MT mX12_layBack 2 (1, 1, 1, 0, []) := o_iload_n dX12_layBack_2 rfl
theorem oX12_layBack_3 : oP MT mX12_layBack 3 (0, 2, 0, 65, []) := o_bipush dX12_layBack_3 (by decide)
theorem oX12_layBack_5 : oP MT mX12_layBack 5 (11, 3, 3, 26, []) := o_icmp_ge dX12_layBack_5 (by decide) (by decide)
theorem oX12_layBack_8 : oP MT mX12_layBack 8 (1, 1, 0, 1, []) := o_aload_n dX12_layBack_8 rfl
theorem oX12_layBack_9 : oP MT mX12_layBack 9 (13, 3, 0, 12, []) := o_getR (M := mX12_layBack) (C := RX12) (T := TX12) (ci := 12) (j := 0) (z := 12) dX12_layBack_9 rfl lq_RX12_9 rfl rfl
theorem oX12_layBack_12 : oP MT mX12_layBack 12 (1, 1, 1, 0, []) := o_iload_n dX12_layBack_12 rfl
theorem oX12_layBack_13 : oP MT mX12_layBack 13 (1, 1, 0, 1, []) := o_aload_n dX12_layBack_13 rfl
theorem oX12_layBack_14 : oP MT mX12_layBack 14 (13, 3, 2, 12, []) := o_getR (M := mX12_layBack) (C := RX12) (T := TX12) (ci := 12) (j := 2) (z := 12) dX12_layBack_14 rfl lq_RX12_16 rfl rfl
theorem oX12_layBack_17 : oP MT mX12_layBack 17 (1, 1, 1, 0, []) := o_iload_n dX12_layBack_17 rfl
theorem oX12_layBack_18 : oP MT mX12_layBack 18 (16, 1, 1, 0, []) := o_iaload dX12_layBack_18
theorem oX12_layBack_19 : oP MT mX12_layBack 19 (18, 1, 0, 0, []) := o_iastore dX12_layBack_19
theorem oX12_layBack_20 : oP MT mX12_layBack 20 (3, 3, 1, 1, []) := o_iinc dX12_layBack_20 (by decide) (by decide)
theorem oX12_layBack_23 : oP MT mX12_layBack 23 (9, 3, 2, 0, []) := o_goto dX12_layBack_23 (by decide)
theorem oX12_layBack_26 : oP MT mX12_layBack 26 (23, 1, 0, 0, []) := o_vret dX12_layBack_26 rfl
def ops_X12_layBack : List (Nat × aO) := [(0, (0, 1, 0, 0, [])), (1, (2, 1, 1, 0, [])), (2, (1, 1, 1, 0, [])), (3, (0, 2, 0, 65, [])), (5, (11, 3, 3, 26, [])), (8, (1, 1, 0, 1, [])), (9, (13, 3, 0, 12, [])), (12, (1, 1, 1, 0, [])), (13, (1, 1, 0, 1, [])), (14, (13, 3, 2, 12, [])), (17, (1, 1, 1, 0, [])), (18, (16, 1, 1, 0, [])), (19, (18, 1, 0, 0, [])), (20, (3, 3, 1, 1, [])), (23, (9, 3, 2, 0, [])), (26, (23, 1, 0, 0, []))]
theorem os_X12_layBack : oA MT mX12_layBack ops_X12_layBack := (oA.cons oX12_layBack_0 (oA.cons oX12_layBack_1 (oA.cons oX12_layBack_2 (oA.cons oX12_layBack_3 (oA.cons oX12_layBack_5 (oA.cons oX12_layBack_8 (oA.cons oX12_layBack_9 (oA.cons oX12_layBack_12 (oA.cons oX12_layBack_13 (oA.cons oX12_layBack_14 (oA.cons oX12_layBack_17 (oA.cons oX12_layBack_18 (oA.cons oX12_layBack_19 (oA.cons oX12_layBack_20 (oA.cons oX12_layBack_23 (oA.cons oX12_layBack_26 oA.nil))))))))))))))))
theorem dX12_bestFor_0 : decode cX12_bestFor 0 = .ok (.aload_n 0, 1) := by decide +kernel
theorem dX12_bestFor_1 : decode cX12_bestFor 1 = .ok (.iload_n 1, 1) := by decide +kernel
theorem dX12_bestFor_2 : decode cX12_bestFor 2 = .ok (.invokevirtual 223, 3) := by decide +kernel
theorem dX12_bestFor_5 : decode cX12_bestFor 5 = .ok (.ifCond .ne 5, 3) := by decide +kernel
theorem dX12_bestFor_8 : decode cX12_bestFor 8 = .ok (.iconst (-1), 1) := by decide +kernel
theorem dX12_bestFor_9 : decode cX12_bestFor 9 = .ok (.ireturn, 1) := by decide +kernel
theorem dX12_bestFor_10 : decode cX12_bestFor 10 = .ok (.iconst 0, 1) := by decide +kernel
theorem dX12_bestFor_11 : decode cX12_bestFor 11 = .ok (.istore 4, 2) := by decide +kernel
theorem dX12_bestFor_13 : decode cX12_bestFor 13 = .ok (.iconst (-1), 1) := by decide +kernel
theorem dX12_bestFor_14 : decode cX12_bestFor 14 = .ok (.istore 5, 2) := by decide +kernel
theorem dX12_bestFor_16 : decode cX12_bestFor 16 = .ok (.aload_n 0, 1) := by decide +kernel
theorem dX12_bestFor_17 : decode cX12_bestFor 17 = .ok (.invokevirtual 241, 3) := by decide +kernel
theorem dX12_bestFor_20 : decode cX12_bestFor 20 = .ok (.iconst 0, 1) := by decide +kernel
theorem dX12_bestFor_21 : decode cX12_bestFor 21 = .ok (.istore 6, 2) := by decide +kernel
theorem dX12_bestFor_23 : decode cX12_bestFor 23 = .ok (.iload 6, 2) := by decide +kernel
theorem dX12_bestFor_25 : decode cX12_bestFor 25 = .ok (.iload_n 3, 1) := by decide +kernel
theorem dX12_bestFor_26 : decode cX12_bestFor 26 = .ok (.if_icmp .gt 61, 3) := by decide +kernel
theorem dX12_bestFor_29 : decode cX12_bestFor 29 = .ok (.aload_n 0, 1) := by decide +kernel
theorem dX12_bestFor_30 : decode cX12_bestFor 30 = .ok (.iload_n 1, 1) := by decide +kernel
theorem dX12_bestFor_31 : decode cX12_bestFor 31 = .ok (.iload_n 2, 1) := by decide +kernel
theorem dX12_bestFor_32 : decode cX12_bestFor 32 = .ok (.iload 6, 2) := by decide +kernel
theorem dX12_bestFor_34 : decode cX12_bestFor 34 = .ok (.invokevirtual 195, 3) := by decide +kernel
theorem dX12_bestFor_37 : decode cX12_bestFor 37 = .ok (.aload_n 0, 1) := by decide +kernel
theorem dX12_bestFor_38 : decode cX12_bestFor 38 = .ok (.bipush 16, 2) := by decide +kernel
theorem dX12_bestFor_40 : decode cX12_bestFor 40 = .ok (.invokevirtual 244, 3) := by decide +kernel
theorem dX12_bestFor_43 : decode cX12_bestFor 43 = .ok (.istore 7, 2) := by decide +kernel
theorem dX12_bestFor_45 : decode cX12_bestFor 45 = .ok (.iload 7, 2) := by decide +kernel
theorem dX12_bestFor_47 : decode cX12_bestFor 47 = .ok (.iload 5, 2) := by decide +kernel
theorem dX12_bestFor_49 : decode cX12_bestFor 49 = .ok (.if_icmp .le 8, 3) := by decide +kernel
theorem dX12_bestFor_52 : decode cX12_bestFor 52 = .ok (.iload 6, 2) := by decide +kernel
theorem dX12_bestFor_54 : decode cX12_bestFor 54 = .ok (.goto 5, 3) := by decide +kernel
theorem dX12_bestFor_57 : decode cX12_bestFor 57 = .ok (.iload 4, 2) := by decide +kernel
theorem dX12_bestFor_59 : decode cX12_bestFor 59 = .ok (.istore 4, 2) := by decide +kernel
theorem dX12_bestFor_61 : decode cX12_bestFor 61 = .ok (.iload 7, 2) := by decide +kernel
theorem dX12_bestFor_63 : decode cX12_bestFor 63 = .ok (.iload 5, 2) := by decide +kernel
theorem dX12_bestFor_65 : decode cX12_bestFor 65 = .ok (.if_icmp .le 8, 3) := by decide +kernel
theorem dX12_bestFor_68 : decode cX12_bestFor 68 = .ok (.iload 7, 2) := by decide +kernel
theorem dX12_bestFor_70 : decode cX12_bestFor 70 = .ok (.goto 5, 3) := by decide +kernel
theorem dX12_bestFor_73 : decode cX12_bestFor 73 = .ok (.iload 5, 2) := by decide +kernel
theorem dX12_bestFor_75 : decode cX12_bestFor 75 = .ok (.istore 5, 2) := by decide +kernel
theorem dX12_bestFor_77 : decode cX12_bestFor 77 = .ok (.aload_n 0, 1) := by decide +kernel
theorem dX12_bestFor_78 : decode cX12_bestFor 78 = .ok (.invokevirtual 247, 3) := by decide +kernel
theorem dX12_bestFor_81 : decode cX12_bestFor 81 = .ok (.iinc 6 1, 3) := by decide +kernel
theorem dX12_bestFor_84 : decode cX12_bestFor 84 = .ok (.goto (-61), 3) := by decide +kernel
theorem dX12_bestFor_87 : decode cX12_bestFor 87 = .ok (.iload 4, 2) := by decide +kernel
theorem dX12_bestFor_89 : decode cX12_bestFor 89 = .ok (.ireturn, 1) := by decide +kernel
theorem oX12_bestFor_0 : oP MT mX12_bestFor 0 (1, 1, 0, 1, []) := o_aload_n dX12_bestFor_0 rfl
theorem oX12_bestFor_1 : oP MT mX12_bestFor 1 (1, 1, 1, 0, []) := o_iload_n dX12_bestFor_1 rfl
theorem oX12_bestFor_2 : oP MT mX12_bestFor 2 (26, 3, 0, 1, [(12, 149)]) := o_callO ((vA.cons (v_callV dX12_bestFor_2 (ci := 12) rfl rfl (mj := mX12_isKey) mt_X12_isKey cmq_X12_isKey wq_565 wq_567 wq_568 (by decide) (by decide)) vA.nil))
theorem oX12_bestFor_5 : oP MT mX12_bestFor 5 (10, 3, 1, 10, []) := o_if_ne dX12_bestFor_5 (by decide) (by decide)
theorem oX12_bestFor_8 : oP MT mX12_bestFor 8 (0, 1, 0, (-1), []) := o_iconst dX12_bestFor_8 (by decide)
theorem oX12_bestFor_9 : oP MT mX12_bestFor 9 (21, 1, 0, 0, []) := o_iret dX12_bestFor_9 rfl
theorem oX12_bestFor_10 : oP MT mX12_bestFor 10 (0, 1, 0, 0, []) := o_iconst dX12_bestFor_10 (by decide)
theorem oX12_bestFor_11 : oP MT mX12_bestFor 11 (2, 2, 4, 0, []) := o_istore dX12_bestFor_11 (by decide)
theorem oX12_bestFor_13 : oP MT mX12_bestFor 13 (0, 1, 0, (-1), []) := o_iconst dX12_bestFor_13 (by decide)
theorem oX12_bestFor_14 : oP MT mX12_bestFor 14 (2, 2, 5, 0, []) := o_istore dX12_bestFor_14 (by decide)
theorem oX12_bestFor_16 : oP MT mX12_bestFor 16 (1, 1, 0, 1, []) := o_aload_n dX12_bestFor_16 rfl
theorem oX12_bestFor_17 : oP MT mX12_bestFor 17 (26, 3, 0, 0, [(12, 152)]) := o_callO ((vA.cons (v_callV dX12_bestFor_17 (ci := 12) rfl rfl (mj := mX12_layDown) mt_X12_layDown cmq_X12_layDown wq_569 wq_571 wq_572 (by decide) (by decide)) vA.nil))
theorem oX12_bestFor_20 : oP MT mX12_bestFor 20 (0, 1, 0, 0, []) := o_iconst dX12_bestFor_20 (by decide)
theorem oX12_bestFor_21 : oP MT mX12_bestFor 21 (2, 2, 6, 0, []) := o_istore dX12_bestFor_21 (by decide)
theorem oX12_bestFor_23 : oP MT mX12_bestFor 23 (1, 2, 6, 0, []) := o_iload dX12_bestFor_23
theorem oX12_bestFor_25 : oP MT mX12_bestFor 25 (1, 1, 3, 0, []) := o_iload_n dX12_bestFor_25 rfl
theorem oX12_bestFor_26 : oP MT mX12_bestFor 26 (11, 3, 4, 87, []) := o_icmp_gt dX12_bestFor_26 (by decide) (by decide)
theorem oX12_bestFor_29 : oP MT mX12_bestFor 29 (1, 1, 0, 1, []) := o_aload_n dX12_bestFor_29 rfl
theorem oX12_bestFor_30 : oP MT mX12_bestFor 30 (1, 1, 1, 0, []) := o_iload_n dX12_bestFor_30 rfl
theorem oX12_bestFor_31 : oP MT mX12_bestFor 31 (1, 1, 2, 0, []) := o_iload_n dX12_bestFor_31 rfl
theorem oX12_bestFor_32 : oP MT mX12_bestFor 32 (1, 2, 6, 0, []) := o_iload dX12_bestFor_32
theorem oX12_bestFor_34 : oP MT mX12_bestFor 34 (26, 3, 0, 3, [(12, 141)]) := o_callO ((vA.cons (v_callV dX12_bestFor_34 (ci := 12) rfl rfl (mj := mX12_puts) mt_X12_puts cmq_X12_puts wq_523 wq_525 wq_526 (by decide) (by decide)) vA.nil))
theorem oX12_bestFor_37 : oP MT mX12_bestFor 37 (1, 1, 0, 1, []) := o_aload_n dX12_bestFor_37 rfl
theorem oX12_bestFor_38 : oP MT mX12_bestFor 38 (0, 2, 0, 16, []) := o_bipush dX12_bestFor_38 (by decide)
theorem oX12_bestFor_40 : oP MT mX12_bestFor 40 (26, 3, 0, 1, [(12, 153)]) := o_callO ((vA.cons (v_callV dX12_bestFor_40 (ci := 12) rfl rfl (mj := mX12_restOf) mt_X12_restOf cmq_X12_restOf wq_573 wq_575 wq_576 (by decide) (by decide)) vA.nil))
theorem oX12_bestFor_43 : oP MT mX12_bestFor 43 (2, 2, 7, 0, []) := o_istore dX12_bestFor_43 (by decide)
theorem oX12_bestFor_45 : oP MT mX12_bestFor 45 (1, 2, 7, 0, []) := o_iload dX12_bestFor_45
theorem oX12_bestFor_47 : oP MT mX12_bestFor 47 (1, 2, 5, 0, []) := o_iload dX12_bestFor_47
theorem oX12_bestFor_49 : oP MT mX12_bestFor 49 (11, 3, 5, 57, []) := o_icmp_le dX12_bestFor_49 (by decide) (by decide)
theorem oX12_bestFor_52 : oP MT mX12_bestFor 52 (1, 2, 6, 0, []) := o_iload dX12_bestFor_52
theorem oX12_bestFor_54 : oP MT mX12_bestFor 54 (9, 3, 59, 0, []) := o_goto dX12_bestFor_54 (by decide)
theorem oX12_bestFor_57 : oP MT mX12_bestFor 57 (1, 2, 4, 0, []) := o_iload dX12_bestFor_57
theorem oX12_bestFor_59 : oP MT mX12_bestFor 59 (2, 2, 4, 0, []) := o_istore dX12_bestFor_59 (by decide)
theorem oX12_bestFor_61 : oP MT mX12_bestFor 61 (1, 2, 7, 0, []) := o_iload dX12_bestFor_61
theorem oX12_bestFor_63 : oP MT mX12_bestFor 63 (1, 2, 5, 0, []) := o_iload dX12_bestFor_63
theorem oX12_bestFor_65 : oP MT mX12_bestFor 65 (11, 3, 5, 73, []) := o_icmp_le dX12_bestFor_65 (by decide) (by decide)
theorem oX12_bestFor_68 : oP MT mX12_bestFor 68 (1, 2, 7, 0, []) := o_iload dX12_bestFor_68
theorem oX12_bestFor_70 : oP MT mX12_bestFor 70 (9, 3, 75, 0, []) := o_goto dX12_bestFor_70 (by decide)
theorem oX12_bestFor_73 : oP MT mX12_bestFor 73 (1, 2, 5, 0, []) := o_iload dX12_bestFor_73
theorem oX12_bestFor_75 : oP MT mX12_bestFor 75 (2, 2, 5, 0, []) := o_istore dX12_bestFor_75 (by decide)
theorem oX12_bestFor_77 : oP MT mX12_bestFor 77 (1, 1, 0, 1, []) := o_aload_n dX12_bestFor_77 rfl
theorem oX12_bestFor_78 : oP MT mX12_bestFor 78 (26, 3, 0, 0, [(12, 154)]) := o_callO ((vA.cons (v_callV dX12_bestFor_78 (ci := 12) rfl rfl (mj := mX12_layBack) mt_X12_layBack cmq_X12_layBack wq_577 wq_579 wq_580 (by decide) (by decide)) vA.nil))
theorem oX12_bestFor_81 : oP MT mX12_bestFor 81 (3, 3, 6, 1, []) := o_iinc dX12_bestFor_81 (by decide) (by decide)
theorem oX12_bestFor_84 : oP MT mX12_bestFor 84 (9, 3, 23, 0, []) := o_goto dX12_bestFor_84 (by decide)
theorem oX12_bestFor_87 : oP MT mX12_bestFor 87 (1, 2, 4, 0, []) := o_iload dX12_bestFor_87
theorem oX12_bestFor_89 : oP MT mX12_bestFor 89 (21, 1, 0, 0, []) := o_iret dX12_bestFor_89 rfl
def ops_X12_bestFor : List (Nat × aO) := [(0, (1, 1, 0, 1, [])), (1, (1, 1, 1, 0, [])), (2, (26, 3, 0, 1, [(12, 149)])), (5, (10, 3, 1, 10, [])), (8, (0, 1, 0, (-1), [])), (9, (21, 1, 0, 0, [])), (10, (0, 1, 0, 0, [])), (11, (2, 2, 4, 0, [])), (13, (0, 1, 0, (-1), [])), (14, (2, 2, 5, 0, [])), (16, (1, 1, 0, 1, [])), (17, (26, 3, 0, 0, [(12, 152)])), (20, (0, 1, 0, 0, [])), (21, (2, 2, 6, 0, [])), (23, (1, 2, 6, 0, [])), (25, (1, 1, 3, 0, [])), (26, (11, 3, 4, 87, [])), (29, (1, 1, 0, 1, [])), (30, (1, 1, 1, 0, [])), (31, (1, 1, 2, 0, [])), (32, (1, 2, 6, 0, [])), (34, (26, 3, 0, 3, [(12, 141)])), (37, (1, 1, 0, 1, [])), (38, (0, 2, 0, 16, [])), (40, (26, 3, 0, 1, [(12, 153)])), (43, (2, 2, 7, 0, [])), (45, (1, 2, 7, 0, [])), (47, (1, 2, 5, 0, [])), (49, (11, 3, 5, 57, [])), (52, (1, 2, 6, 0, [])), (54, (9, 3, 59, 0, [])), (57, (1, 2, 4, 0, [])), (59, (2, 2, 4, 0, [])), (61, (1, 2, 7, 0, [])), (63, (1, 2, 5, 0, [])), (65, (11, 3, 5, 73, [])), (68, (1, 2, 7, 0, [])), (70, (9, 3, 75, 0, [])), (73, (1, 2, 5, 0, [])), (75, (2, 2, 5, 0, [])), (77, (1, 1, 0, 1, [])), (78, (26, 3, 0, 0, [(12, 154)])), (81, (3, 3, 6, 1, [])), (84, (9, 3, 23, 0, [])), (87, (1, 2, 4, 0, [])), (89, (21, 1, 0, 0, []))]
theorem os_X12_bestFor : oA MT mX12_bestFor ops_X12_bestFor := (oA.cons oX12_bestFor_0 (oA.cons oX12_bestFor_1 (oA.cons oX12_bestFor_2 (oA.cons oX12_bestFor_5 (oA.cons oX12_bestFor_8 (oA.cons oX12_bestFor_9 (oA.cons oX12_bestFor_10 (oA.cons oX12_bestFor_11 (oA.cons oX12_bestFor_13 (oA.cons oX12_bestFor_14 (oA.cons oX12_bestFor_16 (oA.cons oX12_bestFor_17 (oA.cons oX12_bestFor_20 (oA.cons oX12_bestFor_21 (oA.cons oX12_bestFor_23 (oA.cons oX12_bestFor_25 (oA.cons oX12_bestFor_26 (oA.cons oX12_bestFor_29 (oA.cons oX12_bestFor_30 (oA.cons oX12_bestFor_31 (oA.cons oX12_bestFor_32 (oA.cons oX12_bestFor_34 (oA.cons oX12_bestFor_37 (oA.cons oX12_bestFor_38 (oA.cons oX12_bestFor_40 (oA.cons oX12_bestFor_43 (oA.cons oX12_bestFor_45 (oA.cons oX12_bestFor_47 (oA.cons oX12_bestFor_49 (oA.cons oX12_bestFor_52 (oA.cons oX12_bestFor_54 (oA.cons oX12_bestFor_57 (oA.cons oX12_bestFor_59 (oA.cons oX12_bestFor_61 (oA.cons oX12_bestFor_63 (oA.cons oX12_bestFor_65 (oA.cons oX12_bestFor_68 (oA.cons oX12_bestFor_70 (oA.cons oX12_bestFor_73 (oA.cons oX12_bestFor_75 (oA.cons oX12_bestFor_77 (oA.cons oX12_bestFor_78 (oA.cons oX12_bestFor_81 (oA.cons oX12_bestFor_84 (oA.cons oX12_bestFor_87 (oA.cons oX12_bestFor_89 oA.nil))))))))))))))))))))))))))))))))))))))))))))))
theorem dX12_teethAll_0 : decode cX12_teethAll 0 = .ok (.iconst 0, 1) := by decide +kernel
theorem dX12_teethAll_1 : decode cX12_teethAll 1 = .ok (.istore_n 1, 1) := by decide +kernel
theorem dX12_teethAll_2 : decode cX12_teethAll 2 = .ok (.iconst 0, 1) := by decide +kernel
theorem dX12_teethAll_3 : decode cX12_teethAll 3 = .ok (.istore_n 2, 1) := by decide +kernel
theorem dX12_teethAll_4 : decode cX12_teethAll 4 = .ok (.iload_n 2, 1) := by decide +kernel
theorem dX12_teethAll_5 : decode cX12_teethAll 5 = .ok (.aload_n 0, 1) := by decide +kernel
theorem dX12_teethAll_6 : decode cX12_teethAll 6 = .ok (.getfield 9, 3) := by decide +kernel
theorem dX12_teethAll_9 : decode cX12_teethAll 9 = .ok (.iconst 4, 1) := by decide +kernel
theorem dX12_teethAll_10 : decode cX12_teethAll 10 = .ok (.iaload, 1) := by decide +kernel
theorem dX12_teethAll_11 : decode cX12_teethAll 11 = .ok (.if_icmp .ge 18, 3) := by decide +kernel
theorem dX12_teethAll_14 : decode cX12_teethAll 14 = .ok (.iload_n 1, 1) := by decide +kernel
theorem dX12_teethAll_15 : decode cX12_teethAll 15 = .ok (.aload_n 0, 1) := by decide +kernel
theorem dX12_teethAll_16 : decode cX12_teethAll 16 = .ok (.iload_n 2, 1) := by decide +kernel
theorem dX12_teethAll_17 : decode cX12_teethAll 17 = .ok (.iconst 1, 1) := by decide +kernel
theorem dX12_teethAll_18 : decode cX12_teethAll 18 = .ok (.invokevirtual 79, 3) := by decide +kernel
theorem dX12_teethAll_21 : decode cX12_teethAll 21 = .ok (.iadd, 1) := by decide +kernel
theorem dX12_teethAll_22 : decode cX12_teethAll 22 = .ok (.istore_n 1, 1) := by decide +kernel
theorem dX12_teethAll_23 : decode cX12_teethAll 23 = .ok (.iinc 2 1, 3) := by decide +kernel
theorem dX12_teethAll_26 : decode cX12_teethAll 26 = .ok (.goto (-22), 3) := by decide +kernel
theorem dX12_teethAll_29 : decode cX12_teethAll 29 = .ok (.iload_n 1, 1) := by decide +kernel
theorem dX12_teethAll_30 : decode cX12_teethAll 30 = .ok (.ireturn, 1) := by decide +kernel
theorem oX12_teethAll_0 : oP MT mX12_teethAll 0 (0, 1, 0, 0, []) := o_iconst dX12_teethAll_0 (by decide)
theorem oX12_teethAll_1 : oP MT mX12_teethAll 1 (2, 1, 1, 0, []) := o_istore_n dX12_teethAll_1 rfl (by decide)
theorem oX12_teethAll_2 : oP MT mX12_teethAll 2 (0, 1, 0, 0, []) := o_iconst dX12_teethAll_2 (by decide)
theorem oX12_teethAll_3 : oP MT mX12_teethAll 3 (2, 1, 2, 0, []) := o_istore_n dX12_teethAll_3 rfl (by decide)
theorem oX12_teethAll_4 : oP MT mX12_teethAll 4 (1, 1, 2, 0, []) := o_iload_n dX12_teethAll_4 rfl
theorem oX12_teethAll_5 : oP MT mX12_teethAll 5 (1, 1, 0, 1, []) := o_aload_n dX12_teethAll_5 rfl
theorem oX12_teethAll_6 : oP MT mX12_teethAll 6 (13, 3, 0, 12, []) := o_getR (M := mX12_teethAll) (C := RX12) (T := TX12) (ci := 12) (j := 0) (z := 12) dX12_teethAll_6 rfl lq_RX12_9 rfl rfl
theorem oX12_teethAll_9 : oP MT mX12_teethAll 9 (0, 1, 0, 4, []) := o_iconst dX12_teethAll_9 (by decide)
theorem oX12_teethAll_10 : oP MT mX12_teethAll 10 (16, 1, 1, 0, []) := o_iaload dX12_teethAll_10
theorem oX12_teethAll_11 : oP MT mX12_teethAll 11 (11, 3, 3, 29, []) := o_icmp_ge dX12_teethAll_11 (by decide) (by decide)
theorem oX12_teethAll_14 : oP MT mX12_teethAll 14 (1, 1, 1, 0, []) := o_iload_n dX12_teethAll_14 rfl
theorem oX12_teethAll_15 : oP MT mX12_teethAll 15 (1, 1, 0, 1, []) := o_aload_n dX12_teethAll_15 rfl
theorem oX12_teethAll_16 : oP MT mX12_teethAll 16 (1, 1, 2, 0, []) := o_iload_n dX12_teethAll_16 rfl
theorem oX12_teethAll_17 : oP MT mX12_teethAll 17 (0, 1, 0, 1, []) := o_iconst dX12_teethAll_17 (by decide)
theorem oX12_teethAll_18 : oP MT mX12_teethAll 18 (26, 3, 0, 2, [(12, 112)]) := o_callO ((vA.cons (v_callV dX12_teethAll_18 (ci := 12) rfl rfl (mj := mX12_get) mt_X12_get cmq_X12_get wq_435 wq_437 wq_438 (by decide) (by decide)) vA.nil))
theorem oX12_teethAll_21 : oP MT mX12_teethAll 21 (4, 1, 0, 0, []) := o_iadd dX12_teethAll_21
theorem oX12_teethAll_22 : oP MT mX12_teethAll 22 (2, 1, 1, 0, []) := o_istore_n dX12_teethAll_22 rfl (by decide)
theorem oX12_teethAll_23 : oP MT mX12_teethAll 23 (3, 3, 2, 1, []) := o_iinc dX12_teethAll_23 (by decide) (by decide)
theorem oX12_teethAll_26 : oP MT mX12_teethAll 26 (9, 3, 4, 0, []) := o_goto dX12_teethAll_26 (by decide)
theorem oX12_teethAll_29 : oP MT mX12_teethAll 29 (1, 1, 1, 0, []) := o_iload_n dX12_teethAll_29 rfl
theorem oX12_teethAll_30 : oP MT mX12_teethAll 30 (21, 1, 0, 0, []) := o_iret dX12_teethAll_30 rfl
def ops_X12_teethAll : List (Nat × aO) := [(0, (0, 1, 0, 0, [])), (1, (2, 1, 1, 0, [])), (2, (0, 1, 0, 0, [])), (3, (2, 1, 2, 0, [])), (4, (1, 1, 2, 0, [])), (5, (1, 1, 0, 1, [])), (6, (13, 3, 0, 12, [])), (9, (0, 1, 0, 4, [])), (10, (16, 1, 1, 0, [])), (11, (11, 3, 3, 29, [])), (14, (1, 1, 1, 0, [])), (15, (1, 1, 0, 1, [])), (16, (1, 1, 2, 0, [])), (17, (0, 1, 0, 1, [])), (18, (26, 3, 0, 2, [(12, 112)])), (21, (4, 1, 0, 0, [])), (22, (2, 1, 1, 0, [])), (23, (3, 3, 2, 1, [])), (26, (9, 3, 4, 0, [])), (29, (1, 1, 1, 0, [])), (30, (21, 1, 0, 0, []))]
theorem os_X12_teethAll : oA MT mX12_teethAll ops_X12_teethAll := (oA.cons oX12_teethAll_0 (oA.cons oX12_teethAll_1 (oA.cons oX12_teethAll_2 (oA.cons oX12_teethAll_3 (oA.cons oX12_teethAll_4 (oA.cons oX12_teethAll_5 (oA.cons oX12_teethAll_6 (oA.cons oX12_teethAll_9 (oA.cons oX12_teethAll_10 (oA.cons oX12_teethAll_11 (oA.cons oX12_teethAll_14 (oA.cons oX12_teethAll_15 (oA.cons oX12_teethAll_16 (oA.cons oX12_teethAll_17 (oA.cons oX12_teethAll_18 (oA.cons oX12_teethAll_21 (oA.cons oX12_teethAll_22 (oA.cons oX12_teethAll_23 (oA.cons oX12_teethAll_26 (oA.cons oX12_teethAll_29 (oA.cons oX12_teethAll_30 oA.nil)))))))))))))))))))))
theorem dX12_those_0 : decode cX12_those 0 = .ok (.iconst 0, 1) := by decide +kernel
theorem dX12_those_1 : decode cX12_those 1 = .ok (.istore_n 2, 1) := by decide +kernel
theorem dX12_those_2 : decode cX12_those 2 = .ok (.iconst 0, 1) := by decide +kernel
theorem dX12_those_3 : decode cX12_those 3 = .ok (.istore_n 3, 1) := by decide +kernel
theorem dX12_those_4 : decode cX12_those 4 = .ok (.iload_n 3, 1) := by decide +kernel
theorem dX12_those_5 : decode cX12_those 5 = .ok (.aload_n 0, 1) := by decide +kernel
theorem dX12_those_6 : decode cX12_those 6 = .ok (.getfield 9, 3) := by decide +kernel
theorem dX12_those_9 : decode cX12_those 9 = .ok (.iconst 4, 1) := by decide +kernel
theorem dX12_those_10 : decode cX12_those 10 = .ok (.iaload, 1) := by decide +kernel
theorem dX12_those_11 : decode cX12_those 11 = .ok (.if_icmp .ge 28, 3) := by decide +kernel
theorem dX12_those_14 : decode cX12_those 14 = .ok (.iload_n 2, 1) := by decide +kernel
theorem dX12_those_15 : decode cX12_those 15 = .ok (.aload_n 0, 1) := by decide +kernel
theorem dX12_those_16 : decode cX12_those 16 = .ok (.iload_n 3, 1) := by decide +kernel
theorem dX12_those_17 : decode cX12_those 17 = .ok (.iload_n 1, 1) := by decide +kernel
theorem dX12_those_18 : decode cX12_those 18 = .ok (.invokevirtual 79, 3) := by decide +kernel
theorem dX12_those_21 : decode cX12_those 21 = .ok (.ifCond .le 9, 3) := by decide +kernel
theorem dX12_those_24 : decode cX12_those 24 = .ok (.iconst 1, 1) := by decide +kernel
theorem dX12_those_25 : decode cX12_those 25 = .ok (.iload_n 3, 1) := by decide +kernel
theorem dX12_those_26 : decode cX12_those 26 = .ok (.ishl, 1) := by decide +kernel
theorem dX12_those_27 : decode cX12_those 27 = .ok (.goto 4, 3) := by decide +kernel
theorem dX12_those_30 : decode cX12_those 30 = .ok (.iconst 0, 1) := by decide +kernel
theorem dX12_those_31 : decode cX12_those 31 = .ok (.ior, 1) := by decide +kernel
theorem dX12_those_32 : decode cX12_those 32 = .ok (.istore_n 2, 1) := by decide +kernel
theorem dX12_those_33 : decode cX12_those 33 = .ok (.iinc 3 1, 3) := by decide +kernel
theorem dX12_those_36 : decode cX12_those 36 = .ok (.goto (-32), 3) := by decide +kernel
theorem dX12_those_39 : decode cX12_those 39 = .ok (.iload_n 2, 1) := by decide +kernel
theorem dX12_those_40 : decode cX12_those 40 = .ok (.ireturn, 1) := by decide +kernel
theorem oX12_those_0 : oP MT mX12_those 0 (0, 1, 0, 0, []) := o_iconst dX12_those_0 (by decide)
theorem oX12_those_1 : oP MT mX12_those 1 (2, 1, 2, 0, []) := o_istore_n dX12_those_1 rfl (by decide)
theorem oX12_those_2 : oP MT mX12_those 2 (0, 1, 0, 0, []) := o_iconst dX12_those_2 (by decide)
theorem oX12_those_3 : oP MT mX12_those 3 (2, 1, 3, 0, []) := o_istore_n dX12_those_3 rfl (by decide)
theorem oX12_those_4 : oP MT mX12_those 4 (1, 1, 3, 0, []) := o_iload_n dX12_those_4 rfl
theorem oX12_those_5 : oP MT mX12_those 5 (1, 1, 0, 1, []) := o_aload_n dX12_those_5 rfl
theorem oX12_those_6 : oP MT mX12_those 6 (13, 3, 0, 12, []) := o_getR (M := mX12_those) (C := RX12) (T := TX12) (ci := 12) (j := 0) (z := 12) dX12_those_6 rfl lq_RX12_9 rfl rfl
theorem oX12_those_9 : oP MT mX12_those 9 (0, 1, 0, 4, []) := o_iconst dX12_those_9 (by decide)
theorem oX12_those_10 : oP MT mX12_those 10 (16, 1, 1, 0, []) := o_iaload dX12_those_10
theorem oX12_those_11 : oP MT mX12_those 11 (11, 3, 3, 39, []) := o_icmp_ge dX12_those_11 (by decide) (by decide)
theorem oX12_those_14 : oP MT mX12_those 14 (1, 1, 2, 0, []) := o_iload_n dX12_those_14 rfl
theorem oX12_those_15 : oP MT mX12_those 15 (1, 1, 0, 1, []) := o_aload_n dX12_those_15 rfl
theorem oX12_those_16 : oP MT mX12_those 16 (1, 1, 3, 0, []) := o_iload_n dX12_those_16 rfl
theorem oX12_those_17 : oP MT mX12_those 17 (1, 1, 1, 0, []) := o_iload_n dX12_those_17 rfl
theorem oX12_those_18 : oP MT mX12_those 18 (26, 3, 0, 2, [(12, 112)]) := o_callO ((vA.cons (v_callV dX12_those_18 (ci := 12) rfl rfl (mj := mX12_get) mt_X12_get cmq_X12_get wq_435 wq_437 wq_438 (by decide) (by decide)) vA.nil))
theorem oX12_those_21 : oP MT mX12_those 21 (10, 3, 5, 30, []) := o_if_le dX12_those_21 (by decide) (by decide)
theorem oX12_those_24 : oP MT mX12_those 24 (0, 1, 0, 1, []) := o_iconst dX12_those_24 (by decide)
theorem oX12_those_25 : oP MT mX12_those 25 (1, 1, 3, 0, []) := o_iload_n dX12_those_25 rfl
theorem oX12_those_26 : oP MT mX12_those 26 (4, 1, 6, 0, []) := o_ishl dX12_those_26
theorem oX12_those_27 : oP MT mX12_those 27 (9, 3, 31, 0, []) := o_goto dX12_those_27 (by decide)
theorem oX12_those_30 : oP MT mX12_those 30 (0, 1, 0, 0, []) := o_iconst dX12_those_30 (by decide)
theorem oX12_those_31 : oP MT mX12_those 31 (4, 1, 4, 0, []) := o_ior dX12_those_31
theorem oX12_those_32 : oP MT mX12_those 32 (2, 1, 2, 0, []) := o_istore_n dX12_those_32 rfl (by decide)
theorem oX12_those_33 : oP MT mX12_those 33 (3, 3, 3, 1, []) := o_iinc dX12_those_33 (by decide) (by decide)
theorem oX12_those_36 : oP MT mX12_those 36 (9, 3, 4, 0, []) := o_goto dX12_those_36 (by decide)
theorem oX12_those_39 : oP MT mX12_those 39 (1, 1, 2, 0, []) := o_iload_n dX12_those_39 rfl
theorem oX12_those_40 : oP MT mX12_those 40 (21, 1, 0, 0, []) := o_iret dX12_those_40 rfl
def ops_X12_those : List (Nat × aO) := [(0, (0, 1, 0, 0, [])), (1, (2, 1, 2, 0, [])), (2, (0, 1, 0, 0, [])), (3, (2, 1, 3, 0, [])), (4, (1, 1, 3, 0, [])), (5, (1, 1, 0, 1, [])), (6, (13, 3, 0, 12, [])), (9, (0, 1, 0, 4, [])), (10, (16, 1, 1, 0, [])), (11, (11, 3, 3, 39, [])), (14, (1, 1, 2, 0, [])), (15, (1, 1, 0, 1, [])), (16, (1, 1, 3, 0, [])), (17, (1, 1, 1, 0, [])), (18, (26, 3, 0, 2, [(12, 112)])), (21, (10, 3, 5, 30, [])), (24, (0, 1, 0, 1, [])), (25, (1, 1, 3, 0, [])), (26, (4, 1, 6, 0, [])), (27, (9, 3, 31, 0, [])), (30, (0, 1, 0, 0, [])), (31, (4, 1, 4, 0, [])), (32, (2, 1, 2, 0, [])), (33, (3, 3, 3, 1, [])), (36, (9, 3, 4, 0, [])), (39, (1, 1, 2, 0, [])), (40, (21, 1, 0, 0, []))]
theorem os_X12_those : oA MT mX12_those ops_X12_those := (oA.cons oX12_those_0 (oA.cons oX12_those_1 (oA.cons oX12_those_2 (oA.cons oX12_those_3 (oA.cons oX12_those_4 (oA.cons oX12_those_5 (oA.cons oX12_those_6 (oA.cons oX12_those_9 (oA.cons oX12_those_10 (oA.cons oX12_those_11 (oA.cons oX12_those_14 (oA.cons oX12_those_15 (oA.cons oX12_those_16 (oA.cons oX12_those_17 (oA.cons oX12_those_18 (oA.cons oX12_those_21 (oA.cons oX12_those_24 (oA.cons oX12_those_25 (oA.cons oX12_those_26 (oA.cons oX12_those_27 (oA.cons oX12_those_30 (oA.cons oX12_those_31 (oA.cons oX12_those_32 (oA.cons oX12_those_33 (oA.cons oX12_those_36 (oA.cons oX12_those_39 (oA.cons oX12_those_40 oA.nil)))))))))))))))))))))))))))
theorem dX12_bunchOf_0 : decode cX12_bunchOf 0 = .ok (.iconst 1, 1) := by decide +kernel
theorem dX12_bunchOf_1 : decode cX12_bunchOf 1 = .ok (.iload_n 1, 1) := by decide +kernel
theorem dX12_bunchOf_2 : decode cX12_bunchOf 2 = .ok (.ishl, 1) := by decide +kernel
theorem dX12_bunchOf_3 : decode cX12_bunchOf 3 = .ok (.istore_n 2, 1) := by decide +kernel
theorem dX12_bunchOf_4 : decode cX12_bunchOf 4 = .ok (.iconst 0, 1) := by decide +kernel
theorem dX12_bunchOf_5 : decode cX12_bunchOf 5 = .ok (.istore_n 3, 1) := by decide +kernel
theorem dX12_bunchOf_6 : decode cX12_bunchOf 6 = .ok (.iload_n 3, 1) := by decide +kernel
theorem dX12_bunchOf_7 : decode cX12_bunchOf 7 = .ok (.aload_n 0, 1) := by decide +kernel
theorem dX12_bunchOf_8 : decode cX12_bunchOf 8 = .ok (.getfield 9, 3) := by decide +kernel
theorem dX12_bunchOf_11 : decode cX12_bunchOf 11 = .ok (.iconst 4, 1) := by decide +kernel
theorem dX12_bunchOf_12 : decode cX12_bunchOf 12 = .ok (.iaload, 1) := by decide +kernel
theorem dX12_bunchOf_13 : decode cX12_bunchOf 13 = .ok (.if_icmp .ge 81, 3) := by decide +kernel
theorem dX12_bunchOf_16 : decode cX12_bunchOf 16 = .ok (.iconst 0, 1) := by decide +kernel
theorem dX12_bunchOf_17 : decode cX12_bunchOf 17 = .ok (.istore 4, 2) := by decide +kernel
theorem dX12_bunchOf_19 : decode cX12_bunchOf 19 = .ok (.iload 4, 2) := by decide +kernel
theorem dX12_bunchOf_21 : decode cX12_bunchOf 21 = .ok (.aload_n 0, 1) := by decide +kernel
theorem dX12_bunchOf_22 : decode cX12_bunchOf 22 = .ok (.getfield 9, 3) := by decide +kernel
theorem dX12_bunchOf_25 : decode cX12_bunchOf 25 = .ok (.iconst 4, 1) := by decide +kernel
theorem dX12_bunchOf_26 : decode cX12_bunchOf 26 = .ok (.iaload, 1) := by decide +kernel
theorem dX12_bunchOf_27 : decode cX12_bunchOf 27 = .ok (.if_icmp .ge 61, 3) := by decide +kernel
theorem dX12_bunchOf_30 : decode cX12_bunchOf 30 = .ok (.iconst 0, 1) := by decide +kernel
theorem dX12_bunchOf_31 : decode cX12_bunchOf 31 = .ok (.istore 5, 2) := by decide +kernel
theorem dX12_bunchOf_33 : decode cX12_bunchOf 33 = .ok (.iload 5, 2) := by decide +kernel
theorem dX12_bunchOf_35 : decode cX12_bunchOf 35 = .ok (.aload_n 0, 1) := by decide +kernel
theorem dX12_bunchOf_36 : decode cX12_bunchOf 36 = .ok (.getfield 9, 3) := by decide +kernel
theorem dX12_bunchOf_39 : decode cX12_bunchOf 39 = .ok (.iconst 4, 1) := by decide +kernel
theorem dX12_bunchOf_40 : decode cX12_bunchOf 40 = .ok (.iaload, 1) := by decide +kernel
theorem dX12_bunchOf_41 : decode cX12_bunchOf 41 = .ok (.if_icmp .ge 41, 3) := by decide +kernel
theorem dX12_bunchOf_44 : decode cX12_bunchOf 44 = .ok (.iload_n 2, 1) := by decide +kernel
theorem dX12_bunchOf_45 : decode cX12_bunchOf 45 = .ok (.iload_n 2, 1) := by decide +kernel
theorem dX12_bunchOf_46 : decode cX12_bunchOf 46 = .ok (.iload 4, 2) := by decide +kernel
theorem dX12_bunchOf_48 : decode cX12_bunchOf 48 = .ok (.ishr, 1) := by decide +kernel
theorem dX12_bunchOf_49 : decode cX12_bunchOf 49 = .ok (.iconst 1, 1) := by decide +kernel
theorem dX12_bunchOf_50 : decode cX12_bunchOf 50 = .ok (.iand, 1) := by decide +kernel
theorem dX12_bunchOf_51 : decode cX12_bunchOf 51 = .ok (.iconst 1, 1) := by decide +kernel
theorem dX12_bunchOf_52 : decode cX12_bunchOf 52 = .ok (.if_icmp .ne 21, 3) := by decide +kernel
theorem dX12_bunchOf_55 : decode cX12_bunchOf 55 = .ok (.aload_n 0, 1) := by decide +kernel
theorem dX12_bunchOf_56 : decode cX12_bunchOf 56 = .ok (.iload 4, 2) := by decide +kernel
theorem dX12_bunchOf_58 : decode cX12_bunchOf 58 = .ok (.iload 5, 2) := by decide +kernel
theorem dX12_bunchOf_60 : decode cX12_bunchOf 60 = .ok (.invokevirtual 253, 3) := by decide +kernel
theorem dX12_bunchOf_63 : decode cX12_bunchOf 63 = .ok (.ifCond .eq 10, 3) := by decide +kernel
theorem dX12_bunchOf_66 : decode cX12_bunchOf 66 = .ok (.iconst 1, 1) := by decide +kernel
theorem dX12_bunchOf_67 : decode cX12_bunchOf 67 = .ok (.iload 5, 2) := by decide +kernel
theorem dX12_bunchOf_69 : decode cX12_bunchOf 69 = .ok (.ishl, 1) := by decide +kernel
theorem dX12_bunchOf_70 : decode cX12_bunchOf 70 = .ok (.goto 4, 3) := by decide +kernel
theorem dX12_bunchOf_73 : decode cX12_bunchOf 73 = .ok (.iconst 0, 1) := by decide +kernel
theorem dX12_bunchOf_74 : decode cX12_bunchOf 74 = .ok (.ior, 1) := by decide +kernel
theorem dX12_bunchOf_75 : decode cX12_bunchOf 75 = .ok (.istore_n 2, 1) := by decide +kernel
theorem dX12_bunchOf_76 : decode cX12_bunchOf 76 = .ok (.iinc 5 1, 3) := by decide +kernel
theorem dX12_bunchOf_79 : decode cX12_bunchOf 79 = .ok (.goto (-46), 3) := by decide +kernel
theorem dX12_bunchOf_82 : decode cX12_bunchOf 82 = .ok (.iinc 4 1, 3) := by decide +kernel
theorem dX12_bunchOf_85 : decode cX12_bunchOf 85 = .ok (.goto (-66), 3) := by decide +kernel
theorem dX12_bunchOf_88 : decode cX12_bunchOf 88 = .ok (.iinc 3 1, 3) := by decide +kernel
theorem dX12_bunchOf_91 : decode cX12_bunchOf 91 = .ok (.goto (-85), 3) := by decide +kernel
theorem dX12_bunchOf_94 : decode cX12_bunchOf 94 = .ok (.aload_n 0, 1) := by decide +kernel
theorem dX12_bunchOf_95 : decode cX12_bunchOf 95 = .ok (.iload_n 1, 1) := by decide +kernel
theorem dX12_bunchOf_96 : decode cX12_bunchOf 96 = .ok (.iconst 4, 1) := by decide +kernel
theorem dX12_bunchOf_97 : decode cX12_bunchOf 97 = .ok (.invokevirtual 79, 3) := by decide +kernel
theorem dX12_bunchOf_100 : decode cX12_bunchOf 100 = .ok (.iconst 1, 1) := by decide +kernel
theorem dX12_bunchOf_101 : decode cX12_bunchOf 101 = .ok (.if_icmp .ne 7, 3) := by decide +kernel
theorem dX12_bunchOf_104 : decode cX12_bunchOf 104 = .ok (.iconst 0, 1) := by decide +kernel
theorem dX12_bunchOf_105 : decode cX12_bunchOf 105 = .ok (.goto 4, 3) := by decide +kernel
theorem dX12_bunchOf_108 : decode cX12_bunchOf 108 = .ok (.iload_n 2, 1) := by decide +kernel
theorem dX12_bunchOf_109 : decode cX12_bunchOf 109 = .ok (.ireturn, 1) := by decide +kernel
theorem oX12_bunchOf_0 : oP MT mX12_bunchOf 0 (0, 1, 0, 1, []) := o_iconst dX12_bunchOf_0 (by decide)
theorem oX12_bunchOf_1 : oP MT mX12_bunchOf 1 (1, 1, 1, 0, []) := o_iload_n dX12_bunchOf_1 rfl
theorem oX12_bunchOf_2 : oP MT mX12_bunchOf 2 (4, 1, 6, 0, []) := o_ishl dX12_bunchOf_2
theorem oX12_bunchOf_3 : oP MT mX12_bunchOf 3 (2, 1, 2, 0, []) := o_istore_n dX12_bunchOf_3 rfl (by decide)
theorem oX12_bunchOf_4 : oP MT mX12_bunchOf 4 (0, 1, 0, 0, []) := o_iconst dX12_bunchOf_4 (by decide)
theorem oX12_bunchOf_5 : oP MT mX12_bunchOf 5 (2, 1, 3, 0, []) := o_istore_n dX12_bunchOf_5 rfl (by decide)
theorem oX12_bunchOf_6 : oP MT mX12_bunchOf 6 (1, 1, 3, 0, []) := o_iload_n dX12_bunchOf_6 rfl
theorem oX12_bunchOf_7 : oP MT mX12_bunchOf 7 (1, 1, 0, 1, []) := o_aload_n dX12_bunchOf_7 rfl
theorem oX12_bunchOf_8 : oP MT mX12_bunchOf 8 (13, 3, 0, 12, []) := o_getR (M := mX12_bunchOf) (C := RX12) (T := TX12) (ci := 12) (j := 0) (z := 12) dX12_bunchOf_8 rfl lq_RX12_9 rfl rfl
theorem oX12_bunchOf_11 : oP MT mX12_bunchOf 11 (0, 1, 0, 4, []) := o_iconst dX12_bunchOf_11 (by decide)
theorem oX12_bunchOf_12 : oP MT mX12_bunchOf 12 (16, 1, 1, 0, []) := o_iaload dX12_bunchOf_12
theorem oX12_bunchOf_13 : oP MT mX12_bunchOf 13 (11, 3, 3, 94, []) := o_icmp_ge dX12_bunchOf_13 (by decide) (by decide)
theorem oX12_bunchOf_16 : oP MT mX12_bunchOf 16 (0, 1, 0, 0, []) := o_iconst dX12_bunchOf_16 (by decide)
theorem oX12_bunchOf_17 : oP MT mX12_bunchOf 17 (2, 2, 4, 0, []) := o_istore dX12_bunchOf_17 (by decide)
theorem oX12_bunchOf_19 : oP MT mX12_bunchOf 19 (1, 2, 4, 0, []) := o_iload dX12_bunchOf_19
theorem oX12_bunchOf_21 : oP MT mX12_bunchOf 21 (1, 1, 0, 1, []) := o_aload_n dX12_bunchOf_21 rfl
theorem oX12_bunchOf_22 : oP MT mX12_bunchOf 22 (13, 3, 0, 12, []) := o_getR (M := mX12_bunchOf) (C := RX12) (T := TX12) (ci := 12) (j := 0) (z := 12) dX12_bunchOf_22 rfl lq_RX12_9 rfl rfl
theorem oX12_bunchOf_25 : oP MT mX12_bunchOf 25 (0, 1, 0, 4, []) := o_iconst dX12_bunchOf_25 (by decide)
theorem oX12_bunchOf_26 : oP MT mX12_bunchOf 26 (16, 1, 1, 0, []) := o_iaload dX12_bunchOf_26
theorem oX12_bunchOf_27 : oP MT mX12_bunchOf 27 (11, 3, 3, 88, []) := o_icmp_ge dX12_bunchOf_27 (by decide) (by decide)
theorem oX12_bunchOf_30 : oP MT mX12_bunchOf 30 (0, 1, 0, 0, []) := o_iconst dX12_bunchOf_30 (by decide)
theorem oX12_bunchOf_31 : oP MT mX12_bunchOf 31 (2, 2, 5, 0, []) := o_istore dX12_bunchOf_31 (by decide)
theorem oX12_bunchOf_33 : oP MT mX12_bunchOf 33 (1, 2, 5, 0, []) := o_iload dX12_bunchOf_33
theorem oX12_bunchOf_35 : oP MT mX12_bunchOf 35 (1, 1, 0, 1, []) := o_aload_n dX12_bunchOf_35 rfl
theorem oX12_bunchOf_36 : oP MT mX12_bunchOf 36 (13, 3, 0, 12, []) := o_getR (M := mX12_bunchOf) (C := RX12) (T := TX12) (ci := 12) (j := 0) (z := 12) dX12_bunchOf_36 rfl lq_RX12_9 rfl rfl
theorem oX12_bunchOf_39 : oP MT mX12_bunchOf 39 (0, 1, 0, 4, []) := o_iconst dX12_bunchOf_39 (by decide)
theorem oX12_bunchOf_40 : oP MT mX12_bunchOf 40 (16, 1, 1, 0, []) := o_iaload dX12_bunchOf_40
theorem oX12_bunchOf_41 : oP MT mX12_bunchOf 41 (11, 3, 3, 82, []) := o_icmp_ge dX12_bunchOf_41 (by decide) (by decide)
theorem oX12_bunchOf_44 : oP MT mX12_bunchOf 44 (1, 1, 2, 0, []) := o_iload_n dX12_bunchOf_44 rfl
theorem oX12_bunchOf_45 : oP MT mX12_bunchOf 45 (1, 1, 2, 0, []) := o_iload_n dX12_bunchOf_45 rfl
theorem oX12_bunchOf_46 : oP MT mX12_bunchOf 46 (1, 2, 4, 0, []) := o_iload dX12_bunchOf_46
theorem oX12_bunchOf_48 : oP MT mX12_bunchOf 48 (4, 1, 7, 0, []) := o_ishr dX12_bunchOf_48
theorem oX12_bunchOf_49 : oP MT mX12_bunchOf 49 (0, 1, 0, 1, []) := o_iconst dX12_bunchOf_49 (by decide)
theorem oX12_bunchOf_50 : oP MT mX12_bunchOf 50 (4, 1, 3, 0, []) := o_iand dX12_bunchOf_50
theorem oX12_bunchOf_51 : oP MT mX12_bunchOf 51 (0, 1, 0, 1, []) := o_iconst dX12_bunchOf_51 (by decide)
theorem oX12_bunchOf_52 : oP MT mX12_bunchOf 52 (11, 3, 1, 73, []) := o_icmp_ne dX12_bunchOf_52 (by decide) (by decide)
theorem oX12_bunchOf_55 : oP MT mX12_bunchOf 55 (1, 1, 0, 1, []) := o_aload_n dX12_bunchOf_55 rfl
theorem oX12_bunchOf_56 : oP MT mX12_bunchOf 56 (1, 2, 4, 0, []) := o_iload dX12_bunchOf_56
theorem oX12_bunchOf_58 : oP MT mX12_bunchOf 58 (1, 2, 5, 0, []) := o_iload dX12_bunchOf_58
theorem oX12_bunchOf_60 : oP MT mX12_bunchOf 60 (26, 3, 0, 2, [(12, 159)]) := o_callO ((vA.cons (v_callV dX12_bunchOf_60 (ci := 12) rfl rfl (mj := mX12_areClose) mt_X12_areClose cmq_X12_areClose wq_581 wq_583 wq_584 (by decide) (by decide)) vA.nil))
theorem oX12_bunchOf_63 : oP MT mX12_bunchOf 63 (10, 3, 0, 73, []) := o_if_eq dX12_bunchOf_63 (by decide) (by decide)
theorem oX12_bunchOf_66 : oP MT mX12_bunchOf 66 (0, 1, 0, 1, []) := o_iconst dX12_bunchOf_66 (by decide)
theorem oX12_bunchOf_67 : oP MT mX12_bunchOf 67 (1, 2, 5, 0, []) := o_iload dX12_bunchOf_67
theorem oX12_bunchOf_69 : oP MT mX12_bunchOf 69 (4, 1, 6, 0, []) := o_ishl dX12_bunchOf_69
theorem oX12_bunchOf_70 : oP MT mX12_bunchOf 70 (9, 3, 74, 0, []) := o_goto dX12_bunchOf_70 (by decide)
theorem oX12_bunchOf_73 : oP MT mX12_bunchOf 73 (0, 1, 0, 0, []) := o_iconst dX12_bunchOf_73 (by decide)
theorem oX12_bunchOf_74 : oP MT mX12_bunchOf 74 (4, 1, 4, 0, []) := o_ior dX12_bunchOf_74
theorem oX12_bunchOf_75 : oP MT mX12_bunchOf 75 (2, 1, 2, 0, []) := o_istore_n dX12_bunchOf_75 rfl (by decide)
theorem oX12_bunchOf_76 : oP MT mX12_bunchOf 76 (3, 3, 5, 1, []) := o_iinc dX12_bunchOf_76 (by decide) (by decide)
theorem oX12_bunchOf_79 : oP MT mX12_bunchOf 79 (9, 3, 33, 0, []) := o_goto dX12_bunchOf_79 (by decide)
theorem oX12_bunchOf_82 : oP MT mX12_bunchOf 82 (3, 3, 4, 1, []) := o_iinc dX12_bunchOf_82 (by decide) (by decide)
theorem oX12_bunchOf_85 : oP MT mX12_bunchOf 85 (9, 3, 19, 0, []) := o_goto dX12_bunchOf_85 (by decide)
theorem oX12_bunchOf_88 : oP MT mX12_bunchOf 88 (3, 3, 3, 1, []) := o_iinc dX12_bunchOf_88 (by decide) (by decide)
theorem oX12_bunchOf_91 : oP MT mX12_bunchOf 91 (9, 3, 6, 0, []) := o_goto dX12_bunchOf_91 (by decide)
theorem oX12_bunchOf_94 : oP MT mX12_bunchOf 94 (1, 1, 0, 1, []) := o_aload_n dX12_bunchOf_94 rfl
theorem oX12_bunchOf_95 : oP MT mX12_bunchOf 95 (1, 1, 1, 0, []) := o_iload_n dX12_bunchOf_95 rfl
theorem oX12_bunchOf_96 : oP MT mX12_bunchOf 96 (0, 1, 0, 4, []) := o_iconst dX12_bunchOf_96 (by decide)
theorem oX12_bunchOf_97 : oP MT mX12_bunchOf 97 (26, 3, 0, 2, [(12, 112)]) := o_callO ((vA.cons (v_callV dX12_bunchOf_97 (ci := 12) rfl rfl (mj := mX12_get) mt_X12_get cmq_X12_get wq_435 wq_437 wq_438 (by decide) (by decide)) vA.nil))
theorem oX12_bunchOf_100 : oP MT mX12_bunchOf 100 (0, 1, 0, 1, []) := o_iconst dX12_bunchOf_100 (by decide)
theorem oX12_bunchOf_101 : oP MT mX12_bunchOf 101 (11, 3, 1, 108, []) := o_icmp_ne dX12_bunchOf_101 (by decide) (by decide)
theorem oX12_bunchOf_104 : oP MT mX12_bunchOf 104 (0, 1, 0, 0, []) := o_iconst dX12_bunchOf_104 (by decide)
theorem oX12_bunchOf_105 : oP MT mX12_bunchOf 105 (9, 3, 109, 0, []) := o_goto dX12_bunchOf_105 (by decide)
theorem oX12_bunchOf_108 : oP MT mX12_bunchOf 108 (1, 1, 2, 0, []) := o_iload_n dX12_bunchOf_108 rfl
theorem oX12_bunchOf_109 : oP MT mX12_bunchOf 109 (21, 1, 0, 0, []) := o_iret dX12_bunchOf_109 rfl
def ops_X12_bunchOf : List (Nat × aO) := [(0, (0, 1, 0, 1, [])), (1, (1, 1, 1, 0, [])), (2, (4, 1, 6, 0, [])), (3, (2, 1, 2, 0, [])), (4, (0, 1, 0, 0, [])), (5, (2, 1, 3, 0, [])), (6, (1, 1, 3, 0, [])), (7, (1, 1, 0, 1, [])), (8, (13, 3, 0, 12, [])), (11, (0, 1, 0, 4, [])), (12, (16, 1, 1, 0, [])), (13, (11, 3, 3, 94, [])), (16, (0, 1, 0, 0, [])), (17, (2, 2, 4, 0, [])), (19, (1, 2, 4, 0, [])), (21, (1, 1, 0, 1, [])), (22, (13, 3, 0, 12, [])), (25, (0, 1, 0, 4, [])), (26, (16, 1, 1, 0, [])), (27, (11, 3, 3, 88, [])), (30, (0, 1, 0, 0, [])), (31, (2, 2, 5, 0, [])), (33, (1, 2, 5, 0, [])), (35, (1, 1, 0, 1, [])), (36, (13, 3, 0, 12, [])), (39, (0, 1, 0, 4, [])), (40, (16, 1, 1, 0, [])), (41, (11, 3, 3, 82, [])), (44, (1, 1, 2, 0, [])), (45, (1, 1, 2, 0, [])), (46, (1, 2, 4, 0, [])), (48, (4, 1, 7, 0, [])), (49, (0, 1, 0, 1, [])), (50, (4, 1, 3, 0, [])), (51, (0, 1, 0, 1, [])), (52, (11, 3, 1, 73, [])), (55, (1, 1, 0, 1, [])), (56, (1, 2, 4, 0, [])), (58, (1, 2, 5, 0, [])), (60, (26, 3, 0, 2, [(12, 159)])), (63, (10, 3, 0, 73, [])), (66, (0, 1, 0, 1, [])), (67, (1, 2, 5, 0, [])), (69, (4, 1, 6, 0, [])), (70, (9, 3, 74, 0, [])), (73, (0, 1, 0, 0, [])), (74, (4, 1, 4, 0, [])), (75, (2, 1, 2, 0, [])), (76, (3, 3, 5, 1, [])), (79, (9, 3, 33, 0, [])), (82, (3, 3, 4, 1, [])), (85, (9, 3, 19, 0, [])), (88, (3, 3, 3, 1, [])), (91, (9, 3, 6, 0, [])), (94, (1, 1, 0, 1, [])), (95, (1, 1, 1, 0, [])), (96, (0, 1, 0, 4, [])), (97, (26, 3, 0, 2, [(12, 112)])), (100, (0, 1, 0, 1, [])), (101, (11, 3, 1, 108, [])), (104, (0, 1, 0, 0, [])), (105, (9, 3, 109, 0, [])), (108, (1, 1, 2, 0, [])), (109, (21, 1, 0, 0, []))]
theorem os_X12_bunchOf : oA MT mX12_bunchOf ops_X12_bunchOf := (oA.cons oX12_bunchOf_0 (oA.cons oX12_bunchOf_1 (oA.cons oX12_bunchOf_2 (oA.cons oX12_bunchOf_3 (oA.cons oX12_bunchOf_4 (oA.cons oX12_bunchOf_5 (oA.cons oX12_bunchOf_6 (oA.cons oX12_bunchOf_7 (oA.cons oX12_bunchOf_8 (oA.cons oX12_bunchOf_11 (oA.cons oX12_bunchOf_12 (oA.cons oX12_bunchOf_13 (oA.cons oX12_bunchOf_16 (oA.cons oX12_bunchOf_17 (oA.cons oX12_bunchOf_19 (oA.cons oX12_bunchOf_21 (oA.cons oX12_bunchOf_22 (oA.cons oX12_bunchOf_25 (oA.cons oX12_bunchOf_26 (oA.cons oX12_bunchOf_27 (oA.cons oX12_bunchOf_30 (oA.cons oX12_bunchOf_31 (oA.cons oX12_bunchOf_33 (oA.cons oX12_bunchOf_35 (oA.cons oX12_bunchOf_36 (oA.cons oX12_bunchOf_39 (oA.cons oX12_bunchOf_40 (oA.cons oX12_bunchOf_41 (oA.cons oX12_bunchOf_44 (oA.cons oX12_bunchOf_45 (oA.cons oX12_bunchOf_46 (oA.cons oX12_bunchOf_48 (oA.cons oX12_bunchOf_49 (oA.cons oX12_bunchOf_50 (oA.cons oX12_bunchOf_51 (oA.cons oX12_bunchOf_52 (oA.cons oX12_bunchOf_55 (oA.cons oX12_bunchOf_56 (oA.cons oX12_bunchOf_58 (oA.cons oX12_bunchOf_60 (oA.cons oX12_bunchOf_63 (oA.cons oX12_bunchOf_66 (oA.cons oX12_bunchOf_67 (oA.cons oX12_bunchOf_69 (oA.cons oX12_bunchOf_70 (oA.cons oX12_bunchOf_73 (oA.cons oX12_bunchOf_74 (oA.cons oX12_bunchOf_75 (oA.cons oX12_bunchOf_76 (oA.cons oX12_bunchOf_79 (oA.cons oX12_bunchOf_82 (oA.cons oX12_bunchOf_85 (oA.cons oX12_bunchOf_88 (oA.cons oX12_bunchOf_91 (oA.cons oX12_bunchOf_94 (oA.cons oX12_bunchOf_95 (oA.cons oX12_bunchOf_96 (oA.cons oX12_bunchOf_97 (oA.cons oX12_bunchOf_100 (oA.cons oX12_bunchOf_101 (oA.cons oX12_bunchOf_104 (oA.cons oX12_bunchOf_105 (oA.cons oX12_bunchOf_108 (oA.cons oX12_bunchOf_109 oA.nil))))))))))))))))))))))))))))))))))))))))))))))))))))))))))))))))
theorem dX12_areClose_0 : decode cX12_areClose 0 = .ok (.aload_n 0, 1) := by decide +kernel
theorem dX12_areClose_1 : decode cX12_areClose 1 = .ok (.iload_n 1, 1) := by decide +kernel
theorem dX12_areClose_2 : decode cX12_areClose 2 = .ok (.iconst 3, 1) := by decide +kernel
theorem dX12_areClose_3 : decode cX12_areClose 3 = .ok (.invokevirtual 79, 3) := by decide +kernel
theorem dX12_areClose_6 : decode cX12_areClose 6 = .ok (.aload_n 0, 1) := by decide +kernel
theorem dX12_areClose_7 : decode cX12_areClose 7 = .ok (.iload_n 2, 1) := by decide +kernel
theorem dX12_areClose_8 : decode cX12_areClose 8 = .ok (.iconst 3, 1) := by decide +kernel
theorem dX12_areClose_9 : decode cX12_areClose 9 = .ok (.invokevirtual 79, 3) := by decide +kernel
theorem dX12_areClose_12 : decode cX12_areClose 12 = .ok (.if_icmp .eq 16, 3) := by decide +kernel
theorem dX12_areClose_15 : decode cX12_areClose 15 = .ok (.aload_n 0, 1) := by decide +kernel
theorem dX12_areClose_16 : decode cX12_areClose 16 = .ok (.iload_n 1, 1) := by decide +kernel
theorem dX12_areClose_17 : decode cX12_areClose 17 = .ok (.invokevirtual 94, 3) := by decide +kernel
theorem dX12_areClose_20 : decode cX12_areClose 20 = .ok (.aload_n 0, 1) := by decide +kernel
theorem dX12_areClose_21 : decode cX12_areClose 21 = .ok (.iload_n 2, 1) := by decide +kernel
theorem dX12_areClose_22 : decode cX12_areClose 22 = .ok (.invokevirtual 94, 3) := by decide +kernel
theorem dX12_areClose_25 : decode cX12_areClose 25 = .ok (.if_icmp .ne 7, 3) := by decide +kernel
theorem dX12_areClose_28 : decode cX12_areClose 28 = .ok (.iconst 1, 1) := by decide +kernel
theorem dX12_areClose_29 : decode cX12_areClose 29 = .ok (.goto 4, 3) := by decide +kernel
theorem dX12_areClose_32 : decode cX12_areClose 32 = .ok (.iconst 0, 1) := by decide +kernel
theorem dX12_areClose_33 : decode cX12_areClose 33 = .ok (.istore_n 3, 1) := by decide +kernel
theorem dX12_areClose_34 : decode cX12_areClose 34 = .ok (.aload_n 0, 1) := by decide +kernel
theorem dX12_areClose_35 : decode cX12_areClose 35 = .ok (.iload_n 1, 1) := by decide +kernel
theorem dX12_areClose_36 : decode cX12_areClose 36 = .ok (.iconst 4, 1) := by decide +kernel
theorem dX12_areClose_37 : decode cX12_areClose 37 = .ok (.invokevirtual 79, 3) := by decide +kernel
theorem dX12_areClose_40 : decode cX12_areClose 40 = .ok (.ifCond .ne 20, 3) := by decide +kernel
theorem dX12_areClose_43 : decode cX12_areClose 43 = .ok (.aload_n 0, 1) := by decide +kernel
theorem dX12_areClose_44 : decode cX12_areClose 44 = .ok (.iload_n 2, 1) := by decide +kernel
theorem dX12_areClose_45 : decode cX12_areClose 45 = .ok (.iconst 4, 1) := by decide +kernel
theorem dX12_areClose_46 : decode cX12_areClose 46 = .ok (.invokevirtual 79, 3) := by decide +kernel
theorem dX12_areClose_49 : decode cX12_areClose 49 = .ok (.ifCond .ne 11, 3) := by decide +kernel
theorem dX12_areClose_52 : decode cX12_areClose 52 = .ok (.iload_n 3, 1) := by decide +kernel
theorem dX12_areClose_53 : decode cX12_areClose 53 = .ok (.ifCond .eq 7, 3) := by decide +kernel
theorem dX12_areClose_56 : decode cX12_areClose 56 = .ok (.iconst 1, 1) := by decide +kernel
theorem dX12_areClose_57 : decode cX12_areClose 57 = .ok (.goto 4, 3) := by decide +kernel
theorem dX12_areClose_60 : decode cX12_areClose 60 = .ok (.iconst 0, 1) := by decide +kernel
theorem dX12_areClose_61 : decode cX12_areClose 61 = .ok (.ireturn, 1) := by decide +kernel
theorem oX12_areClose_0 : oP MT mX12_areClose 0 (1, 1, 0, 1, []) := o_aload_n dX12_areClose_0 rfl
theorem oX12_areClose_1 : oP MT mX12_areClose 1 (1, 1, 1, 0, []) := o_iload_n dX12_areClose_1 rfl
theorem oX12_areClose_2 : oP MT mX12_areClose 2 (0, 1, 0, 3, []) := o_iconst dX12_areClose_2 (by decide)
theorem oX12_areClose_3 : oP MT mX12_areClose 3 (26, 3, 0, 2, [(12, 112)]) := o_callO ((vA.cons (v_callV dX12_areClose_3 (ci := 12) rfl rfl (mj := mX12_get) mt_X12_get cmq_X12_get wq_435 wq_437 wq_438 (by decide) (by decide)) vA.nil))
theorem oX12_areClose_6 : oP MT mX12_areClose 6 (1, 1, 0, 1, []) := o_aload_n dX12_areClose_6 rfl
theorem oX12_areClose_7 : oP MT mX12_areClose 7 (1, 1, 2, 0, []) := o_iload_n dX12_areClose_7 rfl
theorem oX12_areClose_8 : oP MT mX12_areClose 8 (0, 1, 0, 3, []) := o_iconst dX12_areClose_8 (by decide)
theorem oX12_areClose_9 : oP MT mX12_areClose 9 (26, 3, 0, 2, [(12, 112)]) := o_callO ((vA.cons (v_callV dX12_areClose_9 (ci := 12) rfl rfl (mj := mX12_get) mt_X12_get cmq_X12_get wq_435 wq_437 wq_438 (by decide) (by decide)) vA.nil))
theorem oX12_areClose_12 : oP MT mX12_areClose 12 (11, 3, 0, 28, []) := o_icmp_eq dX12_areClose_12 (by decide) (by decide)
theorem oX12_areClose_15 : oP MT mX12_areClose 15 (1, 1, 0, 1, []) := o_aload_n dX12_areClose_15 rfl
theorem oX12_areClose_16 : oP MT mX12_areClose 16 (1, 1, 1, 0, []) := o_iload_n dX12_areClose_16 rfl
theorem oX12_areClose_17 : oP MT mX12_areClose 17 (26, 3, 0, 1, [(12, 123)]) := o_callO ((vA.cons (v_callV dX12_areClose_17 (ci := 12) rfl rfl (mj := mX12_shapeOf) mt_X12_shapeOf cmq_X12_shapeOf wq_454 wq_456 wq_457 (by decide) (by decide)) vA.nil))
theorem oX12_areClose_20 : oP MT mX12_areClose 20 (1, 1, 0, 1, []) := o_aload_n dX12_areClose_20 rfl
theorem oX12_areClose_21 : oP MT mX12_areClose 21 (1, 1, 2, 0, []) := o_iload_n dX12_areClose_21 rfl
theorem oX12_areClose_22 : oP MT mX12_areClose 22 (26, 3, 0, 1, [(12, 123)]) := o_callO ((vA.cons (v_callV dX12_areClose_22 (ci := 12) rfl rfl (mj := mX12_shapeOf) mt_X12_shapeOf cmq_X12_shapeOf wq_454 wq_456 wq_457 (by decide) (by decide)) vA.nil))
theorem oX12_areClose_25 : oP MT mX12_areClose 25 (11, 3, 1, 32, []) := o_icmp_ne dX12_areClose_25 (by decide) (by decide)
theorem oX12_areClose_28 : oP MT mX12_areClose 28 (0, 1, 0, 1, []) := o_iconst dX12_areClose_28 (by decide)
theorem oX12_areClose_29 : oP MT mX12_areClose 29 (9, 3, 33, 0, []) := o_goto dX12_areClose_29 (by decide)
theorem oX12_areClose_32 : oP MT mX12_areClose 32 (0, 1, 0, 0, []) := o_iconst dX12_areClose_32 (by decide)
theorem oX12_areClose_33 : oP MT mX12_areClose 33 (2, 1, 3, 0, []) := o_istore_n dX12_areClose_33 rfl (by decide)
theorem oX12_areClose_34 : oP MT mX12_areClose 34 (1, 1, 0, 1, []) := o_aload_n dX12_areClose_34 rfl
theorem oX12_areClose_35 : oP MT mX12_areClose 35 (1, 1, 1, 0, []) := o_iload_n dX12_areClose_35 rfl
theorem oX12_areClose_36 : oP MT mX12_areClose 36 (0, 1, 0, 4, []) := o_iconst dX12_areClose_36 (by decide)
theorem oX12_areClose_37 : oP MT mX12_areClose 37 (26, 3, 0, 2, [(12, 112)]) := o_callO ((vA.cons (v_callV dX12_areClose_37 (ci := 12) rfl rfl (mj := mX12_get) mt_X12_get cmq_X12_get wq_435 wq_437 wq_438 (by decide) (by decide)) vA.nil))
theorem oX12_areClose_40 : oP MT mX12_areClose 40 (10, 3, 1, 60, []) := o_if_ne dX12_areClose_40 (by decide) (by decide)
theorem oX12_areClose_43 : oP MT mX12_areClose 43 (1, 1, 0, 1, []) := o_aload_n dX12_areClose_43 rfl
theorem oX12_areClose_44 : oP MT mX12_areClose 44 (1, 1, 2, 0, []) := o_iload_n dX12_areClose_44 rfl
theorem oX12_areClose_45 : oP MT mX12_areClose 45 (0, 1, 0, 4, []) := o_iconst dX12_areClose_45 (by decide)
theorem oX12_areClose_46 : oP MT mX12_areClose 46 (26, 3, 0, 2, [(12, 112)]) := o_callO ((vA.cons (v_callV dX12_areClose_46 (ci := 12) rfl rfl (mj := mX12_get) mt_X12_get cmq_X12_get wq_435 wq_437 wq_438 (by decide) (by decide)) vA.nil))
theorem oX12_areClose_49 : oP MT mX12_areClose 49 (10, 3, 1, 60, []) := o_if_ne dX12_areClose_49 (by decide) (by decide)
theorem oX12_areClose_52 : oP MT mX12_areClose 52 (1, 1, 3, 0, []) := o_iload_n dX12_areClose_52 rfl
theorem oX12_areClose_53 : oP MT mX12_areClose 53 (10, 3, 0, 60, []) := o_if_eq dX12_areClose_53 (by decide) (by decide)
theorem oX12_areClose_56 : oP MT mX12_areClose 56 (0, 1, 0, 1, []) := o_iconst dX12_areClose_56 (by decide)
theorem oX12_areClose_57 : oP MT mX12_areClose 57 (9, 3, 61, 0, []) := o_goto dX12_areClose_57 (by decide)
theorem oX12_areClose_60 : oP MT mX12_areClose 60 (0, 1, 0, 0, []) := o_iconst dX12_areClose_60 (by decide)
theorem oX12_areClose_61 : oP MT mX12_areClose 61 (22, 1, 0, 0, []) := o_zret dX12_areClose_61 rfl
def ops_X12_areClose : List (Nat × aO) := [(0, (1, 1, 0, 1, [])), (1, (1, 1, 1, 0, [])), (2, (0, 1, 0, 3, [])), (3, (26, 3, 0, 2, [(12, 112)])), (6, (1, 1, 0, 1, [])), (7, (1, 1, 2, 0, [])), (8, (0, 1, 0, 3, [])), (9, (26, 3, 0, 2, [(12, 112)])), (12, (11, 3, 0, 28, [])), (15, (1, 1, 0, 1, [])), (16, (1, 1, 1, 0, [])), (17, (26, 3, 0, 1, [(12, 123)])), (20, (1, 1, 0, 1, [])), (21, (1, 1, 2, 0, [])), (22, (26, 3, 0, 1, [(12, 123)])), (25, (11, 3, 1, 32, [])), (28, (0, 1, 0, 1, [])), (29, (9, 3, 33, 0, [])), (32, (0, 1, 0, 0, [])), (33, (2, 1, 3, 0, [])), (34, (1, 1, 0, 1, [])), (35, (1, 1, 1, 0, [])), (36, (0, 1, 0, 4, [])), (37, (26, 3, 0, 2, [(12, 112)])), (40, (10, 3, 1, 60, [])), (43, (1, 1, 0, 1, [])), (44, (1, 1, 2, 0, [])), (45, (0, 1, 0, 4, [])), (46, (26, 3, 0, 2, [(12, 112)])), (49, (10, 3, 1, 60, [])), (52, (1, 1, 3, 0, [])), (53, (10, 3, 0, 60, [])), (56, (0, 1, 0, 1, [])), (57, (9, 3, 61, 0, [])), (60, (0, 1, 0, 0, [])), (61, (22, 1, 0, 0, []))]
theorem os_X12_areClose : oA MT mX12_areClose ops_X12_areClose := (oA.cons oX12_areClose_0 (oA.cons oX12_areClose_1 (oA.cons oX12_areClose_2 (oA.cons oX12_areClose_3 (oA.cons oX12_areClose_6 (oA.cons oX12_areClose_7 (oA.cons oX12_areClose_8 (oA.cons oX12_areClose_9 (oA.cons oX12_areClose_12 (oA.cons oX12_areClose_15 (oA.cons oX12_areClose_16 (oA.cons oX12_areClose_17 (oA.cons oX12_areClose_20 (oA.cons oX12_areClose_21 (oA.cons oX12_areClose_22 (oA.cons oX12_areClose_25 (oA.cons oX12_areClose_28 (oA.cons oX12_areClose_29 (oA.cons oX12_areClose_32 (oA.cons oX12_areClose_33 (oA.cons oX12_areClose_34 (oA.cons oX12_areClose_35 (oA.cons oX12_areClose_36 (oA.cons oX12_areClose_37 (oA.cons oX12_areClose_40 (oA.cons oX12_areClose_43 (oA.cons oX12_areClose_44 (oA.cons oX12_areClose_45 (oA.cons oX12_areClose_46 (oA.cons oX12_areClose_49 (oA.cons oX12_areClose_52 (oA.cons oX12_areClose_53 (oA.cons oX12_areClose_56 (oA.cons oX12_areClose_57 (oA.cons oX12_areClose_60 (oA.cons oX12_areClose_61 oA.nil))))))))))))))))))))))))))))))))))))
theorem dX12_endsPlan_0 : decode cX12_endsPlan 0 = .ok (.iload_n 2, 1) := by decide +kernel
theorem dX12_endsPlan_1 : decode cX12_endsPlan 1 = .ok (.aload_n 0, 1) := by decide +kernel
theorem dX12_endsPlan_2 : decode cX12_endsPlan 2 = .ok (.getfield 259, 3) := by decide +kernel
theorem dX12_endsPlan_5 : decode cX12_endsPlan 5 = .ok (.if_icmp .le 42, 3) := by decide +kernel
theorem dX12_endsPlan_8 : decode cX12_endsPlan 8 = .ok (.aload_n 0, 1) := by decide +kernel
theorem dX12_endsPlan_9 : decode cX12_endsPlan 9 = .ok (.iconst 0, 1) := by decide +kernel
theorem dX12_endsPlan_10 : decode cX12_endsPlan 10 = .ok (.putfield 262, 3) := by decide +kernel
theorem dX12_endsPlan_13 : decode cX12_endsPlan 13 = .ok (.aload_n 0, 1) := by decide +kernel
theorem dX12_endsPlan_14 : decode cX12_endsPlan 14 = .ok (.iload_n 2, 1) := by decide +kernel
theorem dX12_endsPlan_15 : decode cX12_endsPlan 15 = .ok (.putfield 259, 3) := by decide +kernel
theorem dX12_endsPlan_18 : decode cX12_endsPlan 18 = .ok (.iconst 0, 1) := by decide +kernel
theorem dX12_endsPlan_19 : decode cX12_endsPlan 19 = .ok (.istore 5, 2) := by decide +kernel
theorem dX12_endsPlan_21 : decode cX12_endsPlan 21 = .ok (.iload 5, 2) := by decide +kernel
theorem dX12_endsPlan_23 : decode cX12_endsPlan 23 = .ok (.iload_n 1, 1) := by decide +kernel
theorem dX12_endsPlan_24 : decode cX12_endsPlan 24 = .ok (.if_icmp .ge 23, 3) := by decide +kernel
theorem dX12_endsPlan_27 : decode cX12_endsPlan 27 = .ok (.aload_n 0, 1) := by decide +kernel
theorem dX12_endsPlan_28 : decode cX12_endsPlan 28 = .ok (.getfield 41, 3) := by decide +kernel
theorem dX12_endsPlan_31 : decode cX12_endsPlan 31 = .ok (.iload 5, 2) := by decide +kernel
theorem dX12_endsPlan_33 : decode cX12_endsPlan 33 = .ok (.aload_n 0, 1) := by decide +kernel
theorem dX12_endsPlan_34 : decode cX12_endsPlan 34 = .ok (.getfield 38, 3) := by decide +kernel
theorem dX12_endsPlan_37 : decode cX12_endsPlan 37 = .ok (.iload 5, 2) := by decide +kernel
theorem dX12_endsPlan_39 : decode cX12_endsPlan 39 = .ok (.iaload, 1) := by decide +kernel
theorem dX12_endsPlan_40 : decode cX12_endsPlan 40 = .ok (.iastore, 1) := by decide +kernel
theorem dX12_endsPlan_41 : decode cX12_endsPlan 41 = .ok (.iinc 5 1, 3) := by decide +kernel
theorem dX12_endsPlan_44 : decode cX12_endsPlan 44 = .ok (.goto (-23), 3) := by decide +kernel
theorem dX12_endsPlan_47 : decode cX12_endsPlan 47 = .ok (.aload_n 0, 1) := by decide +kernel
theorem dX12_endsPlan_48 : decode cX12_endsPlan 48 = .ok (.dup, 1) := by decide +kernel
theorem dX12_endsPlan_49 : decode cX12_endsPlan 49 = .ok (.getfield 262, 3) := by decide +kernel
theorem dX12_endsPlan_52 : decode cX12_endsPlan 52 = .ok (.iload_n 2, 1) := by decide +kernel
theorem dX12_endsPlan_53 : decode cX12_endsPlan 53 = .ok (.aload_n 0, 1) := by decide +kernel
theorem dX12_endsPlan_54 : decode cX12_endsPlan 54 = .ok (.getfield 259, 3) := by decide +kernel
theorem dX12_endsPlan_57 : decode cX12_endsPlan 57 = .ok (.if_icmp .ne 7, 3) := by decide +kernel
theorem dX12_endsPlan_60 : decode cX12_endsPlan 60 = .ok (.iconst 1, 1) := by decide +kernel
theorem dX12_endsPlan_61 : decode cX12_endsPlan 61 = .ok (.goto 4, 3) := by decide +kernel
theorem dX12_endsPlan_64 : decode cX12_endsPlan 64 = .ok (.iconst 0, 1) := by decide +kernel
theorem dX12_endsPlan_65 : decode cX12_endsPlan 65 = .ok (.iadd, 1) := by decide +kernel
theorem dX12_endsPlan_66 : decode cX12_endsPlan 66 = .ok (.putfield 262, 3) := by decide +kernel
theorem dX12_endsPlan_69 : decode cX12_endsPlan 69 = .ok (.aload_n 0, 1) := by decide +kernel
theorem dX12_endsPlan_70 : decode cX12_endsPlan 70 = .ok (.iconst 4, 1) := by decide +kernel
theorem dX12_endsPlan_71 : decode cX12_endsPlan 71 = .ok (.invokevirtual 232, 3) := by decide +kernel
theorem dX12_endsPlan_74 : decode cX12_endsPlan 74 = .ok (.istore 5, 2) := by decide +kernel
theorem dX12_endsPlan_76 : decode cX12_endsPlan 76 = .ok (.aload_n 0, 1) := by decide +kernel
theorem dX12_endsPlan_77 : decode cX12_endsPlan 77 = .ok (.iload 4, 2) := by decide +kernel
theorem dX12_endsPlan_79 : decode cX12_endsPlan 79 = .ok (.iload 5, 2) := by decide +kernel
theorem dX12_endsPlan_81 : decode cX12_endsPlan 81 = .ok (.iconst (-1), 1) := by decide +kernel
theorem dX12_endsPlan_82 : decode cX12_endsPlan 82 = .ok (.ixor, 1) := by decide +kernel
theorem dX12_endsPlan_83 : decode cX12_endsPlan 83 = .ok (.iand, 1) := by decide +kernel
theorem dX12_endsPlan_84 : decode cX12_endsPlan 84 = .ok (.ifCond .ne 15, 3) := by decide +kernel
theorem dX12_endsPlan_87 : decode cX12_endsPlan 87 = .ok (.iload_n 3, 1) := by decide +kernel
theorem dX12_endsPlan_88 : decode cX12_endsPlan 88 = .ok (.aload_n 0, 1) := by decide +kernel
theorem dX12_endsPlan_89 : decode cX12_endsPlan 89 = .ok (.getfield 265, 3) := by decide +kernel
theorem dX12_endsPlan_92 : decode cX12_endsPlan 92 = .ok (.if_icmp .ge 7, 3) := by decide +kernel
theorem dX12_endsPlan_95 : decode cX12_endsPlan 95 = .ok (.iload_n 3, 1) := by decide +kernel
theorem dX12_endsPlan_96 : decode cX12_endsPlan 96 = .ok (.goto 7, 3) := by decide +kernel
theorem dX12_endsPlan_99 : decode cX12_endsPlan 99 = .ok (.aload_n 0, 1) := by decide +kernel
theorem dX12_endsPlan_100 : decode cX12_endsPlan 100 = .ok (.getfield 265, 3) := by decide +kernel
theorem dX12_endsPlan_103 : decode cX12_endsPlan 103 = .ok (.putfield 265, 3) := by decide +kernel
theorem dX12_endsPlan_106 : decode cX12_endsPlan 106 = .ok (.aload_n 0, 1) := by decide +kernel
theorem dX12_endsPlan_107 : decode cX12_endsPlan 107 = .ok (.dup, 1) := by decide +kernel
theorem dX12_endsPlan_108 : decode cX12_endsPlan 108 = .ok (.getfield 268, 3) := by decide +kernel
theorem dX12_endsPlan_111 : decode cX12_endsPlan 111 = .ok (.iload 5, 2) := by decide +kernel
theorem dX12_endsPlan_113 : decode cX12_endsPlan 113 = .ok (.ior, 1) := by decide +kernel
theorem dX12_endsPlan_114 : decode cX12_endsPlan 114 = .ok (.putfield 268, 3) := by decide +kernel
theorem dX12_endsPlan_117 : decode cX12_endsPlan 117 = .ok (.return_, 1) := by decide +kernel
theorem oX12_endsPlan_0 : oP MT mX12_endsPlan 0 (1, 1, 2, 0, []) := o_iload_n dX12_endsPlan_0 rfl
theorem oX12_endsPlan_1 : oP MT mX12_endsPlan 1 (1, 1, 0, 1, []) := o_aload_n dX12_endsPlan_1 rfl
theorem oX12_endsPlan_2 : oP MT mX12_endsPlan 2 (12, 3, 19, 12, []) := o_getI (M := mX12_endsPlan) (C := RX12) (T := TX12) (ci := 12) (j := 19) (z := 12) dX12_endsPlan_2 rfl lq_RX12_259 rfl rfl
theorem oX12_endsPlan_5 : oP MT mX12_endsPlan 5 (11, 3, 5, 47, []) := o_icmp_le dX12_endsPlan_5 (by decide) (by decide)
theorem oX12_endsPlan_8 : oP MT mX12_endsPlan 8 (1, 1, 0, 1, []) := o_aload_n dX12_endsPlan_8 rfl
theorem oX12_endsPlan_9 : oP MT mX12_endsPlan 9 (0, 1, 0, 0, []) := o_iconst dX12_endsPlan_9 (by decide)
theorem oX12_endsPlan_10 : oP MT mX12_endsPlan 10 (14, 3, 20, 12, []) := o_putI (M := mX12_endsPlan) (C := RX12) (T := TX12) (ci := 12) (j := 20) (z := 12) dX12_endsPlan_10 rfl lq_RX12_262 rfl rfl rfl rfl
theorem oX12_endsPlan_13 : oP MT mX12_endsPlan 13 (1, 1, 0, 1, []) := o_aload_n dX12_endsPlan_13 rfl
theorem oX12_endsPlan_14 : oP MT mX12_endsPlan 14 (1, 1, 2, 0, []) := o_iload_n dX12_endsPlan_14 rfl
theorem oX12_endsPlan_15 : oP MT mX12_endsPlan 15 (14, 3, 19, 12, []) := o_putI (M := mX12_endsPlan) (C := RX12) (T := TX12) (ci := 12) (j := 19) (z := 12) dX12_endsPlan_15 rfl lq_RX12_259 rfl rfl rfl rfl
theorem oX12_endsPlan_18 : oP MT mX12_endsPlan 18 (0, 1, 0, 0, []) := o_iconst dX12_endsPlan_18 (by decide)
theorem oX12_endsPlan_19 : oP MT mX12_endsPlan 19 (2, 2, 5, 0, []) := o_istore dX12_endsPlan_19 (by decide)
theorem oX12_endsPlan_21 : oP MT mX12_endsPlan 21 (1, 2, 5, 0, []) := o_iload dX12_endsPlan_21
theorem oX12_endsPlan_23 : oP MT mX12_endsPlan 23 (1, 1, 1, 0, []) := o_iload_n dX12_endsPlan_23 rfl
theorem oX12_endsPlan_24 : oP MT mX12_endsPlan 24 (11, 3, 3, 47, []) := o_icmp_ge dX12_endsPlan_24 (by decide) (by decide)
theorem oX12_endsPlan_27 : oP MT mX12_endsPlan 27 (1, 1, 0, 1, []) := o_aload_n dX12_endsPlan_27 rfl
theorem oX12_endsPlan_28 : oP MT mX12_endsPlan 28 (13, 3, 18, 12, []) := o_getR (M := mX12_endsPlan) (C := RX12) (T := TX12) (ci := 12) (j := 18) (z := 12) dX12_endsPlan_28 rfl lq_RX12_41 rfl rfl
theorem oX12_endsPlan_31 : oP MT mX12_endsPlan 31 (1, 2, 5, 0, []) := o_iload dX12_endsPlan_31
theorem oX12_endsPlan_33 : oP MT mX12_endsPlan 33 (1, 1, 0, 1, []) := o_aload_n dX12_endsPlan_33 rfl
theorem oX12_endsPlan_34 : oP MT mX12_endsPlan 34 (13, 3, 17, 12, []) := o_getR (M := mX12_endsPlan) (C := RX12) (T := TX12) (ci := 12) (j := 17) (z := 12) dX12_endsPlan_34 rfl lq_RX12_38 rfl rfl
theorem oX12_endsPlan_37 : oP MT mX12_endsPlan 37 (1, 2, 5, 0, []) := o_iload dX12_endsPlan_37
theorem oX12_endsPlan_39 : oP MT mX12_endsPlan 39 (16, 1, 1, 0, []) := o_iaload dX12_endsPlan_39
theorem oX12_endsPlan_40 : oP MT mX12_endsPlan 40 (18, 1, 0, 0, []) := o_iastore dX12_endsPlan_40
theorem oX12_endsPlan_41 : oP MT mX12_endsPlan 41 (3, 3, 5, 1, []) := o_iinc dX12_endsPlan_41 (by decide) (by decide)
theorem oX12_endsPlan_44 : oP MT mX12_endsPlan 44 (9, 3, 21, 0, []) := o_goto dX12_endsPlan_44 (by decide)
theorem oX12_endsPlan_47 : oP MT mX12_endsPlan 47 (1, 1, 0, 1, []) := o_aload_n dX12_endsPlan_47 rfl
theorem oX12_endsPlan_48 : oP MT mX12_endsPlan 48 (6, 1, 0, 0, []) := o_dup dX12_endsPlan_48
theorem oX12_endsPlan_49 : oP MT mX12_endsPlan 49 (12, 3, 20, 12, []) := o_getI (M := mX12_endsPlan) (C := RX12) (T := TX12) (ci := 12) (j := 20) (z := 12) dX12_endsPlan_49 rfl lq_RX12_262 rfl rfl
theorem oX12_endsPlan_52 : oP MT mX12_endsPlan 52 (1, 1, 2, 0, []) := o_iload_n dX12_endsPlan_52 rfl
theorem oX12_endsPlan_53 : oP MT mX12_endsPlan 53 (1, 1, 0, 1, []) := o_aload_n dX12_endsPlan_53 rfl
theorem oX12_endsPlan_54 : oP MT mX12_endsPlan 54 (12, 3, 19, 12, []) := o_getI (M := mX12_endsPlan) (C := RX12) (T := TX12) (ci := 12) (j := 19) (z := 12) dX12_endsPlan_54 rfl lq_RX12_259 rfl rfl
theorem oX12_endsPlan_57 : oP MT mX12_endsPlan 57 (11, 3, 1, 64, []) := o_icmp_ne dX12_endsPlan_57 (by decide) (by decide)
theorem oX12_endsPlan_60 : oP MT mX12_endsPlan 60 (0, 1, 0, 1, []) := o_iconst dX12_endsPlan_60 (by decide)
theorem oX12_endsPlan_61 : oP MT mX12_endsPlan 61 (9, 3, 65, 0, []) := o_goto dX12_endsPlan_61 (by decide)
theorem oX12_endsPlan_64 : oP MT mX12_endsPlan 64 (0, 1, 0, 0, []) := o_iconst dX12_endsPlan_64 (by decide)
theorem oX12_endsPlan_65 : oP MT mX12_endsPlan 65 (4, 1, 0, 0, []) := o_iadd dX12_endsPlan_65
theorem oX12_endsPlan_66 : oP MT mX12_endsPlan 66 (14, 3, 20, 12, []) := o_putI (M := mX12_endsPlan) (C := RX12) (T := TX12) (ci := 12) (j := 20) (z := 12) dX12_endsPlan_66 rfl lq_RX12_262 rfl rfl rfl rfl
theorem oX12_endsPlan_69 : oP MT mX12_endsPlan 69 (1, 1, 0, 1, []) := o_aload_n dX12_endsPlan_69 rfl
theorem oX12_endsPlan_70 : oP MT mX12_endsPlan 70 (0, 1, 0, 4, []) := o_iconst dX12_endsPlan_70 (by decide)
theorem oX12_endsPlan_71 : oP MT mX12_endsPlan 71 (26, 3, 0, 1, [(12, 157)]) := o_callO ((vA.cons (v_callV dX12_endsPlan_71 (ci := 12) rfl rfl (mj := mX12_those) mt_X12_those cmq_X12_those wq_585 wq_587 wq_588 (by decide) (by decide)) vA.nil))
theorem oX12_endsPlan_74 : oP MT mX12_endsPlan 74 (2, 2, 5, 0, []) := o_istore dX12_endsPlan_74 (by decide)
theorem oX12_endsPlan_76 : oP MT mX12_endsPlan 76 (1, 1, 0, 1, []) := o_aload_n dX12_endsPlan_76 rfl
theorem oX12_endsPlan_77 : oP MT mX12_endsPlan 77 (1, 2, 4, 0, []) := o_iload dX12_endsPlan_77
theorem oX12_endsPlan_79 : oP MT mX12_endsPlan 79 (1, 2, 5, 0, []) := o_iload dX12_endsPlan_79
theorem oX12_endsPlan_81 : oP MT mX12_endsPlan 81 (0, 1, 0, (-1), []) := o_iconst dX12_endsPlan_81 (by decide)
theorem oX12_endsPlan_82 : oP MT mX12_endsPlan 82 (4, 1, 5, 0, []) := o_ixor dX12_endsPlan_82
theorem oX12_endsPlan_83 : oP MT mX12_endsPlan 83 (4, 1, 3, 0, []) := o_iand dX12_endsPlan_83
theorem oX12_endsPlan_84 : oP MT mX12_endsPlan 84 (10, 3, 1, 99, []) := o_if_ne dX12_endsPlan_84 (by decide) (by decide)
theorem oX12_endsPlan_87 : oP MT mX12_endsPlan 87 (1, 1, 3, 0, []) := o_iload_n dX12_endsPlan_87 rfl
theorem oX12_endsPlan_88 : oP MT mX12_endsPlan 88 (1, 1, 0, 1, []) := o_aload_n dX12_endsPlan_88 rfl
theorem oX12_endsPlan_89 : oP MT mX12_endsPlan 89 (12, 3, 21, 12, []) := o_getI (M := mX12_endsPlan) (C := RX12) (T := TX12) (ci := 12) (j := 21) (z := 12) dX12_endsPlan_89 rfl lq_RX12_265 rfl rfl
theorem oX12_endsPlan_92 : oP MT mX12_endsPlan 92 (11, 3, 3, 99, []) := o_icmp_ge dX12_endsPlan_92 (by decide) (by decide)
theorem oX12_endsPlan_95 : oP MT mX12_endsPlan 95 (1, 1, 3, 0, []) := o_iload_n dX12_endsPlan_95 rfl
theorem oX12_endsPlan_96 : oP MT mX12_endsPlan 96 (9, 3, 103, 0, []) := o_goto dX12_endsPlan_96 (by decide)
theorem oX12_endsPlan_99 : oP MT mX12_endsPlan 99 (1, 1, 0, 1, []) := o_aload_n dX12_endsPlan_99 rfl
theorem oX12_endsPlan_100 : oP MT mX12_endsPlan 100 (12, 3, 21, 12, []) := o_getI (M := mX12_endsPlan) (C := RX12) (T := TX12) (ci := 12) (j := 21) (z := 12) dX12_endsPlan_100 rfl lq_RX12_265 rfl rfl
theorem oX12_endsPlan_103 : oP MT mX12_endsPlan 103 (14, 3, 21, 12, []) := o_putI (M := mX12_endsPlan) (C := RX12) (T := TX12) (ci := 12) (j := 21) (z := 12) dX12_endsPlan_103 rfl lq_RX12_265 rfl rfl rfl rfl
theorem oX12_endsPlan_106 : oP MT mX12_endsPlan 106 (1, 1, 0, 1, []) := o_aload_n dX12_endsPlan_106 rfl
theorem oX12_endsPlan_107 : oP MT mX12_endsPlan 107 (6, 1, 0, 0, []) := o_dup dX12_endsPlan_107
theorem oX12_endsPlan_108 : oP MT mX12_endsPlan 108 (12, 3, 22, 12, []) := o_getI (M := mX12_endsPlan) (C := RX12) (T := TX12) (ci := 12) (j := 22) (z := 12) dX12_endsPlan_108 rfl lq_RX12_268 rfl rfl
theorem oX12_endsPlan_111 : oP MT mX12_endsPlan 111 (1, 2, 5, 0, []) := o_iload dX12_endsPlan_111
theorem oX12_endsPlan_113 : oP MT mX12_endsPlan 113 (4, 1, 4, 0, []) := o_ior dX12_endsPlan_113
theorem oX12_endsPlan_114 : oP MT mX12_endsPlan 114 (14, 3, 22, 12, []) := o_putI (M := mX12_endsPlan) (C := RX12) (T := TX12) (ci := 12) (j := 22) (z := 12) dX12_endsPlan_114 rfl lq_RX12_268 rfl rfl rfl rfl
theorem oX12_endsPlan_117 : oP MT mX12_endsPlan 117 (23, 1, 0, 0, []) := o_vret dX12_endsPlan_117 rfl
def ops_X12_endsPlan : List (Nat × aO) := [(0, (1, 1, 2, 0, [])), (1, (1, 1, 0, 1, [])), (2, (12, 3, 19, 12, [])), (5, (11, 3, 5, 47, [])), (8, (1, 1, 0, 1, [])), (9, (0, 1, 0, 0, [])), (10, (14, 3, 20, 12, [])), (13, (1, 1, 0, 1, [])), (14, (1, 1, 2, 0, [])), (15, (14, 3, 19, 12, [])), (18, (0, 1, 0, 0, [])), (19, (2, 2, 5, 0, [])), (21, (1, 2, 5, 0, [])), (23, (1, 1, 1, 0, [])), (24, (11, 3, 3, 47, [])), (27, (1, 1, 0, 1, [])), (28, (13, 3, 18, 12, [])), (31, (1, 2, 5, 0, [])), (33, (1, 1, 0, 1, [])), (34, (13, 3, 17, 12, [])), (37, (1, 2, 5, 0, [])), (39, (16, 1, 1, 0, [])), (40, (18, 1, 0, 0, [])), (41, (3, 3, 5, 1, [])), (44, (9, 3, 21, 0, [])), (47, (1, 1, 0, 1, [])), (48, (6, 1, 0, 0, [])), (49, (12, 3, 20, 12, [])), (52, (1, 1, 2, 0, [])), (53, (1, 1, 0, 1, [])), (54, (12, 3, 19, 12, [])), (57, (11, 3, 1, 64, [])), (60, (0, 1, 0, 1, [])), (61, (9, 3, 65, 0, [])), (64, (0, 1, 0, 0, [])), (65, (4, 1, 0, 0, [])), (66, (14, 3, 20, 12, [])), (69, (1, 1, 0, 1, [])), (70, (0, 1, 0, 4, [])), (71, (26, 3, 0, 1, [(12, 157)])), (74, (2, 2, 5, 0, [])), (76, (1, 1, 0, 1, [])), (77, (1, 2, 4, 0, [])), (79, (1, 2, 5, 0, [])), (81, (0, 1, 0, (-1), [])), (82, (4, 1, 5, 0, [])), (83, (4, 1, 3, 0, [])), (84, (10, 3, 1, 99, [])), (87, (1, 1, 3, 0, [])), (88, (1, 1, 0, 1, [])), (89, (12, 3, 21, 12, [])), (92, (11, 3, 3, 99, [])), (95, (1, 1, 3, 0, [])), (96, (9, 3, 103, 0, [])), (99, (1, 1, 0, 1, [])), (100, (12, 3, 21, 12, [])), (103, (14, 3, 21, 12, [])), (106, (1, 1, 0, 1, [])), (107, (6, 1, 0, 0, [])), (108, (12, 3, 22, 12, [])), (111, (1, 2, 5, 0, [])), (113, (4, 1, 4, 0, [])), (114, (14, 3, 22, 12, [])), (117, (23, 1, 0, 0, []))]
theorem os_X12_endsPlan : oA MT mX12_endsPlan ops_X12_endsPlan := (oA.cons oX12_endsPlan_0 (oA.cons oX12_endsPlan_1 (oA.cons oX12_endsPlan_2 (oA.cons oX12_endsPlan_5 (oA.cons oX12_endsPlan_8 (oA.cons oX12_endsPlan_9 (oA.cons oX12_endsPlan_10 (oA.cons oX12_endsPlan_13 (oA.cons oX12_endsPlan_14 (oA.cons oX12_endsPlan_15 (oA.cons oX12_endsPlan_18 (oA.cons oX12_endsPlan_19 (oA.cons oX12_endsPlan_21 (oA.cons oX12_endsPlan_23 (oA.cons oX12_endsPlan_24 (oA.cons oX12_endsPlan_27 (oA.cons oX12_endsPlan_28 (oA.cons oX12_endsPlan_31 (oA.cons oX12_endsPlan_33 (oA.cons oX12_endsPlan_34 (oA.cons oX12_endsPlan_37 (oA.cons oX12_endsPlan_39 (oA.cons oX12_endsPlan_40 (oA.cons oX12_endsPlan_41 (oA.cons oX12_endsPlan_44 (oA.cons oX12_endsPlan_47 (oA.cons oX12_endsPlan_48 (oA.cons oX12_endsPlan_49 (oA.cons oX12_endsPlan_52 (oA.cons oX12_endsPlan_53 (oA.cons oX12_endsPlan_54 (oA.cons oX12_endsPlan_57 (oA.cons oX12_endsPlan_60 (oA.cons oX12_endsPlan_61 (oA.cons oX12_endsPlan_64 (oA.cons oX12_endsPlan_65 (oA.cons oX12_endsPlan_66 (oA.cons oX12_endsPlan_69 (oA.cons oX12_endsPlan_70 (oA.cons oX12_endsPlan_71 (oA.cons oX12_endsPlan_74 (oA.cons oX12_endsPlan_76 (oA.cons oX12_endsPlan_77 (oA.cons oX12_endsPlan_79 (oA.cons oX12_endsPlan_81 (oA.cons oX12_endsPlan_82 (oA.cons oX12_endsPlan_83 (oA.cons oX12_endsPlan_84 (oA.cons oX12_endsPlan_87 (oA.cons oX12_endsPlan_88 (oA.cons oX12_endsPlan_89 (oA.cons oX12_endsPlan_92 (oA.cons oX12_endsPlan_95 (oA.cons oX12_endsPlan_96 (oA.cons oX12_endsPlan_99 (oA.cons oX12_endsPlan_100 (oA.cons oX12_endsPlan_103 (oA.cons oX12_endsPlan_106 (oA.cons oX12_endsPlan_107 (oA.cons oX12_endsPlan_108 (oA.cons oX12_endsPlan_111 (oA.cons oX12_endsPlan_113 (oA.cons oX12_endsPlan_114 (oA.cons oX12_endsPlan_117 oA.nil))))))))))))))))))))))))))))))))))))))))))))))))))))))))))))))))
theorem dX12_saves_0 : decode cX12_saves 0 = .ok (.iconst 0, 1) := by decide +kernel
theorem dX12_saves_1 : decode cX12_saves 1 = .ok (.istore_n 2, 1) := by decide +kernel
theorem dX12_saves_2 : decode cX12_saves 2 = .ok (.iload_n 2, 1) := by decide +kernel
theorem dX12_saves_3 : decode cX12_saves 3 = .ok (.bipush 65, 2) := by decide +kernel
theorem dX12_saves_5 : decode cX12_saves 5 = .ok (.if_icmp .ge 26, 3) := by decide +kernel
theorem dX12_saves_8 : decode cX12_saves 8 = .ok (.aload_n 0, 1) := by decide +kernel
theorem dX12_saves_9 : decode cX12_saves 9 = .ok (.getfield 35, 3) := by decide +kernel
theorem dX12_saves_12 : decode cX12_saves 12 = .ok (.bipush 65, 2) := by decide +kernel
theorem dX12_saves_14 : decode cX12_saves 14 = .ok (.iload_n 1, 1) := by decide +kernel
theorem dX12_saves_15 : decode cX12_saves 15 = .ok (.imul, 1) := by decide +kernel
theorem dX12_saves_16 : decode cX12_saves 16 = .ok (.iload_n 2, 1) := by decide +kernel
theorem dX12_saves_17 : decode cX12_saves 17 = .ok (.iadd, 1) := by decide +kernel
theorem dX12_saves_18 : decode cX12_saves 18 = .ok (.aload_n 0, 1) := by decide +kernel
theorem dX12_saves_19 : decode cX12_saves 19 = .ok (.getfield 9, 3) := by decide +kernel
theorem dX12_saves_22 : decode cX12_saves 22 = .ok (.iload_n 2, 1) := by decide +kernel
theorem dX12_saves_23 : decode cX12_saves 23 = .ok (.iaload, 1) := by decide +kernel
theorem dX12_saves_24 : decode cX12_saves 24 = .ok (.iastore, 1) := by decide +kernel
theorem dX12_saves_25 : decode cX12_saves 25 = .ok (.iinc 2 1, 3) := by decide +kernel
theorem dX12_saves_28 : decode cX12_saves 28 = .ok (.goto (-26), 3) := by decide +kernel
theorem dX12_saves_31 : decode cX12_saves 31 = .ok (.return_, 1) := by decide +kernel
theorem oX12_saves_0 : oP MT mX12_saves 0 (0, 1, 0, 0, []) := o_iconst dX12_saves_0 (by decide)
theorem oX12_saves_1 : oP MT mX12_saves 1 (2, 1, 2, 0, []) := o_istore_n dX12_saves_1 rfl (by decide)
theorem oX12_saves_2 : oP MT mX12_saves 2 (1, 1, 2, 0, []) := o_iload_n dX12_saves_2 rfl
theorem oX12_saves_3 : oP MT mX12_saves 3 (0, 2, 0, 65, []) := o_bipush dX12_saves_3 (by decide)
theorem oX12_saves_5 : oP MT mX12_saves 5 (11, 3, 3, 31, []) := o_icmp_ge dX12_saves_5 (by decide) (by decide)
theorem oX12_saves_8 : oP MT mX12_saves 8 (1, 1, 0, 1, []) := o_aload_n dX12_saves_8 rfl
theorem oX12_saves_9 : oP MT mX12_saves 9 (13, 3, 16, 12, []) := o_getR (M := mX12_saves) (C := RX12) (T := TX12) (ci := 12) (j := 16) (z := 12) dX12_saves_9 rfl lq_RX12_35 rfl rfl
theorem oX12_saves_12 : oP MT mX12_saves 12 (0, 2, 0, 65, []) := o_bipush dX12_saves_12 (by decide)
theorem oX12_saves_14 : oP MT mX12_saves 14 (1, 1, 1, 0, []) := o_iload_n dX12_saves_14 rfl
theorem oX12_saves_15 : oP MT mX12_saves 15 (4, 1, 2, 0, []) := o_imul dX12_saves_15
theorem oX12_saves_16 : oP MT mX12_saves 16 (1, 1, 2, 0, []) := o_iload_n dX12_saves_16 rfl
theorem oX12_saves_17 : oP MT mX12_saves 17 (4, 1, 0, 0, []) := o_iadd dX12_saves_17
theorem oX12_saves_18 : oP MT mX12_saves 18 (1, 1, 0, 1, []) := o_aload_n dX12_saves_18 rfl
theorem oX12_saves_19 : oP MT mX12_saves 19 (13, 3, 0, 12, []) := o_getR (M := mX12_saves) (C := RX12) (T := TX12) (ci := 12) (j := 0) (z := 12) dX12_saves_19 rfl lq_RX12_9 rfl rfl
theorem oX12_saves_22 : oP MT mX12_saves 22 (1, 1, 2, 0, []) := o_iload_n dX12_saves_22 rfl
theorem oX12_saves_23 : oP MT mX12_saves 23 (16, 1, 1, 0, []) := o_iaload dX12_saves_23
theorem oX12_saves_24 : oP MT mX12_saves 24 (18, 1, 0, 0, []) := o_iastore dX12_saves_24
theorem oX12_saves_25 : oP MT mX12_saves 25 (3, 3, 2, 1, []) := o_iinc dX12_saves_25 (by decide) (by decide)
theorem oX12_saves_28 : oP MT mX12_saves 28 (9, 3, 2, 0, []) := o_goto dX12_saves_28 (by decide)
theorem oX12_saves_31 : oP MT mX12_saves 31 (23, 1, 0, 0, []) := o_vret dX12_saves_31 rfl
def ops_X12_saves : List (Nat × aO) := [(0, (0, 1, 0, 0, [])), (1, (2, 1, 2, 0, [])), (2, (1, 1, 2, 0, [])), (3, (0, 2, 0, 65, [])), (5, (11, 3, 3, 31, [])), (8, (1, 1, 0, 1, [])), (9, (13, 3, 16, 12, [])), (12, (0, 2, 0, 65, [])), (14, (1, 1, 1, 0, [])), (15, (4, 1, 2, 0, [])), (16, (1, 1, 2, 0, [])), (17, (4, 1, 0, 0, [])), (18, (1, 1, 0, 1, [])), (19, (13, 3, 0, 12, [])), (22, (1, 1, 2, 0, [])), (23, (16, 1, 1, 0, [])), (24, (18, 1, 0, 0, [])), (25, (3, 3, 2, 1, [])), (28, (9, 3, 2, 0, [])), (31, (23, 1, 0, 0, []))]
theorem os_X12_saves : oA MT mX12_saves ops_X12_saves := (oA.cons oX12_saves_0 (oA.cons oX12_saves_1 (oA.cons oX12_saves_2 (oA.cons oX12_saves_3 (oA.cons oX12_saves_5 (oA.cons oX12_saves_8 (oA.cons oX12_saves_9 (oA.cons oX12_saves_12 (oA.cons oX12_saves_14 (oA.cons oX12_saves_15 (oA.cons oX12_saves_16 (oA.cons oX12_saves_17 (oA.cons oX12_saves_18 (oA.cons oX12_saves_19 (oA.cons oX12_saves_22 (oA.cons oX12_saves_23 (oA.cons oX12_saves_24 (oA.cons oX12_saves_25 (oA.cons oX12_saves_28 (oA.cons oX12_saves_31 oA.nil))))))))))))))))))))
theorem dX12_restores_0 : decode cX12_restores 0 = .ok (.iconst 0, 1) := by decide +kernel
theorem dX12_restores_1 : decode cX12_restores 1 = .ok (.istore_n 2, 1) := by decide +kernel
theorem dX12_restores_2 : decode cX12_restores 2 = .ok (.iload_n 2, 1) := by decide +kernel
theorem dX12_restores_3 : decode cX12_restores 3 = .ok (.bipush 65, 2) := by decide +kernel
theorem dX12_restores_5 : decode cX12_restores 5 = .ok (.if_icmp .ge 26, 3) := by decide +kernel
theorem dX12_restores_8 : decode cX12_restores 8 = .ok (.aload_n 0, 1) := by decide +kernel
theorem dX12_restores_9 : decode cX12_restores 9 = .ok (.getfield 9, 3) := by decide +kernel
theorem dX12_restores_12 : decode cX12_restores 12 = .ok (.iload_n 2, 1) := by decide +kernel
theorem dX12_restores_13 : decode cX12_restores 13 = .ok (.aload_n 0, 1) := by decide +kernel
theorem dX12_restores_14 : decode cX12_restores 14 = .ok (.getfield 35, 3) := by decide +kernel
theorem dX12_restores_17 : decode cX12_restores 17 = .ok (.bipush 65, 2) := by decide +kernel
theorem dX12_restores_19 : decode cX12_restores 19 = .ok (.iload_n 1, 1) := by decide +kernel
theorem dX12_restores_20 : decode cX12_restores 20 = .ok (.imul, 1) := by decide +kernel
theorem dX12_restores_21 : decode cX12_restores 21 = .ok (.iload_n 2, 1) := by decide +kernel
theorem dX12_restores_22 : decode cX12_restores 22 = .ok (.iadd, 1) := by decide +kernel
theorem dX12_restores_23 : decode cX12_restores 23 = .ok (.iaload, 1) := by decide +kernel
theorem dX12_restores_24 : decode cX12_restores 24 = .ok (.iastore, 1) := by decide +kernel
theorem dX12_restores_25 : decode cX12_restores 25 = .ok (.iinc 2 1, 3) := by decide +kernel
theorem dX12_restores_28 : decode cX12_restores 28 = .ok (.goto (-26), 3) := by decide +kernel
theorem dX12_restores_31 : decode cX12_restores 31 = .ok (.return_, 1) := by decide +kernel
theorem oX12_restores_0 : oP MT mX12_restores 0 (0, 1, 0, 0, []) := o_iconst dX12_restores_0 (by decide)
theorem oX12_restores_1 : oP MT mX12_restores 1 (2, 1, 2, 0, []) := o_istore_n dX12_restores_1 rfl (by decide)
theorem oX12_restores_2 : oP MT mX12_restores 2 (1, 1, 2, 0, []) := o_iload_n dX12_restores_2 rfl
theorem oX12_restores_3 : oP MT mX12_restores 3 (0, 2, 0, 65, []) := o_bipush dX12_restores_3 (by decide)
theorem oX12_restores_5 : oP MT mX12_restores 5 (11, 3, 3, 31, []) := o_icmp_ge dX12_restores_5 (by decide) (by decide)
theorem oX12_restores_8 : oP MT mX12_restores 8 (1, 1, 0, 1, []) := o_aload_n dX12_restores_8 rfl
theorem oX12_restores_9 : oP MT mX12_restores 9 (13, 3, 0, 12, []) := o_getR (M := mX12_restores) (C := RX12) (T := TX12) (ci := 12) (j := 0) (z := 12) dX12_restores_9 rfl lq_RX12_9 rfl rfl
theorem oX12_restores_12 : oP MT mX12_restores 12 (1, 1, 2, 0, []) := o_iload_n dX12_restores_12 rfl
theorem oX12_restores_13 : oP MT mX12_restores 13 (1, 1, 0, 1, []) := o_aload_n dX12_restores_13 rfl
theorem oX12_restores_14 : oP MT mX12_restores 14 (13, 3, 16, 12, []) := o_getR (M := mX12_restores) (C := RX12) (T := TX12) (ci := 12) (j := 16) (z := 12) dX12_restores_14 rfl lq_RX12_35 rfl rfl
theorem oX12_restores_17 : oP MT mX12_restores 17 (0, 2, 0, 65, []) := o_bipush dX12_restores_17 (by decide)
theorem oX12_restores_19 : oP MT mX12_restores 19 (1, 1, 1, 0, []) := o_iload_n dX12_restores_19 rfl
theorem oX12_restores_20 : oP MT mX12_restores 20 (4, 1, 2, 0, []) := o_imul dX12_restores_20
theorem oX12_restores_21 : oP MT mX12_restores 21 (1, 1, 2, 0, []) := o_iload_n dX12_restores_21 rfl
theorem oX12_restores_22 : oP MT mX12_restores 22 (4, 1, 0, 0, []) := o_iadd dX12_restores_22
theorem oX12_restores_23 : oP MT mX12_restores 23 (16, 1, 1, 0, []) := o_iaload dX12_restores_23
theorem oX12_restores_24 : oP MT mX12_restores 24 (18, 1, 0, 0, []) := o_iastore dX12_restores_24
theorem oX12_restores_25 : oP MT mX12_restores 25 (3, 3, 2, 1, []) := o_iinc dX12_restores_25 (by decide) (by decide)
theorem oX12_restores_28 : oP MT mX12_restores 28 (9, 3, 2, 0, []) := o_goto dX12_restores_28 (by decide)
theorem oX12_restores_31 : oP MT mX12_restores 31 (23, 1, 0, 0, []) := o_vret dX12_restores_31 rfl
def ops_X12_restores : List (Nat × aO) := [(0, (0, 1, 0, 0, [])), (1, (2, 1, 2, 0, [])), (2, (1, 1, 2, 0, [])), (3, (0, 2, 0, 65, [])), (5, (11, 3, 3, 31, [])), (8, (1, 1, 0, 1, [])), (9, (13, 3, 0, 12, [])), (12, (1, 1, 2, 0, [])), (13, (1, 1, 0, 1, [])), (14, (13, 3, 16, 12, [])), (17, (0, 2, 0, 65, [])), (19, (1, 1, 1, 0, [])), (20, (4, 1, 2, 0, [])), (21, (1, 1, 2, 0, [])), (22, (4, 1, 0, 0, [])), (23, (16, 1, 1, 0, [])), (24, (18, 1, 0, 0, [])), (25, (3, 3, 2, 1, [])), (28, (9, 3, 2, 0, [])), (31, (23, 1, 0, 0, []))]
theorem os_X12_restores : oA MT mX12_restores ops_X12_restores := (oA.cons oX12_restores_0 (oA.cons oX12_restores_1 (oA.cons oX12_restores_2 (oA.cons oX12_restores_3 (oA.cons oX12_restores_5 (oA.cons oX12_restores_8 (oA.cons oX12_restores_9 (oA.cons oX12_restores_12 (oA.cons oX12_restores_13 (oA.cons oX12_restores_14 (oA.cons oX12_restores_17 (oA.cons oX12_restores_19 (oA.cons oX12_restores_20 (oA.cons oX12_restores_21 (oA.cons oX12_restores_22 (oA.cons oX12_restores_23 (oA.cons oX12_restores_24 (oA.cons oX12_restores_25 (oA.cons oX12_restores_28 (oA.cons oX12_restores_31 oA.nil))))))))))))))))))))
theorem dX12_daysOf_0 : decode cX12_daysOf 0 = .ok (.aload_n 0, 1) := by decide +kernel
theorem dX12_daysOf_1 : decode cX12_daysOf 1 = .ok (.invokevirtual 229, 3) := by decide +kernel
theorem dX12_daysOf_4 : decode cX12_daysOf 4 = .ok (.ifCond .eq 7, 3) := by decide +kernel
theorem dX12_daysOf_7 : decode cX12_daysOf 7 = .ok (.iconst 0, 1) := by decide +kernel
theorem dX12_daysOf_8 : decode cX12_daysOf 8 = .ok (.goto 16, 3) := by decide +kernel
theorem dX12_daysOf_11 : decode cX12_daysOf 11 = .ok (.aload_n 0, 1) := by decide +kernel
theorem dX12_daysOf_12 : decode cX12_daysOf 12 = .ok (.getfield 9, 3) := by decide +kernel
theorem dX12_daysOf_15 : decode cX12_daysOf 15 = .ok (.iconst 1, 1) := by decide +kernel
theorem dX12_daysOf_16 : decode cX12_daysOf 16 = .ok (.iaload, 1) := by decide +kernel
theorem dX12_daysOf_17 : decode cX12_daysOf 17 = .ok (.aload_n 0, 1) := by decide +kernel
theorem dX12_daysOf_18 : decode cX12_daysOf 18 = .ok (.getfield 9, 3) := by decide +kernel
theorem dX12_daysOf_21 : decode cX12_daysOf 21 = .ok (.iconst 0, 1) := by decide +kernel
theorem dX12_daysOf_22 : decode cX12_daysOf 22 = .ok (.iaload, 1) := by decide +kernel
theorem dX12_daysOf_23 : decode cX12_daysOf 23 = .ok (.isub, 1) := by decide +kernel
theorem dX12_daysOf_24 : decode cX12_daysOf 24 = .ok (.istore_n 2, 1) := by decide +kernel
theorem dX12_daysOf_25 : decode cX12_daysOf 25 = .ok (.iload_n 1, 1) := by decide +kernel
theorem dX12_daysOf_26 : decode cX12_daysOf 26 = .ok (.iload_n 2, 1) := by decide +kernel
theorem dX12_daysOf_27 : decode cX12_daysOf 27 = .ok (.if_icmp .ge 7, 3) := by decide +kernel
theorem dX12_daysOf_30 : decode cX12_daysOf 30 = .ok (.iload_n 1, 1) := by decide +kernel
theorem dX12_daysOf_31 : decode cX12_daysOf 31 = .ok (.goto 4, 3) := by decide +kernel
theorem dX12_daysOf_34 : decode cX12_daysOf 34 = .ok (.iload_n 2, 1) := by decide +kernel
theorem dX12_daysOf_35 : decode cX12_daysOf 35 = .ok (.ireturn, 1) := by decide +kernel
theorem oX12_daysOf_0 : oP MT mX12_daysOf 0 (1, 1, 0, 1, []) := o_aload_n dX12_daysOf_0 rfl
theorem oX12_daysOf_1 : oP MT mX12_daysOf 1 (26, 3, 0, 0, [(12, 150)]) := o_callO ((vA.cons (v_callV dX12_daysOf_1 (ci := 12) rfl rfl (mj := mX12_isOver) mt_X12_isOver cmq_X12_isOver wq_557 wq_559 wq_560 (by decide) (by decide)) vA.nil))
theorem oX12_daysOf_4 : oP MT mX12_daysOf 4 (10, 3, 0, 11, []) := o_if_eq dX12_daysOf_4 (by decide) (by decide)
theorem oX12_daysOf_7 : oP MT mX12_daysOf 7 (0, 1, 0, 0, []) := o_iconst dX12_daysOf_7 (by decide)
theorem oX12_daysOf_8 : oP MT mX12_daysOf 8 (9, 3, 24, 0, []) := o_goto dX12_daysOf_8 (by decide)
theorem oX12_daysOf_11 : oP MT mX12_daysOf 11 (1, 1, 0, 1, []) := o_aload_n dX12_daysOf_11 rfl
theorem oX12_daysOf_12 : oP MT mX12_daysOf 12 (13, 3, 0, 12, []) := o_getR (M := mX12_daysOf) (C := RX12) (T := TX12) (ci := 12) (j := 0) (z := 12) dX12_daysOf_12 rfl lq_RX12_9 rfl rfl
theorem oX12_daysOf_15 : oP MT mX12_daysOf 15 (0, 1, 0, 1, []) := o_iconst dX12_daysOf_15 (by decide)
theorem oX12_daysOf_16 : oP MT mX12_daysOf 16 (16, 1, 1, 0, []) := o_iaload dX12_daysOf_16
theorem oX12_daysOf_17 : oP MT mX12_daysOf 17 (1, 1, 0, 1, []) := o_aload_n dX12_daysOf_17 rfl
theorem oX12_daysOf_18 : oP MT mX12_daysOf 18 (13, 3, 0, 12, []) := o_getR (M := mX12_daysOf) (C := RX12) (T := TX12) (ci := 12) (j := 0) (z := 12) dX12_daysOf_18 rfl lq_RX12_9 rfl rfl
theorem oX12_daysOf_21 : oP MT mX12_daysOf 21 (0, 1, 0, 0, []) := o_iconst dX12_daysOf_21 (by decide)
theorem oX12_daysOf_22 : oP MT mX12_daysOf 22 (16, 1, 1, 0, []) := o_iaload dX12_daysOf_22
theorem oX12_daysOf_23 : oP MT mX12_daysOf 23 (4, 1, 1, 0, []) := o_isub dX12_daysOf_23
theorem oX12_daysOf_24 : oP MT mX12_daysOf 24 (2, 1, 2, 0, []) := o_istore_n dX12_daysOf_24 rfl (by decide)
theorem oX12_daysOf_25 : oP MT mX12_daysOf 25 (1, 1, 1, 0, []) := o_iload_n dX12_daysOf_25 rfl
theorem oX12_daysOf_26 : oP MT mX12_daysOf 26 (1, 1, 2, 0, []) := o_iload_n dX12_daysOf_26 rfl
theorem oX12_daysOf_27 : oP MT mX12_daysOf 27 (11, 3, 3, 34, []) := o_icmp_ge dX12_daysOf_27 (by decide) (by decide)
theorem oX12_daysOf_30 : oP MT mX12_daysOf 30 (1, 1, 1, 0, []) := o_iload_n dX12_daysOf_30 rfl
theorem oX12_daysOf_31 : oP MT mX12_daysOf 31 (9, 3, 35, 0, []) := o_goto dX12_daysOf_31 (by decide)
theorem oX12_daysOf_34 : oP MT mX12_daysOf 34 (1, 1, 2, 0, []) := o_iload_n dX12_daysOf_34 rfl
theorem oX12_daysOf_35 : oP MT mX12_daysOf 35 (21, 1, 0, 0, []) := o_iret dX12_daysOf_35 rfl
def ops_X12_daysOf : List (Nat × aO) := [(0, (1, 1, 0, 1, [])), (1, (26, 3, 0, 0, [(12, 150)])), (4, (10, 3, 0, 11, [])), (7, (0, 1, 0, 0, [])), (8, (9, 3, 24, 0, [])), (11, (1, 1, 0, 1, [])), (12, (13, 3, 0, 12, [])), (15, (0, 1, 0, 1, [])), (16, (16, 1, 1, 0, [])), (17, (1, 1, 0, 1, [])), (18, (13, 3, 0, 12, [])), (21, (0, 1, 0, 0, [])), (22, (16, 1, 1, 0, [])), (23, (4, 1, 1, 0, [])), (24, (2, 1, 2, 0, [])), (25, (1, 1, 1, 0, [])), (26, (1, 1, 2, 0, [])), (27, (11, 3, 3, 34, [])), (30, (1, 1, 1, 0, [])), (31, (9, 3, 35, 0, [])), (34, (1, 1, 2, 0, [])), (35, (21, 1, 0, 0, []))]
theorem os_X12_daysOf : oA MT mX12_daysOf ops_X12_daysOf := (oA.cons oX12_daysOf_0 (oA.cons oX12_daysOf_1 (oA.cons oX12_daysOf_4 (oA.cons oX12_daysOf_7 (oA.cons oX12_daysOf_8 (oA.cons oX12_daysOf_11 (oA.cons oX12_daysOf_12 (oA.cons oX12_daysOf_15 (oA.cons oX12_daysOf_16 (oA.cons oX12_daysOf_17 (oA.cons oX12_daysOf_18 (oA.cons oX12_daysOf_21 (oA.cons oX12_daysOf_22 (oA.cons oX12_daysOf_23 (oA.cons oX12_daysOf_24 (oA.cons oX12_daysOf_25 (oA.cons oX12_daysOf_26 (oA.cons oX12_daysOf_27 (oA.cons oX12_daysOf_30 (oA.cons oX12_daysOf_31 (oA.cons oX12_daysOf_34 (oA.cons oX12_daysOf_35 oA.nil))))))))))))))))))))))
theorem dX12_goesPlans_0 : decode cX12_goesPlans 0 = .ok (.iload_n 1, 1) := by decide +kernel
theorem dX12_goesPlans_1 : decode cX12_goesPlans 1 = .ok (.iload_n 2, 1) := by decide +kernel
theorem dX12_goesPlans_2 : decode cX12_goesPlans 2 = .ok (.if_icmp .ne 14, 3) := by decide +kernel
theorem dX12_goesPlans_5 : decode cX12_goesPlans 5 = .ok (.aload_n 0, 1) := by decide +kernel
theorem dX12_goesPlans_6 : decode cX12_goesPlans 6 = .ok (.iload_n 2, 1) := by decide +kernel
theorem dX12_goesPlans_7 : decode cX12_goesPlans 7 = .ok (.iload_n 3, 1) := by decide +kernel
theorem dX12_goesPlans_8 : decode cX12_goesPlans 8 = .ok (.iload 4, 2) := by decide +kernel
theorem dX12_goesPlans_10 : decode cX12_goesPlans 10 = .ok (.iload 5, 2) := by decide +kernel
theorem dX12_goesPlans_12 : decode cX12_goesPlans 12 = .ok (.invokevirtual 271, 3) := by decide +kernel
theorem dX12_goesPlans_15 : decode cX12_goesPlans 15 = .ok (.return_, 1) := by decide +kernel
theorem dX12_goesPlans_16 : decode cX12_goesPlans 16 = .ok (.aload_n 0, 1) := by decide +kernel
theorem dX12_goesPlans_17 : decode cX12_goesPlans 17 = .ok (.iload_n 1, 1) := by decide +kernel
theorem dX12_goesPlans_18 : decode cX12_goesPlans 18 = .ok (.invokevirtual 275, 3) := by decide +kernel
theorem dX12_goesPlans_21 : decode cX12_goesPlans 21 = .ok (.iconst 0, 1) := by decide +kernel
theorem dX12_goesPlans_22 : decode cX12_goesPlans 22 = .ok (.istore 6, 2) := by decide +kernel
theorem dX12_goesPlans_24 : decode cX12_goesPlans 24 = .ok (.iload 6, 2) := by decide +kernel
theorem dX12_goesPlans_26 : decode cX12_goesPlans 26 = .ok (.aload_n 0, 1) := by decide +kernel
theorem dX12_goesPlans_27 : decode cX12_goesPlans 27 = .ok (.getfield 9, 3) := by decide +kernel
theorem dX12_goesPlans_30 : decode cX12_goesPlans 30 = .ok (.iconst 4, 1) := by decide +kernel
theorem dX12_goesPlans_31 : decode cX12_goesPlans 31 = .ok (.iaload, 1) := by decide +kernel
theorem dX12_goesPlans_32 : decode cX12_goesPlans 32 = .ok (.if_icmp .gt 58, 3) := by decide +kernel
theorem dX12_goesPlans_35 : decode cX12_goesPlans 35 = .ok (.aload_n 0, 1) := by decide +kernel
theorem dX12_goesPlans_36 : decode cX12_goesPlans 36 = .ok (.getfield 38, 3) := by decide +kernel
theorem dX12_goesPlans_39 : decode cX12_goesPlans 39 = .ok (.iload_n 1, 1) := by decide +kernel
theorem dX12_goesPlans_40 : decode cX12_goesPlans 40 = .ok (.iload 6, 2) := by decide +kernel
theorem dX12_goesPlans_42 : decode cX12_goesPlans 42 = .ok (.iastore, 1) := by decide +kernel
theorem dX12_goesPlans_43 : decode cX12_goesPlans 43 = .ok (.aload_n 0, 1) := by decide +kernel
theorem dX12_goesPlans_44 : decode cX12_goesPlans 44 = .ok (.iload 6, 2) := by decide +kernel
theorem dX12_goesPlans_46 : decode cX12_goesPlans 46 = .ok (.invokevirtual 238, 3) := by decide +kernel
theorem dX12_goesPlans_49 : decode cX12_goesPlans 49 = .ok (.istore 7, 2) := by decide +kernel
theorem dX12_goesPlans_51 : decode cX12_goesPlans 51 = .ok (.aload_n 0, 1) := by decide +kernel
theorem dX12_goesPlans_52 : decode cX12_goesPlans 52 = .ok (.iload_n 1, 1) := by decide +kernel
theorem dX12_goesPlans_53 : decode cX12_goesPlans 53 = .ok (.iconst 1, 1) := by decide +kernel
theorem dX12_goesPlans_54 : decode cX12_goesPlans 54 = .ok (.iadd, 1) := by decide +kernel
theorem dX12_goesPlans_55 : decode cX12_goesPlans 55 = .ok (.iload_n 2, 1) := by decide +kernel
theorem dX12_goesPlans_56 : decode cX12_goesPlans 56 = .ok (.iload_n 3, 1) := by decide +kernel
theorem dX12_goesPlans_57 : decode cX12_goesPlans 57 = .ok (.iload 7, 2) := by decide +kernel
theorem dX12_goesPlans_59 : decode cX12_goesPlans 59 = .ok (.iadd, 1) := by decide +kernel
theorem dX12_goesPlans_60 : decode cX12_goesPlans 60 = .ok (.iload 6, 2) := by decide +kernel
theorem dX12_goesPlans_62 : decode cX12_goesPlans 62 = .ok (.ifCond .le 10, 3) := by decide +kernel
theorem dX12_goesPlans_65 : decode cX12_goesPlans 65 = .ok (.iload 4, 2) := by decide +kernel
theorem dX12_goesPlans_67 : decode cX12_goesPlans 67 = .ok (.iconst 1, 1) := by decide +kernel
theorem dX12_goesPlans_68 : decode cX12_goesPlans 68 = .ok (.iadd, 1) := by decide +kernel
theorem dX12_goesPlans_69 : decode cX12_goesPlans 69 = .ok (.goto 5, 3) := by decide +kernel
theorem dX12_goesPlans_72 : decode cX12_goesPlans 72 = .ok (.iload 4, 2) := by decide +kernel
theorem dX12_goesPlans_74 : decode cX12_goesPlans 74 = .ok (.iload 5, 2) := by decide +kernel
theorem dX12_goesPlans_76 : decode cX12_goesPlans 76 = .ok (.invokevirtual 278, 3) := by decide +kernel
theorem dX12_goesPlans_79 : decode cX12_goesPlans 79 = .ok (.aload_n 0, 1) := by decide +kernel
theorem dX12_goesPlans_80 : decode cX12_goesPlans 80 = .ok (.iload_n 1, 1) := by decide +kernel
theorem dX12_goesPlans_81 : decode cX12_goesPlans 81 = .ok (.invokevirtual 282, 3) := by decide +kernel
theorem dX12_goesPlans_84 : decode cX12_goesPlans 84 = .ok (.iinc 6 1, 3) := by decide +kernel
theorem dX12_goesPlans_87 : decode cX12_goesPlans 87 = .ok (.goto (-63), 3) := by decide +kernel
theorem dX12_goesPlans_90 : decode cX12_goesPlans 90 = .ok (.return_, 1) := by decide +kernel
theorem oX12_goesPlans_0 : oP MT mX12_goesPlans 0 (1, 1, 1, 0, []) := o_iload_n dX12_goesPlans_0 rfl
theorem oX12_goesPlans_1 : oP MT mX12_goesPlans 1 (1, 1, 2, 0, []) := o_iload_n dX12_goesPlans_1 rfl
theorem oX12_goesPlans_2 : oP MT mX12_goesPlans 2 (11, 3, 1, 16, []) := o_icmp_ne dX12_goesPlans_2 (by decide) (by decide)
theorem oX12_goesPlans_5 : oP MT mX12_goesPlans 5 (1, 1, 0, 1, []) := o_aload_n dX12_goesPlans_5 rfl
theorem oX12_goesPlans_6 : oP MT mX12_goesPlans 6 (1, 1, 2, 0, []) := o_iload_n dX12_goesPlans_6 rfl
theorem oX12_goesPlans_7 : oP MT mX12_goesPlans 7 (1, 1, 3, 0, []) := o_iload_n dX12_goesPlans_7 rfl
theorem oX12_goesPlans_8 : oP MT mX12_goesPlans 8 (1, 2, 4, 0, []) := o_iload dX12_goesPlans_8
theorem oX12_goesPlans_10 : oP MT mX12_goesPlans 10 (1, 2, 5, 0, []) := o_iload dX12_goesPlans_10
theorem oX12_goesPlans_12 : oP MT mX12_goesPlans 12 (26, 3, 0, 4, [(12, 160)]) := o_callO ((vA.cons (v_callV dX12_goesPlans_12 (ci := 12) rfl rfl (mj := mX12_endsPlan) mt_X12_endsPlan cmq_X12_endsPlan wq_589 wq_591 wq_592 (by decide) (by decide)) vA.nil))
theorem oX12_goesPlans_15 : oP MT mX12_goesPlans 15 (23, 1, 0, 0, []) := o_vret dX12_goesPlans_15 rfl
theorem oX12_goesPlans_16 : oP MT mX12_goesPlans 16 (1, 1, 0, 1, []) := o_aload_n dX12_goesPlans_16 rfl
theorem oX12_goesPlans_17 : oP MT mX12_goesPlans 17 (1, 1, 1, 0, []) := o_iload_n dX12_goesPlans_17 rfl
theorem oX12_goesPlans_18 : oP MT mX12_goesPlans 18 (26, 3, 0, 1, [(12, 161)]) := o_callO ((vA.cons (v_callV dX12_goesPlans_18 (ci := 12) rfl rfl (mj := mX12_saves) mt_X12_saves cmq_X12_saves wq_593 wq_595 wq_596 (by decide) (by decide)) vA.nil))
theorem oX12_goesPlans_21 : oP MT mX12_goesPlans 21 (0, 1, 0, 0, []) := o_iconst dX12_goesPlans_21 (by decide)
theorem oX12_goesPlans_22 : oP MT mX12_goesPlans 22 (2, 2, 6, 0, []) := o_istore dX12_goesPlans_22 (by decide)
theorem oX12_goesPlans_24 : oP MT mX12_goesPlans 24 (1, 2, 6, 0, []) := o_iload dX12_goesPlans_24
theorem oX12_goesPlans_26 : oP MT mX12_goesPlans 26 (1, 1, 0, 1, []) := o_aload_n dX12_goesPlans_26 rfl
theorem oX12_goesPlans_27 : oP MT mX12_goesPlans 27 (13, 3, 0, 12, []) := o_getR (M := mX12_goesPlans) (C := RX12) (T := TX12) (ci := 12) (j := 0) (z := 12) dX12_goesPlans_27 rfl lq_RX12_9 rfl rfl
theorem oX12_goesPlans_30 : oP MT mX12_goesPlans 30 (0, 1, 0, 4, []) := o_iconst dX12_goesPlans_30 (by decide)
theorem oX12_goesPlans_31 : oP MT mX12_goesPlans 31 (16, 1, 1, 0, []) := o_iaload dX12_goesPlans_31
theorem oX12_goesPlans_32 : oP MT mX12_goesPlans 32 (11, 3, 4, 90, []) := o_icmp_gt dX12_goesPlans_32 (by decide) (by decide)
theorem oX12_goesPlans_35 : oP MT mX12_goesPlans 35 (1, 1, 0, 1, []) := o_aload_n dX12_goesPlans_35 rfl
theorem oX12_goesPlans_36 : oP MT mX12_goesPlans 36 (13, 3, 17, 12, []) := o_getR (M := mX12_goesPlans) (C := RX12) (T := TX12) (ci := 12) (j := 17) (z := 12) dX12_goesPlans_36 rfl lq_RX12_38 rfl rfl
theorem oX12_goesPlans_39 : oP MT mX12_goesPlans 39 (1, 1, 1, 0, []) := o_iload_n dX12_goesPlans_39 rfl
theorem oX12_goesPlans_40 : oP MT mX12_goesPlans 40 (1, 2, 6, 0, []) := o_iload dX12_goesPlans_40
theorem oX12_goesPlans_42 : oP MT mX12_goesPlans 42 (18, 1, 0, 0, []) := o_iastore dX12_goesPlans_42
theorem oX12_goesPlans_43 : oP MT mX12_goesPlans 43 (1, 1, 0, 1, []) := o_aload_n dX12_goesPlans_43 rfl
theorem oX12_goesPlans_44 : oP MT mX12_goesPlans 44 (1, 2, 6, 0, []) := o_iload dX12_goesPlans_44
theorem oX12_goesPlans_46 : oP MT mX12_goesPlans 46 (26, 3, 0, 1, [(12, 151)]) := o_callO ((vA.cons (v_callV dX12_goesPlans_46 (ci := 12) rfl rfl (mj := mX12_goesBy) mt_X12_goesBy cmq_X12_goesBy wq_561 wq_563 wq_564 (by decide) (by decide)) vA.nil))
theorem oX12_goesPlans_49 : oP MT mX12_goesPlans 49 (2, 2, 7, 0, []) := o_istore dX12_goesPlans_49 (by decide)
theorem oX12_goesPlans_51 : oP MT mX12_goesPlans 51 (1, 1, 0, 1, []) := o_aload_n dX12_goesPlans_51 rfl
theorem oX12_goesPlans_52 : oP MT mX12_goesPlans 52 (1, 1, 1, 0, []) := o_iload_n dX12_goesPlans_52 rfl
theorem oX12_goesPlans_53 : oP MT mX12_goesPlans 53 (0, 1, 0, 1, []) := o_iconst dX12_goesPlans_53 (by decide)
theorem oX12_goesPlans_54 : oP MT mX12_goesPlans 54 (4, 1, 0, 0, []) := o_iadd dX12_goesPlans_54
theorem oX12_goesPlans_55 : oP MT mX12_goesPlans 55 (1, 1, 2, 0, []) := o_iload_n dX12_goesPlans_55 rfl
theorem oX12_goesPlans_56 : oP MT mX12_goesPlans 56 (1, 1, 3, 0, []) := o_iload_n dX12_goesPlans_56 rfl
theorem oX12_goesPlans_57 : oP MT mX12_goesPlans 57 (1, 2, 7, 0, []) := o_iload dX12_goesPlans_57
theorem oX12_goesPlans_59 : oP MT mX12_goesPlans 59 (4, 1, 0, 0, []) := o_iadd dX12_goesPlans_59
theorem oX12_goesPlans_60 : oP MT mX12_goesPlans 60 (1, 2, 6, 0, []) := o_iload dX12_goesPlans_60
theorem oX12_goesPlans_62 : oP MT mX12_goesPlans 62 (10, 3, 5, 72, []) := o_if_le dX12_goesPlans_62 (by decide) (by decide)
theorem oX12_goesPlans_65 : oP MT mX12_goesPlans 65 (1, 2, 4, 0, []) := o_iload dX12_goesPlans_65
theorem oX12_goesPlans_67 : oP MT mX12_goesPlans 67 (0, 1, 0, 1, []) := o_iconst dX12_goesPlans_67 (by decide)
theorem oX12_goesPlans_68 : oP MT mX12_goesPlans 68 (4, 1, 0, 0, []) := o_iadd dX12_goesPlans_68
theorem oX12_goesPlans_69 : oP MT mX12_goesPlans 69 (9, 3, 74, 0, []) := o_goto dX12_goesPlans_69 (by decide)
theorem oX12_goesPlans_72 : oP MT mX12_goesPlans 72 (1, 2, 4, 0, []) := o_iload dX12_goesPlans_72
theorem oX12_goesPlans_74 : oP MT mX12_goesPlans 74 (1, 2, 5, 0, []) := o_iload dX12_goesPlans_74
theorem oX12_goesPlans_76 : oP MT mX12_goesPlans 76 (26, 3, 0, 5, [(12, 164)]) := o_callO ((vA.cons (v_callV dX12_goesPlans_76 (ci := 12) rfl rfl (mj := mX12_goesPlans) mt_X12_goesPlans cmq_X12_goesPlans wq_597 wq_599 wq_600 (by decide) (by decide)) vA.nil))
theorem oX12_goesPlans_79 : oP MT mX12_goesPlans 79 (1, 1, 0, 1, []) := o_aload_n dX12_goesPlans_79 rfl
theorem oX12_goesPlans_80 : oP MT mX12_goesPlans 80 (1, 1, 1, 0, []) := o_iload_n dX12_goesPlans_80 rfl
theorem oX12_goesPlans_81 : oP MT mX12_goesPlans 81 (26, 3, 0, 1, [(12, 162)]) := o_callO ((vA.cons (v_callV dX12_goesPlans_81 (ci := 12) rfl rfl (mj := mX12_restores) mt_X12_restores cmq_X12_restores wq_601 wq_603 wq_604 (by decide) (by decide)) vA.nil))
theorem oX12_goesPlans_84 : oP MT mX12_goesPlans 84 (3, 3, 6, 1, []) := o_iinc dX12_goesPlans_84 (by decide) (by decide)
theorem oX12_goesPlans_87 : oP MT mX12_goesPlans 87 (9, 3, 24, 0, []) := o_goto dX12_goesPlans_87 (by decide)
theorem oX12_goesPlans_90 : oP MT mX12_goesPlans 90 (23, 1, 0, 0, []) := o_vret dX12_goesPlans_90 rfl
def ops_X12_goesPlans : List (Nat × aO) := [(0, (1, 1, 1, 0, [])), (1, (1, 1, 2, 0, [])), (2, (11, 3, 1, 16, [])), (5, (1, 1, 0, 1, [])), (6, (1, 1, 2, 0, [])), (7, (1, 1, 3, 0, [])), (8, (1, 2, 4, 0, [])), (10, (1, 2, 5, 0, [])), (12, (26, 3, 0, 4, [(12, 160)])), (15, (23, 1, 0, 0, [])), (16, (1, 1, 0, 1, [])), (17, (1, 1, 1, 0, [])), (18, (26, 3, 0, 1, [(12, 161)])), (21, (0, 1, 0, 0, [])), (22, (2, 2, 6, 0, [])), (24, (1, 2, 6, 0, [])), (26, (1, 1, 0, 1, [])), (27, (13, 3, 0, 12, [])), (30, (0, 1, 0, 4, [])), (31, (16, 1, 1, 0, [])), (32, (11, 3, 4, 90, [])), (35, (1, 1, 0, 1, [])), (36, (13, 3, 17, 12, [])), (39, (1, 1, 1, 0, [])), (40, (1, 2, 6, 0, [])), (42, (18, 1, 0, 0, [])), (43, (1, 1, 0, 1, [])), (44, (1, 2, 6, 0, [])), (46, (26, 3, 0, 1, [(12, 151)])), (49, (2, 2, 7, 0, [])), (51, (1, 1, 0, 1, [])), (52, (1, 1, 1, 0, [])), (53, (0, 1, 0, 1, [])), (54, (4, 1, 0, 0, [])), (55, (1, 1, 2, 0, [])), (56, (1, 1, 3, 0, [])), (57, (1, 2, 7, 0, [])), (59, (4, 1, 0, 0, [])), (60, (1, 2, 6, 0, [])), (62, (10, 3, 5, 72, [])), (65, (1, 2, 4, 0, [])), (67, (0, 1, 0, 1, [])), (68, (4, 1, 0, 0, [])), (69, (9, 3, 74, 0, [])), (72, (1, 2, 4, 0, [])), (74, (1, 2, 5, 0, [])), (76, (26, 3, 0, 5, [(12, 164)])), (79, (1, 1, 0, 1, [])), (80, (1, 1, 1, 0, [])), (81, (26, 3, 0, 1, [(12, 162)])), (84, (3, 3, 6, 1, [])), (87, (9, 3, 24, 0, [])), (90, (23, 1, 0, 0, []))]
theorem os_X12_goesPlans : oA MT mX12_goesPlans ops_X12_goesPlans := (oA.cons oX12_goesPlans_0 (oA.cons oX12_goesPlans_1 (oA.cons oX12_goesPlans_2 (oA.cons oX12_goesPlans_5 (oA.cons oX12_goesPlans_6 (oA.cons oX12_goesPlans_7 (oA.cons oX12_goesPlans_8 (oA.cons oX12_goesPlans_10 (oA.cons oX12_goesPlans_12 (oA.cons oX12_goesPlans_15 (oA.cons oX12_goesPlans_16 (oA.cons oX12_goesPlans_17 (oA.cons oX12_goesPlans_18 (oA.cons oX12_goesPlans_21 (oA.cons oX12_goesPlans_22 (oA.cons oX12_goesPlans_24 (oA.cons oX12_goesPlans_26 (oA.cons oX12_goesPlans_27 (oA.cons oX12_goesPlans_30 (oA.cons oX12_goesPlans_31 (oA.cons oX12_goesPlans_32 (oA.cons oX12_goesPlans_35 (oA.cons oX12_goesPlans_36 (oA.cons oX12_goesPlans_39 (oA.cons oX12_goesPlans_40 (oA.cons oX12_goesPlans_42 (oA.cons oX12_goesPlans_43 (oA.cons oX12_goesPlans_44 (oA.cons oX12_goesPlans_46 (oA.cons oX12_goesPlans_49 (oA.cons oX12_goesPlans_51 (oA.cons oX12_goesPlans_52 (oA.cons oX12_goesPlans_53 (oA.cons oX12_goesPlans_54 (oA.cons oX12_goesPlans_55 (oA.cons oX12_goesPlans_56 (oA.cons oX12_goesPlans_57 (oA.cons oX12_goesPlans_59 (oA.cons oX12_goesPlans_60 (oA.cons oX12_goesPlans_62 (oA.cons oX12_goesPlans_65 (oA.cons oX12_goesPlans_67 (oA.cons oX12_goesPlans_68 (oA.cons oX12_goesPlans_69 (oA.cons oX12_goesPlans_72 (oA.cons oX12_goesPlans_74 (oA.cons oX12_goesPlans_76 (oA.cons oX12_goesPlans_79 (oA.cons oX12_goesPlans_80 (oA.cons oX12_goesPlans_81 (oA.cons oX12_goesPlans_84 (oA.cons oX12_goesPlans_87 (oA.cons oX12_goesPlans_90 oA.nil)))))))))))))))))))))))))))))))))))))))))))))))))))))
theorem dX12_isPlan_0 : decode cX12_isPlan 0 = .ok (.iload_n 0, 1) := by decide +kernel
theorem dX12_isPlan_1 : decode cX12_isPlan 1 = .ok (.iconst 0, 1) := by decide +kernel
theorem dX12_isPlan_2 : decode cX12_isPlan 2 = .ok (.iconst 4, 1) := by decide +kernel
theorem dX12_isPlan_3 : decode cX12_isPlan 3 = .ok (.invokestatic 71, 3) := by decide +kernel
theorem dX12_isPlan_6 : decode cX12_isPlan 6 = .ok (.ireturn, 1) := by decide +kernel
theorem oX12_isPlan_0 : oP MT mX12_isPlan 0 (1, 1, 0, 0, []) := o_iload_n dX12_isPlan_0 rfl
theorem oX12_isPlan_1 : oP MT mX12_isPlan 1 (0, 1, 0, 0, []) := o_iconst dX12_isPlan_1 (by decide)
theorem oX12_isPlan_2 : oP MT mX12_isPlan 2 (0, 1, 0, 4, []) := o_iconst dX12_isPlan_2 (by decide)
theorem oX12_isPlan_3 : oP MT mX12_isPlan 3 (25, 3, 127, 3, []) := o_callS dX12_isPlan_3 (mj := mX12_in1) mt_X12_in1 cmq_X12_in1 wq_468 wq_470 (by decide) (by decide)
theorem oX12_isPlan_6 : oP MT mX12_isPlan 6 (22, 1, 0, 0, []) := o_zret dX12_isPlan_6 rfl
def ops_X12_isPlan : List (Nat × aO) := [(0, (1, 1, 0, 0, [])), (1, (0, 1, 0, 0, [])), (2, (0, 1, 0, 4, [])), (3, (25, 3, 127, 3, [])), (6, (22, 1, 0, 0, []))]
theorem os_X12_isPlan : oA MT mX12_isPlan ops_X12_isPlan := (oA.cons oX12_isPlan_0 (oA.cons oX12_isPlan_1 (oA.cons oX12_isPlan_2 (oA.cons oX12_isPlan_3 (oA.cons oX12_isPlan_6 oA.nil)))))
theorem dX12_triesAll_0 : decode cX12_triesAll 0 = .ok (.aload_n 0, 1) := by decide +kernel
theorem dX12_triesAll_1 : decode cX12_triesAll 1 = .ok (.iconst (-1), 1) := by decide +kernel
theorem dX12_triesAll_2 : decode cX12_triesAll 2 = .ok (.putfield 259, 3) := by decide +kernel
theorem dX12_triesAll_5 : decode cX12_triesAll 5 = .ok (.aload_n 0, 1) := by decide +kernel
theorem dX12_triesAll_6 : decode cX12_triesAll 6 = .ok (.iconst 0, 1) := by decide +kernel
theorem dX12_triesAll_7 : decode cX12_triesAll 7 = .ok (.putfield 262, 3) := by decide +kernel
theorem dX12_triesAll_10 : decode cX12_triesAll 10 = .ok (.aload_n 0, 1) := by decide +kernel
theorem dX12_triesAll_11 : decode cX12_triesAll 11 = .ok (.iconst 5, 1) := by decide +kernel
theorem dX12_triesAll_12 : decode cX12_triesAll 12 = .ok (.putfield 265, 3) := by decide +kernel
theorem dX12_triesAll_15 : decode cX12_triesAll 15 = .ok (.aload_n 0, 1) := by decide +kernel
theorem dX12_triesAll_16 : decode cX12_triesAll 16 = .ok (.iconst 0, 1) := by decide +kernel
theorem dX12_triesAll_17 : decode cX12_triesAll 17 = .ok (.putfield 268, 3) := by decide +kernel
theorem dX12_triesAll_20 : decode cX12_triesAll 20 = .ok (.aload_n 0, 1) := by decide +kernel
theorem dX12_triesAll_21 : decode cX12_triesAll 21 = .ok (.iconst 0, 1) := by decide +kernel
theorem dX12_triesAll_22 : decode cX12_triesAll 22 = .ok (.aload_n 0, 1) := by decide +kernel
theorem dX12_triesAll_23 : decode cX12_triesAll 23 = .ok (.iload_n 1, 1) := by decide +kernel
theorem dX12_triesAll_24 : decode cX12_triesAll 24 = .ok (.invokevirtual 285, 3) := by decide +kernel
theorem dX12_triesAll_27 : decode cX12_triesAll 27 = .ok (.iconst 0, 1) := by decide +kernel
theorem dX12_triesAll_28 : decode cX12_triesAll 28 = .ok (.iconst 0, 1) := by decide +kernel
theorem dX12_triesAll_29 : decode cX12_triesAll 29 = .ok (.iload_n 2, 1) := by decide +kernel
theorem dX12_triesAll_30 : decode cX12_triesAll 30 = .ok (.invokevirtual 278, 3) := by decide +kernel
theorem dX12_triesAll_33 : decode cX12_triesAll 33 = .ok (.return_, 1) := by decide +kernel
theorem oX12_triesAll_0 : oP MT mX12_triesAll 0 (1, 1, 0, 1, []) := o_aload_n dX12_triesAll_0 rfl
theorem oX12_triesAll_1 : oP MT mX12_triesAll 1 (0, 1, 0, (-1), []) := o_iconst dX12_triesAll_1 (by decide)
theorem oX12_triesAll_2 : oP MT mX12_triesAll 2 (14, 3, 19, 12, []) := o_putI (M := mX12_triesAll) (C := RX12) (T := TX12) (ci := 12) (j := 19) (z := 12) dX12_triesAll_2 rfl lq_RX12_259 rfl rfl rfl rfl
theorem oX12_triesAll_5 : oP MT mX12_triesAll 5 (1, 1, 0, 1, []) := o_aload_n dX12_triesAll_5 rfl
theorem oX12_triesAll_6 : oP MT mX12_triesAll 6 (0, 1, 0, 0, []) := o_iconst dX12_triesAll_6 (by decide)
theorem oX12_triesAll_7 : oP MT mX12_triesAll 7 (14, 3, 20, 12, []) := o_putI (M := mX12_triesAll) (C := RX12) (T := TX12) (ci := 12) (j := 20) (z := 12) dX12_triesAll_7 rfl lq_RX12_262 rfl rfl rfl rfl
theorem oX12_triesAll_10 : oP MT mX12_triesAll 10 (1, 1, 0, 1, []) := o_aload_n dX12_triesAll_10 rfl
theorem oX12_triesAll_11 : oP MT mX12_triesAll 11 (0, 1, 0, 5, []) := o_iconst dX12_triesAll_11 (by decide)
theorem oX12_triesAll_12 : oP MT mX12_triesAll 12 (14, 3, 21, 12, []) := o_putI (M := mX12_triesAll) (C := RX12) (T := TX12) (ci := 12) (j := 21) (z := 12) dX12_triesAll_12 rfl lq_RX12_265 rfl rfl rfl rfl
theorem oX12_triesAll_15 : oP MT mX12_triesAll 15 (1, 1, 0, 1, []) := o_aload_n dX12_triesAll_15 rfl
theorem oX12_triesAll_16 : oP MT mX12_triesAll 16 (0, 1, 0, 0, []) := o_iconst dX12_triesAll_16 (by decide)
theorem oX12_triesAll_17 : oP MT mX12_triesAll 17 (14, 3, 22, 12, []) := o_putI (M := mX12_triesAll) (C := RX12) (T := TX12) (ci := 12) (j := 22) (z := 12) dX12_triesAll_17 rfl lq_RX12_268 rfl rfl rfl rfl
theorem oX12_triesAll_20 : oP MT mX12_triesAll 20 (1, 1, 0, 1, []) := o_aload_n dX12_triesAll_20 rfl
theorem oX12_triesAll_21 : oP MT mX12_triesAll 21 (0, 1, 0, 0, []) := o_iconst dX12_triesAll_21 (by decide)
theorem oX12_triesAll_22 : oP MT mX12_triesAll 22 (1, 1, 0, 1, []) := o_aload_n dX12_triesAll_22 rfl
theorem oX12_triesAll_23 : oP MT mX12_triesAll 23 (1, 1, 1, 0, []) := o_iload_n dX12_triesAll_23 rfl
theorem oX12_triesAll_24 : oP MT mX12_triesAll 24 (26, 3, 0, 1, [(12, 163)]) := o_callO ((vA.cons (v_callV dX12_triesAll_24 (ci := 12) rfl rfl (mj := mX12_daysOf) mt_X12_daysOf cmq_X12_daysOf wq_605 wq_607 wq_608 (by decide) (by decide)) vA.nil))
theorem oX12_triesAll_27 : oP MT mX12_triesAll 27 (0, 1, 0, 0, []) := o_iconst dX12_triesAll_27 (by decide)
theorem oX12_triesAll_28 : oP MT mX12_triesAll 28 (0, 1, 0, 0, []) := o_iconst dX12_triesAll_28 (by decide)
theorem oX12_triesAll_29 : oP MT mX12_triesAll 29 (1, 1, 2, 0, []) := o_iload_n dX12_triesAll_29 rfl
theorem oX12_triesAll_30 : oP MT mX12_triesAll 30 (26, 3, 0, 5, [(12, 164)]) := o_callO ((vA.cons (v_callV dX12_triesAll_30 (ci := 12) rfl rfl (mj := mX12_goesPlans) mt_X12_goesPlans cmq_X12_goesPlans wq_597 wq_599 wq_600 (by decide) (by decide)) vA.nil))
theorem oX12_triesAll_33 : oP MT mX12_triesAll 33 (23, 1, 0, 0, []) := o_vret dX12_triesAll_33 rfl
def ops_X12_triesAll : List (Nat × aO) := [(0, (1, 1, 0, 1, [])), (1, (0, 1, 0, (-1), [])), (2, (14, 3, 19, 12, [])), (5, (1, 1, 0, 1, [])), (6, (0, 1, 0, 0, [])), (7, (14, 3, 20, 12, [])), (10, (1, 1, 0, 1, [])), (11, (0, 1, 0, 5, [])), (12, (14, 3, 21, 12, [])), (15, (1, 1, 0, 1, [])), (16, (0, 1, 0, 0, [])), (17, (14, 3, 22, 12, [])), (20, (1, 1, 0, 1, [])), (21, (0, 1, 0, 0, [])), (22, (1, 1, 0, 1, [])), (23, (1, 1, 1, 0, [])), (24, (26, 3, 0, 1, [(12, 163)])), (27, (0, 1, 0, 0, [])), (28, (0, 1, 0, 0, [])), (29, (1, 1, 2, 0, [])), (30, (26, 3, 0, 5, [(12, 164)])), (33, (23, 1, 0, 0, []))]
theorem os_X12_triesAll : oA MT mX12_triesAll ops_X12_triesAll := (oA.cons oX12_triesAll_0 (oA.cons oX12_triesAll_1 (oA.cons oX12_triesAll_2 (oA.cons oX12_triesAll_5 (oA.cons oX12_triesAll_6 (oA.cons oX12_triesAll_7 (oA.cons oX12_triesAll_10 (oA.cons oX12_triesAll_11 (oA.cons oX12_triesAll_12 (oA.cons oX12_triesAll_15 (oA.cons oX12_triesAll_16 (oA.cons oX12_triesAll_17 (oA.cons oX12_triesAll_20 (oA.cons oX12_triesAll_21 (oA.cons oX12_triesAll_22 (oA.cons oX12_triesAll_23 (oA.cons oX12_triesAll_24 (oA.cons oX12_triesAll_27 (oA.cons oX12_triesAll_28 (oA.cons oX12_triesAll_29 (oA.cons oX12_triesAll_30 (oA.cons oX12_triesAll_33 oA.nil))))))))))))))))))))))
theorem dX12_isSet_0 : decode cX12_isSet 0 = .ok (.iload_n 1, 1) := by decide +kernel
theorem dX12_isSet_1 : decode cX12_isSet 1 = .ok (.iconst 0, 1) := by decide +kernel
theorem dX12_isSet_2 : decode cX12_isSet 2 = .ok (.iconst 1, 1) := by decide +kernel
theorem dX12_isSet_3 : decode cX12_isSet 3 = .ok (.aload_n 0, 1) := by decide +kernel
theorem dX12_isSet_4 : decode cX12_isSet 4 = .ok (.getfield 9, 3) := by decide +kernel
theorem dX12_isSet_7 : decode cX12_isSet 7 = .ok (.iconst 4, 1) := by decide +kernel
theorem dX12_isSet_8 : decode cX12_isSet 8 = .ok (.iaload, 1) := by decide +kernel
theorem dX12_isSet_9 : decode cX12_isSet 9 = .ok (.ishl, 1) := by decide +kernel
theorem dX12_isSet_10 : decode cX12_isSet 10 = .ok (.iconst 1, 1) := by decide +kernel
theorem dX12_isSet_11 : decode cX12_isSet 11 = .ok (.isub, 1) := by decide +kernel
theorem dX12_isSet_12 : decode cX12_isSet 12 = .ok (.invokestatic 71, 3) := by decide +kernel
theorem dX12_isSet_15 : decode cX12_isSet 15 = .ok (.ireturn, 1) := by decide +kernel
theorem oX12_isSet_0 : oP MT mX12_isSet 0 (1, 1, 1, 0, []) := o_iload_n dX12_isSet_0 rfl
theorem oX12_isSet_1 : oP MT mX12_isSet 1 (0, 1, 0, 0, []) := o_iconst dX12_isSet_1 (by decide)
theorem oX12_isSet_2 : oP MT mX12_isSet 2 (0, 1, 0, 1, []) := o_iconst dX12_isSet_2 (by decide)
theorem oX12_isSet_3 : oP MT mX12_isSet 3 (1, 1, 0, 1, []) := o_aload_n dX12_isSet_3 rfl
theorem oX12_isSet_4 : oP MT mX12_isSet 4 (13, 3, 0, 12, []) := o_getR (M := mX12_isSet) (C := RX12) (T := TX12) (ci := 12) (j := 0) (z := 12) dX12_isSet_4 rfl lq_RX12_9 rfl rfl
theorem oX12_isSet_7 : oP MT mX12_isSet 7 (0, 1, 0, 4, []) := o_iconst dX12_isSet_7 (by decide)
theorem oX12_isSet_8 : oP MT mX12_isSet 8 (16, 1, 1, 0, []) := o_iaload dX12_isSet_8
theorem oX12_isSet_9 : oP MT mX12_isSet 9 (4, 1, 6, 0, []) := o_ishl dX12_isSet_9
theorem oX12_isSet_10 : oP MT mX12_isSet 10 (0, 1, 0, 1, []) := o_iconst dX12_isSet_10 (by decide)
theorem oX12_isSet_11 : oP MT mX12_isSet 11 (4, 1, 1, 0, []) := o_isub dX12_isSet_11
theorem oX12_isSet_12 : oP MT mX12_isSet 12 (25, 3, 127, 3, []) := o_callS dX12_isSet_12 (mj := mX12_in1) mt_X12_in1 cmq_X12_in1 wq_468 wq_470 (by decide) (by decide)
theorem oX12_isSet_15 : oP MT mX12_isSet 15 (22, 1, 0, 0, []) := o_zret dX12_isSet_15 rfl
def ops_X12_isSet : List (Nat × aO) := [(0, (1, 1, 1, 0, [])), (1, (0, 1, 0, 0, [])), (2, (0, 1, 0, 1, [])), (3, (1, 1, 0, 1, [])), (4, (13, 3, 0, 12, [])), (7, (0, 1, 0, 4, [])), (8, (16, 1, 1, 0, [])), (9, (4, 1, 6, 0, [])), (10, (0, 1, 0, 1, [])), (11, (4, 1, 1, 0, [])), (12, (25, 3, 127, 3, [])), (15, (22, 1, 0, 0, []))]
theorem os_X12_isSet : oA MT mX12_isSet ops_X12_isSet := (oA.cons oX12_isSet_0 (oA.cons oX12_isSet_1 (oA.cons oX12_isSet_2 (oA.cons oX12_isSet_3 (oA.cons oX12_isSet_4 (oA.cons oX12_isSet_7 (oA.cons oX12_isSet_8 (oA.cons oX12_isSet_9 (oA.cons oX12_isSet_10 (oA.cons oX12_isSet_11 (oA.cons oX12_isSet_12 (oA.cons oX12_isSet_15 oA.nil))))))))))))
theorem dX12_playedFrom_0 : decode cX12_playedFrom 0 = .ok (.iload_n 1, 1) := by decide +kernel
theorem dX12_playedFrom_1 : decode cX12_playedFrom 1 = .ok (.iload_n 2, 1) := by decide +kernel
theorem dX12_playedFrom_2 : decode cX12_playedFrom 2 = .ok (.if_icmp .ne 5, 3) := by decide +kernel
theorem dX12_playedFrom_5 : decode cX12_playedFrom 5 = .ok (.iconst 0, 1) := by decide +kernel
theorem dX12_playedFrom_6 : decode cX12_playedFrom 6 = .ok (.ireturn, 1) := by decide +kernel
theorem dX12_playedFrom_7 : decode cX12_playedFrom 7 = .ok (.aload_n 0, 1) := by decide +kernel
theorem dX12_playedFrom_8 : decode cX12_playedFrom 8 = .ok (.iload_n 1, 1) := by decide +kernel
theorem dX12_playedFrom_9 : decode cX12_playedFrom 9 = .ok (.invokevirtual 275, 3) := by decide +kernel
theorem dX12_playedFrom_12 : decode cX12_playedFrom 12 = .ok (.iconst 0, 1) := by decide +kernel
theorem dX12_playedFrom_13 : decode cX12_playedFrom 13 = .ok (.istore_n 3, 1) := by decide +kernel
theorem dX12_playedFrom_14 : decode cX12_playedFrom 14 = .ok (.iconst (-1), 1) := by decide +kernel
theorem dX12_playedFrom_15 : decode cX12_playedFrom 15 = .ok (.istore 4, 2) := by decide +kernel
theorem dX12_playedFrom_17 : decode cX12_playedFrom 17 = .ok (.iconst 0, 1) := by decide +kernel
theorem dX12_playedFrom_18 : decode cX12_playedFrom 18 = .ok (.istore 5, 2) := by decide +kernel
theorem dX12_playedFrom_20 : decode cX12_playedFrom 20 = .ok (.iload 5, 2) := by decide +kernel
theorem dX12_playedFrom_22 : decode cX12_playedFrom 22 = .ok (.aload_n 0, 1) := by decide +kernel
theorem dX12_playedFrom_23 : decode cX12_playedFrom 23 = .ok (.getfield 9, 3) := by decide +kernel
theorem dX12_playedFrom_26 : decode cX12_playedFrom 26 = .ok (.iconst 4, 1) := by decide +kernel
theorem dX12_playedFrom_27 : decode cX12_playedFrom 27 = .ok (.iaload, 1) := by decide +kernel
theorem dX12_playedFrom_28 : decode cX12_playedFrom 28 = .ok (.if_icmp .gt 94, 3) := by decide +kernel
theorem dX12_playedFrom_31 : decode cX12_playedFrom 31 = .ok (.aload_n 0, 1) := by decide +kernel
theorem dX12_playedFrom_32 : decode cX12_playedFrom 32 = .ok (.iload 5, 2) := by decide +kernel
theorem dX12_playedFrom_34 : decode cX12_playedFrom 34 = .ok (.invokevirtual 238, 3) := by decide +kernel
theorem dX12_playedFrom_37 : decode cX12_playedFrom 37 = .ok (.istore 6, 2) := by decide +kernel
theorem dX12_playedFrom_39 : decode cX12_playedFrom 39 = .ok (.iload 6, 2) := by decide +kernel
theorem dX12_playedFrom_41 : decode cX12_playedFrom 41 = .ok (.aload_n 0, 1) := by decide +kernel
theorem dX12_playedFrom_42 : decode cX12_playedFrom 42 = .ok (.iload_n 1, 1) := by decide +kernel
theorem dX12_playedFrom_43 : decode cX12_playedFrom 43 = .ok (.iconst 1, 1) := by decide +kernel
theorem dX12_playedFrom_44 : decode cX12_playedFrom 44 = .ok (.iadd, 1) := by decide +kernel
theorem dX12_playedFrom_45 : decode cX12_playedFrom 45 = .ok (.iload_n 2, 1) := by decide +kernel
theorem dX12_playedFrom_46 : decode cX12_playedFrom 46 = .ok (.invokevirtual 298, 3) := by decide +kernel
theorem dX12_playedFrom_49 : decode cX12_playedFrom 49 = .ok (.iadd, 1) := by decide +kernel
theorem dX12_playedFrom_50 : decode cX12_playedFrom 50 = .ok (.istore 7, 2) := by decide +kernel
theorem dX12_playedFrom_52 : decode cX12_playedFrom 52 = .ok (.aload_n 0, 1) := by decide +kernel
theorem dX12_playedFrom_53 : decode cX12_playedFrom 53 = .ok (.iload_n 1, 1) := by decide +kernel
theorem dX12_playedFrom_54 : decode cX12_playedFrom 54 = .ok (.invokevirtual 282, 3) := by decide +kernel
theorem dX12_playedFrom_57 : decode cX12_playedFrom 57 = .ok (.iload 4, 2) := by decide +kernel
theorem dX12_playedFrom_59 : decode cX12_playedFrom 59 = .ok (.ifCond .lt 24, 3) := by decide +kernel
theorem dX12_playedFrom_62 : decode cX12_playedFrom 62 = .ok (.iload_n 1, 1) := by decide +kernel
theorem dX12_playedFrom_63 : decode cX12_playedFrom 63 = .ok (.iconst 2, 1) := by decide +kernel
theorem dX12_playedFrom_64 : decode cX12_playedFrom 64 = .ok (.irem, 1) := by decide +kernel
theorem dX12_playedFrom_65 : decode cX12_playedFrom 65 = .ok (.ifCond .ne 12, 3) := by decide +kernel
theorem dX12_playedFrom_68 : decode cX12_playedFrom 68 = .ok (.iload 7, 2) := by decide +kernel
theorem dX12_playedFrom_70 : decode cX12_playedFrom 70 = .ok (.iload_n 3, 1) := by decide +kernel
theorem dX12_playedFrom_71 : decode cX12_playedFrom 71 = .ok (.if_icmp .le 16, 3) := by decide +kernel
theorem dX12_playedFrom_74 : decode cX12_playedFrom 74 = .ok (.goto 9, 3) := by decide +kernel
theorem dX12_playedFrom_77 : decode cX12_playedFrom 77 = .ok (.iload 7, 2) := by decide +kernel
theorem dX12_playedFrom_79 : decode cX12_playedFrom 79 = .ok (.iload_n 3, 1) := by decide +kernel
theorem dX12_playedFrom_80 : decode cX12_playedFrom 80 = .ok (.if_icmp .ge 7, 3) := by decide +kernel
theorem dX12_playedFrom_83 : decode cX12_playedFrom 83 = .ok (.iconst 1, 1) := by decide +kernel
theorem dX12_playedFrom_84 : decode cX12_playedFrom 84 = .ok (.goto 4, 3) := by decide +kernel
theorem dX12_playedFrom_87 : decode cX12_playedFrom 87 = .ok (.iconst 0, 1) := by decide +kernel
theorem dX12_playedFrom_88 : decode cX12_playedFrom 88 = .ok (.istore 8, 2) := by decide +kernel
theorem dX12_playedFrom_90 : decode cX12_playedFrom 90 = .ok (.iload 8, 2) := by decide +kernel
theorem dX12_playedFrom_92 : decode cX12_playedFrom 92 = .ok (.ifCond .eq 8, 3) := by decide +kernel
theorem dX12_playedFrom_95 : decode cX12_playedFrom 95 = .ok (.iload 5, 2) := by decide +kernel
theorem dX12_playedFrom_97 : decode cX12_playedFrom 97 = .ok (.goto 5, 3) := by decide +kernel
theorem dX12_playedFrom_100 : decode cX12_playedFrom 100 = .ok (.iload 4, 2) := by decide +kernel
theorem dX12_playedFrom_102 : decode cX12_playedFrom 102 = .ok (.istore 4, 2) := by decide +kernel
theorem dX12_playedFrom_104 : decode cX12_playedFrom 104 = .ok (.iload 8, 2) := by decide +kernel
theorem dX12_playedFrom_106 : decode cX12_playedFrom 106 = .ok (.ifCond .eq 8, 3) := by decide +kernel
theorem dX12_playedFrom_109 : decode cX12_playedFrom 109 = .ok (.iload 7, 2) := by decide +kernel
theorem dX12_playedFrom_111 : decode cX12_playedFrom 111 = .ok (.goto 4, 3) := by decide +kernel
theorem dX12_playedFrom_114 : decode cX12_playedFrom 114 = .ok (.iload_n 3, 1) := by decide +kernel
theorem dX12_playedFrom_115 : decode cX12_playedFrom 115 = .ok (.istore_n 3, 1) := by decide +kernel
theorem dX12_playedFrom_116 : decode cX12_playedFrom 116 = .ok (.iinc 5 1, 3) := by decide +kernel
theorem dX12_playedFrom_119 : decode cX12_playedFrom 119 = .ok (.goto (-99), 3) := by decide +kernel
theorem dX12_playedFrom_122 : decode cX12_playedFrom 122 = .ok (.aload_n 0, 1) := by decide +kernel
theorem dX12_playedFrom_123 : decode cX12_playedFrom 123 = .ok (.getfield 38, 3) := by decide +kernel
theorem dX12_playedFrom_126 : decode cX12_playedFrom 126 = .ok (.iload_n 1, 1) := by decide +kernel
theorem dX12_playedFrom_127 : decode cX12_playedFrom 127 = .ok (.iload 4, 2) := by decide +kernel
theorem dX12_playedFrom_129 : decode cX12_playedFrom 129 = .ok (.iastore, 1) := by decide +kernel
theorem dX12_playedFrom_130 : decode cX12_playedFrom 130 = .ok (.iload_n 3, 1) := by decide +kernel
theorem dX12_playedFrom_131 : decode cX12_playedFrom 131 = .ok (.ireturn, 1) := by decide +kernel
theorem oX12_playedFrom_0 : oP MT mX12_playedFrom 0 (1, 1, 1, 0, []) := o_iload_n dX12_playedFrom_0 rfl
theorem oX12_playedFrom_1 : oP MT mX12_playedFrom 1 (1, 1, 2, 0, []) := o_iload_n dX12_playedFrom_1 rfl
theorem oX12_playedFrom_2 : oP MT mX12_playedFrom 2 (11, 3, 1, 7, []) := o_icmp_ne dX12_playedFrom_2 (by decide) (by decide)
theorem oX12_playedFrom_5 : oP MT mX12_playedFrom 5 (0, 1, 0, 0, []) := o_iconst dX12_playedFrom_5 (by decide)
theorem oX12_playedFrom_6 : oP MT mX12_playedFrom 6 (21, 1, 0, 0, []) := o_iret dX12_playedFrom_6 rfl
theorem oX12_playedFrom_7 : oP MT mX12_playedFrom 7 (1, 1, 0, 1, []) := o_aload_n dX12_playedFrom_7 rfl
theorem oX12_playedFrom_8 : oP MT mX12_playedFrom 8 (1, 1, 1, 0, []) := o_iload_n dX12_playedFrom_8 rfl
theorem oX12_playedFrom_9 : oP MT mX12_playedFrom 9 (26, 3, 0, 1, [(12, 161)]) := o_callO ((vA.cons (v_callV dX12_playedFrom_9 (ci := 12) rfl rfl (mj := mX12_saves) mt_X12_saves cmq_X12_saves wq_593 wq_595 wq_596 (by decide) (by decide)) vA.nil))
theorem oX12_playedFrom_12 : oP MT mX12_playedFrom 12 (0, 1, 0, 0, []) := o_iconst dX12_playedFrom_12 (by decide)
theorem oX12_playedFrom_13 : oP MT mX12_playedFrom 13 (2, 1, 3, 0, []) := o_istore_n dX12_playedFrom_13 rfl (by decide)
theorem oX12_playedFrom_14 : oP MT mX12_playedFrom 14 (0, 1, 0, (-1), []) := o_iconst dX12_playedFrom_14 (by decide)
theorem oX12_playedFrom_15 : oP MT mX12_playedFrom 15 (2, 2, 4, 0, []) := o_istore dX12_playedFrom_15 (by decide)
theorem oX12_playedFrom_17 : oP MT mX12_playedFrom 17 (0, 1, 0, 0, []) := o_iconst dX12_playedFrom_17 (by decide)
theorem oX12_playedFrom_18 : oP MT mX12_playedFrom 18 (2, 2, 5, 0, []) := o_istore dX12_playedFrom_18 (by decide)
theorem oX12_playedFrom_20 : oP MT mX12_playedFrom 20 (1, 2, 5, 0, []) := o_iload dX12_playedFrom_20
theorem oX12_playedFrom_22 : oP MT mX12_playedFrom 22 (1, 1, 0, 1, []) := o_aload_n dX12_playedFrom_22 rfl
theorem oX12_playedFrom_23 : oP MT mX12_playedFrom 23 (13, 3, 0, 12, []) := o_getR (M := mX12_playedFrom) (C := RX12) (T := TX12) (ci := 12) (j := 0) (z := 12) dX12_playedFrom_23 rfl lq_RX12_9 rfl rfl
theorem oX12_playedFrom_26 : oP MT mX12_playedFrom 26 (0, 1, 0, 4, []) := o_iconst dX12_playedFrom_26 (by decide)
theorem oX12_playedFrom_27 : oP MT mX12_playedFrom 27 (16, 1, 1, 0, []) := o_iaload dX12_playedFrom_27
theorem oX12_playedFrom_28 : oP MT mX12_playedFrom 28 (11, 3, 4, 122, []) := o_icmp_gt dX12_playedFrom_28 (by decide) (by decide)
theorem oX12_playedFrom_31 : oP MT mX12_playedFrom 31 (1, 1, 0, 1, []) := o_aload_n dX12_playedFrom_31 rfl
theorem oX12_playedFrom_32 : oP MT mX12_playedFrom 32 (1, 2, 5, 0, []) := o_iload dX12_playedFrom_32
theorem oX12_playedFrom_34 : oP MT mX12_playedFrom 34 (26, 3, 0, 1, [(12, 151)]) := o_callO ((vA.cons (v_callV dX12_playedFrom_34 (ci := 12) rfl rfl (mj := mX12_goesBy) mt_X12_goesBy cmq_X12_goesBy wq_561 wq_563 wq_564 (by decide) (by decide)) vA.nil))
theorem oX12_playedFrom_37 : oP MT mX12_playedFrom 37 (2, 2, 6, 0, []) := o_istore dX12_playedFrom_37 (by decide)
theorem oX12_playedFrom_39 : oP MT mX12_playedFrom 39 (1, 2, 6, 0, []) := o_iload dX12_playedFrom_39
theorem oX12_playedFrom_41 : oP MT mX12_playedFrom 41 (1, 1, 0, 1, []) := o_aload_n dX12_playedFrom_41 rfl
theorem oX12_playedFrom_42 : oP MT mX12_playedFrom 42 (1, 1, 1, 0, []) := o_iload_n dX12_playedFrom_42 rfl
theorem oX12_playedFrom_43 : oP MT mX12_playedFrom 43 (0, 1, 0, 1, []) := o_iconst dX12_playedFrom_43 (by decide)
theorem oX12_playedFrom_44 : oP MT mX12_playedFrom 44 (4, 1, 0, 0, []) := o_iadd dX12_playedFrom_44
theorem oX12_playedFrom_45 : oP MT mX12_playedFrom 45 (1, 1, 2, 0, []) := o_iload_n dX12_playedFrom_45 rfl
theorem oX12_playedFrom_46 : oP MT mX12_playedFrom 46 (26, 3, 0, 2, [(12, 168)]) := o_callO ((vA.cons (v_callV dX12_playedFrom_46 (ci := 12) rfl rfl (mj := mX12_playedFrom) mt_X12_playedFrom cmq_X12_playedFrom wq_609 wq_611 wq_612 (by decide) (by decide)) vA.nil))
theorem oX12_playedFrom_49 : oP MT mX12_playedFrom 49 (4, 1, 0, 0, []) := o_iadd dX12_playedFrom_49
theorem oX12_playedFrom_50 : oP MT mX12_playedFrom 50 (2, 2, 7, 0, []) := o_istore dX12_playedFrom_50 (by decide)
theorem oX12_playedFrom_52 : oP MT mX12_playedFrom 52 (1, 1, 0, 1, []) := o_aload_n dX12_playedFrom_52 rfl
theorem oX12_playedFrom_53 : oP MT mX12_playedFrom 53 (1, 1, 1, 0, []) := o_iload_n dX12_playedFrom_53 rfl
theorem oX12_playedFrom_54 : oP MT mX12_playedFrom 54 (26, 3, 0, 1, [(12, 162)]) := o_callO ((vA.cons (v_callV dX12_playedFrom_54 (ci := 12) rfl rfl (mj := mX12_restores) mt_X12_restores cmq_X12_restores wq_601 wq_603 wq_604 (by decide) (by decide)) vA.nil))
theorem oX12_playedFrom_57 : oP MT mX12_playedFrom 57 (1, 2, 4, 0, []) := o_iload dX12_playedFrom_57
theorem oX12_playedFrom_59 : oP MT mX12_playedFrom 59 (10, 3, 2, 83, []) := o_if_lt dX12_playedFrom_59 (by decide) (by decide)
theorem oX12_playedFrom_62 : oP MT mX12_playedFrom 62 (1, 1, 1, 0, []) := o_iload_n dX12_playedFrom_62 rfl
theorem oX12_playedFrom_63 : oP MT mX12_playedFrom 63 (0, 1, 0, 2, []) := o_iconst dX12_playedFrom_63 (by decide)
theorem oX12_playedFrom_64 : oP MT mX12_playedFrom 64 (4, 1, 10, 0, []) := o_irem dX12_playedFrom_64
theorem oX12_playedFrom_65 : oP MT mX12_playedFrom 65 (10, 3, 1, 77, []) := o_if_ne dX12_playedFrom_65 (by decide) (by decide)
theorem oX12_playedFrom_68 : oP MT mX12_playedFrom 68 (1, 2, 7, 0, []) := o_iload dX12_playedFrom_68
theorem oX12_playedFrom_70 : oP MT mX12_playedFrom 70 (1, 1, 3, 0, []) := o_iload_n dX12_playedFrom_70 rfl
theorem oX12_playedFrom_71 : oP MT mX12_playedFrom 71 (11, 3, 5, 87, []) := o_icmp_le dX12_playedFrom_71 (by decide) (by decide)
theorem oX12_playedFrom_74 : oP MT mX12_playedFrom 74 (9, 3, 83, 0, []) := o_goto dX12_playedFrom_74 (by decide)
theorem oX12_playedFrom_77 : oP MT mX12_playedFrom 77 (1, 2, 7, 0, []) := o_iload dX12_playedFrom_77
theorem oX12_playedFrom_79 : oP MT mX12_playedFrom 79 (1, 1, 3, 0, []) := o_iload_n dX12_playedFrom_79 rfl
theorem oX12_playedFrom_80 : oP MT mX12_playedFrom 80 (11, 3, 3, 87, []) := o_icmp_ge dX12_playedFrom_80 (by decide) (by decide)
theorem oX12_playedFrom_83 : oP MT mX12_playedFrom 83 (0, 1, 0, 1, []) := o_iconst dX12_playedFrom_83 (by decide)
theorem oX12_playedFrom_84 : oP MT mX12_playedFrom 84 (9, 3, 88, 0, []) := o_goto dX12_playedFrom_84 (by decide)
theorem oX12_playedFrom_87 : oP MT mX12_playedFrom 87 (0, 1, 0, 0, []) := o_iconst dX12_playedFrom_87 (by decide)
theorem oX12_playedFrom_88 : oP MT mX12_playedFrom 88 (2, 2, 8, 0, []) := o_istore dX12_playedFrom_88 (by decide)
theorem oX12_playedFrom_90 : oP MT mX12_playedFrom 90 (1, 2, 8, 0, []) := o_iload dX12_playedFrom_90
theorem oX12_playedFrom_92 : oP MT mX12_playedFrom 92 (10, 3, 0, 100, []) := o_if_eq dX12_playedFrom_92 (by decide) (by decide)
theorem oX12_playedFrom_95 : oP MT mX12_playedFrom 95 (1, 2, 5, 0, []) := o_iload dX12_playedFrom_95
theorem oX12_playedFrom_97 : oP MT mX12_playedFrom 97 (9, 3, 102, 0, []) := o_goto dX12_playedFrom_97 (by decide)
theorem oX12_playedFrom_100 : oP MT mX12_playedFrom 100 (1, 2, 4, 0, []) := o_iload dX12_playedFrom_100
theorem oX12_playedFrom_102 : oP MT mX12_playedFrom 102 (2, 2, 4, 0, []) := o_istore dX12_playedFrom_102 (by decide)
theorem oX12_playedFrom_104 : oP MT mX12_playedFrom 104 (1, 2, 8, 0, []) := o_iload dX12_playedFrom_104
theorem oX12_playedFrom_106 : oP MT mX12_playedFrom 106 (10, 3, 0, 114, []) := o_if_eq dX12_playedFrom_106 (by decide) (by decide)
theorem oX12_playedFrom_109 : oP MT mX12_playedFrom 109 (1, 2, 7, 0, []) := o_iload dX12_playedFrom_109
theorem oX12_playedFrom_111 : oP MT mX12_playedFrom 111 (9, 3, 115, 0, []) := o_goto dX12_playedFrom_111 (by decide)
theorem oX12_playedFrom_114 : oP MT mX12_playedFrom 114 (1, 1, 3, 0, []) := o_iload_n dX12_playedFrom_114 rfl
theorem oX12_playedFrom_115 : oP MT mX12_playedFrom 115 (2, 1, 3, 0, []) := o_istore_n dX12_playedFrom_115 rfl (by decide)
theorem oX12_playedFrom_116 : oP MT mX12_playedFrom 116 (3, 3, 5, 1, []) := o_iinc dX12_playedFrom_116 (by decide) (by decide)
theorem oX12_playedFrom_119 : oP MT mX12_playedFrom 119 (9, 3, 20, 0, []) := o_goto dX12_playedFrom_119 (by decide)
theorem oX12_playedFrom_122 : oP MT mX12_playedFrom 122 (1, 1, 0, 1, []) := o_aload_n dX12_playedFrom_122 rfl
theorem oX12_playedFrom_123 : oP MT mX12_playedFrom 123 (13, 3, 17, 12, []) := o_getR (M := mX12_playedFrom) (C := RX12) (T := TX12) (ci := 12) (j := 17) (z := 12) dX12_playedFrom_123 rfl lq_RX12_38 rfl rfl
theorem oX12_playedFrom_126 : oP MT mX12_playedFrom 126 (1, 1, 1, 0, []) := o_iload_n dX12_playedFrom_126 rfl
theorem oX12_playedFrom_127 : oP MT mX12_playedFrom 127 (1, 2, 4, 0, []) := o_iload dX12_playedFrom_127
theorem oX12_playedFrom_129 : oP MT mX12_playedFrom 129 (18, 1, 0, 0, []) := o_iastore dX12_playedFrom_129
theorem oX12_playedFrom_130 : oP MT mX12_playedFrom 130 (1, 1, 3, 0, []) := o_iload_n dX12_playedFrom_130 rfl
theorem oX12_playedFrom_131 : oP MT mX12_playedFrom 131 (21, 1, 0, 0, []) := o_iret dX12_playedFrom_131 rfl
def ops_X12_playedFrom : List (Nat × aO) := [(0, (1, 1, 1, 0, [])), (1, (1, 1, 2, 0, [])), (2, (11, 3, 1, 7, [])), (5, (0, 1, 0, 0, [])), (6, (21, 1, 0, 0, [])), (7, (1, 1, 0, 1, [])), (8, (1, 1, 1, 0, [])), (9, (26, 3, 0, 1, [(12, 161)])), (12, (0, 1, 0, 0, [])), (13, (2, 1, 3, 0, [])), (14, (0, 1, 0, (-1), [])), (15, (2, 2, 4, 0, [])), (17, (0, 1, 0, 0, [])), (18, (2, 2, 5, 0, [])), (20, (1, 2, 5, 0, [])), (22, (1, 1, 0, 1, [])), (23, (13, 3, 0, 12, [])), (26, (0, 1, 0, 4, [])), (27, (16, 1, 1, 0, [])), (28, (11, 3, 4, 122, [])), (31, (1, 1, 0, 1, [])), (32, (1, 2, 5, 0, [])), (34, (26, 3, 0, 1, [(12, 151)])), (37, (2, 2, 6, 0, [])), (39, (1, 2, 6, 0, [])), (41, (1, 1, 0, 1, [])), (42, (1, 1, 1, 0, [])), (43, (0, 1, 0, 1, [])), (44, (4, 1, 0, 0, [])), (45, (1, 1, 2, 0, [])), (46, (26, 3, 0, 2, [(12, 168)])), (49, (4, 1, 0, 0, [])), (50, (2, 2, 7, 0, [])), (52, (1, 1, 0, 1, [])), (53, (1, 1, 1, 0, [])), (54, (26, 3, 0, 1, [(12, 162)])), (57, (1, 2, 4, 0, [])), (59, (10, 3, 2, 83, [])), (62, (1, 1, 1, 0, [])), (63, (0, 1, 0, 2, [])), (64, (4, 1, 10, 0, [])), (65, (10, 3, 1, 77, [])), (68, (1, 2, 7, 0, [])), (70, (1, 1, 3, 0, [])), (71, (11, 3, 5, 87, [])), (74, (9, 3, 83, 0, [])), (77, (1, 2, 7, 0, [])), (79, (1, 1, 3, 0, [])), (80, (11, 3, 3, 87, [])), (83, (0, 1, 0, 1, [])), (84, (9, 3, 88, 0, [])), (87, (0, 1, 0, 0, [])), (88, (2, 2, 8, 0, [])), (90, (1, 2, 8, 0, [])), (92, (10, 3, 0, 100, [])), (95, (1, 2, 5, 0, [])), (97, (9, 3, 102, 0, [])), (100, (1, 2, 4, 0, [])), (102, (2, 2, 4, 0, [])), (104, (1, 2, 8, 0, [])), (106, (10, 3, 0, 114, [])), (109, (1, 2, 7, 0, [])), (111, (9, 3, 115, 0, [])), (114, (1, 1, 3, 0, [])), (115, (2, 1, 3, 0, [])), (116, (3, 3, 5, 1, [])), (119, (9, 3, 20, 0, [])), (122, (1, 1, 0, 1, [])), (123, (13, 3, 17, 12, [])), (126, (1, 1, 1, 0, [])), (127, (1, 2, 4, 0, [])), (129, (18, 1, 0, 0, [])), (130, (1, 1, 3, 0, [])), (131, (21, 1, 0, 0, []))]
theorem os_X12_playedFrom : oA MT mX12_playedFrom ops_X12_playedFrom := (oA.cons oX12_playedFrom_0 (oA.cons oX12_playedFrom_1 (oA.cons oX12_playedFrom_2 (oA.cons oX12_playedFrom_5 (oA.cons oX12_playedFrom_6 (oA.cons oX12_playedFrom_7 (oA.cons oX12_playedFrom_8 (oA.cons oX12_playedFrom_9 (oA.cons oX12_playedFrom_12 (oA.cons oX12_playedFrom_13 (oA.cons oX12_playedFrom_14 (oA.cons oX12_playedFrom_15 (oA.cons oX12_playedFrom_17 (oA.cons oX12_playedFrom_18 (oA.cons oX12_playedFrom_20 (oA.cons oX12_playedFrom_22 (oA.cons oX12_playedFrom_23 (oA.cons oX12_playedFrom_26 (oA.cons oX12_playedFrom_27 (oA.cons oX12_playedFrom_28 (oA.cons oX12_playedFrom_31 (oA.cons oX12_playedFrom_32 (oA.cons oX12_playedFrom_34 (oA.cons oX12_playedFrom_37 (oA.cons oX12_playedFrom_39 (oA.cons oX12_playedFrom_41 (oA.cons oX12_playedFrom_42 (oA.cons oX12_playedFrom_43 (oA.cons oX12_playedFrom_44 (oA.cons oX12_playedFrom_45 (oA.cons oX12_playedFrom_46 (oA.cons oX12_playedFrom_49 (oA.cons oX12_playedFrom_50 (oA.cons oX12_playedFrom_52 (oA.cons oX12_playedFrom_53 (oA.cons oX12_playedFrom_54 (oA.cons oX12_playedFrom_57 (oA.cons oX12_playedFrom_59 (oA.cons oX12_playedFrom_62 (oA.cons oX12_playedFrom_63 (oA.cons oX12_playedFrom_64 (oA.cons oX12_playedFrom_65 (oA.cons oX12_playedFrom_68 (oA.cons oX12_playedFrom_70 (oA.cons oX12_playedFrom_71 (oA.cons oX12_playedFrom_74 (oA.cons oX12_playedFrom_77 (oA.cons oX12_playedFrom_79 (oA.cons oX12_playedFrom_80 (oA.cons oX12_playedFrom_83 (oA.cons oX12_playedFrom_84 (oA.cons oX12_playedFrom_87 (oA.cons oX12_playedFrom_88 (oA.cons oX12_playedFrom_90 (oA.cons oX12_playedFrom_92 (oA.cons oX12_playedFrom_95 (oA.cons oX12_playedFrom_97 (oA.cons oX12_playedFrom_100 (oA.cons oX12_playedFrom_102 (oA.cons oX12_playedFrom_104 (oA.cons oX12_playedFrom_106 (oA.cons oX12_playedFrom_109 (oA.cons oX12_playedFrom_111 (oA.cons oX12_playedFrom_114 (oA.cons oX12_playedFrom_115 (oA.cons oX12_playedFrom_116 (oA.cons oX12_playedFrom_119 (oA.cons oX12_playedFrom_122 (oA.cons oX12_playedFrom_123 (oA.cons oX12_playedFrom_126 (oA.cons oX12_playedFrom_127 (oA.cons oX12_playedFrom_129 (oA.cons oX12_playedFrom_130 (oA.cons oX12_playedFrom_131 oA.nil))))))))))))))))))))))))))))))))))))))))))))))))))))))))))))))))))))))))))
theorem dX12_tellsLone_0 : decode cX12_tellsLone 0 = .ok (.iload_n 3, 1) := by decide +kernel
theorem dX12_tellsLone_1 : decode cX12_tellsLone 1 = .ok (.istore 4, 2) := by decide +kernel
theorem dX12_tellsLone_3 : decode cX12_tellsLone 3 = .ok (.iconst 0, 1) := by decide +kernel
theorem dX12_tellsLone_4 : decode cX12_tellsLone 4 = .ok (.istore 5, 2) := by decide +kernel
theorem dX12_tellsLone_6 : decode cX12_tellsLone 6 = .ok (.iload 5, 2) := by decide +kernel
theorem dX12_tellsLone_8 : decode cX12_tellsLone 8 = .ok (.bipush 16, 2) := by decide +kernel
theorem dX12_tellsLone_10 : decode cX12_tellsLone 10 = .ok (.if_icmp .ge 87, 3) := by decide +kernel
theorem dX12_tellsLone_13 : decode cX12_tellsLone 13 = .ok (.aload_n 0, 1) := by decide +kernel
theorem dX12_tellsLone_14 : decode cX12_tellsLone 14 = .ok (.getfield 44, 3) := by decide +kernel
theorem dX12_tellsLone_17 : decode cX12_tellsLone 17 = .ok (.iload 5, 2) := by decide +kernel
theorem dX12_tellsLone_19 : decode cX12_tellsLone 19 = .ok (.iload 4, 2) := by decide +kernel
theorem dX12_tellsLone_21 : decode cX12_tellsLone 21 = .ok (.iastore, 1) := by decide +kernel
theorem dX12_tellsLone_22 : decode cX12_tellsLone 22 = .ok (.aload_n 0, 1) := by decide +kernel
theorem dX12_tellsLone_23 : decode cX12_tellsLone 23 = .ok (.getfield 47, 3) := by decide +kernel
theorem dX12_tellsLone_26 : decode cX12_tellsLone 26 = .ok (.iload 5, 2) := by decide +kernel
theorem dX12_tellsLone_28 : decode cX12_tellsLone 28 = .ok (.iload_n 1, 1) := by decide +kernel
theorem dX12_tellsLone_29 : decode cX12_tellsLone 29 = .ok (.iload 4, 2) := by decide +kernel
theorem dX12_tellsLone_31 : decode cX12_tellsLone 31 = .ok (.iload_n 2, 1) := by decide +kernel
theorem dX12_tellsLone_32 : decode cX12_tellsLone 32 = .ok (.iconst 0, 1) := by decide +kernel
theorem dX12_tellsLone_33 : decode cX12_tellsLone 33 = .ok (.invokestatic 91, 3) := by decide +kernel
theorem dX12_tellsLone_36 : decode cX12_tellsLone 36 = .ok (.iastore, 1) := by decide +kernel
theorem dX12_tellsLone_37 : decode cX12_tellsLone 37 = .ok (.aload_n 0, 1) := by decide +kernel
theorem dX12_tellsLone_38 : decode cX12_tellsLone 38 = .ok (.getfield 9, 3) := by decide +kernel
theorem dX12_tellsLone_41 : decode cX12_tellsLone 41 = .ok (.bipush 7, 2) := by decide +kernel
theorem dX12_tellsLone_43 : decode cX12_tellsLone 43 = .ok (.iload 5, 2) := by decide +kernel
theorem dX12_tellsLone_45 : decode cX12_tellsLone 45 = .ok (.iadd, 1) := by decide +kernel
theorem dX12_tellsLone_46 : decode cX12_tellsLone 46 = .ok (.iaload, 1) := by decide +kernel
theorem dX12_tellsLone_47 : decode cX12_tellsLone 47 = .ok (.istore 6, 2) := by decide +kernel
theorem dX12_tellsLone_49 : decode cX12_tellsLone 49 = .ok (.iload_n 1, 1) := by decide +kernel
theorem dX12_tellsLone_50 : decode cX12_tellsLone 50 = .ok (.iload 6, 2) := by decide +kernel
theorem dX12_tellsLone_52 : decode cX12_tellsLone 52 = .ok (.iconst 4, 1) := by decide +kernel
theorem dX12_tellsLone_53 : decode cX12_tellsLone 53 = .ok (.idiv, 1) := by decide +kernel
theorem dX12_tellsLone_54 : decode cX12_tellsLone 54 = .ok (.iload 6, 2) := by decide +kernel
theorem dX12_tellsLone_56 : decode cX12_tellsLone 56 = .ok (.iconst 4, 1) := by decide +kernel
theorem dX12_tellsLone_57 : decode cX12_tellsLone 57 = .ok (.irem, 1) := by decide +kernel
theorem dX12_tellsLone_58 : decode cX12_tellsLone 58 = .ok (.iload 5, 2) := by decide +kernel
theorem dX12_tellsLone_60 : decode cX12_tellsLone 60 = .ok (.invokestatic 87, 3) := by decide +kernel
theorem dX12_tellsLone_63 : decode cX12_tellsLone 63 = .ok (.iload_n 2, 1) := by decide +kernel
theorem dX12_tellsLone_64 : decode cX12_tellsLone 64 = .ok (.iconst 3, 1) := by decide +kernel
theorem dX12_tellsLone_65 : decode cX12_tellsLone 65 = .ok (.idiv, 1) := by decide +kernel
theorem dX12_tellsLone_66 : decode cX12_tellsLone 66 = .ok (.isub, 1) := by decide +kernel
theorem dX12_tellsLone_67 : decode cX12_tellsLone 67 = .ok (.istore 7, 2) := by decide +kernel
theorem dX12_tellsLone_69 : decode cX12_tellsLone 69 = .ok (.iload 7, 2) := by decide +kernel
theorem dX12_tellsLone_71 : decode cX12_tellsLone 71 = .ok (.ifCond .le 16, 3) := by decide +kernel
theorem dX12_tellsLone_74 : decode cX12_tellsLone 74 = .ok (.iload 4, 2) := by decide +kernel
theorem dX12_tellsLone_76 : decode cX12_tellsLone 76 = .ok (.iload 7, 2) := by decide +kernel
theorem dX12_tellsLone_78 : decode cX12_tellsLone 78 = .ok (.isub, 1) := by decide +kernel
theorem dX12_tellsLone_79 : decode cX12_tellsLone 79 = .ok (.bipush 99, 2) := by decide +kernel
theorem dX12_tellsLone_81 : decode cX12_tellsLone 81 = .ok (.invokestatic 202, 3) := by decide +kernel
theorem dX12_tellsLone_84 : decode cX12_tellsLone 84 = .ok (.goto 5, 3) := by decide +kernel
theorem dX12_tellsLone_87 : decode cX12_tellsLone 87 = .ok (.iload 4, 2) := by decide +kernel
theorem dX12_tellsLone_89 : decode cX12_tellsLone 89 = .ok (.istore 4, 2) := by decide +kernel
theorem dX12_tellsLone_91 : decode cX12_tellsLone 91 = .ok (.iinc 5 1, 3) := by decide +kernel
theorem dX12_tellsLone_94 : decode cX12_tellsLone 94 = .ok (.goto (-88), 3) := by decide +kernel
theorem dX12_tellsLone_97 : decode cX12_tellsLone 97 = .ok (.return_, 1) := by decide +kernel
theorem oX12_tellsLone_0 : oP MT mX12_tellsLone 0 (1, 1, 3, 0, []) := o_iload_n dX12_tellsLone_0 rfl
theorem oX12_tellsLone_1 : oP MT mX12_tellsLone 1 (2, 2, 4, 0, []) := o_istore dX12_tellsLone_1 (by decide)
theorem oX12_tellsLone_3 : oP MT mX12_tellsLone 3 (0, 1, 0, 0, []) := o_iconst dX12_tellsLone_3 (by decide)
theorem oX12_tellsLone_4 : oP MT mX12_tellsLone 4 (2, 2, 5, 0, []) := o_istore dX12_tellsLone_4 (by decide)
theorem oX12_tellsLone_6 : oP MT mX12_tellsLone 6 (1, 2, 5, 0, []) := o_iload dX12_tellsLone_6
theorem oX12_tellsLone_8 : oP MT mX12_tellsLone 8 (0, 2, 0, 16, []) := o_bipush dX12_tellsLone_8 (by decide)
theorem oX12_tellsLone_10 : oP MT mX12_tellsLone 10 (11, 3, 3, 97, []) := o_icmp_ge dX12_tellsLone_10 (by decide) (by decide)
theorem oX12_tellsLone_13 : oP MT mX12_tellsLone 13 (1, 1, 0, 1, []) := o_aload_n dX12_tellsLone_13 rfl
theorem oX12_tellsLone_14 : oP MT mX12_tellsLone 14 (13, 3, 23, 12, []) := o_getR (M := mX12_tellsLone) (C := RX12) (T := TX12) (ci := 12) (j := 23) (z := 12) dX12_tellsLone_14 rfl lq_RX12_44 rfl rfl
theorem oX12_tellsLone_17 : oP MT mX12_tellsLone 17 (1, 2, 5, 0, []) := o_iload dX12_tellsLone_17
theorem oX12_tellsLone_19 : oP MT mX12_tellsLone 19 (1, 2, 4, 0, []) := o_iload dX12_tellsLone_19
theorem oX12_tellsLone_21 : oP MT mX12_tellsLone 21 (18, 1, 0, 0, []) := o_iastore dX12_tellsLone_21
theorem oX12_tellsLone_22 : oP MT mX12_tellsLone 22 (1, 1, 0, 1, []) := o_aload_n dX12_tellsLone_22 rfl
theorem oX12_tellsLone_23 : oP MT mX12_tellsLone 23 (13, 3, 24, 12, []) := o_getR (M := mX12_tellsLone) (C := RX12) (T := TX12) (ci := 12) (j := 24) (z := 12) dX12_tellsLone_23 rfl lq_RX12_47 rfl rfl
theorem oX12_tellsLone_26 : oP MT mX12_tellsLone 26 (1, 2, 5, 0, []) := o_iload dX12_tellsLone_26
theorem oX12_tellsLone_28 : oP MT mX12_tellsLone 28 (1, 1, 1, 0, []) := o_iload_n dX12_tellsLone_28 rfl
theorem oX12_tellsLone_29 : oP MT mX12_tellsLone 29 (1, 2, 4, 0, []) := o_iload dX12_tellsLone_29
theorem oX12_tellsLone_31 : oP MT mX12_tellsLone 31 (1, 1, 2, 0, []) := o_iload_n dX12_tellsLone_31 rfl
theorem oX12_tellsLone_32 : oP MT mX12_tellsLone 32 (0, 1, 0, 0, []) := o_iconst dX12_tellsLone_32 (by decide)
theorem oX12_tellsLone_33 : oP MT mX12_tellsLone 33 (25, 3, 124, 4, []) := o_callS dX12_tellsLone_33 (mj := mX12_shapeBy) mt_X12_shapeBy cmq_X12_shapeBy wq_461 wq_463 (by decide) (by decide)
theorem oX12_tellsLone_36 : oP MT mX12_tellsLone 36 (18, 1, 0, 0, []) := o_iastore dX12_tellsLone_36
theorem oX12_tellsLone_37 : oP MT mX12_tellsLone 37 (1, 1, 0, 1, []) := o_aload_n dX12_tellsLone_37 rfl
theorem oX12_tellsLone_38 : oP MT mX12_tellsLone 38 (13, 3, 0, 12, []) := o_getR (M := mX12_tellsLone) (C := RX12) (T := TX12) (ci := 12) (j := 0) (z := 12) dX12_tellsLone_38 rfl lq_RX12_9 rfl rfl
theorem oX12_tellsLone_41 : oP MT mX12_tellsLone 41 (0, 2, 0, 7, []) := o_bipush dX12_tellsLone_41 (by decide)
theorem oX12_tellsLone_43 : oP MT mX12_tellsLone 43 (1, 2, 5, 0, []) := o_iload dX12_tellsLone_43
theorem oX12_tellsLone_45 : oP MT mX12_tellsLone 45 (4, 1, 0, 0, []) := o_iadd dX12_tellsLone_45
theorem oX12_tellsLone_46 : oP MT mX12_tellsLone 46 (16, 1, 1, 0, []) := o_iaload dX12_tellsLone_46
theorem oX12_tellsLone_47 : oP MT mX12_tellsLone 47 (2, 2, 6, 0, []) := o_istore dX12_tellsLone_47 (by decide)
theorem oX12_tellsLone_49 : oP MT mX12_tellsLone 49 (1, 1, 1, 0, []) := o_iload_n dX12_tellsLone_49 rfl
theorem oX12_tellsLone_50 : oP MT mX12_tellsLone 50 (1, 2, 6, 0, []) := o_iload dX12_tellsLone_50
theorem oX12_tellsLone_52 : oP MT mX12_tellsLone 52 (0, 1, 0, 4, []) := o_iconst dX12_tellsLone_52 (by decide)
theorem oX12_tellsLone_53 : oP MT mX12_tellsLone 53 (4, 1, 9, 0, []) := o_idiv dX12_tellsLone_53
theorem oX12_tellsLone_54 : oP MT mX12_tellsLone 54 (1, 2, 6, 0, []) := o_iload dX12_tellsLone_54
theorem oX12_tellsLone_56 : oP MT mX12_tellsLone 56 (0, 1, 0, 4, []) := o_iconst dX12_tellsLone_56 (by decide)
theorem oX12_tellsLone_57 : oP MT mX12_tellsLone 57 (4, 1, 10, 0, []) := o_irem dX12_tellsLone_57
theorem oX12_tellsLone_58 : oP MT mX12_tellsLone 58 (1, 2, 5, 0, []) := o_iload dX12_tellsLone_58
theorem oX12_tellsLone_60 : oP MT mX12_tellsLone 60 (25, 3, 148, 4, []) := o_callS dX12_tellsLone_60 (mj := mX12_meltsBy) mt_X12_meltsBy cmq_X12_meltsBy wq_542 wq_544 (by decide) (by decide)
theorem oX12_tellsLone_63 : oP MT mX12_tellsLone 63 (1, 1, 2, 0, []) := o_iload_n dX12_tellsLone_63 rfl
theorem oX12_tellsLone_64 : oP MT mX12_tellsLone 64 (0, 1, 0, 3, []) := o_iconst dX12_tellsLone_64 (by decide)
theorem oX12_tellsLone_65 : oP MT mX12_tellsLone 65 (4, 1, 9, 0, []) := o_idiv dX12_tellsLone_65
theorem oX12_tellsLone_66 : oP MT mX12_tellsLone 66 (4, 1, 1, 0, []) := o_isub dX12_tellsLone_66
theorem oX12_tellsLone_67 : oP MT mX12_tellsLone 67 (2, 2, 7, 0, []) := o_istore dX12_tellsLone_67 (by decide)
theorem oX12_tellsLone_69 : oP MT mX12_tellsLone 69 (1, 2, 7, 0, []) := o_iload dX12_tellsLone_69
theorem oX12_tellsLone_71 : oP MT mX12_tellsLone 71 (10, 3, 5, 87, []) := o_if_le dX12_tellsLone_71 (by decide) (by decide)
theorem oX12_tellsLone_74 : oP MT mX12_tellsLone 74 (1, 2, 4, 0, []) := o_iload dX12_tellsLone_74
theorem oX12_tellsLone_76 : oP MT mX12_tellsLone 76 (1, 2, 7, 0, []) := o_iload dX12_tellsLone_76
theorem oX12_tellsLone_78 : oP MT mX12_tellsLone 78 (4, 1, 1, 0, []) := o_isub dX12_tellsLone_78
theorem oX12_tellsLone_79 : oP MT mX12_tellsLone 79 (0, 2, 0, 99, []) := o_bipush dX12_tellsLone_79 (by decide)
theorem oX12_tellsLone_81 : oP MT mX12_tellsLone 81 (25, 3, 143, 2, []) := o_callS dX12_tellsLone_81 (mj := mX12_held) mt_X12_held cmq_X12_held wq_539 wq_541 (by decide) (by decide)
theorem oX12_tellsLone_84 : oP MT mX12_tellsLone 84 (9, 3, 89, 0, []) := o_goto dX12_tellsLone_84 (by decide)
theorem oX12_tellsLone_87 : oP MT mX12_tellsLone 87 (1, 2, 4, 0, []) := o_iload dX12_tellsLone_87
theorem oX12_tellsLone_89 : oP MT mX12_tellsLone 89 (2, 2, 4, 0, []) := o_istore dX12_tellsLone_89 (by decide)
theorem oX12_tellsLone_91 : oP MT mX12_tellsLone 91 (3, 3, 5, 1, []) := o_iinc dX12_tellsLone_91 (by decide) (by decide)
theorem oX12_tellsLone_94 : oP MT mX12_tellsLone 94 (9, 3, 6, 0, []) := o_goto dX12_tellsLone_94 (by decide)
theorem oX12_tellsLone_97 : oP MT mX12_tellsLone 97 (23, 1, 0, 0, []) := o_vret dX12_tellsLone_97 rfl
def ops_X12_tellsLone : List (Nat × aO) := [(0, (1, 1, 3, 0, [])), (1, (2, 2, 4, 0, [])), (3, (0, 1, 0, 0, [])), (4, (2, 2, 5, 0, [])), (6, (1, 2, 5, 0, [])), (8, (0, 2, 0, 16, [])), (10, (11, 3, 3, 97, [])), (13, (1, 1, 0, 1, [])), (14, (13, 3, 23, 12, [])), (17, (1, 2, 5, 0, [])), (19, (1, 2, 4, 0, [])), (21, (18, 1, 0, 0, [])), (22, (1, 1, 0, 1, [])), (23, (13, 3, 24, 12, [])), (26, (1, 2, 5, 0, [])), (28, (1, 1, 1, 0, [])), (29, (1, 2, 4, 0, [])), (31, (1, 1, 2, 0, [])), (32, (0, 1, 0, 0, [])), (33, (25, 3, 124, 4, [])), (36, (18, 1, 0, 0, [])), (37, (1, 1, 0, 1, [])), (38, (13, 3, 0, 12, [])), (41, (0, 2, 0, 7, [])), (43, (1, 2, 5, 0, [])), (45, (4, 1, 0, 0, [])), (46, (16, 1, 1, 0, [])), (47, (2, 2, 6, 0, [])), (49, (1, 1, 1, 0, [])), (50, (1, 2, 6, 0, [])), (52, (0, 1, 0, 4, [])), (53, (4, 1, 9, 0, [])), (54, (1, 2, 6, 0, [])), (56, (0, 1, 0, 4, [])), (57, (4, 1, 10, 0, [])), (58, (1, 2, 5, 0, [])), (60, (25, 3, 148, 4, [])), (63, (1, 1, 2, 0, [])), (64, (0, 1, 0, 3, [])), (65, (4, 1, 9, 0, [])), (66, (4, 1, 1, 0, [])), (67, (2, 2, 7, 0, [])), (69, (1, 2, 7, 0, [])), (71, (10, 3, 5, 87, [])), (74, (1, 2, 4, 0, [])), (76, (1, 2, 7, 0, [])), (78, (4, 1, 1, 0, [])), (79, (0, 2, 0, 99, [])), (81, (25, 3, 143, 2, [])), (84, (9, 3, 89, 0, [])), (87, (1, 2, 4, 0, [])), (89, (2, 2, 4, 0, [])), (91, (3, 3, 5, 1, [])), (94, (9, 3, 6, 0, [])), (97, (23, 1, 0, 0, []))]
theorem os_X12_tellsLone : oA MT mX12_tellsLone ops_X12_tellsLone := (oA.cons oX12_tellsLone_0 (oA.cons oX12_tellsLone_1 (oA.cons oX12_tellsLone_3 (oA.cons oX12_tellsLone_4 (oA.cons oX12_tellsLone_6 (oA.cons oX12_tellsLone_8 (oA.cons oX12_tellsLone_10 (oA.cons oX12_tellsLone_13 (oA.cons oX12_tellsLone_14 (oA.cons oX12_tellsLone_17 (oA.cons oX12_tellsLone_19 (oA.cons oX12_tellsLone_21 (oA.cons oX12_tellsLone_22 (oA.cons oX12_tellsLone_23 (oA.cons oX12_tellsLone_26 (oA.cons oX12_tellsLone_28 (oA.cons oX12_tellsLone_29 (oA.cons oX12_tellsLone_31 (oA.cons oX12_tellsLone_32 (oA.cons oX12_tellsLone_33 (oA.cons oX12_tellsLone_36 (oA.cons oX12_tellsLone_37 (oA.cons oX12_tellsLone_38 (oA.cons oX12_tellsLone_41 (oA.cons oX12_tellsLone_43 (oA.cons oX12_tellsLone_45 (oA.cons oX12_tellsLone_46 (oA.cons oX12_tellsLone_47 (oA.cons oX12_tellsLone_49 (oA.cons oX12_tellsLone_50 (oA.cons oX12_tellsLone_52 (oA.cons oX12_tellsLone_53 (oA.cons oX12_tellsLone_54 (oA.cons oX12_tellsLone_56 (oA.cons oX12_tellsLone_57 (oA.cons oX12_tellsLone_58 (oA.cons oX12_tellsLone_60 (oA.cons oX12_tellsLone_63 (oA.cons oX12_tellsLone_64 (oA.cons oX12_tellsLone_65 (oA.cons oX12_tellsLone_66 (oA.cons oX12_tellsLone_67 (oA.cons oX12_tellsLone_69 (oA.cons oX12_tellsLone_71 (oA.cons oX12_tellsLone_74 (oA.cons oX12_tellsLone_76 (oA.cons oX12_tellsLone_78 (oA.cons oX12_tellsLone_79 (oA.cons oX12_tellsLone_81 (oA.cons oX12_tellsLone_84 (oA.cons oX12_tellsLone_87 (oA.cons oX12_tellsLone_89 (oA.cons oX12_tellsLone_91 (oA.cons oX12_tellsLone_94 (oA.cons oX12_tellsLone_97 oA.nil)))))))))))))))))))))))))))))))))))))))))))))))))))))))
theorem dX12_isSo_0 : decode cX12_isSo 0 = .ok (.bipush 65, 2) := by decide +kernel
theorem dX12_isSo_2 : decode cX12_isSo 2 = .ok (.iconst 4, 1) := by decide +kernel
theorem dX12_isSo_3 : decode cX12_isSo 3 = .ok (.iload_n 1, 1) := by decide +kernel
theorem dX12_isSo_4 : decode cX12_isSo 4 = .ok (.imul, 1) := by decide +kernel
theorem dX12_isSo_5 : decode cX12_isSo 5 = .ok (.iadd, 1) := by decide +kernel
theorem dX12_isSo_6 : decode cX12_isSo 6 = .ok (.istore_n 2, 1) := by decide +kernel
theorem dX12_isSo_7 : decode cX12_isSo 7 = .ok (.aload_n 0, 1) := by decide +kernel
theorem dX12_isSo_8 : decode cX12_isSo 8 = .ok (.getfield 9, 3) := by decide +kernel
theorem dX12_isSo_11 : decode cX12_isSo 11 = .ok (.iload_n 2, 1) := by decide +kernel
theorem dX12_isSo_12 : decode cX12_isSo 12 = .ok (.iconst 1, 1) := by decide +kernel
theorem dX12_isSo_13 : decode cX12_isSo 13 = .ok (.iadd, 1) := by decide +kernel
theorem dX12_isSo_14 : decode cX12_isSo 14 = .ok (.iaload, 1) := by decide +kernel
theorem dX12_isSo_15 : decode cX12_isSo 15 = .ok (.ifCond .ne 17, 3) := by decide +kernel
theorem dX12_isSo_18 : decode cX12_isSo 18 = .ok (.aload_n 0, 1) := by decide +kernel
theorem dX12_isSo_19 : decode cX12_isSo 19 = .ok (.getfield 44, 3) := by decide +kernel
theorem dX12_isSo_22 : decode cX12_isSo 22 = .ok (.aload_n 0, 1) := by decide +kernel
theorem dX12_isSo_23 : decode cX12_isSo 23 = .ok (.getfield 9, 3) := by decide +kernel
theorem dX12_isSo_26 : decode cX12_isSo 26 = .ok (.iload_n 2, 1) := by decide +kernel
theorem dX12_isSo_27 : decode cX12_isSo 27 = .ok (.iaload, 1) := by decide +kernel
theorem dX12_isSo_28 : decode cX12_isSo 28 = .ok (.iaload, 1) := by decide +kernel
theorem dX12_isSo_29 : decode cX12_isSo 29 = .ok (.goto 14, 3) := by decide +kernel
theorem dX12_isSo_32 : decode cX12_isSo 32 = .ok (.aload_n 0, 1) := by decide +kernel
theorem dX12_isSo_33 : decode cX12_isSo 33 = .ok (.getfield 47, 3) := by decide +kernel
theorem dX12_isSo_36 : decode cX12_isSo 36 = .ok (.aload_n 0, 1) := by decide +kernel
theorem dX12_isSo_37 : decode cX12_isSo 37 = .ok (.getfield 9, 3) := by decide +kernel
theorem dX12_isSo_40 : decode cX12_isSo 40 = .ok (.iload_n 2, 1) := by decide +kernel
theorem dX12_isSo_41 : decode cX12_isSo 41 = .ok (.iaload, 1) := by decide +kernel
theorem dX12_isSo_42 : decode cX12_isSo 42 = .ok (.iaload, 1) := by decide +kernel
theorem dX12_isSo_43 : decode cX12_isSo 43 = .ok (.aload_n 0, 1) := by decide +kernel
theorem dX12_isSo_44 : decode cX12_isSo 44 = .ok (.getfield 9, 3) := by decide +kernel
theorem dX12_isSo_47 : decode cX12_isSo 47 = .ok (.iload_n 2, 1) := by decide +kernel
theorem dX12_isSo_48 : decode cX12_isSo 48 = .ok (.iconst 2, 1) := by decide +kernel
theorem dX12_isSo_49 : decode cX12_isSo 49 = .ok (.iadd, 1) := by decide +kernel
theorem dX12_isSo_50 : decode cX12_isSo 50 = .ok (.iaload, 1) := by decide +kernel
theorem dX12_isSo_51 : decode cX12_isSo 51 = .ok (.aload_n 0, 1) := by decide +kernel
theorem dX12_isSo_52 : decode cX12_isSo 52 = .ok (.getfield 9, 3) := by decide +kernel
theorem dX12_isSo_55 : decode cX12_isSo 55 = .ok (.iload_n 2, 1) := by decide +kernel
theorem dX12_isSo_56 : decode cX12_isSo 56 = .ok (.iconst 3, 1) := by decide +kernel
theorem dX12_isSo_57 : decode cX12_isSo 57 = .ok (.iadd, 1) := by decide +kernel
theorem dX12_isSo_58 : decode cX12_isSo 58 = .ok (.iaload, 1) := by decide +kernel
theorem dX12_isSo_59 : decode cX12_isSo 59 = .ok (.invokestatic 71, 3) := by decide +kernel
theorem dX12_isSo_62 : decode cX12_isSo 62 = .ok (.ireturn, 1) := by decide +kernel
theorem oX12_isSo_0 : oP MT mX12_isSo 0 (0, 2, 0, 65, []) := o_bipush dX12_isSo_0 (by decide)
theorem oX12_isSo_2 : oP MT mX12_isSo 2 (0, 1, 0, 4, []) := o_iconst dX12_isSo_2 (by decide)
theorem oX12_isSo_3 : oP MT mX12_isSo 3 (1, 1, 1, 0, []) := o_iload_n dX12_isSo_3 rfl
theorem oX12_isSo_4 : oP MT mX12_isSo 4 (4, 1, 2, 0, []) := o_imul dX12_isSo_4
theorem oX12_isSo_5 : oP MT mX12_isSo 5 (4, 1, 0, 0, []) := o_iadd dX12_isSo_5
theorem oX12_isSo_6 : oP MT mX12_isSo 6 (2, 1, 2, 0, []) := o_istore_n dX12_isSo_6 rfl (by decide)
theorem oX12_isSo_7 : oP MT mX12_isSo 7 (1, 1, 0, 1, []) := o_aload_n dX12_isSo_7 rfl
theorem oX12_isSo_8 : oP MT mX12_isSo 8 (13, 3, 0, 12, []) := o_getR (M := mX12_isSo) (C := RX12) (T := TX12) (ci := 12) (j := 0) (z := 12) dX12_isSo_8 rfl lq_RX12_9 rfl rfl
theorem oX12_isSo_11 : oP MT mX12_isSo 11 (1, 1, 2, 0, []) := o_iload_n dX12_isSo_11 rfl
theorem oX12_isSo_12 : oP MT mX12_isSo 12 (0, 1, 0, 1, []) := o_iconst dX12_isSo_12 (by decide)
theorem oX12_isSo_13 : oP MT mX12_isSo 13 (4, 1, 0, 0, []) := o_iadd dX12_isSo_13
theorem oX12_isSo_14 : oP MT mX12_isSo 14 (16, 1, 1, 0, []) := o_iaload dX12_isSo_14
theorem oX12_isSo_15 : oP MT mX12_isSo 15 (10, 3, 1, 32, []) := o_if_ne dX12_isSo_15 (by decide) (by decide)
theorem oX12_isSo_18 : oP MT mX12_isSo 18 (1, 1, 0, 1, []) := o_aload_n dX12_isSo_18 rfl
theorem oX12_isSo_19 : oP MT mX12_isSo 19 (13, 3, 23, 12, []) := o_getR (M := mX12_isSo) (C := RX12) (T := TX12) (ci := 12) (j := 23) (z := 12) dX12_isSo_19 rfl lq_RX12_44 rfl rfl
theorem oX12_isSo_22 : oP MT mX12_isSo 22 (1, 1, 0, 1, []) := o_aload_n dX12_isSo_22 rfl
theorem oX12_isSo_23 : oP MT mX12_isSo 23 (13, 3, 0, 12, []) := o_getR (M := mX12_isSo) (C := RX12) (T := TX12) (ci := 12) (j := 0) (z := 12) dX12_isSo_23 rfl lq_RX12_9 rfl rfl
theorem oX12_isSo_26 : oP MT mX12_isSo 26 (1, 1, 2, 0, []) := o_iload_n dX12_isSo_26 rfl
theorem oX12_isSo_27 : oP MT mX12_isSo 27 (16, 1, 1, 0, []) := o_iaload dX12_isSo_27
theorem oX12_isSo_28 : oP MT mX12_isSo 28 (16, 1, 1, 0, []) := o_iaload dX12_isSo_28
theorem oX12_isSo_29 : oP MT mX12_isSo 29 (9, 3, 43, 0, []) := o_goto dX12_isSo_29 (by decide)
theorem oX12_isSo_32 : oP MT mX12_isSo 32 (1, 1, 0, 1, []) := o_aload_n dX12_isSo_32 rfl
theorem oX12_isSo_33 : oP MT mX12_isSo 33 (13, 3, 24, 12, []) := o_getR (M := mX12_isSo) (C := RX12) (T := TX12) (ci := 12) (j := 24) (z := 12) dX12_isSo_33 rfl lq_RX12_47 rfl rfl
theorem oX12_isSo_36 : oP MT mX12_isSo 36 (1, 1, 0, 1, []) := o_aload_n dX12_isSo_36 rfl
theorem oX12_isSo_37 : oP MT mX12_isSo 37 (13, 3, 0, 12, []) := o_getR (M := mX12_isSo) (C := RX12) (T := TX12) (ci := 12) (j := 0) (z := 12) dX12_isSo_37 rfl lq_RX12_9 rfl rfl
theorem oX12_isSo_40 : oP MT mX12_isSo 40 (1, 1, 2, 0, []) := o_iload_n dX12_isSo_40 rfl
theorem oX12_isSo_41 : oP MT mX12_isSo 41 (16, 1, 1, 0, []) := o_iaload dX12_isSo_41
theorem oX12_isSo_42 : oP MT mX12_isSo 42 (16, 1, 1, 0, []) := o_iaload dX12_isSo_42
theorem oX12_isSo_43 : oP MT mX12_isSo 43 (1, 1, 0, 1, []) := o_aload_n dX12_isSo_43 rfl
theorem oX12_isSo_44 : oP MT mX12_isSo 44 (13, 3, 0, 12, []) := o_getR (M := mX12_isSo) (C := RX12) (T := TX12) (ci := 12) (j := 0) (z := 12) dX12_isSo_44 rfl lq_RX12_9 rfl rfl
theorem oX12_isSo_47 : oP MT mX12_isSo 47 (1, 1, 2, 0, []) := o_iload_n dX12_isSo_47 rfl
theorem oX12_isSo_48 : oP MT mX12_isSo 48 (0, 1, 0, 2, []) := o_iconst dX12_isSo_48 (by decide)
theorem oX12_isSo_49 : oP MT mX12_isSo 49 (4, 1, 0, 0, []) := o_iadd dX12_isSo_49
theorem oX12_isSo_50 : oP MT mX12_isSo 50 (16, 1, 1, 0, []) := o_iaload dX12_isSo_50
theorem oX12_isSo_51 : oP MT mX12_isSo 51 (1, 1, 0, 1, []) := o_aload_n dX12_isSo_51 rfl
theorem oX12_isSo_52 : oP MT mX12_isSo 52 (13, 3, 0, 12, []) := o_getR (M := mX12_isSo) (C := RX12) (T := TX12) (ci := 12) (j := 0) (z := 12) dX12_isSo_52 rfl lq_RX12_9 rfl rfl
theorem oX12_isSo_55 : oP MT mX12_isSo 55 (1, 1, 2, 0, []) := o_iload_n dX12_isSo_55 rfl
theorem oX12_isSo_56 : oP MT mX12_isSo 56 (0, 1, 0, 3, []) := o_iconst dX12_isSo_56 (by decide)
theorem oX12_isSo_57 : oP MT mX12_isSo 57 (4, 1, 0, 0, []) := o_iadd dX12_isSo_57
theorem oX12_isSo_58 : oP MT mX12_isSo 58 (16, 1, 1, 0, []) := o_iaload dX12_isSo_58
theorem oX12_isSo_59 : oP MT mX12_isSo 59 (25, 3, 127, 3, []) := o_callS dX12_isSo_59 (mj := mX12_in1) mt_X12_in1 cmq_X12_in1 wq_468 wq_470 (by decide) (by decide)
theorem oX12_isSo_62 : oP MT mX12_isSo 62 (22, 1, 0, 0, []) := o_zret dX12_isSo_62 rfl
def ops_X12_isSo : List (Nat × aO) := [(0, (0, 2, 0, 65, [])), (2, (0, 1, 0, 4, [])), (3, (1, 1, 1, 0, [])), (4, (4, 1, 2, 0, [])), (5, (4, 1, 0, 0, [])), (6, (2, 1, 2, 0, [])), (7, (1, 1, 0, 1, [])), (8, (13, 3, 0, 12, [])), (11, (1, 1, 2, 0, [])), (12, (0, 1, 0, 1, [])), (13, (4, 1, 0, 0, [])), (14, (16, 1, 1, 0, [])), (15, (10, 3, 1, 32, [])), (18, (1, 1, 0, 1, [])), (19, (13, 3, 23, 12, [])), (22, (1, 1, 0, 1, [])), (23, (13, 3, 0, 12, [])), (26, (1, 1, 2, 0, [])), (27, (16, 1, 1, 0, [])), (28, (16, 1, 1, 0, [])), (29, (9, 3, 43, 0, [])), (32, (1, 1, 0, 1, [])), (33, (13, 3, 24, 12, [])), (36, (1, 1, 0, 1, [])), (37, (13, 3, 0, 12, [])), (40, (1, 1, 2, 0, [])), (41, (16, 1, 1, 0, [])), (42, (16, 1, 1, 0, [])), (43, (1, 1, 0, 1, [])), (44, (13, 3, 0, 12, [])), (47, (1, 1, 2, 0, [])), (48, (0, 1, 0, 2, [])), (49, (4, 1, 0, 0, [])), (50, (16, 1, 1, 0, [])), (51, (1, 1, 0, 1, [])), (52, (13, 3, 0, 12, [])), (55, (1, 1, 2, 0, [])), (56, (0, 1, 0, 3, [])), (57, (4, 1, 0, 0, [])), (58, (16, 1, 1, 0, [])), (59, (25, 3, 127, 3, [])), (62, (22, 1, 0, 0, []))]
theorem os_X12_isSo : oA MT mX12_isSo ops_X12_isSo := (oA.cons oX12_isSo_0 (oA.cons oX12_isSo_2 (oA.cons oX12_isSo_3 (oA.cons oX12_isSo_4 (oA.cons oX12_isSo_5 (oA.cons oX12_isSo_6 (oA.cons oX12_isSo_7 (oA.cons oX12_isSo_8 (oA.cons oX12_isSo_11 (oA.cons oX12_isSo_12 (oA.cons oX12_isSo_13 (oA.cons oX12_isSo_14 (oA.cons oX12_isSo_15 (oA.cons oX12_isSo_18 (oA.cons oX12_isSo_19 (oA.cons oX12_isSo_22 (oA.cons oX12_isSo_23 (oA.cons oX12_isSo_26 (oA.cons oX12_isSo_27 (oA.cons oX12_isSo_28 (oA.cons oX12_isSo_29 (oA.cons oX12_isSo_32 (oA.cons oX12_isSo_33 (oA.cons oX12_isSo_36 (oA.cons oX12_isSo_37 (oA.cons oX12_isSo_40 (oA.cons oX12_isSo_41 (oA.cons oX12_isSo_42 (oA.cons oX12_isSo_43 (oA.cons oX12_isSo_44 (oA.cons oX12_isSo_47 (oA.cons oX12_isSo_48 (oA.cons oX12_isSo_49 (oA.cons oX12_isSo_50 (oA.cons oX12_isSo_51 (oA.cons oX12_isSo_52 (oA.cons oX12_isSo_55 (oA.cons oX12_isSo_56 (oA.cons oX12_isSo_57 (oA.cons oX12_isSo_58 (oA.cons oX12_isSo_59 (oA.cons oX12_isSo_62 oA.nil))))))))))))))))))))))))))))))))))))))))))
theorem dX12_fitting_0 : decode cX12_fitting 0 = .ok (.iconst 0, 1) := by decide +kernel
theorem dX12_fitting_1 : decode cX12_fitting 1 = .ok (.istore_n 2, 1) := by decide +kernel
theorem dX12_fitting_2 : decode cX12_fitting 2 = .ok (.aload_n 0, 1) := by decide +kernel
theorem dX12_fitting_3 : decode cX12_fitting 3 = .ok (.iconst (-1), 1) := by decide +kernel
theorem dX12_fitting_4 : decode cX12_fitting 4 = .ok (.putfield 301, 3) := by decide +kernel
theorem dX12_fitting_7 : decode cX12_fitting 7 = .ok (.iconst 0, 1) := by decide +kernel
theorem dX12_fitting_8 : decode cX12_fitting 8 = .ok (.istore_n 3, 1) := by decide +kernel
theorem dX12_fitting_9 : decode cX12_fitting 9 = .ok (.iload_n 3, 1) := by decide +kernel
theorem dX12_fitting_10 : decode cX12_fitting 10 = .ok (.sipush 500, 3) := by decide +kernel
theorem dX12_fitting_13 : decode cX12_fitting 13 = .ok (.if_icmp .ge 124, 3) := by decide +kernel
theorem dX12_fitting_16 : decode cX12_fitting 16 = .ok (.aload_n 0, 1) := by decide +kernel
theorem dX12_fitting_17 : decode cX12_fitting 17 = .ok (.iconst 1, 1) := by decide +kernel
theorem dX12_fitting_18 : decode cX12_fitting 18 = .ok (.iload_n 3, 1) := by decide +kernel
theorem dX12_fitting_19 : decode cX12_fitting 19 = .ok (.bipush 100, 2) := by decide +kernel
theorem dX12_fitting_21 : decode cX12_fitting 21 = .ok (.idiv, 1) := by decide +kernel
theorem dX12_fitting_22 : decode cX12_fitting 22 = .ok (.iadd, 1) := by decide +kernel
theorem dX12_fitting_23 : decode cX12_fitting 23 = .ok (.iload_n 3, 1) := by decide +kernel
theorem dX12_fitting_24 : decode cX12_fitting 24 = .ok (.bipush 10, 2) := by decide +kernel
theorem dX12_fitting_26 : decode cX12_fitting 26 = .ok (.idiv, 1) := by decide +kernel
theorem dX12_fitting_27 : decode cX12_fitting 27 = .ok (.bipush 10, 2) := by decide +kernel
theorem dX12_fitting_29 : decode cX12_fitting 29 = .ok (.irem, 1) := by decide +kernel
theorem dX12_fitting_30 : decode cX12_fitting 30 = .ok (.bipush 10, 2) := by decide +kernel
theorem dX12_fitting_32 : decode cX12_fitting 32 = .ok (.iload_n 3, 1) := by decide +kernel
theorem dX12_fitting_33 : decode cX12_fitting 33 = .ok (.bipush 10, 2) := by decide +kernel
theorem dX12_fitting_35 : decode cX12_fitting 35 = .ok (.irem, 1) := by decide +kernel
theorem dX12_fitting_36 : decode cX12_fitting 36 = .ok (.imul, 1) := by decide +kernel
theorem dX12_fitting_37 : decode cX12_fitting 37 = .ok (.bipush 9, 2) := by decide +kernel
theorem dX12_fitting_39 : decode cX12_fitting 39 = .ok (.iadd, 1) := by decide +kernel
theorem dX12_fitting_40 : decode cX12_fitting 40 = .ok (.invokevirtual 304, 3) := by decide +kernel
theorem dX12_fitting_43 : decode cX12_fitting 43 = .ok (.iconst 1, 1) := by decide +kernel
theorem dX12_fitting_44 : decode cX12_fitting 44 = .ok (.istore 4, 2) := by decide +kernel
theorem dX12_fitting_46 : decode cX12_fitting 46 = .ok (.iconst 0, 1) := by decide +kernel
theorem dX12_fitting_47 : decode cX12_fitting 47 = .ok (.istore 5, 2) := by decide +kernel
theorem dX12_fitting_49 : decode cX12_fitting 49 = .ok (.iload 5, 2) := by decide +kernel
theorem dX12_fitting_51 : decode cX12_fitting 51 = .ok (.aload_n 0, 1) := by decide +kernel
theorem dX12_fitting_52 : decode cX12_fitting 52 = .ok (.getfield 9, 3) := by decide +kernel
theorem dX12_fitting_55 : decode cX12_fitting 55 = .ok (.bipush 6, 2) := by decide +kernel
theorem dX12_fitting_57 : decode cX12_fitting 57 = .ok (.iaload, 1) := by decide +kernel
theorem dX12_fitting_58 : decode cX12_fitting 58 = .ok (.if_icmp .ge 36, 3) := by decide +kernel
theorem dX12_fitting_61 : decode cX12_fitting 61 = .ok (.iload 4, 2) := by decide +kernel
theorem dX12_fitting_63 : decode cX12_fitting 63 = .ok (.ifCond .eq 31, 3) := by decide +kernel
theorem dX12_fitting_66 : decode cX12_fitting 66 = .ok (.iload 5, 2) := by decide +kernel
theorem dX12_fitting_68 : decode cX12_fitting 68 = .ok (.iload_n 1, 1) := by decide +kernel
theorem dX12_fitting_69 : decode cX12_fitting 69 = .ok (.if_icmp .eq 12, 3) := by decide +kernel
theorem dX12_fitting_72 : decode cX12_fitting 72 = .ok (.aload_n 0, 1) := by decide +kernel
theorem dX12_fitting_73 : decode cX12_fitting 73 = .ok (.iload 5, 2) := by decide +kernel
theorem dX12_fitting_75 : decode cX12_fitting 75 = .ok (.invokevirtual 307, 3) := by decide +kernel
theorem dX12_fitting_78 : decode cX12_fitting 78 = .ok (.ifCond .eq 7, 3) := by decide +kernel
theorem dX12_fitting_81 : decode cX12_fitting 81 = .ok (.iconst 1, 1) := by decide +kernel
theorem dX12_fitting_82 : decode cX12_fitting 82 = .ok (.goto 4, 3) := by decide +kernel
theorem dX12_fitting_85 : decode cX12_fitting 85 = .ok (.iconst 0, 1) := by decide +kernel
theorem dX12_fitting_86 : decode cX12_fitting 86 = .ok (.istore 4, 2) := by decide +kernel
theorem dX12_fitting_88 : decode cX12_fitting 88 = .ok (.iinc 5 1, 3) := by decide +kernel
theorem dX12_fitting_91 : decode cX12_fitting 91 = .ok (.goto (-42), 3) := by decide +kernel
theorem dX12_fitting_94 : decode cX12_fitting 94 = .ok (.iload_n 2, 1) := by decide +kernel
theorem dX12_fitting_95 : decode cX12_fitting 95 = .ok (.iload 4, 2) := by decide +kernel
theorem dX12_fitting_97 : decode cX12_fitting 97 = .ok (.ifCond .eq 7, 3) := by decide +kernel
theorem dX12_fitting_100 : decode cX12_fitting 100 = .ok (.iconst 1, 1) := by decide +kernel
theorem dX12_fitting_101 : decode cX12_fitting 101 = .ok (.goto 4, 3) := by decide +kernel
theorem dX12_fitting_104 : decode cX12_fitting 104 = .ok (.iconst 0, 1) := by decide +kernel
theorem dX12_fitting_105 : decode cX12_fitting 105 = .ok (.iadd, 1) := by decide +kernel
theorem dX12_fitting_106 : decode cX12_fitting 106 = .ok (.istore_n 2, 1) := by decide +kernel
theorem dX12_fitting_107 : decode cX12_fitting 107 = .ok (.aload_n 0, 1) := by decide +kernel
theorem dX12_fitting_108 : decode cX12_fitting 108 = .ok (.iload 4, 2) := by decide +kernel
theorem dX12_fitting_110 : decode cX12_fitting 110 = .ok (.ifCond .eq 14, 3) := by decide +kernel
theorem dX12_fitting_113 : decode cX12_fitting 113 = .ok (.aload_n 0, 1) := by decide +kernel
theorem dX12_fitting_114 : decode cX12_fitting 114 = .ok (.getfield 301, 3) := by decide +kernel
theorem dX12_fitting_117 : decode cX12_fitting 117 = .ok (.ifCond .ge 7, 3) := by decide +kernel
theorem dX12_fitting_120 : decode cX12_fitting 120 = .ok (.iload_n 3, 1) := by decide +kernel
theorem dX12_fitting_121 : decode cX12_fitting 121 = .ok (.goto 7, 3) := by decide +kernel
theorem dX12_fitting_124 : decode cX12_fitting 124 = .ok (.aload_n 0, 1) := by decide +kernel
theorem dX12_fitting_125 : decode cX12_fitting 125 = .ok (.getfield 301, 3) := by decide +kernel
theorem dX12_fitting_128 : decode cX12_fitting 128 = .ok (.putfield 301, 3) := by decide +kernel
theorem dX12_fitting_131 : decode cX12_fitting 131 = .ok (.iinc 3 1, 3) := by decide +kernel
theorem dX12_fitting_134 : decode cX12_fitting 134 = .ok (.goto (-125), 3) := by decide +kernel
theorem dX12_fitting_137 : decode cX12_fitting 137 = .ok (.iload_n 2, 1) := by decide +kernel
theorem dX12_fitting_138 : decode cX12_fitting 138 = .ok (.ireturn, 1) := by decide +kernel
theorem oX12_fitting_0 : oP MT mX12_fitting 0 (0, 1, 0, 0, []) := o_iconst dX12_fitting_0 (by decide)
theorem oX12_fitting_1 : oP MT mX12_fitting 1 (2, 1, 2, 0, []) := o_istore_n dX12_fitting_1 rfl (by decide)
theorem oX12_fitting_2 : oP MT mX12_fitting 2 (1, 1, 0, 1, []) := o_aload_n dX12_fitting_2 rfl
theorem oX12_fitting_3 : oP MT mX12_fitting 3 (0, 1, 0, (-1), []) := o_iconst dX12_fitting_3 (by decide)
theorem oX12_fitting_4 : oP MT mX12_fitting 4 (14, 3, 25, 12, []) := o_putI (M := mX12_fitting) (C := RX12) (T := TX12) (ci := 12) (j := 25) (z := 12) dX12_fitting_4 rfl lq_RX12_301 rfl rfl rfl rfl
theorem oX12_fitting_7 : oP MT mX12_fitting 7 (0, 1, 0, 0, []) := o_iconst dX12_fitting_7 (by decide)
theorem oX12_fitting_8 : oP MT mX12_fitting 8 (2, 1, 3, 0, []) := o_istore_n dX12_fitting_8 rfl (by decide)
theorem oX12_fitting_9 : oP MT mX12_fitting 9 (1, 1, 3, 0, []) := o_iload_n dX12_fitting_9 rfl
theorem oX12_fitting_10 : oP MT mX12_fitting 10 (0, 3, 0, 500, []) := o_sipush dX12_fitting_10 (by decide)
theorem oX12_fitting_13 : oP MT mX12_fitting 13 (11, 3, 3, 137, []) := o_icmp_ge dX12_fitting_13 (by decide) (by decide)
theorem oX12_fitting_16 : oP MT mX12_fitting 16 (1, 1, 0, 1, []) := o_aload_n dX12_fitting_16 rfl
theorem oX12_fitting_17 : oP MT mX12_fitting 17 (0, 1, 0, 1, []) := o_iconst dX12_fitting_17 (by decide)
theorem oX12_fitting_18 : oP MT mX12_fitting 18 (1, 1, 3, 0, []) := o_iload_n dX12_fitting_18 rfl
theorem oX12_fitting_19 : oP MT mX12_fitting 19 (0, 2, 0, 100, []) := o_bipush dX12_fitting_19 (by decide)
theorem oX12_fitting_21 : oP MT mX12_fitting 21 (4, 1, 9, 0, []) := o_idiv dX12_fitting_21
theorem oX12_fitting_22 : oP MT mX12_fitting 22 (4, 1, 0, 0, []) := o_iadd dX12_fitting_22
theorem oX12_fitting_23 : oP MT mX12_fitting 23 (1, 1, 3, 0, []) := o_iload_n dX12_fitting_23 rfl
theorem oX12_fitting_24 : oP MT mX12_fitting 24 (0, 2, 0, 10, []) := o_bipush dX12_fitting_24 (by decide)
theorem oX12_fitting_26 : oP MT mX12_fitting 26 (4, 1, 9, 0, []) := o_idiv dX12_fitting_26
theorem oX12_fitting_27 : oP MT mX12_fitting 27 (0, 2, 0, 10, []) := o_bipush dX12_fitting_27 (by decide)
theorem oX12_fitting_29 : oP MT mX12_fitting 29 (4, 1, 10, 0, []) := o_irem dX12_fitting_29
theorem oX12_fitting_30 : oP MT mX12_fitting 30 (0, 2, 0, 10, []) := o_bipush dX12_fitting_30 (by decide)
theorem oX12_fitting_32 : oP MT mX12_fitting 32 (1, 1, 3, 0, []) := o_iload_n dX12_fitting_32 rfl
theorem oX12_fitting_33 : oP MT mX12_fitting 33 (0, 2, 0, 10, []) := o_bipush dX12_fitting_33 (by decide)
theorem oX12_fitting_35 : oP MT mX12_fitting 35 (4, 1, 10, 0, []) := o_irem dX12_fitting_35
theorem oX12_fitting_36 : oP MT mX12_fitting 36 (4, 1, 2, 0, []) := o_imul dX12_fitting_36
theorem oX12_fitting_37 : oP MT mX12_fitting 37 (0, 2, 0, 9, []) := o_bipush dX12_fitting_37 (by decide)
theorem oX12_fitting_39 : oP MT mX12_fitting 39 (4, 1, 0, 0, []) := o_iadd dX12_fitting_39
theorem oX12_fitting_40 : oP MT mX12_fitting 40 (26, 3, 0, 3, [(12, 169)]) := o_callO ((vA.cons (v_callV dX12_fitting_40 (ci := 12) rfl rfl (mj := mX12_tellsLone) mt_X12_tellsLone cmq_X12_tellsLone wq_613 wq_615 wq_616 (by decide) (by decide)) vA.nil))
theorem oX12_fitting_43 : oP MT mX12_fitting 43 (0, 1, 0, 1, []) := o_iconst dX12_fitting_43 (by decide)
theorem oX12_fitting_44 : oP MT mX12_fitting 44 (2, 2, 4, 0, []) := o_istore dX12_fitting_44 (by decide)
theorem oX12_fitting_46 : oP MT mX12_fitting 46 (0, 1, 0, 0, []) := o_iconst dX12_fitting_46 (by decide)
theorem oX12_fitting_47 : oP MT mX12_fitting 47 (2, 2, 5, 0, []) := o_istore dX12_fitting_47 (by decide)
theorem oX12_fitting_49 : oP MT mX12_fitting 49 (1, 2, 5, 0, []) := o_iload dX12_fitting_49
theorem oX12_fitting_51 : oP MT mX12_fitting 51 (1, 1, 0, 1, []) := o_aload_n dX12_fitting_51 rfl
theorem oX12_fitting_52 : oP MT mX12_fitting 52 (13, 3, 0, 12, []) := o_getR (M := mX12_fitting) (C := RX12) (T := TX12) (ci := 12) (j := 0) (z := 12) dX12_fitting_52 rfl lq_RX12_9 rfl rfl
theorem oX12_fitting_55 : oP MT mX12_fitting 55 (0, 2, 0, 6, []) := o_bipush dX12_fitting_55 (by decide)
theorem oX12_fitting_57 : oP MT mX12_fitting 57 (16, 1, 1, 0, []) := o_iaload dX12_fitting_57
theorem oX12_fitting_58 : oP MT mX12_fitting 58 (11, 3, 3, 94, []) := o_icmp_ge dX12_fitting_58 (by decide) (by decide)
theorem oX12_fitting_61 : oP MT mX12_fitting 61 (1, 2, 4, 0, []) := o_iload dX12_fitting_61
theorem oX12_fitting_63 : oP MT mX12_fitting 63 (10, 3, 0, 94, []) := o_if_eq dX12_fitting_63 (by decide) (by decide)
theorem oX12_fitting_66 : oP MT mX12_fitting 66 (1, 2, 5, 0, []) := o_iload dX12_fitting_66
theorem oX12_fitting_68 : oP MT mX12_fitting 68 (1, 1, 1, 0, []) := o_iload_n dX12_fitting_68 rfl
theorem oX12_fitting_69 : oP MT mX12_fitting 69 (11, 3, 0, 81, []) := o_icmp_eq dX12_fitting_69 (by decide) (by decide)
theorem oX12_fitting_72 : oP MT mX12_fitting 72 (1, 1, 0, 1, []) := o_aload_n dX12_fitting_72 rfl
theorem oX12_fitting_73 : oP MT mX12_fitting 73 (1, 2, 5, 0, []) := o_iload dX12_fitting_73
theorem oX12_fitting_75 : oP MT mX12_fitting 75 (26, 3, 0, 1, [(12, 170)]) := o_callO ((vA.cons (v_callV dX12_fitting_75 (ci := 12) rfl rfl (mj := mX12_isSo) mt_X12_isSo cmq_X12_isSo wq_617 wq_619 wq_620 (by decide) (by decide)) vA.nil))
theorem oX12_fitting_78 : oP MT mX12_fitting 78 (10, 3, 0, 85, []) := o_if_eq dX12_fitting_78 (by decide) (by decide)
theorem oX12_fitting_81 : oP MT mX12_fitting 81 (0, 1, 0, 1, []) := o_iconst dX12_fitting_81 (by decide)
theorem oX12_fitting_82 : oP MT mX12_fitting 82 (9, 3, 86, 0, []) := o_goto dX12_fitting_82 (by decide)
theorem oX12_fitting_85 : oP MT mX12_fitting 85 (0, 1, 0, 0, []) := o_iconst dX12_fitting_85 (by decide)
theorem oX12_fitting_86 : oP MT mX12_fitting 86 (2, 2, 4, 0, []) := o_istore dX12_fitting_86 (by decide)
theorem oX12_fitting_88 : oP MT mX12_fitting 88 (3, 3, 5, 1, []) := o_iinc dX12_fitting_88 (by decide) (by decide)
theorem oX12_fitting_91 : oP MT mX12_fitting 91 (9, 3, 49, 0, []) := o_goto dX12_fitting_91 (by decide)
theorem oX12_fitting_94 : oP MT mX12_fitting 94 (1, 1, 2, 0, []) := o_iload_n dX12_fitting_94 rfl
theorem oX12_fitting_95 : oP MT mX12_fitting 95 (1, 2, 4, 0, []) := o_iload dX12_fitting_95
theorem oX12_fitting_97 : oP MT mX12_fitting 97 (10, 3, 0, 104, []) := o_if_eq dX12_fitting_97 (by decide) (by decide)
theorem oX12_fitting_100 : oP MT mX12_fitting 100 (0, 1, 0, 1, []) := o_iconst dX12_fitting_100 (by decide)
theorem oX12_fitting_101 : oP MT mX12_fitting 101 (9, 3, 105, 0, []) := o_goto dX12_fitting_101 (by decide)
theorem oX12_fitting_104 : oP MT mX12_fitting 104 (0, 1, 0, 0, []) := o_iconst dX12_fitting_104 (by decide)
theorem oX12_fitting_105 : oP MT mX12_fitting 105 (4, 1, 0, 0, []) := o_iadd dX12_fitting_105
theorem oX12_fitting_106 : oP MT mX12_fitting 106 (2, 1, 2, 0, []) := o_istore_n dX12_fitting_106 rfl (by decide)
theorem oX12_fitting_107 : oP MT mX12_fitting 107 (1, 1, 0, 1, []) := o_aload_n dX12_fitting_107 rfl
theorem oX12_fitting_108 : oP MT mX12_fitting 108 (1, 2, 4, 0, []) := o_iload dX12_fitting_108
theorem oX12_fitting_110 : oP MT mX12_fitting 110 (10, 3, 0, 124, []) := o_if_eq dX12_fitting_110 (by decide) (by decide)
theorem oX12_fitting_113 : oP MT mX12_fitting 113 (1, 1, 0, 1, []) := o_aload_n dX12_fitting_113 rfl
theorem oX12_fitting_114 : oP MT mX12_fitting 114 (12, 3, 25, 12, []) := o_getI (M := mX12_fitting) (C := RX12) (T := TX12) (ci := 12) (j := 25) (z := 12) dX12_fitting_114 rfl lq_RX12_301 rfl rfl
theorem oX12_fitting_117 : oP MT mX12_fitting 117 (10, 3, 3, 124, []) := o_if_ge dX12_fitting_117 (by decide) (by decide)
theorem oX12_fitting_120 : oP MT mX12_fitting 120 (1, 1, 3, 0, []) := o_iload_n dX12_fitting_120 rfl
theorem oX12_fitting_121 : oP MT mX12_fitting 121 (9, 3, 128, 0, []) := o_goto dX12_fitting_121 (by decide)
theorem oX12_fitting_124 : oP MT mX12_fitting 124 (1, 1, 0, 1, []) := o_aload_n dX12_fitting_124 rfl
theorem oX12_fitting_125 : oP MT mX12_fitting 125 (12, 3, 25, 12, []) := o_getI (M := mX12_fitting) (C := RX12) (T := TX12) (ci := 12) (j := 25) (z := 12) dX12_fitting_125 rfl lq_RX12_301 rfl rfl
theorem oX12_fitting_128 : oP MT mX12_fitting 128 (14, 3, 25, 12, []) := o_putI (M := mX12_fitting) (C := RX12) (T := TX12) (ci := 12) (j := 25) (z := 12) dX12_fitting_128 rfl lq_RX12_301 rfl rfl rfl rfl
theorem oX12_fitting_131 : oP MT mX12_fitting 131 (3, 3, 3, 1, []) := o_iinc dX12_fitting_131 (by decide) (by decide)
theorem oX12_fitting_134 : oP MT mX12_fitting 134 (9, 3, 9, 0, []) := o_goto dX12_fitting_134 (by decide)
theorem oX12_fitting_137 : oP MT mX12_fitting 137 (1, 1, 2, 0, []) := o_iload_n dX12_fitting_137 rfl
theorem oX12_fitting_138 : oP MT mX12_fitting 138 (21, 1, 0, 0, []) := o_iret dX12_fitting_138 rfl
def ops_X12_fitting : List (Nat × aO) := [(0, (0, 1, 0, 0, [])), (1, (2, 1, 2, 0, [])), (2, (1, 1, 0, 1, [])), (3, (0, 1, 0, (-1), [])), (4, (14, 3, 25, 12, [])), (7, (0, 1, 0, 0, [])), (8, (2, 1, 3, 0, [])), (9, (1, 1, 3, 0, [])), (10, (0, 3, 0, 500, [])), (13, (11, 3, 3, 137, [])), (16, (1, 1, 0, 1, [])), (17, (0, 1, 0, 1, [])), (18, (1, 1, 3, 0, [])), (19, (0, 2, 0, 100, [])), (21, (4, 1, 9, 0, [])), (22, (4, 1, 0, 0, [])), (23, (1, 1, 3, 0, [])), (24, (0, 2, 0, 10, [])), (26, (4, 1, 9, 0, [])), (27, (0, 2, 0, 10, [])), (29, (4, 1, 10, 0, [])), (30, (0, 2, 0, 10, [])), (32, (1, 1, 3, 0, [])), (33, (0, 2, 0, 10, [])), (35, (4, 1, 10, 0, [])), (36, (4, 1, 2, 0, [])), (37, (0, 2, 0, 9, [])), (39, (4, 1, 0, 0, [])), (40, (26, 3, 0, 3, [(12, 169)])), (43, (0, 1, 0, 1, [])), (44, (2, 2, 4, 0, [])), (46, (0, 1, 0, 0, [])), (47, (2, 2, 5, 0, [])), (49, (1, 2, 5, 0, [])), (51, (1, 1, 0, 1, [])), (52, (13, 3, 0, 12, [])), (55, (0, 2, 0, 6, [])), (57, (16, 1, 1, 0, [])), (58, (11, 3, 3, 94, [])), (61, (1, 2, 4, 0, [])), (63, (10, 3, 0, 94, [])), (66, (1, 2, 5, 0, [])), (68, (1, 1, 1, 0, [])), (69, (11, 3, 0, 81, [])), (72, (1, 1, 0, 1, [])), (73, (1, 2, 5, 0, [])), (75, (26, 3, 0, 1, [(12, 170)])), (78, (10, 3, 0, 85, [])), (81, (0, 1, 0, 1, [])), (82, (9, 3, 86, 0, [])), (85, (0, 1, 0, 0, [])), (86, (2, 2, 4, 0, [])), (88, (3, 3, 5, 1, [])), (91, (9, 3, 49, 0, [])), (94, (1, 1, 2, 0, [])), (95, (1, 2, 4, 0, [])), (97, (10, 3, 0, 104, [])), (100, (0, 1, 0, 1, [])), (101, (9, 3, 105, 0, [])), (104, (0, 1, 0, 0, [])), (105, (4, 1, 0, 0, [])), (106, (2, 1, 2, 0, [])), (107, (1, 1, 0, 1, [])), (108, (1, 2, 4, 0, [])), (110, (10, 3, 0, 124, [])), (113, (1, 1, 0, 1, [])), (114, (12, 3, 25, 12, [])), (117, (10, 3, 3, 124, [])), (120, (1, 1, 3, 0, [])), (121, (9, 3, 128, 0, [])), (124, (1, 1, 0, 1, [])), (125, (12, 3, 25, 12, [])), (128, (14, 3, 25, 12, [])), (131, (3, 3, 3, 1, [])), (134, (9, 3, 9, 0, [])), (137, (1, 1, 2, 0, [])), (138, (21, 1, 0, 0, []))]
theorem os_X12_fitting : oA MT mX12_fitting ops_X12_fitting := (oA.cons oX12_fitting_0 (oA.cons oX12_fitting_1 (oA.cons oX12_fitting_2 (oA.cons oX12_fitting_3 (oA.cons oX12_fitting_4 (oA.cons oX12_fitting_7 (oA.cons oX12_fitting_8 (oA.cons oX12_fitting_9 (oA.cons oX12_fitting_10 (oA.cons oX12_fitting_13 (oA.cons oX12_fitting_16 (oA.cons oX12_fitting_17 (oA.cons oX12_fitting_18 (oA.cons oX12_fitting_19 (oA.cons oX12_fitting_21 (oA.cons oX12_fitting_22 (oA.cons oX12_fitting_23 (oA.cons oX12_fitting_24 (oA.cons oX12_fitting_26 (oA.cons oX12_fitting_27 (oA.cons oX12_fitting_29 (oA.cons oX12_fitting_30 (oA.cons oX12_fitting_32 (oA.cons oX12_fitting_33 (oA.cons oX12_fitting_35 (oA.cons oX12_fitting_36 (oA.cons oX12_fitting_37 (oA.cons oX12_fitting_39 (oA.cons oX12_fitting_40 (oA.cons oX12_fitting_43 (oA.cons oX12_fitting_44 (oA.cons oX12_fitting_46 (oA.cons oX12_fitting_47 (oA.cons oX12_fitting_49 (oA.cons oX12_fitting_51 (oA.cons oX12_fitting_52 (oA.cons oX12_fitting_55 (oA.cons oX12_fitting_57 (oA.cons oX12_fitting_58 (oA.cons oX12_fitting_61 (oA.cons oX12_fitting_63 (oA.cons oX12_fitting_66 (oA.cons oX12_fitting_68 (oA.cons oX12_fitting_69 (oA.cons oX12_fitting_72 (oA.cons oX12_fitting_73 (oA.cons oX12_fitting_75 (oA.cons oX12_fitting_78 (oA.cons oX12_fitting_81 (oA.cons oX12_fitting_82 (oA.cons oX12_fitting_85 (oA.cons oX12_fitting_86 (oA.cons oX12_fitting_88 (oA.cons oX12_fitting_91 (oA.cons oX12_fitting_94 (oA.cons oX12_fitting_95 (oA.cons oX12_fitting_97 (oA.cons oX12_fitting_100 (oA.cons oX12_fitting_101 (oA.cons oX12_fitting_104 (oA.cons oX12_fitting_105 (oA.cons oX12_fitting_106 (oA.cons oX12_fitting_107 (oA.cons oX12_fitting_108 (oA.cons oX12_fitting_110 (oA.cons oX12_fitting_113 (oA.cons oX12_fitting_114 (oA.cons oX12_fitting_117 (oA.cons oX12_fitting_120 (oA.cons oX12_fitting_121 (oA.cons oX12_fitting_124 (oA.cons oX12_fitting_125 (oA.cons oX12_fitting_128 (oA.cons oX12_fitting_131 (oA.cons oX12_fitting_134 (oA.cons oX12_fitting_137 (oA.cons oX12_fitting_138 oA.nil)))))))))))))))))))))))))))))))))))))))))))))))))))))))))))))))))))))))))))))
theorem dX12_byLot_0 : decode cX12_byLot 0 = .ok (.aload_n 0, 1) := by decide +kernel
theorem dX12_byLot_1 : decode cX12_byLot 1 = .ok (.getfield 9, 3) := by decide +kernel
theorem dX12_byLot_4 : decode cX12_byLot 4 = .ok (.iconst 3, 1) := by decide +kernel
theorem dX12_byLot_5 : decode cX12_byLot 5 = .ok (.aload_n 0, 1) := by decide +kernel
theorem dX12_byLot_6 : decode cX12_byLot 6 = .ok (.getfield 9, 3) := by decide +kernel
theorem dX12_byLot_9 : decode cX12_byLot 9 = .ok (.iconst 3, 1) := by decide +kernel
theorem dX12_byLot_10 : decode cX12_byLot 10 = .ok (.iaload, 1) := by decide +kernel
theorem dX12_byLot_11 : decode cX12_byLot 11 = .ok (.ldc_w 313, 3) := by decide +kernel
theorem dX12_byLot_14 : decode cX12_byLot 14 = .ok (.imul, 1) := by decide +kernel
theorem dX12_byLot_15 : decode cX12_byLot 15 = .ok (.sipush 12345, 3) := by decide +kernel
theorem dX12_byLot_18 : decode cX12_byLot 18 = .ok (.iadd, 1) := by decide +kernel
theorem dX12_byLot_19 : decode cX12_byLot 19 = .ok (.iastore, 1) := by decide +kernel
theorem dX12_byLot_20 : decode cX12_byLot 20 = .ok (.aload_n 0, 1) := by decide +kernel
theorem dX12_byLot_21 : decode cX12_byLot 21 = .ok (.aload_n 0, 1) := by decide +kernel
theorem dX12_byLot_22 : decode cX12_byLot 22 = .ok (.getfield 9, 3) := by decide +kernel
theorem dX12_byLot_25 : decode cX12_byLot 25 = .ok (.iconst 3, 1) := by decide +kernel
theorem dX12_byLot_26 : decode cX12_byLot 26 = .ok (.iaload, 1) := by decide +kernel
theorem dX12_byLot_27 : decode cX12_byLot 27 = .ok (.bipush 16, 2) := by decide +kernel
theorem dX12_byLot_29 : decode cX12_byLot 29 = .ok (.iushr, 1) := by decide +kernel
theorem dX12_byLot_30 : decode cX12_byLot 30 = .ok (.aload_n 0, 1) := by decide +kernel
theorem dX12_byLot_31 : decode cX12_byLot 31 = .ok (.getfield 9, 3) := by decide +kernel
theorem dX12_byLot_34 : decode cX12_byLot 34 = .ok (.iconst 4, 1) := by decide +kernel
theorem dX12_byLot_35 : decode cX12_byLot 35 = .ok (.iaload, 1) := by decide +kernel
theorem dX12_byLot_36 : decode cX12_byLot 36 = .ok (.iconst 1, 1) := by decide +kernel
theorem dX12_byLot_37 : decode cX12_byLot 37 = .ok (.iadd, 1) := by decide +kernel
theorem dX12_byLot_38 : decode cX12_byLot 38 = .ok (.irem, 1) := by decide +kernel
theorem dX12_byLot_39 : decode cX12_byLot 39 = .ok (.invokevirtual 238, 3) := by decide +kernel
theorem dX12_byLot_42 : decode cX12_byLot 42 = .ok (.ireturn, 1) := by decide +kernel
theorem oX12_byLot_0 : oP MT mX12_byLot 0 (1, 1, 0, 1, []) := o_aload_n dX12_byLot_0 rfl
theorem oX12_byLot_1 : oP MT mX12_byLot 1 (13, 3, 0, 12, []) := o_getR (M := mX12_byLot) (C := RX12) (T := TX12) (ci := 12) (j := 0) (z := 12) dX12_byLot_1 rfl lq_RX12_9 rfl rfl
theorem oX12_byLot_4 : oP MT mX12_byLot 4 (0, 1, 0, 3, []) := o_iconst dX12_byLot_4 (by decide)
theorem oX12_byLot_5 : oP MT mX12_byLot 5 (1, 1, 0, 1, []) := o_aload_n dX12_byLot_5 rfl
theorem oX12_byLot_6 : oP MT mX12_byLot 6 (13, 3, 0, 12, []) := o_getR (M := mX12_byLot) (C := RX12) (T := TX12) (ci := 12) (j := 0) (z := 12) dX12_byLot_6 rfl lq_RX12_9 rfl rfl
theorem oX12_byLot_9 : oP MT mX12_byLot 9 (0, 1, 0, 3, []) := o_iconst dX12_byLot_9 (by decide)
theorem oX12_byLot_10 : oP MT mX12_byLot 10 (16, 1, 1, 0, []) := o_iaload dX12_byLot_10
theorem oX12_byLot_11 : oP MT mX12_byLot 11 (0, 3, 0, 1103515245, []) := o_ldcw dX12_byLot_11 cq_RX12_313 (by decide)
theorem oX12_byLot_14 : oP MT mX12_byLot 14 (4, 1, 2, 0, []) := o_imul dX12_byLot_14
theorem oX12_byLot_15 : oP MT mX12_byLot 15 (0, 3, 0, 12345, []) := o_sipush dX12_byLot_15 (by decide)
theorem oX12_byLot_18 : oP MT mX12_byLot 18 (4, 1, 0, 0, []) := o_iadd dX12_byLot_18
theorem oX12_byLot_19 : oP MT mX12_byLot 19 (18, 1, 0, 0, []) := o_iastore dX12_byLot_19
theorem oX12_byLot_20 : oP MT mX12_byLot 20 (1, 1, 0, 1, []) := o_aload_n dX12_byLot_20 rfl
theorem oX12_byLot_21 : oP MT mX12_byLot 21 (1, 1, 0, 1, []) := o_aload_n dX12_byLot_21 rfl
theorem oX12_byLot_22 : oP MT mX12_byLot 22 (13, 3, 0, 12, []) := o_getR (M := mX12_byLot) (C := RX12) (T := TX12) (ci := 12) (j := 0) (z := 12) dX12_byLot_22 rfl lq_RX12_9 rfl rfl
theorem oX12_byLot_25 : oP MT mX12_byLot 25 (0, 1, 0, 3, []) := o_iconst dX12_byLot_25 (by decide)
theorem oX12_byLot_26 : oP MT mX12_byLot 26 (16, 1, 1, 0, []) := o_iaload dX12_byLot_26
theorem oX12_byLot_27 : oP MT mX12_byLot 27 (0, 2, 0, 16, []) := o_bipush dX12_byLot_27 (by decide)
theorem oX12_byLot_29 : oP MT mX12_byLot 29 (4, 1, 8, 0, []) := o_iushr dX12_byLot_29
theorem oX12_byLot_30 : oP MT mX12_byLot 30 (1, 1, 0, 1, []) := o_aload_n dX12_byLot_30 rfl
theorem oX12_byLot_31 : oP MT mX12_byLot 31 (13, 3, 0, 12, []) := o_getR (M := mX12_byLot) (C := RX12) (T := TX12) (ci := 12) (j := 0) (z := 12) dX12_byLot_31 rfl lq_RX12_9 rfl rfl
theorem oX12_byLot_34 : oP MT mX12_byLot 34 (0, 1, 0, 4, []) := o_iconst dX12_byLot_34 (by decide)
theorem oX12_byLot_35 : oP MT mX12_byLot 35 (16, 1, 1, 0, []) := o_iaload dX12_byLot_35
theorem oX12_byLot_36 : oP MT mX12_byLot 36 (0, 1, 0, 1, []) := o_iconst dX12_byLot_36 (by decide)
theorem oX12_byLot_37 : oP MT mX12_byLot 37 (4, 1, 0, 0, []) := o_iadd dX12_byLot_37
theorem oX12_byLot_38 : oP MT mX12_byLot 38 (4, 1, 10, 0, []) := o_irem dX12_byLot_38
theorem oX12_byLot_39 : oP MT mX12_byLot 39 (26, 3, 0, 1, [(12, 151)]) := o_callO ((vA.cons (v_callV dX12_byLot_39 (ci := 12) rfl rfl (mj := mX12_goesBy) mt_X12_goesBy cmq_X12_goesBy wq_561 wq_563 wq_564 (by decide) (by decide)) vA.nil))
theorem oX12_byLot_42 : oP MT mX12_byLot 42 (21, 1, 0, 0, []) := o_iret dX12_byLot_42 rfl
def ops_X12_byLot : List (Nat × aO) := [(0, (1, 1, 0, 1, [])), (1, (13, 3, 0, 12, [])), (4, (0, 1, 0, 3, [])), (5, (1, 1, 0, 1, [])), (6, (13, 3, 0, 12, [])), (9, (0, 1, 0, 3, [])), (10, (16, 1, 1, 0, [])), (11, (0, 3, 0, 1103515245, [])), (14, (4, 1, 2, 0, [])), (15, (0, 3, 0, 12345, [])), (18, (4, 1, 0, 0, [])), (19, (18, 1, 0, 0, [])), (20, (1, 1, 0, 1, [])), (21, (1, 1, 0, 1, [])), (22, (13, 3, 0, 12, [])), (25, (0, 1, 0, 3, [])), (26, (16, 1, 1, 0, [])), (27, (0, 2, 0, 16, [])), (29, (4, 1, 8, 0, [])), (30, (1, 1, 0, 1, [])), (31, (13, 3, 0, 12, [])), (34, (0, 1, 0, 4, [])), (35, (16, 1, 1, 0, [])), (36, (0, 1, 0, 1, [])), (37, (4, 1, 0, 0, [])), (38, (4, 1, 10, 0, [])), (39, (26, 3, 0, 1, [(12, 151)])), (42, (21, 1, 0, 0, []))]
theorem os_X12_byLot : oA MT mX12_byLot ops_X12_byLot := (oA.cons oX12_byLot_0 (oA.cons oX12_byLot_1 (oA.cons oX12_byLot_4 (oA.cons oX12_byLot_5 (oA.cons oX12_byLot_6 (oA.cons oX12_byLot_9 (oA.cons oX12_byLot_10 (oA.cons oX12_byLot_11 (oA.cons oX12_byLot_14 (oA.cons oX12_byLot_15 (oA.cons oX12_byLot_18 (oA.cons oX12_byLot_19 (oA.cons oX12_byLot_20 (oA.cons oX12_byLot_21 (oA.cons oX12_byLot_22 (oA.cons oX12_byLot_25 (oA.cons oX12_byLot_26 (oA.cons oX12_byLot_27 (oA.cons oX12_byLot_29 (oA.cons oX12_byLot_30 (oA.cons oX12_byLot_31 (oA.cons oX12_byLot_34 (oA.cons oX12_byLot_35 (oA.cons oX12_byLot_36 (oA.cons oX12_byLot_37 (oA.cons oX12_byLot_38 (oA.cons oX12_byLot_39 (oA.cons oX12_byLot_42 oA.nil))))))))))))))))))))))))))))
theorem dX12_isAct_0 : decode cX12_isAct 0 = .ok (.iload_n 1, 1) := by decide +kernel
theorem dX12_isAct_1 : decode cX12_isAct 1 = .ok (.iconst 0, 1) := by decide +kernel
theorem dX12_isAct_2 : decode cX12_isAct 2 = .ok (.aload_n 0, 1) := by decide +kernel
theorem dX12_isAct_3 : decode cX12_isAct 3 = .ok (.getfield 9, 3) := by decide +kernel
theorem dX12_isAct_6 : decode cX12_isAct 6 = .ok (.iconst 4, 1) := by decide +kernel
theorem dX12_isAct_7 : decode cX12_isAct 7 = .ok (.iaload, 1) := by decide +kernel
theorem dX12_isAct_8 : decode cX12_isAct 8 = .ok (.invokestatic 71, 3) := by decide +kernel
theorem dX12_isAct_11 : decode cX12_isAct 11 = .ok (.ireturn, 1) := by decide +kernel
theorem oX12_isAct_0 : oP MT mX12_isAct 0 (1, 1, 1, 0, []) := o_iload_n dX12_isAct_0 rfl
theorem oX12_isAct_1 : oP MT mX12_isAct 1 (0, 1, 0, 0, []) := o_iconst dX12_isAct_1 (by decide)
theorem oX12_isAct_2 : oP MT mX12_isAct 2 (1, 1, 0, 1, []) := o_aload_n dX12_isAct_2 rfl
theorem oX12_isAct_3 : oP MT mX12_isAct 3 (13, 3, 0, 12, []) := o_getR (M := mX12_isAct) (C := RX12) (T := TX12) (ci := 12) (j := 0) (z := 12) dX12_isAct_3 rfl lq_RX12_9 rfl rfl
theorem oX12_isAct_6 : oP MT mX12_isAct 6 (0, 1, 0, 4, []) := o_iconst dX12_isAct_6 (by decide)
theorem oX12_isAct_7 : oP MT mX12_isAct 7 (16, 1, 1, 0, []) := o_iaload dX12_isAct_7
theorem oX12_isAct_8 : oP MT mX12_isAct 8 (25, 3, 127, 3, []) := o_callS dX12_isAct_8 (mj := mX12_in1) mt_X12_in1 cmq_X12_in1 wq_468 wq_470 (by decide) (by decide)
theorem oX12_isAct_11 : oP MT mX12_isAct 11 (22, 1, 0, 0, []) := o_zret dX12_isAct_11 rfl
def ops_X12_isAct : List (Nat × aO) := [(0, (1, 1, 1, 0, [])), (1, (0, 1, 0, 0, [])), (2, (1, 1, 0, 1, [])), (3, (13, 3, 0, 12, [])), (6, (0, 1, 0, 4, [])), (7, (16, 1, 1, 0, [])), (8, (25, 3, 127, 3, [])), (11, (22, 1, 0, 0, []))]
theorem os_X12_isAct : oA MT mX12_isAct ops_X12_isAct := (oA.cons oX12_isAct_0 (oA.cons oX12_isAct_1 (oA.cons oX12_isAct_2 (oA.cons oX12_isAct_3 (oA.cons oX12_isAct_6 (oA.cons oX12_isAct_7 (oA.cons oX12_isAct_8 (oA.cons oX12_isAct_11 oA.nil))))))))
theorem dX12_isSheet_0 : decode cX12_isSheet 0 = .ok (.iload_n 0, 1) := by decide +kernel
theorem dX12_isSheet_1 : decode cX12_isSheet 1 = .ok (.iconst 0, 1) := by decide +kernel
theorem dX12_isSheet_2 : decode cX12_isSheet 2 = .ok (.iconst 3, 1) := by decide +kernel
theorem dX12_isSheet_3 : decode cX12_isSheet 3 = .ok (.invokestatic 71, 3) := by decide +kernel
theorem dX12_isSheet_6 : decode cX12_isSheet 6 = .ok (.ireturn, 1) := by decide +kernel
theorem oX12_isSheet_0 : oP MT mX12_isSheet 0 (1, 1, 0, 0, []) := o_iload_n dX12_isSheet_0 rfl
theorem oX12_isSheet_1 : oP MT mX12_isSheet 1 (0, 1, 0, 0, []) := o_iconst dX12_isSheet_1 (by decide)
theorem oX12_isSheet_2 : oP MT mX12_isSheet 2 (0, 1, 0, 3, []) := o_iconst dX12_isSheet_2 (by decide)
theorem oX12_isSheet_3 : oP MT mX12_isSheet 3 (25, 3, 127, 3, []) := o_callS dX12_isSheet_3 (mj := mX12_in1) mt_X12_in1 cmq_X12_in1 wq_468 wq_470 (by decide) (by decide)
theorem oX12_isSheet_6 : oP MT mX12_isSheet 6 (22, 1, 0, 0, []) := o_zret dX12_isSheet_6 rfl
def ops_X12_isSheet : List (Nat × aO) := [(0, (1, 1, 0, 0, [])), (1, (0, 1, 0, 0, [])), (2, (0, 1, 0, 3, [])), (3, (25, 3, 127, 3, [])), (6, (22, 1, 0, 0, []))]
theorem os_X12_isSheet : oA MT mX12_isSheet ops_X12_isSheet := (oA.cons oX12_isSheet_0 (oA.cons oX12_isSheet_1 (oA.cons oX12_isSheet_2 (oA.cons oX12_isSheet_3 (oA.cons oX12_isSheet_6 oA.nil)))))
theorem dX12_lacks_0 : decode cX12_lacks 0 = .ok (.aload_n 0, 1) := by decide +kernel
theorem dX12_lacks_1 : decode cX12_lacks 1 = .ok (.getfield 53, 3) := by decide +kernel
theorem dX12_lacks_4 : decode cX12_lacks 4 = .ok (.iload_n 1, 1) := by decide +kernel
theorem dX12_lacks_5 : decode cX12_lacks 5 = .ok (.iaload, 1) := by decide +kernel
theorem dX12_lacks_6 : decode cX12_lacks 6 = .ok (.ifCond .ge 8, 3) := by decide +kernel
theorem dX12_lacks_9 : decode cX12_lacks 9 = .ok (.bipush (-11), 2) := by decide +kernel
theorem dX12_lacks_11 : decode cX12_lacks 11 = .ok (.goto 19, 3) := by decide +kernel
theorem dX12_lacks_14 : decode cX12_lacks 14 = .ok (.aload_n 0, 1) := by decide +kernel
theorem dX12_lacks_15 : decode cX12_lacks 15 = .ok (.getfield 53, 3) := by decide +kernel
theorem dX12_lacks_18 : decode cX12_lacks 18 = .ok (.iload_n 1, 1) := by decide +kernel
theorem dX12_lacks_19 : decode cX12_lacks 19 = .ok (.iaload, 1) := by decide +kernel
theorem dX12_lacks_20 : decode cX12_lacks 20 = .ok (.iload_n 2, 1) := by decide +kernel
theorem dX12_lacks_21 : decode cX12_lacks 21 = .ok (.if_icmp .eq 8, 3) := by decide +kernel
theorem dX12_lacks_24 : decode cX12_lacks 24 = .ok (.bipush (-13), 2) := by decide +kernel
theorem dX12_lacks_26 : decode cX12_lacks 26 = .ok (.goto 4, 3) := by decide +kernel
theorem dX12_lacks_29 : decode cX12_lacks 29 = .ok (.iconst 0, 1) := by decide +kernel
theorem dX12_lacks_30 : decode cX12_lacks 30 = .ok (.ireturn, 1) := by decide +kernel
theorem oX12_lacks_0 : oP MT mX12_lacks 0 (1, 1, 0, 1, []) := o_aload_n dX12_lacks_0 rfl
theorem oX12_lacks_1 : oP MT mX12_lacks 1 (13, 3, 28, 12, []) := o_getR (M := mX12_lacks) (C := RX12) (T := TX12) (ci := 12) (j := 28) (z := 12) dX12_lacks_1 rfl lq_RX12_53 rfl rfl
theorem oX12_lacks_4 : oP MT mX12_lacks 4 (1, 1, 1, 0, []) := o_iload_n dX12_lacks_4 rfl
theorem oX12_lacks_5 : oP MT mX12_lacks 5 (16, 1, 1, 0, []) := o_iaload dX12_lacks_5
theorem oX12_lacks_6 : oP MT mX12_lacks 6 (10, 3, 3, 14, []) := o_if_ge dX12_lacks_6 (by decide) (by decide)
theorem oX12_lacks_9 : oP MT mX12_lacks 9 (0, 2, 0, (-11), []) := o_bipush dX12_lacks_9 (by decide)
theorem oX12_lacks_11 : oP MT mX12_lacks 11 (9, 3, 30, 0, []) := o_goto dX12_lacks_11 (by decide)
theorem oX12_lacks_14 : oP MT mX12_lacks 14 (1, 1, 0, 1, []) := o_aload_n dX12_lacks_14 rfl
theorem oX12_lacks_15 : oP MT mX12_lacks 15 (13, 3, 28, 12, []) := o_getR (M := mX12_lacks) (C := RX12) (T := TX12) (ci := 12) (j := 28) (z := 12) dX12_lacks_15 rfl lq_RX12_53 rfl rfl
theorem oX12_lacks_18 : oP MT mX12_lacks 18 (1, 1, 1, 0, []) := o_iload_n dX12_lacks_18 rfl
theorem oX12_lacks_19 : oP MT mX12_lacks 19 (16, 1, 1, 0, []) := o_iaload dX12_lacks_19
theorem oX12_lacks_20 : oP MT mX12_lacks 20 (1, 1, 2, 0, []) := o_iload_n dX12_lacks_20 rfl
theorem oX12_lacks_21 : oP MT mX12_lacks 21 (11, 3, 0, 29, []) := o_icmp_eq dX12_lacks_21 (by decide) (by decide)
theorem oX12_lacks_24 : oP MT mX12_lacks 24 (0, 2, 0, (-13), []) := o_bipush dX12_lacks_24 (by decide)
theorem oX12_lacks_26 : oP MT mX12_lacks 26 (9, 3, 30, 0, []) := o_goto dX12_lacks_26 (by decide)
theorem oX12_lacks_29 : oP MT mX12_lacks 29 (0, 1, 0, 0, []) := o_iconst dX12_lacks_29 (by decide)
theorem oX12_lacks_30 : oP MT mX12_lacks 30 (21, 1, 0, 0, []) := o_iret dX12_lacks_30 rfl
def ops_X12_lacks : List (Nat × aO) := [(0, (1, 1, 0, 1, [])), (1, (13, 3, 28, 12, [])), (4, (1, 1, 1, 0, [])), (5, (16, 1, 1, 0, [])), (6, (10, 3, 3, 14, [])), (9, (0, 2, 0, (-11), [])), (11, (9, 3, 30, 0, [])), (14, (1, 1, 0, 1, [])), (15, (13, 3, 28, 12, [])), (18, (1, 1, 1, 0, [])), (19, (16, 1, 1, 0, [])), (20, (1, 1, 2, 0, [])), (21, (11, 3, 0, 29, [])), (24, (0, 2, 0, (-13), [])), (26, (9, 3, 30, 0, [])), (29, (0, 1, 0, 0, [])), (30, (21, 1, 0, 0, []))]
theorem os_X12_lacks : oA MT mX12_lacks ops_X12_lacks := (oA.cons oX12_lacks_0 (oA.cons oX12_lacks_1 (oA.cons oX12_lacks_4 (oA.cons oX12_lacks_5 (oA.cons oX12_lacks_6 (oA.cons oX12_lacks_9 (oA.cons oX12_lacks_11 (oA.cons oX12_lacks_14 (oA.cons oX12_lacks_15 (oA.cons oX12_lacks_18 (oA.cons oX12_lacks_19 (oA.cons oX12_lacks_20 (oA.cons oX12_lacks_21 (oA.cons oX12_lacks_24 (oA.cons oX12_lacks_26 (oA.cons oX12_lacks_29 (oA.cons oX12_lacks_30 oA.nil)))))))))))))))))
theorem dX12_isItem_0 : decode cX12_isItem 0 = .ok (.iload_n 2, 1) := by decide +kernel
theorem dX12_isItem_1 : decode cX12_isItem 1 = .ok (.ifCond .lt 19, 3) := by decide +kernel
theorem dX12_isItem_4 : decode cX12_isItem 4 = .ok (.iload_n 2, 1) := by decide +kernel
theorem dX12_isItem_5 : decode cX12_isItem 5 = .ok (.aload_n 0, 1) := by decide +kernel
theorem dX12_isItem_6 : decode cX12_isItem 6 = .ok (.getfield 56, 3) := by decide +kernel
theorem dX12_isItem_9 : decode cX12_isItem 9 = .ok (.iload_n 1, 1) := by decide +kernel
theorem dX12_isItem_10 : decode cX12_isItem 10 = .ok (.iaload, 1) := by decide +kernel
theorem dX12_isItem_11 : decode cX12_isItem 11 = .ok (.iload_n 3, 1) := by decide +kernel
theorem dX12_isItem_12 : decode cX12_isItem 12 = .ok (.isub, 1) := by decide +kernel
theorem dX12_isItem_13 : decode cX12_isItem 13 = .ok (.if_icmp .ge 7, 3) := by decide +kernel
theorem dX12_isItem_16 : decode cX12_isItem 16 = .ok (.iconst 1, 1) := by decide +kernel
theorem dX12_isItem_17 : decode cX12_isItem 17 = .ok (.goto 4, 3) := by decide +kernel
theorem dX12_isItem_20 : decode cX12_isItem 20 = .ok (.iconst 0, 1) := by decide +kernel
theorem dX12_isItem_21 : decode cX12_isItem 21 = .ok (.ireturn, 1) := by decide +kernel
theorem oX12_isItem_0 : oP MT mX12_isItem 0 (1, 1, 2, 0, []) := o_iload_n dX12_isItem_0 rfl
theorem oX12_isItem_1 : oP MT mX12_isItem 1 (10, 3, 2, 20, []) := o_if_lt dX12_isItem_1 (by decide) (by decide)
theorem oX12_isItem_4 : oP MT mX12_isItem 4 (1, 1, 2, 0, []) := o_iload_n dX12_isItem_4 rfl
theorem oX12_isItem_5 : oP MT mX12_isItem 5 (1, 1, 0, 1, []) := o_aload_n dX12_isItem_5 rfl
theorem oX12_isItem_6 : oP MT mX12_isItem 6 (13, 3, 29, 12, []) := o_getR (M := mX12_isItem) (C := RX12) (T := TX12) (ci := 12) (j := 29) (z := 12) dX12_isItem_6 rfl lq_RX12_56 rfl rfl
theorem oX12_isItem_9 : oP MT mX12_isItem 9 (1, 1, 1, 0, []) := o_iload_n dX12_isItem_9 rfl
theorem oX12_isItem_10 : oP MT mX12_isItem 10 (16, 1, 1, 0, []) := o_iaload dX12_isItem_10
theorem oX12_isItem_11 : oP MT mX12_isItem 11 (1, 1, 3, 0, []) := o_iload_n dX12_isItem_11 rfl
theorem oX12_isItem_12 : oP MT mX12_isItem 12 (4, 1, 1, 0, []) := o_isub dX12_isItem_12
theorem oX12_isItem_13 : oP MT mX12_isItem 13 (11, 3, 3, 20, []) := o_icmp_ge dX12_isItem_13 (by decide) (by decide)
theorem oX12_isItem_16 : oP MT mX12_isItem 16 (0, 1, 0, 1, []) := o_iconst dX12_isItem_16 (by decide)
theorem oX12_isItem_17 : oP MT mX12_isItem 17 (9, 3, 21, 0, []) := o_goto dX12_isItem_17 (by decide)
theorem oX12_isItem_20 : oP MT mX12_isItem 20 (0, 1, 0, 0, []) := o_iconst dX12_isItem_20 (by decide)
theorem oX12_isItem_21 : oP MT mX12_isItem 21 (22, 1, 0, 0, []) := o_zret dX12_isItem_21 rfl
def ops_X12_isItem : List (Nat × aO) := [(0, (1, 1, 2, 0, [])), (1, (10, 3, 2, 20, [])), (4, (1, 1, 2, 0, [])), (5, (1, 1, 0, 1, [])), (6, (13, 3, 29, 12, [])), (9, (1, 1, 1, 0, [])), (10, (16, 1, 1, 0, [])), (11, (1, 1, 3, 0, [])), (12, (4, 1, 1, 0, [])), (13, (11, 3, 3, 20, [])), (16, (0, 1, 0, 1, [])), (17, (9, 3, 21, 0, [])), (20, (0, 1, 0, 0, [])), (21, (22, 1, 0, 0, []))]
theorem os_X12_isItem : oA MT mX12_isItem ops_X12_isItem := (oA.cons oX12_isItem_0 (oA.cons oX12_isItem_1 (oA.cons oX12_isItem_4 (oA.cons oX12_isItem_5 (oA.cons oX12_isItem_6 (oA.cons oX12_isItem_9 (oA.cons oX12_isItem_10 (oA.cons oX12_isItem_11 (oA.cons oX12_isItem_12 (oA.cons oX12_isItem_13 (oA.cons oX12_isItem_16 (oA.cons oX12_isItem_17 (oA.cons oX12_isItem_20 (oA.cons oX12_isItem_21 oA.nil))))))))))))))
theorem dX12_heldOn_0 : decode cX12_heldOn 0 = .ok (.aload_n 0, 1) := by decide +kernel
theorem dX12_heldOn_1 : decode cX12_heldOn 1 = .ok (.getfield 62, 3) := by decide +kernel
theorem dX12_heldOn_4 : decode cX12_heldOn 4 = .ok (.iload_n 1, 1) := by decide +kernel
theorem dX12_heldOn_5 : decode cX12_heldOn 5 = .ok (.iaload, 1) := by decide +kernel
theorem dX12_heldOn_6 : decode cX12_heldOn 6 = .ok (.ifCond .ne 20, 3) := by decide +kernel
theorem dX12_heldOn_9 : decode cX12_heldOn 9 = .ok (.aload_n 0, 1) := by decide +kernel
theorem dX12_heldOn_10 : decode cX12_heldOn 10 = .ok (.aload_n 0, 1) := by decide +kernel
theorem dX12_heldOn_11 : decode cX12_heldOn 11 = .ok (.getfield 65, 3) := by decide +kernel
theorem dX12_heldOn_14 : decode cX12_heldOn 14 = .ok (.iload_n 1, 1) := by decide +kernel
theorem dX12_heldOn_15 : decode cX12_heldOn 15 = .ok (.iaload, 1) := by decide +kernel
theorem dX12_heldOn_16 : decode cX12_heldOn 16 = .ok (.invokevirtual 223, 3) := by decide +kernel
theorem dX12_heldOn_19 : decode cX12_heldOn 19 = .ok (.ifCond .ne 7, 3) := by decide +kernel
theorem dX12_heldOn_22 : decode cX12_heldOn 22 = .ok (.iconst (-1), 1) := by decide +kernel
theorem dX12_heldOn_23 : decode cX12_heldOn 23 = .ok (.goto 9, 3) := by decide +kernel
theorem dX12_heldOn_26 : decode cX12_heldOn 26 = .ok (.aload_n 0, 1) := by decide +kernel
theorem dX12_heldOn_27 : decode cX12_heldOn 27 = .ok (.getfield 62, 3) := by decide +kernel
theorem dX12_heldOn_30 : decode cX12_heldOn 30 = .ok (.iload_n 1, 1) := by decide +kernel
theorem dX12_heldOn_31 : decode cX12_heldOn 31 = .ok (.iaload, 1) := by decide +kernel
theorem dX12_heldOn_32 : decode cX12_heldOn 32 = .ok (.ireturn, 1) := by decide +kernel
theorem oX12_heldOn_0 : oP MT mX12_heldOn 0 (1, 1, 0, 1, []) := o_aload_n dX12_heldOn_0 rfl
theorem oX12_heldOn_1 : oP MT mX12_heldOn 1 (13, 3, 31, 12, []) := o_getR (M := mX12_heldOn) (C := RX12) (T := TX12) (ci := 12) (j := 31) (z := 12) dX12_heldOn_1 rfl lq_RX12_62 rfl rfl
theorem oX12_heldOn_4 : oP MT mX12_heldOn 4 (1, 1, 1, 0, []) := o_iload_n dX12_heldOn_4 rfl
theorem oX12_heldOn_5 : oP MT mX12_heldOn 5 (16, 1, 1, 0, []) := o_iaload dX12_heldOn_5
theorem oX12_heldOn_6 : oP MT mX12_heldOn 6 (10, 3, 1, 26, []) := o_if_ne dX12_heldOn_6 (by decide) (by decide)
theorem oX12_heldOn_9 : oP MT mX12_heldOn 9 (1, 1, 0, 1, []) := o_aload_n dX12_heldOn_9 rfl
theorem oX12_heldOn_10 : oP MT mX12_heldOn 10 (1, 1, 0, 1, []) := o_aload_n dX12_heldOn_10 rfl
theorem oX12_heldOn_11 : oP MT mX12_heldOn 11 (13, 3, 32, 12, []) := o_getR (M := mX12_heldOn) (C := RX12) (T := TX12) (ci := 12) (j := 32) (z := 12) dX12_heldOn_11 rfl lq_RX12_65 rfl rfl
theorem oX12_heldOn_14 : oP MT mX12_heldOn 14 (1, 1, 1, 0, []) := o_iload_n dX12_heldOn_14 rfl
theorem oX12_heldOn_15 : oP MT mX12_heldOn 15 (16, 1, 1, 0, []) := o_iaload dX12_heldOn_15
theorem oX12_heldOn_16 : oP MT mX12_heldOn 16 (26, 3, 0, 1, [(12, 149)]) := o_callO ((vA.cons (v_callV dX12_heldOn_16 (ci := 12) rfl rfl (mj := mX12_isKey) mt_X12_isKey cmq_X12_isKey wq_565 wq_567 wq_568 (by decide) (by decide)) vA.nil))
theorem oX12_heldOn_19 : oP MT mX12_heldOn 19 (10, 3, 1, 26, []) := o_if_ne dX12_heldOn_19 (by decide) (by decide)
theorem oX12_heldOn_22 : oP MT mX12_heldOn 22 (0, 1, 0, (-1), []) := o_iconst dX12_heldOn_22 (by decide)
theorem oX12_heldOn_23 : oP MT mX12_heldOn 23 (9, 3, 32, 0, []) := o_goto dX12_heldOn_23 (by decide)
theorem oX12_heldOn_26 : oP MT mX12_heldOn 26 (1, 1, 0, 1, []) := o_aload_n dX12_heldOn_26 rfl
theorem oX12_heldOn_27 : oP MT mX12_heldOn 27 (13, 3, 31, 12, []) := o_getR (M := mX12_heldOn) (C := RX12) (T := TX12) (ci := 12) (j := 31) (z := 12) dX12_heldOn_27 rfl lq_RX12_62 rfl rfl
theorem oX12_heldOn_30 : oP MT mX12_heldOn 30 (1, 1, 1, 0, []) := o_iload_n dX12_heldOn_30 rfl
theorem oX12_heldOn_31 : oP MT mX12_heldOn 31 (16, 1, 1, 0, []) := o_iaload dX12_heldOn_31
theorem oX12_heldOn_32 : oP MT mX12_heldOn 32 (21, 1, 0, 0, []) := o_iret dX12_heldOn_32 rfl
def ops_X12_heldOn : List (Nat × aO) := [(0, (1, 1, 0, 1, [])), (1, (13, 3, 31, 12, [])), (4, (1, 1, 1, 0, [])), (5, (16, 1, 1, 0, [])), (6, (10, 3, 1, 26, [])), (9, (1, 1, 0, 1, [])), (10, (1, 1, 0, 1, [])), (11, (13, 3, 32, 12, [])), (14, (1, 1, 1, 0, [])), (15, (16, 1, 1, 0, [])), (16, (26, 3, 0, 1, [(12, 149)])), (19, (10, 3, 1, 26, [])), (22, (0, 1, 0, (-1), [])), (23, (9, 3, 32, 0, [])), (26, (1, 1, 0, 1, [])), (27, (13, 3, 31, 12, [])), (30, (1, 1, 1, 0, [])), (31, (16, 1, 1, 0, [])), (32, (21, 1, 0, 0, []))]
theorem os_X12_heldOn : oA MT mX12_heldOn ops_X12_heldOn := (oA.cons oX12_heldOn_0 (oA.cons oX12_heldOn_1 (oA.cons oX12_heldOn_4 (oA.cons oX12_heldOn_5 (oA.cons oX12_heldOn_6 (oA.cons oX12_heldOn_9 (oA.cons oX12_heldOn_10 (oA.cons oX12_heldOn_11 (oA.cons oX12_heldOn_14 (oA.cons oX12_heldOn_15 (oA.cons oX12_heldOn_16 (oA.cons oX12_heldOn_19 (oA.cons oX12_heldOn_22 (oA.cons oX12_heldOn_23 (oA.cons oX12_heldOn_26 (oA.cons oX12_heldOn_27 (oA.cons oX12_heldOn_30 (oA.cons oX12_heldOn_31 (oA.cons oX12_heldOn_32 oA.nil)))))))))))))))))))
theorem dX12_starts_0 : decode cX12_starts 0 = .ok (.aload_n 0, 1) := by decide +kernel
theorem dX12_starts_1 : decode cX12_starts 1 = .ok (.getfield 341, 3) := by decide +kernel
theorem dX12_starts_4 : decode cX12_starts 4 = .ok (.bipush 30, 2) := by decide +kernel
theorem dX12_starts_6 : decode cX12_starts 6 = .ok (.if_icmp .ge 23, 3) := by decide +kernel
theorem dX12_starts_9 : decode cX12_starts 9 = .ok (.aload_n 0, 1) := by decide +kernel
theorem dX12_starts_10 : decode cX12_starts 10 = .ok (.getfield 68, 3) := by decide +kernel
theorem dX12_starts_13 : decode cX12_starts 13 = .ok (.aload_n 0, 1) := by decide +kernel
theorem dX12_starts_14 : decode cX12_starts 14 = .ok (.getfield 341, 3) := by decide +kernel
theorem dX12_starts_17 : decode cX12_starts 17 = .ok (.iload_n 1, 1) := by decide +kernel
theorem dX12_starts_18 : decode cX12_starts 18 = .ok (.iastore, 1) := by decide +kernel
theorem dX12_starts_19 : decode cX12_starts 19 = .ok (.aload_n 0, 1) := by decide +kernel
theorem dX12_starts_20 : decode cX12_starts 20 = .ok (.dup, 1) := by decide +kernel
theorem dX12_starts_21 : decode cX12_starts 21 = .ok (.getfield 341, 3) := by decide +kernel
theorem dX12_starts_24 : decode cX12_starts 24 = .ok (.iconst 1, 1) := by decide +kernel
theorem dX12_starts_25 : decode cX12_starts 25 = .ok (.iadd, 1) := by decide +kernel
theorem dX12_starts_26 : decode cX12_starts 26 = .ok (.putfield 341, 3) := by decide +kernel
theorem dX12_starts_29 : decode cX12_starts 29 = .ok (.return_, 1) := by decide +kernel
theorem oX12_starts_0 : oP MT mX12_starts 0 (1, 1, 0, 1, []) := o_aload_n dX12_starts_0 rfl
theorem oX12_starts_1 : oP MT mX12_starts 1 (12, 3, 34, 12, []) := o_getI (M := mX12_starts) (C := RX12) (T := TX12) (ci := 12) (j := 34) (z := 12) dX12_starts_1 rfl lq_RX12_341 rfl rfl
theorem oX12_starts_4 : oP MT mX12_starts 4 (0, 2, 0, 30, []) := o_bipush dX12_starts_4 (by decide)
theorem oX12_starts_6 : oP MT mX12_starts 6 (11, 3, 3, 29, []) := o_icmp_ge dX12_starts_6 (by decide) (by decide)
theorem oX12_starts_9 : oP MT mX12_starts 9 (1, 1, 0, 1, []) := o_aload_n dX12_starts_9 rfl
theorem oX12_starts_10 : oP MT mX12_starts 10 (13, 3, 33, 12, []) := o_getR (M := mX12_starts) (C := RX12) (T := TX12) (ci := 12) (j := 33) (z := 12) dX12_starts_10 rfl lq_RX12_68 rfl rfl
theorem oX12_starts_13 : oP MT mX12_starts 13 (1, 1, 0, 1, []) := o_aload_n dX12_starts_13 rfl
theorem oX12_starts_14 : oP MT mX12_starts 14 (12, 3, 34, 12, []) := o_getI (M := mX12_starts) (C := RX12) (T := TX12) (ci := 12) (j := 34) (z := 12) dX12_starts_14 rfl lq_RX12_341 rfl rfl
theorem oX12_starts_17 : oP MT mX12_starts 17 (1, 1, 1, 0, []) := o_iload_n dX12_starts_17 rfl
theorem oX12_starts_18 : oP MT mX12_starts 18 (18, 1, 0, 0, []) := o_iastore dX12_starts_18
theorem oX12_starts_19 : oP MT mX12_starts 19 (1, 1, 0, 1, []) := o_aload_n dX12_starts_19 rfl
theorem oX12_starts_20 : oP MT mX12_starts 20 (6, 1, 0, 0, []) := o_dup dX12_starts_20
theorem oX12_starts_21 : oP MT mX12_starts 21 (12, 3, 34, 12, []) := o_getI (M := mX12_starts) (C := RX12) (T := TX12) (ci := 12) (j := 34) (z := 12) dX12_starts_21 rfl lq_RX12_341 rfl rfl
theorem oX12_starts_24 : oP MT mX12_starts 24 (0, 1, 0, 1, []) := o_iconst dX12_starts_24 (by decide)
theorem oX12_starts_25 : oP MT mX12_starts 25 (4, 1, 0, 0, []) := o_iadd dX12_starts_25
theorem oX12_starts_26 : oP MT mX12_starts 26 (14, 3, 34, 12, []) := o_putI (M := mX12_starts) (C := RX12) (T := TX12) (ci := 12) (j := 34) (z := 12) dX12_starts_26 rfl lq_RX12_341 rfl rfl rfl rfl
theorem oX12_starts_29 : oP MT mX12_starts 29 (23, 1, 0, 0, []) := o_vret dX12_starts_29 rfl
def ops_X12_starts : List (Nat × aO) := [(0, (1, 1, 0, 1, [])), (1, (12, 3, 34, 12, [])), (4, (0, 2, 0, 30, [])), (6, (11, 3, 3, 29, [])), (9, (1, 1, 0, 1, [])), (10, (13, 3, 33, 12, [])), (13, (1, 1, 0, 1, [])), (14, (12, 3, 34, 12, [])), (17, (1, 1, 1, 0, [])), (18, (18, 1, 0, 0, [])), (19, (1, 1, 0, 1, [])), (20, (6, 1, 0, 0, [])), (21, (12, 3, 34, 12, [])), (24, (0, 1, 0, 1, [])), (25, (4, 1, 0, 0, [])), (26, (14, 3, 34, 12, [])), (29, (23, 1, 0, 0, []))]
theorem os_X12_starts : oA MT mX12_starts ops_X12_starts := (oA.cons oX12_starts_0 (oA.cons oX12_starts_1 (oA.cons oX12_starts_4 (oA.cons oX12_starts_6 (oA.cons oX12_starts_9 (oA.cons oX12_starts_10 (oA.cons oX12_starts_13 (oA.cons oX12_starts_14 (oA.cons oX12_starts_17 (oA.cons oX12_starts_18 (oA.cons oX12_starts_19 (oA.cons oX12_starts_20 (oA.cons oX12_starts_21 (oA.cons oX12_starts_24 (oA.cons oX12_starts_25 (oA.cons oX12_starts_26 (oA.cons oX12_starts_29 oA.nil)))))))))))))))))
theorem dX12_turnsAs_0 : decode cX12_turnsAs 0 = .ok (.iload_n 1, 1) := by decide +kernel
theorem dX12_turnsAs_1 : decode cX12_turnsAs 1 = .ok (.iconst 2, 1) := by decide +kernel
theorem dX12_turnsAs_2 : decode cX12_turnsAs 2 = .ok (.if_icmp .eq 8, 3) := by decide +kernel
theorem dX12_turnsAs_5 : decode cX12_turnsAs 5 = .ok (.iload_n 1, 1) := by decide +kernel
theorem dX12_turnsAs_6 : decode cX12_turnsAs 6 = .ok (.iconst 3, 1) := by decide +kernel
theorem dX12_turnsAs_7 : decode cX12_turnsAs 7 = .ok (.if_icmp .ne 18, 3) := by decide +kernel
theorem dX12_turnsAs_10 : decode cX12_turnsAs 10 = .ok (.aload_n 0, 1) := by decide +kernel
theorem dX12_turnsAs_11 : decode cX12_turnsAs 11 = .ok (.bipush 30, 2) := by decide +kernel
theorem dX12_turnsAs_13 : decode cX12_turnsAs 13 = .ok (.invokevirtual 344, 3) := by decide +kernel
theorem dX12_turnsAs_16 : decode cX12_turnsAs 16 = .ok (.aload_n 0, 1) := by decide +kernel
theorem dX12_turnsAs_17 : decode cX12_turnsAs 17 = .ok (.iconst 0, 1) := by decide +kernel
theorem dX12_turnsAs_18 : decode cX12_turnsAs 18 = .ok (.iload_n 2, 1) := by decide +kernel
theorem dX12_turnsAs_19 : decode cX12_turnsAs 19 = .ok (.invokevirtual 353, 3) := by decide +kernel
theorem dX12_turnsAs_22 : decode cX12_turnsAs 22 = .ok (.iconst 3, 1) := by decide +kernel
theorem dX12_turnsAs_23 : decode cX12_turnsAs 23 = .ok (.imul, 1) := by decide +kernel
theorem dX12_turnsAs_24 : decode cX12_turnsAs 24 = .ok (.ireturn, 1) := by decide +kernel
theorem dX12_turnsAs_25 : decode cX12_turnsAs 25 = .ok (.iload_n 1, 1) := by decide +kernel
theorem dX12_turnsAs_26 : decode cX12_turnsAs 26 = .ok (.iconst 5, 1) := by decide +kernel
theorem dX12_turnsAs_27 : decode cX12_turnsAs 27 = .ok (.if_icmp .ne 17, 3) := by decide +kernel
theorem dX12_turnsAs_30 : decode cX12_turnsAs 30 = .ok (.aload_n 0, 1) := by decide +kernel
theorem dX12_turnsAs_31 : decode cX12_turnsAs 31 = .ok (.bipush 60, 2) := by decide +kernel
theorem dX12_turnsAs_33 : decode cX12_turnsAs 33 = .ok (.invokevirtual 344, 3) := by decide +kernel
theorem dX12_turnsAs_36 : decode cX12_turnsAs 36 = .ok (.aload_n 0, 1) := by decide +kernel
theorem dX12_turnsAs_37 : decode cX12_turnsAs 37 = .ok (.iconst 4, 1) := by decide +kernel
theorem dX12_turnsAs_38 : decode cX12_turnsAs 38 = .ok (.iload_n 2, 1) := by decide +kernel
theorem dX12_turnsAs_39 : decode cX12_turnsAs 39 = .ok (.invokevirtual 353, 3) := by decide +kernel
theorem dX12_turnsAs_42 : decode cX12_turnsAs 42 = .ok (.ineg, 1) := by decide +kernel
theorem dX12_turnsAs_43 : decode cX12_turnsAs 43 = .ok (.ireturn, 1) := by decide +kernel
theorem dX12_turnsAs_44 : decode cX12_turnsAs 44 = .ok (.aload_n 0, 1) := by decide +kernel
theorem dX12_turnsAs_45 : decode cX12_turnsAs 45 = .ok (.bipush 11, 2) := by decide +kernel
theorem dX12_turnsAs_47 : decode cX12_turnsAs 47 = .ok (.invokevirtual 344, 3) := by decide +kernel
theorem dX12_turnsAs_50 : decode cX12_turnsAs 50 = .ok (.aload_n 0, 1) := by decide +kernel
theorem dX12_turnsAs_51 : decode cX12_turnsAs 51 = .ok (.aload_n 0, 1) := by decide +kernel
theorem dX12_turnsAs_52 : decode cX12_turnsAs 52 = .ok (.aload_n 0, 1) := by decide +kernel
theorem dX12_turnsAs_53 : decode cX12_turnsAs 53 = .ok (.getfield 350, 3) := by decide +kernel
theorem dX12_turnsAs_56 : decode cX12_turnsAs 56 = .ok (.iconst 0, 1) := by decide +kernel
theorem dX12_turnsAs_57 : decode cX12_turnsAs 57 = .ok (.invokevirtual 79, 3) := by decide +kernel
theorem dX12_turnsAs_60 : decode cX12_turnsAs 60 = .ok (.iload_n 2, 1) := by decide +kernel
theorem dX12_turnsAs_61 : decode cX12_turnsAs 61 = .ok (.invokevirtual 347, 3) := by decide +kernel
theorem dX12_turnsAs_64 : decode cX12_turnsAs 64 = .ok (.iconst 5, 1) := by decide +kernel
theorem dX12_turnsAs_65 : decode cX12_turnsAs 65 = .ok (.aload_n 0, 1) := by decide +kernel
theorem dX12_turnsAs_66 : decode cX12_turnsAs 66 = .ok (.aload_n 0, 1) := by decide +kernel
theorem dX12_turnsAs_67 : decode cX12_turnsAs 67 = .ok (.getfield 350, 3) := by decide +kernel
theorem dX12_turnsAs_70 : decode cX12_turnsAs 70 = .ok (.iconst 3, 1) := by decide +kernel
theorem dX12_turnsAs_71 : decode cX12_turnsAs 71 = .ok (.invokevirtual 79, 3) := by decide +kernel
theorem dX12_turnsAs_74 : decode cX12_turnsAs 74 = .ok (.imul, 1) := by decide +kernel
theorem dX12_turnsAs_75 : decode cX12_turnsAs 75 = .ok (.isub, 1) := by decide +kernel
theorem dX12_turnsAs_76 : decode cX12_turnsAs 76 = .ok (.ireturn, 1) := by decide +kernel
theorem oX12_turnsAs_0 : oP MT mX12_turnsAs 0 (1, 1, 1, 0, []) := o_iload_n dX12_turnsAs_0 rfl
theorem oX12_turnsAs_1 : oP MT mX12_turnsAs 1 (0, 1, 0, 2, []) := o_iconst dX12_turnsAs_1 (by decide)
theorem oX12_turnsAs_2 : oP MT mX12_turnsAs 2 (11, 3, 0, 10, []) := o_icmp_eq dX12_turnsAs_2 (by decide) (by decide)
theorem oX12_turnsAs_5 : oP MT mX12_turnsAs 5 (1, 1, 1, 0, []) := o_iload_n dX12_turnsAs_5 rfl
theorem oX12_turnsAs_6 : oP MT mX12_turnsAs 6 (0, 1, 0, 3, []) := o_iconst dX12_turnsAs_6 (by decide)
theorem oX12_turnsAs_7 : oP MT mX12_turnsAs 7 (11, 3, 1, 25, []) := o_icmp_ne dX12_turnsAs_7 (by decide) (by decide)
theorem oX12_turnsAs_10 : oP MT mX12_turnsAs 10 (1, 1, 0, 1, []) := o_aload_n dX12_turnsAs_10 rfl
theorem oX12_turnsAs_11 : oP MT mX12_turnsAs 11 (0, 2, 0, 30, []) := o_bipush dX12_turnsAs_11 (by decide)
theorem oX12_turnsAs_13 : oP MT mX12_turnsAs 13 (26, 3, 0, 1, [(12, 178)]) := o_callO ((vA.cons (v_callV dX12_turnsAs_13 (ci := 12) rfl rfl (mj := mX12_starts) mt_X12_starts cmq_X12_starts wq_621 wq_623 wq_624 (by decide) (by decide)) vA.nil))
theorem oX12_turnsAs_16 : oP MT mX12_turnsAs 16 (1, 1, 0, 1, []) := o_aload_n dX12_turnsAs_16 rfl
theorem oX12_turnsAs_17 : oP MT mX12_turnsAs 17 (0, 1, 0, 0, []) := o_iconst dX12_turnsAs_17 (by decide)
theorem oX12_turnsAs_18 : oP MT mX12_turnsAs 18 (1, 1, 2, 0, []) := o_iload_n dX12_turnsAs_18 rfl
theorem oX12_turnsAs_19 : oP MT mX12_turnsAs 19 (26, 3, 0, 2, [(12, 179)]) := o_callO ((vA.cons (v_callV dX12_turnsAs_19 (ci := 12) rfl rfl (mj := mX12_turnsAs) mt_X12_turnsAs cmq_X12_turnsAs wq_625 wq_627 wq_628 (by decide) (by decide)) vA.nil))
theorem oX12_turnsAs_22 : oP MT mX12_turnsAs 22 (0, 1, 0, 3, []) := o_iconst dX12_turnsAs_22 (by decide)
theorem oX12_turnsAs_23 : oP MT mX12_turnsAs 23 (4, 1, 2, 0, []) := o_imul dX12_turnsAs_23
theorem oX12_turnsAs_24 : oP MT mX12_turnsAs 24 (21, 1, 0, 0, []) := o_iret dX12_turnsAs_24 rfl
theorem oX12_turnsAs_25 : oP MT mX12_turnsAs 25 (1, 1, 1, 0, []) := o_iload_n dX12_turnsAs_25 rfl
theorem oX12_turnsAs_26 : oP MT mX12_turnsAs 26 (0, 1, 0, 5, []) := o_iconst dX12_turnsAs_26 (by decide)
theorem oX12_turnsAs_27 : oP MT mX12_turnsAs 27 (11, 3, 1, 44, []) := o_icmp_ne dX12_turnsAs_27 (by decide) (by decide)
theorem oX12_turnsAs_30 : oP MT mX12_turnsAs 30 (1, 1, 0, 1, []) := o_aload_n dX12_turnsAs_30 rfl
theorem oX12_turnsAs_31 : oP MT mX12_turnsAs 31 (0, 2, 0, 60, []) := o_bipush dX12_turnsAs_31 (by decide)
theorem oX12_turnsAs_33 : oP MT mX12_turnsAs 33 (26, 3, 0, 1, [(12, 178)]) := o_callO ((vA.cons (v_callV dX12_turnsAs_33 (ci := 12) rfl rfl (mj := mX12_starts) mt_X12_starts cmq_X12_starts wq_621 wq_623 wq_624 (by decide) (by decide)) vA.nil))
theorem oX12_turnsAs_36 : oP MT mX12_turnsAs 36 (1, 1, 0, 1, []) := o_aload_n dX12_turnsAs_36 rfl
theorem oX12_turnsAs_37 : oP MT mX12_turnsAs 37 (0, 1, 0, 4, []) := o_iconst dX12_turnsAs_37 (by decide)
theorem oX12_turnsAs_38 : oP MT mX12_turnsAs 38 (1, 1, 2, 0, []) := o_iload_n dX12_turnsAs_38 rfl
theorem oX12_turnsAs_39 : oP MT mX12_turnsAs 39 (26, 3, 0, 2, [(12, 179)]) := o_callO ((vA.cons (v_callV dX12_turnsAs_39 (ci := 12) rfl rfl (mj := mX12_turnsAs) mt_X12_turnsAs cmq_X12_turnsAs wq_625 wq_627 wq_628 (by decide) (by decide)) vA.nil))
theorem oX12_turnsAs_42 : oP MT mX12_turnsAs 42 (5, 1, 0, 0, []) := o_ineg dX12_turnsAs_42
theorem oX12_turnsAs_43 : oP MT mX12_turnsAs 43 (21, 1, 0, 0, []) := o_iret dX12_turnsAs_43 rfl
theorem oX12_turnsAs_44 : oP MT mX12_turnsAs 44 (1, 1, 0, 1, []) := o_aload_n dX12_turnsAs_44 rfl
theorem oX12_turnsAs_45 : oP MT mX12_turnsAs 45 (0, 2, 0, 11, []) := o_bipush dX12_turnsAs_45 (by decide)
theorem oX12_turnsAs_47 : oP MT mX12_turnsAs 47 (26, 3, 0, 1, [(12, 178)]) := o_callO ((vA.cons (v_callV dX12_turnsAs_47 (ci := 12) rfl rfl (mj := mX12_starts) mt_X12_starts cmq_X12_starts wq_621 wq_623 wq_624 (by decide) (by decide)) vA.nil))
theorem oX12_turnsAs_50 : oP MT mX12_turnsAs 50 (1, 1, 0, 1, []) := o_aload_n dX12_turnsAs_50 rfl
theorem oX12_turnsAs_51 : oP MT mX12_turnsAs 51 (1, 1, 0, 1, []) := o_aload_n dX12_turnsAs_51 rfl
theorem oX12_turnsAs_52 : oP MT mX12_turnsAs 52 (1, 1, 0, 1, []) := o_aload_n dX12_turnsAs_52 rfl
theorem oX12_turnsAs_53 : oP MT mX12_turnsAs 53 (12, 3, 35, 12, []) := o_getI (M := mX12_turnsAs) (C := RX12) (T := TX12) (ci := 12) (j := 35) (z := 12) dX12_turnsAs_53 rfl lq_RX12_350 rfl rfl
theorem oX12_turnsAs_56 : oP MT mX12_turnsAs 56 (0, 1, 0, 0, []) := o_iconst dX12_turnsAs_56 (by decide)
theorem oX12_turnsAs_57 : oP MT mX12_turnsAs 57 (26, 3, 0, 2, [(12, 112)]) := o_callO ((vA.cons (v_callV dX12_turnsAs_57 (ci := 12) rfl rfl (mj := mX12_get) mt_X12_get cmq_X12_get wq_435 wq_437 wq_438 (by decide) (by decide)) vA.nil))
theorem oX12_turnsAs_60 : oP MT mX12_turnsAs 60 (1, 1, 2, 0, []) := o_iload_n dX12_turnsAs_60 rfl
theorem oX12_turnsAs_61 : oP MT mX12_turnsAs 61 (26, 3, 0, 2, [(12, 180)]) := o_callO ((vA.cons (v_callV dX12_turnsAs_61 (ci := 12) rfl rfl (mj := mX12_dripsAs) mt_X12_dripsAs cmq_X12_dripsAs wq_629 wq_631 wq_632 (by decide) (by decide)) vA.nil))
theorem oX12_turnsAs_64 : oP MT mX12_turnsAs 64 (0, 1, 0, 5, []) := o_iconst dX12_turnsAs_64 (by decide)
theorem oX12_turnsAs_65 : oP MT mX12_turnsAs 65 (1, 1, 0, 1, []) := o_aload_n dX12_turnsAs_65 rfl
theorem oX12_turnsAs_66 : oP MT mX12_turnsAs 66 (1, 1, 0, 1, []) := o_aload_n dX12_turnsAs_66 rfl
theorem oX12_turnsAs_67 : oP MT mX12_turnsAs 67 (12, 3, 35, 12, []) := o_getI (M := mX12_turnsAs) (C := RX12) (T := TX12) (ci := 12) (j := 35) (z := 12) dX12_turnsAs_67 rfl lq_RX12_350 rfl rfl
theorem oX12_turnsAs_70 : oP MT mX12_turnsAs 70 (0, 1, 0, 3, []) := o_iconst dX12_turnsAs_70 (by decide)
theorem oX12_turnsAs_71 : oP MT mX12_turnsAs 71 (26, 3, 0, 2, [(12, 112)]) := o_callO ((vA.cons (v_callV dX12_turnsAs_71 (ci := 12) rfl rfl (mj := mX12_get) mt_X12_get cmq_X12_get wq_435 wq_437 wq_438 (by decide) (by decide)) vA.nil))
theorem oX12_turnsAs_74 : oP MT mX12_turnsAs 74 (4, 1, 2, 0, []) := o_imul dX12_turnsAs_74
theorem oX12_turnsAs_75 : oP MT mX12_turnsAs 75 (4, 1, 1, 0, []) := o_isub dX12_turnsAs_75
theorem oX12_turnsAs_76 : oP MT mX12_turnsAs 76 (21, 1, 0, 0, []) := o_iret dX12_turnsAs_76 rfl
def ops_X12_turnsAs : List (Nat × aO) := [(0, (1, 1, 1, 0, [])), (1, (0, 1, 0, 2, [])), (2, (11, 3, 0, 10, [])), (5, (1, 1, 1, 0, [])), (6, (0, 1, 0, 3, [])), (7, (11, 3, 1, 25, [])), (10, (1, 1, 0, 1, [])), (11, (0, 2, 0, 30, [])), (13, (26, 3, 0, 1, [(12, 178)])), (16, (1, 1, 0, 1, [])), (17, (0, 1, 0, 0, [])), (18, (1, 1, 2, 0, [])), (19, (26, 3, 0, 2, [(12, 179)])), (22, (0, 1, 0, 3, [])), (23, (4, 1, 2, 0, [])), (24, (21, 1, 0, 0, [])), (25, (1, 1, 1, 0, [])), (26, (0, 1, 0, 5, [])), (27, (11, 3, 1, 44, [])), (30, (1, 1, 0, 1, [])), (31, (0, 2, 0, 60, [])), (33, (26, 3, 0, 1, [(12, 178)])), (36, (1, 1, 0, 1, [])), (37, (0, 1, 0, 4, [])), (38, (1, 1, 2, 0, [])), (39, (26, 3, 0, 2, [(12, 179)])), (42, (5, 1, 0, 0, [])), (43, (21, 1, 0, 0, [])), (44, (1, 1, 0, 1, [])), (45, (0, 2, 0, 11, [])), (47, (26, 3, 0, 1, [(12, 178)])), (50, (1, 1, 0, 1, [])), (51, (1, 1, 0, 1, [])), (52, (1, 1, 0, 1, [])), (53, (12, 3, 35, 12, [])), (56, (0, 1, 0, 0, [])), (57, (26, 3, 0, 2, [(12, 112)])), (60, (1, 1, 2, 0, [])), (61, (26, 3, 0, 2, [(12, 180)])), (64, (0, 1, 0, 5, [])), (65, (1, 1, 0, 1, [])), (66, (1, 1, 0, 1, [])), (67, (12, 3, 35, 12, [])), (70, (0, 1, 0, 3, [])), (71, (26, 3, 0, 2, [(12, 112)])), (74, (4, 1, 2, 0, [])), (75, (4, 1, 1, 0, [])), (76, (21, 1, 0, 0, []))]
theorem os_X12_turnsAs : oA MT mX12_turnsAs ops_X12_turnsAs := (oA.cons oX12_turnsAs_0 (oA.cons oX12_turnsAs_1 (oA.cons oX12_turnsAs_2 (oA.cons oX12_turnsAs_5 (oA.cons oX12_turnsAs_6 (oA.cons oX12_turnsAs_7 (oA.cons oX12_turnsAs_10 (oA.cons oX12_turnsAs_11 (oA.cons oX12_turnsAs_13 (oA.cons oX12_turnsAs_16 (oA.cons oX12_turnsAs_17 (oA.cons oX12_turnsAs_18 (oA.cons oX12_turnsAs_19 (oA.cons oX12_turnsAs_22 (oA.cons oX12_turnsAs_23 (oA.cons oX12_turnsAs_24 (oA.cons oX12_turnsAs_25 (oA.cons oX12_turnsAs_26 (oA.cons oX12_turnsAs_27 (oA.cons oX12_turnsAs_30 (oA.cons oX12_turnsAs_31 (oA.cons oX12_turnsAs_33 (oA.cons oX12_turnsAs_36 (oA.cons oX12_turnsAs_37 (oA.cons oX12_turnsAs_38 (oA.cons oX12_turnsAs_39 (oA.cons oX12_turnsAs_42 (oA.cons oX12_turnsAs_43 (oA.cons oX12_turnsAs_44 (oA.cons oX12_turnsAs_45 (oA.cons oX12_turnsAs_47 (oA.cons oX12_turnsAs_50 (oA.cons oX12_turnsAs_51 (oA.cons oX12_turnsAs_52 (oA.cons oX12_turnsAs_53 (oA.cons oX12_turnsAs_56 (oA.cons oX12_turnsAs_57 (oA.cons oX12_turnsAs_60 (oA.cons oX12_turnsAs_61 (oA.cons oX12_turnsAs_64 (oA.cons oX12_turnsAs_65 (oA.cons oX12_turnsAs_66 (oA.cons oX12_turnsAs_67 (oA.cons oX12_turnsAs_70 (oA.cons oX12_turnsAs_71 (oA.cons oX12_turnsAs_74 (oA.cons oX12_turnsAs_75 (oA.cons oX12_turnsAs_76 oA.nil))))))))))))))))))))))))))))))))))))))))))))))))
theorem dX12_dripsAs_0 : decode cX12_dripsAs 0 = .ok (.iload_n 1, 1) := by decide +kernel
theorem dX12_dripsAs_1 : decode cX12_dripsAs 1 = .ok (.iconst 1, 1) := by decide +kernel
theorem dX12_dripsAs_2 : decode cX12_dripsAs 2 = .ok (.if_icmp .ne 19, 3) := by decide +kernel
theorem dX12_dripsAs_5 : decode cX12_dripsAs 5 = .ok (.aload_n 0, 1) := by decide +kernel
theorem dX12_dripsAs_6 : decode cX12_dripsAs 6 = .ok (.bipush 20, 2) := by decide +kernel
theorem dX12_dripsAs_8 : decode cX12_dripsAs 8 = .ok (.invokevirtual 344, 3) := by decide +kernel
theorem dX12_dripsAs_11 : decode cX12_dripsAs 11 = .ok (.aload_n 0, 1) := by decide +kernel
theorem dX12_dripsAs_12 : decode cX12_dripsAs 12 = .ok (.iconst 0, 1) := by decide +kernel
theorem dX12_dripsAs_13 : decode cX12_dripsAs 13 = .ok (.iload_n 2, 1) := by decide +kernel
theorem dX12_dripsAs_14 : decode cX12_dripsAs 14 = .ok (.invokevirtual 347, 3) := by decide +kernel
theorem dX12_dripsAs_17 : decode cX12_dripsAs 17 = .ok (.bipush 26, 2) := by decide +kernel
theorem dX12_dripsAs_19 : decode cX12_dripsAs 19 = .ok (.ixor, 1) := by decide +kernel
theorem dX12_dripsAs_20 : decode cX12_dripsAs 20 = .ok (.ireturn, 1) := by decide +kernel
theorem dX12_dripsAs_21 : decode cX12_dripsAs 21 = .ok (.iload_n 1, 1) := by decide +kernel
theorem dX12_dripsAs_22 : decode cX12_dripsAs 22 = .ok (.iconst 3, 1) := by decide +kernel
theorem dX12_dripsAs_23 : decode cX12_dripsAs 23 = .ok (.if_icmp .ne 19, 3) := by decide +kernel
theorem dX12_dripsAs_26 : decode cX12_dripsAs 26 = .ok (.aload_n 0, 1) := by decide +kernel
theorem dX12_dripsAs_27 : decode cX12_dripsAs 27 = .ok (.bipush 50, 2) := by decide +kernel
theorem dX12_dripsAs_29 : decode cX12_dripsAs 29 = .ok (.invokevirtual 344, 3) := by decide +kernel
theorem dX12_dripsAs_32 : decode cX12_dripsAs 32 = .ok (.aload_n 0, 1) := by decide +kernel
theorem dX12_dripsAs_33 : decode cX12_dripsAs 33 = .ok (.iconst 2, 1) := by decide +kernel
theorem dX12_dripsAs_34 : decode cX12_dripsAs 34 = .ok (.iload_n 2, 1) := by decide +kernel
theorem dX12_dripsAs_35 : decode cX12_dripsAs 35 = .ok (.bipush 10, 2) := by decide +kernel
theorem dX12_dripsAs_37 : decode cX12_dripsAs 37 = .ok (.isub, 1) := by decide +kernel
theorem dX12_dripsAs_38 : decode cX12_dripsAs 38 = .ok (.invokevirtual 347, 3) := by decide +kernel
theorem dX12_dripsAs_41 : decode cX12_dripsAs 41 = .ok (.ireturn, 1) := by decide +kernel
theorem dX12_dripsAs_42 : decode cX12_dripsAs 42 = .ok (.aload_n 0, 1) := by decide +kernel
theorem dX12_dripsAs_43 : decode cX12_dripsAs 43 = .ok (.bipush 10, 2) := by decide +kernel
theorem dX12_dripsAs_45 : decode cX12_dripsAs 45 = .ok (.invokevirtual 344, 3) := by decide +kernel
theorem dX12_dripsAs_48 : decode cX12_dripsAs 48 = .ok (.iload_n 2, 1) := by decide +kernel
theorem dX12_dripsAs_49 : decode cX12_dripsAs 49 = .ok (.bipush 8, 2) := by decide +kernel
theorem dX12_dripsAs_51 : decode cX12_dripsAs 51 = .ok (.imul, 1) := by decide +kernel
theorem dX12_dripsAs_52 : decode cX12_dripsAs 52 = .ok (.aload_n 0, 1) := by decide +kernel
theorem dX12_dripsAs_53 : decode cX12_dripsAs 53 = .ok (.getfield 350, 3) := by decide +kernel
theorem dX12_dripsAs_56 : decode cX12_dripsAs 56 = .ok (.iadd, 1) := by decide +kernel
theorem dX12_dripsAs_57 : decode cX12_dripsAs 57 = .ok (.ireturn, 1) := by decide +kernel
theorem oX12_dripsAs_0 : oP MT mX12_dripsAs 0 (1, 1, 1, 0, []) := o_iload_n dX12_dripsAs_0 rfl
theorem oX12_dripsAs_1 : oP MT mX12_dripsAs 1 (0, 1, 0, 1, []) := o_iconst dX12_dripsAs_1 (by decide)
theorem oX12_dripsAs_2 : oP MT mX12_dripsAs 2 (11, 3, 1, 21, []) := o_icmp_ne dX12_dripsAs_2 (by decide) (by decide)
theorem oX12_dripsAs_5 : oP MT mX12_dripsAs 5 (1, 1, 0, 1, []) := o_aload_n dX12_dripsAs_5 rfl
theorem oX12_dripsAs_6 : oP MT mX12_dripsAs 6 (0, 2, 0, 20, []) := o_bipush dX12_dripsAs_6 (by decide)
theorem oX12_dripsAs_8 : oP MT mX12_dripsAs 8 (26, 3, 0, 1, [(12, 178)]) := o_callO ((vA.cons (v_callV dX12_dripsAs_8 (ci := 12) rfl rfl (mj := mX12_starts) mt_X12_starts cmq_X12_starts wq_621 wq_623 wq_624 (by decide) (by decide)) vA.nil))
theorem oX12_dripsAs_11 : oP MT mX12_dripsAs 11 (1, 1, 0, 1, []) := o_aload_n dX12_dripsAs_11 rfl
theorem oX12_dripsAs_12 : oP MT mX12_dripsAs 12 (0, 1, 0, 0, []) := o_iconst dX12_dripsAs_12 (by decide)
theorem oX12_dripsAs_13 : oP MT mX12_dripsAs 13 (1, 1, 2, 0, []) := o_iload_n dX12_dripsAs_13 rfl
theorem oX12_dripsAs_14 : oP MT mX12_dripsAs 14 (26, 3, 0, 2, [(12, 180)]) := o_callO ((vA.cons (v_callV dX12_dripsAs_14 (ci := 12) rfl rfl (mj := mX12_dripsAs) mt_X12_dripsAs cmq_X12_dripsAs wq_629 wq_631 wq_632 (by decide) (by decide)) vA.nil))
theorem oX12_dripsAs_17 : oP MT mX12_dripsAs 17 (0, 2, 0, 26, []) := o_bipush dX12_dripsAs_17 (by decide)
theorem oX12_dripsAs_19 : oP MT mX12_dripsAs 19 (4, 1, 5, 0, []) := o_ixor dX12_dripsAs_19
theorem oX12_dripsAs_20 : oP MT mX12_dripsAs 20 (21, 1, 0, 0, []) := o_iret dX12_dripsAs_20 rfl
theorem oX12_dripsAs_21 : oP MT mX12_dripsAs 21 (1, 1, 1, 0, []) := o_iload_n dX12_dripsAs_21 rfl
theorem oX12_dripsAs_22 : oP MT mX12_dripsAs 22 (0, 1, 0, 3, []) := o_iconst dX12_dripsAs_22 (by decide)
theorem oX12_dripsAs_23 : oP MT mX12_dripsAs 23 (11, 3, 1, 42, []) := o_icmp_ne dX12_dripsAs_23 (by decide) (by decide)
theorem oX12_dripsAs_26 : oP MT mX12_dripsAs 26 (1, 1, 0, 1, []) := o_aload_n dX12_dripsAs_26 rfl
theorem oX12_dripsAs_27 : oP MT mX12_dripsAs 27 (0, 2, 0, 50, []) := o_bipush dX12_dripsAs_27 (by decide)
theorem oX12_dripsAs_29 : oP MT mX12_dripsAs 29 (26, 3, 0, 1, [(12, 178)]) := o_callO ((vA.cons (v_callV dX12_dripsAs_29 (ci := 12) rfl rfl (mj := mX12_starts) mt_X12_starts cmq_X12_starts wq_621 wq_623 wq_624 (by decide) (by decide)) vA.nil))
theorem oX12_dripsAs_32 : oP MT mX12_dripsAs 32 (1, 1, 0, 1, []) := o_aload_n dX12_dripsAs_32 rfl
theorem oX12_dripsAs_33 : oP MT mX12_dripsAs 33 (0, 1, 0, 2, []) := o_iconst dX12_dripsAs_33 (by decide)
theorem oX12_dripsAs_34 : oP MT mX12_dripsAs 34 (1, 1, 2, 0, []) := o_iload_n dX12_dripsAs_34 rfl
theorem oX12_dripsAs_35 : oP MT mX12_dripsAs 35 (0, 2, 0, 10, []) := o_bipush dX12_dripsAs_35 (by decide)
theorem oX12_dripsAs_37 : oP MT mX12_dripsAs 37 (4, 1, 1, 0, []) := o_isub dX12_dripsAs_37
theorem oX12_dripsAs_38 : oP MT mX12_dripsAs 38 (26, 3, 0, 2, [(12, 180)]) := o_callO ((vA.cons (v_callV dX12_dripsAs_38 (ci := 12) rfl rfl (mj := mX12_dripsAs) mt_X12_dripsAs cmq_X12_dripsAs wq_629 wq_631 wq_632 (by decide) (by decide)) vA.nil))
theorem oX12_dripsAs_41 : oP MT mX12_dripsAs 41 (21, 1, 0, 0, []) := o_iret dX12_dripsAs_41 rfl
theorem oX12_dripsAs_42 : oP MT mX12_dripsAs 42 (1, 1, 0, 1, []) := o_aload_n dX12_dripsAs_42 rfl
theorem oX12_dripsAs_43 : oP MT mX12_dripsAs 43 (0, 2, 0, 10, []) := o_bipush dX12_dripsAs_43 (by decide)
theorem oX12_dripsAs_45 : oP MT mX12_dripsAs 45 (26, 3, 0, 1, [(12, 178)]) := o_callO ((vA.cons (v_callV dX12_dripsAs_45 (ci := 12) rfl rfl (mj := mX12_starts) mt_X12_starts cmq_X12_starts wq_621 wq_623 wq_624 (by decide) (by decide)) vA.nil))
theorem oX12_dripsAs_48 : oP MT mX12_dripsAs 48 (1, 1, 2, 0, []) := o_iload_n dX12_dripsAs_48 rfl
theorem oX12_dripsAs_49 : oP MT mX12_dripsAs 49 (0, 2, 0, 8, []) := o_bipush dX12_dripsAs_49 (by decide)
theorem oX12_dripsAs_51 : oP MT mX12_dripsAs 51 (4, 1, 2, 0, []) := o_imul dX12_dripsAs_51
theorem oX12_dripsAs_52 : oP MT mX12_dripsAs 52 (1, 1, 0, 1, []) := o_aload_n dX12_dripsAs_52 rfl
theorem oX12_dripsAs_53 : oP MT mX12_dripsAs 53 (12, 3, 35, 12, []) := o_getI (M := mX12_dripsAs) (C := RX12) (T := TX12) (ci := 12) (j := 35) (z := 12) dX12_dripsAs_53 rfl lq_RX12_350 rfl rfl
theorem oX12_dripsAs_56 : oP MT mX12_dripsAs 56 (4, 1, 0, 0, []) := o_iadd dX12_dripsAs_56
theorem oX12_dripsAs_57 : oP MT mX12_dripsAs 57 (21, 1, 0, 0, []) := o_iret dX12_dripsAs_57 rfl
def ops_X12_dripsAs : List (Nat × aO) := [(0, (1, 1, 1, 0, [])), (1, (0, 1, 0, 1, [])), (2, (11, 3, 1, 21, [])), (5, (1, 1, 0, 1, [])), (6, (0, 2, 0, 20, [])), (8, (26, 3, 0, 1, [(12, 178)])), (11, (1, 1, 0, 1, [])), (12, (0, 1, 0, 0, [])), (13, (1, 1, 2, 0, [])), (14, (26, 3, 0, 2, [(12, 180)])), (17, (0, 2, 0, 26, [])), (19, (4, 1, 5, 0, [])), (20, (21, 1, 0, 0, [])), (21, (1, 1, 1, 0, [])), (22, (0, 1, 0, 3, [])), (23, (11, 3, 1, 42, [])), (26, (1, 1, 0, 1, [])), (27, (0, 2, 0, 50, [])), (29, (26, 3, 0, 1, [(12, 178)])), (32, (1, 1, 0, 1, [])), (33, (0, 1, 0, 2, [])), (34, (1, 1, 2, 0, [])), (35, (0, 2, 0, 10, [])), (37, (4, 1, 1, 0, [])), (38, (26, 3, 0, 2, [(12, 180)])), (41, (21, 1, 0, 0, [])), (42, (1, 1, 0, 1, [])), (43, (0, 2, 0, 10, [])), (45, (26, 3, 0, 1, [(12, 178)])), (48, (1, 1, 2, 0, [])), (49, (0, 2, 0, 8, [])), (51, (4, 1, 2, 0, [])), (52, (1, 1, 0, 1, [])), (53, (12, 3, 35, 12, [])), (56, (4, 1, 0, 0, [])), (57, (21, 1, 0, 0, []))]
theorem os_X12_dripsAs : oA MT mX12_dripsAs ops_X12_dripsAs := (oA.cons oX12_dripsAs_0 (oA.cons oX12_dripsAs_1 (oA.cons oX12_dripsAs_2 (oA.cons oX12_dripsAs_5 (oA.cons oX12_dripsAs_6 (oA.cons oX12_dripsAs_8 (oA.cons oX12_dripsAs_11 (oA.cons oX12_dripsAs_12 (oA.cons oX12_dripsAs_13 (oA.cons oX12_dripsAs_14 (oA.cons oX12_dripsAs_17 (oA.cons oX12_dripsAs_19 (oA.cons oX12_dripsAs_20 (oA.cons oX12_dripsAs_21 (oA.cons oX12_dripsAs_22 (oA.cons oX12_dripsAs_23 (oA.cons oX12_dripsAs_26 (oA.cons oX12_dripsAs_27 (oA.cons oX12_dripsAs_29 (oA.cons oX12_dripsAs_32 (oA.cons oX12_dripsAs_33 (oA.cons oX12_dripsAs_34 (oA.cons oX12_dripsAs_35 (oA.cons oX12_dripsAs_37 (oA.cons oX12_dripsAs_38 (oA.cons oX12_dripsAs_41 (oA.cons oX12_dripsAs_42 (oA.cons oX12_dripsAs_43 (oA.cons oX12_dripsAs_45 (oA.cons oX12_dripsAs_48 (oA.cons oX12_dripsAs_49 (oA.cons oX12_dripsAs_51 (oA.cons oX12_dripsAs_52 (oA.cons oX12_dripsAs_53 (oA.cons oX12_dripsAs_56 (oA.cons oX12_dripsAs_57 oA.nil))))))))))))))))))))))))))))))))))))
theorem dX12_halvesAs_0 : decode cX12_halvesAs 0 = .ok (.iload_n 1, 1) := by decide +kernel
theorem dX12_halvesAs_1 : decode cX12_halvesAs 1 = .ok (.iconst 5, 1) := by decide +kernel
theorem dX12_halvesAs_2 : decode cX12_halvesAs 2 = .ok (.if_icmp .ne 39, 3) := by decide +kernel
theorem dX12_halvesAs_5 : decode cX12_halvesAs 5 = .ok (.aload_n 0, 1) := by decide +kernel
theorem dX12_halvesAs_6 : decode cX12_halvesAs 6 = .ok (.bipush 61, 2) := by decide +kernel
theorem dX12_halvesAs_8 : decode cX12_halvesAs 8 = .ok (.invokevirtual 344, 3) := by decide +kernel
theorem dX12_halvesAs_11 : decode cX12_halvesAs 11 = .ok (.aload_n 0, 1) := by decide +kernel
theorem dX12_halvesAs_12 : decode cX12_halvesAs 12 = .ok (.iconst 4, 1) := by decide +kernel
theorem dX12_halvesAs_13 : decode cX12_halvesAs 13 = .ok (.iload_n 2, 1) := by decide +kernel
theorem dX12_halvesAs_14 : decode cX12_halvesAs 14 = .ok (.invokevirtual 356, 3) := by decide +kernel
theorem dX12_halvesAs_17 : decode cX12_halvesAs 17 = .ok (.istore_n 3, 1) := by decide +kernel
theorem dX12_halvesAs_18 : decode cX12_halvesAs 18 = .ok (.aload_n 0, 1) := by decide +kernel
theorem dX12_halvesAs_19 : decode cX12_halvesAs 19 = .ok (.getfield 359, 3) := by decide +kernel
theorem dX12_halvesAs_22 : decode cX12_halvesAs 22 = .ok (.ifCond .eq 7, 3) := by decide +kernel
theorem dX12_halvesAs_25 : decode cX12_halvesAs 25 = .ok (.iconst 0, 1) := by decide +kernel
theorem dX12_halvesAs_26 : decode cX12_halvesAs 26 = .ok (.goto 14, 3) := by decide +kernel
theorem dX12_halvesAs_29 : decode cX12_halvesAs 29 = .ok (.iload_n 3, 1) := by decide +kernel
theorem dX12_halvesAs_30 : decode cX12_halvesAs 30 = .ok (.aload_n 0, 1) := by decide +kernel
theorem dX12_halvesAs_31 : decode cX12_halvesAs 31 = .ok (.iconst 5, 1) := by decide +kernel
theorem dX12_halvesAs_32 : decode cX12_halvesAs 32 = .ok (.aload_n 0, 1) := by decide +kernel
theorem dX12_halvesAs_33 : decode cX12_halvesAs 33 = .ok (.getfield 350, 3) := by decide +kernel
theorem dX12_halvesAs_36 : decode cX12_halvesAs 36 = .ok (.invokevirtual 347, 3) := by decide +kernel
theorem dX12_halvesAs_39 : decode cX12_halvesAs 39 = .ok (.iadd, 1) := by decide +kernel
theorem dX12_halvesAs_40 : decode cX12_halvesAs 40 = .ok (.ireturn, 1) := by decide +kernel
theorem dX12_halvesAs_41 : decode cX12_halvesAs 41 = .ok (.iload_n 1, 1) := by decide +kernel
theorem dX12_halvesAs_42 : decode cX12_halvesAs 42 = .ok (.iconst 4, 1) := by decide +kernel
theorem dX12_halvesAs_43 : decode cX12_halvesAs 43 = .ok (.if_icmp .ne 19, 3) := by decide +kernel
theorem dX12_halvesAs_46 : decode cX12_halvesAs 46 = .ok (.aload_n 0, 1) := by decide +kernel
theorem dX12_halvesAs_47 : decode cX12_halvesAs 47 = .ok (.bipush 40, 2) := by decide +kernel
theorem dX12_halvesAs_49 : decode cX12_halvesAs 49 = .ok (.invokevirtual 344, 3) := by decide +kernel
theorem dX12_halvesAs_52 : decode cX12_halvesAs 52 = .ok (.aload_n 0, 1) := by decide +kernel
theorem dX12_halvesAs_53 : decode cX12_halvesAs 53 = .ok (.iconst 0, 1) := by decide +kernel
theorem dX12_halvesAs_54 : decode cX12_halvesAs 54 = .ok (.iload_n 2, 1) := by decide +kernel
theorem dX12_halvesAs_55 : decode cX12_halvesAs 55 = .ok (.invokevirtual 356, 3) := by decide +kernel
theorem dX12_halvesAs_58 : decode cX12_halvesAs 58 = .ok (.bipush 9, 2) := by decide +kernel
theorem dX12_halvesAs_60 : decode cX12_halvesAs 60 = .ok (.isub, 1) := by decide +kernel
theorem dX12_halvesAs_61 : decode cX12_halvesAs 61 = .ok (.ireturn, 1) := by decide +kernel
theorem dX12_halvesAs_62 : decode cX12_halvesAs 62 = .ok (.aload_n 0, 1) := by decide +kernel
theorem dX12_halvesAs_63 : decode cX12_halvesAs 63 = .ok (.bipush 12, 2) := by decide +kernel
theorem dX12_halvesAs_65 : decode cX12_halvesAs 65 = .ok (.invokevirtual 344, 3) := by decide +kernel
theorem dX12_halvesAs_68 : decode cX12_halvesAs 68 = .ok (.aload_n 0, 1) := by decide +kernel
theorem dX12_halvesAs_69 : decode cX12_halvesAs 69 = .ok (.aload_n 0, 1) := by decide +kernel
theorem dX12_halvesAs_70 : decode cX12_halvesAs 70 = .ok (.getfield 350, 3) := by decide +kernel
theorem dX12_halvesAs_73 : decode cX12_halvesAs 73 = .ok (.iconst 3, 1) := by decide +kernel
theorem dX12_halvesAs_74 : decode cX12_halvesAs 74 = .ok (.invokevirtual 79, 3) := by decide +kernel
theorem dX12_halvesAs_77 : decode cX12_halvesAs 77 = .ok (.aload_n 0, 1) := by decide +kernel
theorem dX12_halvesAs_78 : decode cX12_halvesAs 78 = .ok (.getfield 350, 3) := by decide +kernel
theorem dX12_halvesAs_81 : decode cX12_halvesAs 81 = .ok (.isub, 1) := by decide +kernel
theorem dX12_halvesAs_82 : decode cX12_halvesAs 82 = .ok (.iconst 3, 1) := by decide +kernel
theorem dX12_halvesAs_83 : decode cX12_halvesAs 83 = .ok (.iadd, 1) := by decide +kernel
theorem dX12_halvesAs_84 : decode cX12_halvesAs 84 = .ok (.istore_n 3, 1) := by decide +kernel
theorem dX12_halvesAs_85 : decode cX12_halvesAs 85 = .ok (.aload_n 0, 1) := by decide +kernel
theorem dX12_halvesAs_86 : decode cX12_halvesAs 86 = .ok (.aload_n 0, 1) := by decide +kernel
theorem dX12_halvesAs_87 : decode cX12_halvesAs 87 = .ok (.getfield 359, 3) := by decide +kernel
theorem dX12_halvesAs_90 : decode cX12_halvesAs 90 = .ok (.ifCond .ne 7, 3) := by decide +kernel
theorem dX12_halvesAs_93 : decode cX12_halvesAs 93 = .ok (.iload_n 3, 1) := by decide +kernel
theorem dX12_halvesAs_94 : decode cX12_halvesAs 94 = .ok (.ifCond .ne 7, 3) := by decide +kernel
theorem dX12_halvesAs_97 : decode cX12_halvesAs 97 = .ok (.iconst 1, 1) := by decide +kernel
theorem dX12_halvesAs_98 : decode cX12_halvesAs 98 = .ok (.goto 4, 3) := by decide +kernel
theorem dX12_halvesAs_101 : decode cX12_halvesAs 101 = .ok (.iconst 0, 1) := by decide +kernel
theorem dX12_halvesAs_102 : decode cX12_halvesAs 102 = .ok (.putfield 359, 3) := by decide +kernel
theorem dX12_halvesAs_105 : decode cX12_halvesAs 105 = .ok (.aload_n 0, 1) := by decide +kernel
theorem dX12_halvesAs_106 : decode cX12_halvesAs 106 = .ok (.getfield 359, 3) := by decide +kernel
theorem dX12_halvesAs_109 : decode cX12_halvesAs 109 = .ok (.ifCond .eq 7, 3) := by decide +kernel
theorem dX12_halvesAs_112 : decode cX12_halvesAs 112 = .ok (.iconst 0, 1) := by decide +kernel
theorem dX12_halvesAs_113 : decode cX12_halvesAs 113 = .ok (.goto 6, 3) := by decide +kernel
theorem dX12_halvesAs_116 : decode cX12_halvesAs 116 = .ok (.iload_n 2, 1) := by decide +kernel
theorem dX12_halvesAs_117 : decode cX12_halvesAs 117 = .ok (.iload_n 3, 1) := by decide +kernel
theorem dX12_halvesAs_118 : decode cX12_halvesAs 118 = .ok (.irem, 1) := by decide +kernel
theorem dX12_halvesAs_119 : decode cX12_halvesAs 119 = .ok (.ireturn, 1) := by decide +kernel
theorem oX12_halvesAs_0 : oP MT mX12_halvesAs 0 (1, 1, 1, 0, []) := o_iload_n dX12_halvesAs_0 rfl
theorem oX12_halvesAs_1 : oP MT mX12_halvesAs 1 (0, 1, 0, 5, []) := o_iconst dX12_halvesAs_1 (by decide)
theorem oX12_halvesAs_2 : oP MT mX12_halvesAs 2 (11, 3, 1, 41, []) := o_icmp_ne dX12_halvesAs_2 (by decide) (by decide)
theorem oX12_halvesAs_5 : oP MT mX12_halvesAs 5 (1, 1, 0, 1, []) := o_aload_n dX12_halvesAs_5 rfl
theorem oX12_halvesAs_6 : oP MT mX12_halvesAs 6 (0, 2, 0, 61, []) := o_bipush dX12_halvesAs_6 (by decide)
theorem oX12_halvesAs_8 : oP MT mX12_halvesAs 8 (26, 3, 0, 1, [(12, 178)]) := o_callO ((vA.cons (v_callV dX12_halvesAs_8 (ci := 12) rfl rfl (mj := mX12_starts) mt_X12_starts cmq_X12_starts wq_621 wq_623 wq_624 (by decide) (by decide)) vA.nil))
theorem oX12_halvesAs_11 : oP MT mX12_halvesAs 11 (1, 1, 0, 1, []) := o_aload_n dX12_halvesAs_11 rfl
theorem oX12_halvesAs_12 : oP MT mX12_halvesAs 12 (0, 1, 0, 4, []) := o_iconst dX12_halvesAs_12 (by decide)
theorem oX12_halvesAs_13 : oP MT mX12_halvesAs 13 (1, 1, 2, 0, []) := o_iload_n dX12_halvesAs_13 rfl
theorem oX12_halvesAs_14 : oP MT mX12_halvesAs 14 (26, 3, 0, 2, [(12, 181)]) := o_callO ((vA.cons (v_callV dX12_halvesAs_14 (ci := 12) rfl rfl (mj := mX12_halvesAs) mt_X12_halvesAs cmq_X12_halvesAs wq_633 wq_635 wq_636 (by decide) (by decide)) vA.nil))
theorem oX12_halvesAs_17 : oP MT mX12_halvesAs 17 (2, 1, 3, 0, []) := o_istore_n dX12_halvesAs_17 rfl (by decide)
theorem oX12_halvesAs_18 : oP MT mX12_halvesAs 18 (1, 1, 0, 1, []) := o_aload_n dX12_halvesAs_18 rfl
theorem oX12_halvesAs_19 : oP MT mX12_halvesAs 19 (12, 3, 36, 12, []) := o_getI (M := mX12_halvesAs) (C := RX12) (T := TX12) (ci := 12) (j := 36) (z := 12) dX12_halvesAs_19 rfl lq_RX12_359 rfl rfl
theorem oX12_halvesAs_22 : oP MT mX12_halvesAs 22 (10, 3, 0, 29, []) := o_if_eq dX12_halvesAs_22 (by decide) (by decide)
theorem oX12_halvesAs_25 : oP MT mX12_halvesAs 25 (0, 1, 0, 0, []) := o_iconst dX12_halvesAs_25 (by decide)
theorem oX12_halvesAs_26 : oP MT mX12_halvesAs 26 (9, 3, 40, 0, []) := o_goto dX12_halvesAs_26 (by decide)
theorem oX12_halvesAs_29 : oP MT mX12_halvesAs 29 (1, 1, 3, 0, []) := o_iload_n dX12_halvesAs_29 rfl
theorem oX12_halvesAs_30 : oP MT mX12_halvesAs 30 (1, 1, 0, 1, []) := o_aload_n dX12_halvesAs_30 rfl
theorem oX12_halvesAs_31 : oP MT mX12_halvesAs 31 (0, 1, 0, 5, []) := o_iconst dX12_halvesAs_31 (by decide)
theorem oX12_halvesAs_32 : oP MT mX12_halvesAs 32 (1, 1, 0, 1, []) := o_aload_n dX12_halvesAs_32 rfl
theorem oX12_halvesAs_33 : oP MT mX12_halvesAs 33 (12, 3, 35, 12, []) := o_getI (M := mX12_halvesAs) (C := RX12) (T := TX12) (ci := 12) (j := 35) (z := 12) dX12_halvesAs_33 rfl lq_RX12_350 rfl rfl
theorem oX12_halvesAs_36 : oP MT mX12_halvesAs 36 (26, 3, 0, 2, [(12, 180)]) := o_callO ((vA.cons (v_callV dX12_halvesAs_36 (ci := 12) rfl rfl (mj := mX12_dripsAs) mt_X12_dripsAs cmq_X12_dripsAs wq_629 wq_631 wq_632 (by decide) (by decide)) vA.nil))
theorem oX12_halvesAs_39 : oP MT mX12_halvesAs 39 (4, 1, 0, 0, []) := o_iadd dX12_halvesAs_39
theorem oX12_halvesAs_40 : oP MT mX12_halvesAs 40 (21, 1, 0, 0, []) := o_iret dX12_halvesAs_40 rfl
theorem oX12_halvesAs_41 : oP MT mX12_halvesAs 41 (1, 1, 1, 0, []) := o_iload_n dX12_halvesAs_41 rfl
theorem oX12_halvesAs_42 : oP MT mX12_halvesAs 42 (0, 1, 0, 4, []) := o_iconst dX12_halvesAs_42 (by decide)
theorem oX12_halvesAs_43 : oP MT mX12_halvesAs 43 (11, 3, 1, 62, []) := o_icmp_ne dX12_halvesAs_43 (by decide) (by decide)
theorem oX12_halvesAs_46 : oP MT mX12_halvesAs 46 (1, 1, 0, 1, []) := o_aload_n dX12_halvesAs_46 rfl
theorem oX12_halvesAs_47 : oP MT mX12_halvesAs 47 (0, 2, 0, 40, []) := o_bipush dX12_halvesAs_47 (by decide)
theorem oX12_halvesAs_49 : oP MT mX12_halvesAs 49 (26, 3, 0, 1, [(12, 178)]) := o_callO ((vA.cons (v_callV dX12_halvesAs_49 (ci := 12) rfl rfl (mj := mX12_starts) mt_X12_starts cmq_X12_starts wq_621 wq_623 wq_624 (by decide) (by decide)) vA.nil))
theorem oX12_halvesAs_52 : oP MT mX12_halvesAs 52 (1, 1, 0, 1, []) := o_aload_n dX12_halvesAs_52 rfl
theorem oX12_halvesAs_53 : oP MT mX12_halvesAs 53 (0, 1, 0, 0, []) := o_iconst dX12_halvesAs_53 (by decide)
theorem oX12_halvesAs_54 : oP MT mX12_halvesAs 54 (1, 1, 2, 0, []) := o_iload_n dX12_halvesAs_54 rfl
theorem oX12_halvesAs_55 : oP MT mX12_halvesAs 55 (26, 3, 0, 2, [(12, 181)]) := o_callO ((vA.cons (v_callV dX12_halvesAs_55 (ci := 12) rfl rfl (mj := mX12_halvesAs) mt_X12_halvesAs cmq_X12_halvesAs wq_633 wq_635 wq_636 (by decide) (by decide)) vA.nil))
theorem oX12_halvesAs_58 : oP MT mX12_halvesAs 58 (0, 2, 0, 9, []) := o_bipush dX12_halvesAs_58 (by decide)
theorem oX12_halvesAs_60 : oP MT mX12_halvesAs 60 (4, 1, 1, 0, []) := o_isub dX12_halvesAs_60
theorem oX12_halvesAs_61 : oP MT mX12_halvesAs 61 (21, 1, 0, 0, []) := o_iret dX12_halvesAs_61 rfl
theorem oX12_halvesAs_62 : oP MT mX12_halvesAs 62 (1, 1, 0, 1, []) := o_aload_n dX12_halvesAs_62 rfl
theorem oX12_halvesAs_63 : oP MT mX12_halvesAs 63 (0, 2, 0, 12, []) := o_bipush dX12_halvesAs_63 (by decide)
theorem oX12_halvesAs_65 : oP MT mX12_halvesAs 65 (26, 3, 0, 1, [(12, 178)]) := o_callO ((vA.cons (v_callV dX12_halvesAs_65 (ci := 12) rfl rfl (mj := mX12_starts) mt_X12_starts cmq_X12_starts wq_621 wq_623 wq_624 (by decide) (by decide)) vA.nil))
theorem oX12_halvesAs_68 : oP MT mX12_halvesAs 68 (1, 1, 0, 1, []) := o_aload_n dX12_halvesAs_68 rfl
theorem oX12_halvesAs_69 : oP MT mX12_halvesAs 69 (1, 1, 0, 1, []) := o_aload_n dX12_halvesAs_69 rfl
theorem oX12_halvesAs_70 : oP MT mX12_halvesAs 70 (12, 3, 35, 12, []) := o_getI (M := mX12_halvesAs) (C := RX12) (T := TX12) (ci := 12) (j := 35) (z := 12) dX12_halvesAs_70 rfl lq_RX12_350 rfl rfl
theorem oX12_halvesAs_73 : oP MT mX12_halvesAs 73 (0, 1, 0, 3, []) := o_iconst dX12_halvesAs_73 (by decide)
theorem oX12_halvesAs_74 : oP MT mX12_halvesAs 74 (26, 3, 0, 2, [(12, 112)]) := o_callO ((vA.cons (v_callV dX12_halvesAs_74 (ci := 12) rfl rfl (mj := mX12_get) mt_X12_get cmq_X12_get wq_435 wq_437 wq_438 (by decide) (by decide)) vA.nil))
theorem oX12_halvesAs_77 : oP MT mX12_halvesAs 77 (1, 1, 0, 1, []) := o_aload_n dX12_halvesAs_77 rfl
theorem oX12_halvesAs_78 : oP MT mX12_halvesAs 78 (12, 3, 35, 12, []) := o_getI (M := mX12_halvesAs) (C := RX12) (T := TX12) (ci := 12) (j := 35) (z := 12) dX12_halvesAs_78 rfl lq_RX12_350 rfl rfl
theorem oX12_halvesAs_81 : oP MT mX12_halvesAs 81 (4, 1, 1, 0, []) := o_isub dX12_halvesAs_81
theorem oX12_halvesAs_82 : oP MT mX12_halvesAs 82 (0, 1, 0, 3, []) := o_iconst dX12_halvesAs_82 (by decide)
theorem oX12_halvesAs_83 : oP MT mX12_halvesAs 83 (4, 1, 0, 0, []) := o_iadd dX12_halvesAs_83
theorem oX12_halvesAs_84 : oP MT mX12_halvesAs 84 (2, 1, 3, 0, []) := o_istore_n dX12_halvesAs_84 rfl (by decide)
theorem oX12_halvesAs_85 : oP MT mX12_halvesAs 85 (1, 1, 0, 1, []) := o_aload_n dX12_halvesAs_85 rfl
theorem oX12_halvesAs_86 : oP MT mX12_halvesAs 86 (1, 1, 0, 1, []) := o_aload_n dX12_halvesAs_86 rfl
theorem oX12_halvesAs_87 : oP MT mX12_halvesAs 87 (12, 3, 36, 12, []) := o_getI (M := mX12_halvesAs) (C := RX12) (T := TX12) (ci := 12) (j := 36) (z := 12) dX12_halvesAs_87 rfl lq_RX12_359 rfl rfl
theorem oX12_halvesAs_90 : oP MT mX12_halvesAs 90 (10, 3, 1, 97, []) := o_if_ne dX12_halvesAs_90 (by decide) (by decide)
theorem oX12_halvesAs_93 : oP MT mX12_halvesAs 93 (1, 1, 3, 0, []) := o_iload_n dX12_halvesAs_93 rfl
theorem oX12_halvesAs_94 : oP MT mX12_halvesAs 94 (10, 3, 1, 101, []) := o_if_ne dX12_halvesAs_94 (by decide) (by decide)
theorem oX12_halvesAs_97 : oP MT mX12_halvesAs 97 (0, 1, 0, 1, []) := o_iconst dX12_halvesAs_97 (by decide)
theorem oX12_halvesAs_98 : oP MT mX12_halvesAs 98 (9, 3, 102, 0, []) := o_goto dX12_halvesAs_98 (by decide)
theorem oX12_halvesAs_101 : oP MT mX12_halvesAs 101 (0, 1, 0, 0, []) := o_iconst dX12_halvesAs_101 (by decide)
theorem oX12_halvesAs_102 : oP MT mX12_halvesAs 102 (15, 3, 36, 12, []) := o_putZ (M := mX12_halvesAs) (C := RX12) (T := TX12) (ci := 12) (j := 36) (z := 12) dX12_halvesAs_102 rfl lq_RX12_359 rfl rfl rfl rfl
theorem oX12_halvesAs_105 : oP MT mX12_halvesAs 105 (1, 1, 0, 1, []) := o_aload_n dX12_halvesAs_105 rfl
theorem oX12_halvesAs_106 : oP MT mX12_halvesAs 106 (12, 3, 36, 12, []) := o_getI (M := mX12_halvesAs) (C := RX12) (T := TX12) (ci := 12) (j := 36) (z := 12) dX12_halvesAs_106 rfl lq_RX12_359 rfl rfl
theorem oX12_halvesAs_109 : oP MT mX12_halvesAs 109 (10, 3, 0, 116, []) := o_if_eq dX12_halvesAs_109 (by decide) (by decide)
theorem oX12_halvesAs_112 : oP MT mX12_halvesAs 112 (0, 1, 0, 0, []) := o_iconst dX12_halvesAs_112 (by decide)
theorem oX12_halvesAs_113 : oP MT mX12_halvesAs 113 (9, 3, 119, 0, []) := o_goto dX12_halvesAs_113 (by decide)
theorem oX12_halvesAs_116 : oP MT mX12_halvesAs 116 (1, 1, 2, 0, []) := o_iload_n dX12_halvesAs_116 rfl
theorem oX12_halvesAs_117 : oP MT mX12_halvesAs 117 (1, 1, 3, 0, []) := o_iload_n dX12_halvesAs_117 rfl
theorem oX12_halvesAs_118 : oP MT mX12_halvesAs 118 (4, 1, 10, 0, []) := o_irem dX12_halvesAs_118
theorem oX12_halvesAs_119 : oP MT mX12_halvesAs 119 (21, 1, 0, 0, []) := o_iret dX12_halvesAs_119 rfl
def ops_X12_halvesAs : List (Nat × aO) := [(0, (1, 1, 1, 0, [])), (1, (0, 1, 0, 5, [])), (2, (11, 3, 1, 41, [])), (5, (1, 1, 0, 1, [])), (6, (0, 2, 0, 61, [])), (8, (26, 3, 0, 1, [(12, 178)])), (11, (1, 1, 0, 1, [])), (12, (0, 1, 0, 4, [])), (13, (1, 1, 2, 0, [])), (14, (26, 3, 0, 2, [(12, 181)])), (17, (2, 1, 3, 0, [])), (18, (1, 1, 0, 1, [])), (19, (12, 3, 36, 12, [])), (22, (10, 3, 0, 29, [])), (25, (0, 1, 0, 0, [])), (26, (9, 3, 40, 0, [])), (29, (1, 1, 3, 0, [])), (30, (1, 1, 0, 1, [])), (31, (0, 1, 0, 5, [])), (32, (1, 1, 0, 1, [])), (33, (12, 3, 35, 12, [])), (36, (26, 3, 0, 2, [(12, 180)])), (39, (4, 1, 0, 0, [])), (40, (21, 1, 0, 0, [])), (41, (1, 1, 1, 0, [])), (42, (0, 1, 0, 4, [])), (43, (11, 3, 1, 62, [])), (46, (1, 1, 0, 1, [])), (47, (0, 2, 0, 40, [])), (49, (26, 3, 0, 1, [(12, 178)])), (52, (1, 1, 0, 1, [])), (53, (0, 1, 0, 0, [])), (54, (1, 1, 2, 0, [])), (55, (26, 3, 0, 2, [(12, 181)])), (58, (0, 2, 0, 9, [])), (60, (4, 1, 1, 0, [])), (61, (21, 1, 0, 0, [])), (62, (1, 1, 0, 1, [])), (63, (0, 2, 0, 12, [])), (65, (26, 3, 0, 1, [(12, 178)])), (68, (1, 1, 0, 1, [])), (69, (1, 1, 0, 1, [])), (70, (12, 3, 35, 12, [])), (73, (0, 1, 0, 3, [])), (74, (26, 3, 0, 2, [(12, 112)])), (77, (1, 1, 0, 1, [])), (78, (12, 3, 35, 12, [])), (81, (4, 1, 1, 0, [])), (82, (0, 1, 0, 3, [])), (83, (4, 1, 0, 0, [])), (84, (2, 1, 3, 0, [])), (85, (1, 1, 0, 1, [])), (86, (1, 1, 0, 1, [])), (87, (12, 3, 36, 12, [])), (90, (10, 3, 1, 97, [])), (93, (1, 1, 3, 0, [])), (94, (10, 3, 1, 101, [])), (97, (0, 1, 0, 1, [])), (98, (9, 3, 102, 0, [])), (101, (0, 1, 0, 0, [])), (102, (15, 3, 36, 12, [])), (105, (1, 1, 0, 1, [])), (106, (12, 3, 36, 12, [])), (109, (10, 3, 0, 116, [])), (112, (0, 1, 0, 0, [])), (113, (9, 3, 119, 0, [])), (116, (1, 1, 2, 0, [])), (117, (1, 1, 3, 0, [])), (118, (4, 1, 10, 0, [])), (119, (21, 1, 0, 0, []))]
theorem os_X12_halvesAs : oA MT mX12_halvesAs ops_X12_halvesAs := (oA.cons oX12_halvesAs_0 (oA.cons oX12_halvesAs_1 (oA.cons oX12_halvesAs_2 (oA.cons oX12_halvesAs_5 (oA.cons oX12_halvesAs_6 (oA.cons oX12_halvesAs_8 (oA.cons oX12_halvesAs_11 (oA.cons oX12_halvesAs_12 (oA.cons oX12_halvesAs_13 (oA.cons oX12_halvesAs_14 (oA.cons oX12_halvesAs_17 (oA.cons oX12_halvesAs_18 (oA.cons oX12_halvesAs_19 (oA.cons oX12_halvesAs_22 (oA.cons oX12_halvesAs_25 (oA.cons oX12_halvesAs_26 (oA.cons oX12_halvesAs_29 (oA.cons oX12_halvesAs_30 (oA.cons oX12_halvesAs_31 (oA.cons oX12_halvesAs_32 (oA.cons oX12_halvesAs_33 (oA.cons oX12_halvesAs_36 (oA.cons oX12_halvesAs_39 (oA.cons oX12_halvesAs_40 (oA.cons oX12_halvesAs_41 (oA.cons oX12_halvesAs_42 (oA.cons oX12_halvesAs_43 (oA.cons oX12_halvesAs_46 (oA.cons oX12_halvesAs_47 (oA.cons oX12_halvesAs_49 (oA.cons oX12_halvesAs_52 (oA.cons oX12_halvesAs_53 (oA.cons oX12_halvesAs_54 (oA.cons oX12_halvesAs_55 (oA.cons oX12_halvesAs_58 (oA.cons oX12_halvesAs_60 (oA.cons oX12_halvesAs_61 (oA.cons oX12_halvesAs_62 (oA.cons oX12_halvesAs_63 (oA.cons oX12_halvesAs_65 (oA.cons oX12_halvesAs_68 (oA.cons oX12_halvesAs_69 (oA.cons oX12_halvesAs_70 (oA.cons oX12_halvesAs_73 (oA.cons oX12_halvesAs_74 (oA.cons oX12_halvesAs_77 (oA.cons oX12_halvesAs_78 (oA.cons oX12_halvesAs_81 (oA.cons oX12_halvesAs_82 (oA.cons oX12_halvesAs_83 (oA.cons oX12_halvesAs_84 (oA.cons oX12_halvesAs_85 (oA.cons oX12_halvesAs_86 (oA.cons oX12_halvesAs_87 (oA.cons oX12_halvesAs_90 (oA.cons oX12_halvesAs_93 (oA.cons oX12_halvesAs_94 (oA.cons oX12_halvesAs_97 (oA.cons oX12_halvesAs_98 (oA.cons oX12_halvesAs_101 (oA.cons oX12_halvesAs_102 (oA.cons oX12_halvesAs_105 (oA.cons oX12_halvesAs_106 (oA.cons oX12_halvesAs_109 (oA.cons oX12_halvesAs_112 (oA.cons oX12_halvesAs_113 (oA.cons oX12_halvesAs_116 (oA.cons oX12_halvesAs_117 (oA.cons oX12_halvesAs_118 (oA.cons oX12_halvesAs_119 oA.nil))))))))))))))))))))))))))))))))))))))))))))))))))))))))))))))))))))))
theorem dX12_fitsAs_0 : decode cX12_fitsAs 0 = .ok (.iload_n 1, 1) := by decide +kernel
theorem dX12_fitsAs_1 : decode cX12_fitsAs 1 = .ok (.iconst 3, 1) := by decide +kernel
theorem dX12_fitsAs_2 : decode cX12_fitsAs 2 = .ok (.if_icmp .ne 44, 3) := by decide +kernel
theorem dX12_fitsAs_5 : decode cX12_fitsAs 5 = .ok (.aload_n 0, 1) := by decide +kernel
theorem dX12_fitsAs_6 : decode cX12_fitsAs 6 = .ok (.bipush 51, 2) := by decide +kernel
theorem dX12_fitsAs_8 : decode cX12_fitsAs 8 = .ok (.invokevirtual 344, 3) := by decide +kernel
theorem dX12_fitsAs_11 : decode cX12_fitsAs 11 = .ok (.aload_n 0, 1) := by decide +kernel
theorem dX12_fitsAs_12 : decode cX12_fitsAs 12 = .ok (.iconst 2, 1) := by decide +kernel
theorem dX12_fitsAs_13 : decode cX12_fitsAs 13 = .ok (.iload_n 2, 1) := by decide +kernel
theorem dX12_fitsAs_14 : decode cX12_fitsAs 14 = .ok (.invokevirtual 363, 3) := by decide +kernel
theorem dX12_fitsAs_17 : decode cX12_fitsAs 17 = .ok (.istore_n 3, 1) := by decide +kernel
theorem dX12_fitsAs_18 : decode cX12_fitsAs 18 = .ok (.aload_n 0, 1) := by decide +kernel
theorem dX12_fitsAs_19 : decode cX12_fitsAs 19 = .ok (.getfield 359, 3) := by decide +kernel
theorem dX12_fitsAs_22 : decode cX12_fitsAs 22 = .ok (.ifCond .eq 7, 3) := by decide +kernel
theorem dX12_fitsAs_25 : decode cX12_fitsAs 25 = .ok (.iconst 0, 1) := by decide +kernel
theorem dX12_fitsAs_26 : decode cX12_fitsAs 26 = .ok (.goto 19, 3) := by decide +kernel
theorem dX12_fitsAs_29 : decode cX12_fitsAs 29 = .ok (.iload_n 3, 1) := by decide +kernel
theorem dX12_fitsAs_30 : decode cX12_fitsAs 30 = .ok (.aload_n 0, 1) := by decide +kernel
theorem dX12_fitsAs_31 : decode cX12_fitsAs 31 = .ok (.iconst 3, 1) := by decide +kernel
theorem dX12_fitsAs_32 : decode cX12_fitsAs 32 = .ok (.aload_n 0, 1) := by decide +kernel
theorem dX12_fitsAs_33 : decode cX12_fitsAs 33 = .ok (.aload_n 0, 1) := by decide +kernel
theorem dX12_fitsAs_34 : decode cX12_fitsAs 34 = .ok (.getfield 350, 3) := by decide +kernel
theorem dX12_fitsAs_37 : decode cX12_fitsAs 37 = .ok (.iconst 3, 1) := by decide +kernel
theorem dX12_fitsAs_38 : decode cX12_fitsAs 38 = .ok (.invokevirtual 79, 3) := by decide +kernel
theorem dX12_fitsAs_41 : decode cX12_fitsAs 41 = .ok (.invokevirtual 353, 3) := by decide +kernel
theorem dX12_fitsAs_44 : decode cX12_fitsAs 44 = .ok (.ixor, 1) := by decide +kernel
theorem dX12_fitsAs_45 : decode cX12_fitsAs 45 = .ok (.ireturn, 1) := by decide +kernel
theorem dX12_fitsAs_46 : decode cX12_fitsAs 46 = .ok (.aload_n 0, 1) := by decide +kernel
theorem dX12_fitsAs_47 : decode cX12_fitsAs 47 = .ok (.bipush 13, 2) := by decide +kernel
theorem dX12_fitsAs_49 : decode cX12_fitsAs 49 = .ok (.invokevirtual 344, 3) := by decide +kernel
theorem dX12_fitsAs_52 : decode cX12_fitsAs 52 = .ok (.aload_n 0, 1) := by decide +kernel
theorem dX12_fitsAs_53 : decode cX12_fitsAs 53 = .ok (.aload_n 0, 1) := by decide +kernel
theorem dX12_fitsAs_54 : decode cX12_fitsAs 54 = .ok (.aload_n 0, 1) := by decide +kernel
theorem dX12_fitsAs_55 : decode cX12_fitsAs 55 = .ok (.getfield 350, 3) := by decide +kernel
theorem dX12_fitsAs_58 : decode cX12_fitsAs 58 = .ok (.iconst 0, 1) := by decide +kernel
theorem dX12_fitsAs_59 : decode cX12_fitsAs 59 = .ok (.invokevirtual 79, 3) := by decide +kernel
theorem dX12_fitsAs_62 : decode cX12_fitsAs 62 = .ok (.iload_n 2, 1) := by decide +kernel
theorem dX12_fitsAs_63 : decode cX12_fitsAs 63 = .ok (.invokevirtual 353, 3) := by decide +kernel
theorem dX12_fitsAs_66 : decode cX12_fitsAs 66 = .ok (.istore_n 3, 1) := by decide +kernel
theorem dX12_fitsAs_67 : decode cX12_fitsAs 67 = .ok (.iload_n 3, 1) := by decide +kernel
theorem dX12_fitsAs_68 : decode cX12_fitsAs 68 = .ok (.aload_n 0, 1) := by decide +kernel
theorem dX12_fitsAs_69 : decode cX12_fitsAs 69 = .ok (.aload_n 0, 1) := by decide +kernel
theorem dX12_fitsAs_70 : decode cX12_fitsAs 70 = .ok (.aload_n 0, 1) := by decide +kernel
theorem dX12_fitsAs_71 : decode cX12_fitsAs 71 = .ok (.getfield 350, 3) := by decide +kernel
theorem dX12_fitsAs_74 : decode cX12_fitsAs 74 = .ok (.iconst 0, 1) := by decide +kernel
theorem dX12_fitsAs_75 : decode cX12_fitsAs 75 = .ok (.invokevirtual 79, 3) := by decide +kernel
theorem dX12_fitsAs_78 : decode cX12_fitsAs 78 = .ok (.iload_n 2, 1) := by decide +kernel
theorem dX12_fitsAs_79 : decode cX12_fitsAs 79 = .ok (.invokevirtual 356, 3) := by decide +kernel
theorem dX12_fitsAs_82 : decode cX12_fitsAs 82 = .ok (.iadd, 1) := by decide +kernel
theorem dX12_fitsAs_83 : decode cX12_fitsAs 83 = .ok (.ireturn, 1) := by decide +kernel
theorem oX12_fitsAs_0 : oP MT mX12_fitsAs 0 (1, 1, 1, 0, []) := o_iload_n dX12_fitsAs_0 rfl
theorem oX12_fitsAs_1 : oP MT mX12_fitsAs 1 (0, 1, 0, 3, []) := o_iconst dX12_fitsAs_1 (by decide)
theorem oX12_fitsAs_2 : oP MT mX12_fitsAs 2 (11, 3, 1, 46, []) := o_icmp_ne dX12_fitsAs_2 (by decide) (by decide)
theorem oX12_fitsAs_5 : oP MT mX12_fitsAs 5 (1, 1, 0, 1, []) := o_aload_n dX12_fitsAs_5 rfl
theorem oX12_fitsAs_6 : oP MT mX12_fitsAs 6 (0, 2, 0, 51, []) := o_bipush dX12_fitsAs_6 (by decide)
theorem oX12_fitsAs_8 : oP MT mX12_fitsAs 8 (26, 3, 0, 1, [(12, 178)]) := o_callO ((vA.cons (v_callV dX12_fitsAs_8 (ci := 12) rfl rfl (mj := mX12_starts) mt_X12_starts cmq_X12_starts wq_621 wq_623 wq_624 (by decide) (by decide)) vA.nil))
theorem oX12_fitsAs_11 : oP MT mX12_fitsAs 11 (1, 1, 0, 1, []) := o_aload_n dX12_fitsAs_11 rfl
theorem oX12_fitsAs_12 : oP MT mX12_fitsAs 12 (0, 1, 0, 2, []) := o_iconst dX12_fitsAs_12 (by decide)
theorem oX12_fitsAs_13 : oP MT mX12_fitsAs 13 (1, 1, 2, 0, []) := o_iload_n dX12_fitsAs_13 rfl
theorem oX12_fitsAs_14 : oP MT mX12_fitsAs 14 (26, 3, 0, 2, [(12, 182)]) := o_callO ((vA.cons (v_callV dX12_fitsAs_14 (ci := 12) rfl rfl (mj := mX12_fitsAs) mt_X12_fitsAs cmq_X12_fitsAs wq_637 wq_639 wq_640 (by decide) (by decide)) vA.nil))
theorem oX12_fitsAs_17 : oP MT mX12_fitsAs 17 (2, 1, 3, 0, []) := o_istore_n dX12_fitsAs_17 rfl (by decide)
theorem oX12_fitsAs_18 : oP MT mX12_fitsAs 18 (1, 1, 0, 1, []) := o_aload_n dX12_fitsAs_18 rfl
theorem oX12_fitsAs_19 : oP MT mX12_fitsAs 19 (12, 3, 36, 12, []) := o_getI (M := mX12_fitsAs) (C := RX12) (T := TX12) (ci := 12) (j := 36) (z := 12) dX12_fitsAs_19 rfl lq_RX12_359 rfl rfl
theorem oX12_fitsAs_22 : oP MT mX12_fitsAs 22 (10, 3, 0, 29, []) := o_if_eq dX12_fitsAs_22 (by decide) (by decide)
theorem oX12_fitsAs_25 : oP MT mX12_fitsAs 25 (0, 1, 0, 0, []) := o_iconst dX12_fitsAs_25 (by decide)
theorem oX12_fitsAs_26 : oP MT mX12_fitsAs 26 (9, 3, 45, 0, []) := o_goto dX12_fitsAs_26 (by decide)
theorem oX12_fitsAs_29 : oP MT mX12_fitsAs 29 (1, 1, 3, 0, []) := o_iload_n dX12_fitsAs_29 rfl
theorem oX12_fitsAs_30 : oP MT mX12_fitsAs 30 (1, 1, 0, 1, []) := o_aload_n dX12_fitsAs_30 rfl
theorem oX12_fitsAs_31 : oP MT mX12_fitsAs 31 (0, 1, 0, 3, []) := o_iconst dX12_fitsAs_31 (by decide)
theorem oX12_fitsAs_32 : oP MT mX12_fitsAs 32 (1, 1, 0, 1, []) := o_aload_n dX12_fitsAs_32 rfl
theorem oX12_fitsAs_33 : oP MT mX12_fitsAs 33 (1, 1, 0, 1, []) := o_aload_n dX12_fitsAs_33 rfl
theorem oX12_fitsAs_34 : oP MT mX12_fitsAs 34 (12, 3, 35, 12, []) := o_getI (M := mX12_fitsAs) (C := RX12) (T := TX12) (ci := 12) (j := 35) (z := 12) dX12_fitsAs_34 rfl lq_RX12_350 rfl rfl
theorem oX12_fitsAs_37 : oP MT mX12_fitsAs 37 (0, 1, 0, 3, []) := o_iconst dX12_fitsAs_37 (by decide)
theorem oX12_fitsAs_38 : oP MT mX12_fitsAs 38 (26, 3, 0, 2, [(12, 112)]) := o_callO ((vA.cons (v_callV dX12_fitsAs_38 (ci := 12) rfl rfl (mj := mX12_get) mt_X12_get cmq_X12_get wq_435 wq_437 wq_438 (by decide) (by decide)) vA.nil))
theorem oX12_fitsAs_41 : oP MT mX12_fitsAs 41 (26, 3, 0, 2, [(12, 179)]) := o_callO ((vA.cons (v_callV dX12_fitsAs_41 (ci := 12) rfl rfl (mj := mX12_turnsAs) mt_X12_turnsAs cmq_X12_turnsAs wq_625 wq_627 wq_628 (by decide) (by decide)) vA.nil))
theorem oX12_fitsAs_44 : oP MT mX12_fitsAs 44 (4, 1, 5, 0, []) := o_ixor dX12_fitsAs_44
theorem oX12_fitsAs_45 : oP MT mX12_fitsAs 45 (21, 1, 0, 0, []) := o_iret dX12_fitsAs_45 rfl
theorem oX12_fitsAs_46 : oP MT mX12_fitsAs 46 (1, 1, 0, 1, []) := o_aload_n dX12_fitsAs_46 rfl
theorem oX12_fitsAs_47 : oP MT mX12_fitsAs 47 (0, 2, 0, 13, []) := o_bipush dX12_fitsAs_47 (by decide)
theorem oX12_fitsAs_49 : oP MT mX12_fitsAs 49 (26, 3, 0, 1, [(12, 178)]) := o_callO ((vA.cons (v_callV dX12_fitsAs_49 (ci := 12) rfl rfl (mj := mX12_starts) mt_X12_starts cmq_X12_starts wq_621 wq_623 wq_624 (by decide) (by decide)) vA.nil))
theorem oX12_fitsAs_52 : oP MT mX12_fitsAs 52 (1, 1, 0, 1, []) := o_aload_n dX12_fitsAs_52 rfl
theorem oX12_fitsAs_53 : oP MT mX12_fitsAs 53 (1, 1, 0, 1, []) := o_aload_n dX12_fitsAs_53 rfl
theorem oX12_fitsAs_54 : oP MT mX12_fitsAs 54 (1, 1, 0, 1, []) := o_aload_n dX12_fitsAs_54 rfl
theorem oX12_fitsAs_55 : oP MT mX12_fitsAs 55 (12, 3, 35, 12, []) := o_getI (M := mX12_fitsAs) (C := RX12) (T := TX12) (ci := 12) (j := 35) (z := 12) dX12_fitsAs_55 rfl lq_RX12_350 rfl rfl
theorem oX12_fitsAs_58 : oP MT mX12_fitsAs 58 (0, 1, 0, 0, []) := o_iconst dX12_fitsAs_58 (by decide)
theorem oX12_fitsAs_59 : oP MT mX12_fitsAs 59 (26, 3, 0, 2, [(12, 112)]) := o_callO ((vA.cons (v_callV dX12_fitsAs_59 (ci := 12) rfl rfl (mj := mX12_get) mt_X12_get cmq_X12_get wq_435 wq_437 wq_438 (by decide) (by decide)) vA.nil))
theorem oX12_fitsAs_62 : oP MT mX12_fitsAs 62 (1, 1, 2, 0, []) := o_iload_n dX12_fitsAs_62 rfl
theorem oX12_fitsAs_63 : oP MT mX12_fitsAs 63 (26, 3, 0, 2, [(12, 179)]) := o_callO ((vA.cons (v_callV dX12_fitsAs_63 (ci := 12) rfl rfl (mj := mX12_turnsAs) mt_X12_turnsAs cmq_X12_turnsAs wq_625 wq_627 wq_628 (by decide) (by decide)) vA.nil))
theorem oX12_fitsAs_66 : oP MT mX12_fitsAs 66 (2, 1, 3, 0, []) := o_istore_n dX12_fitsAs_66 rfl (by decide)
theorem oX12_fitsAs_67 : oP MT mX12_fitsAs 67 (1, 1, 3, 0, []) := o_iload_n dX12_fitsAs_67 rfl
theorem oX12_fitsAs_68 : oP MT mX12_fitsAs 68 (1, 1, 0, 1, []) := o_aload_n dX12_fitsAs_68 rfl
theorem oX12_fitsAs_69 : oP MT mX12_fitsAs 69 (1, 1, 0, 1, []) := o_aload_n dX12_fitsAs_69 rfl
theorem oX12_fitsAs_70 : oP MT mX12_fitsAs 70 (1, 1, 0, 1, []) := o_aload_n dX12_fitsAs_70 rfl
theorem oX12_fitsAs_71 : oP MT mX12_fitsAs 71 (12, 3, 35, 12, []) := o_getI (M := mX12_fitsAs) (C := RX12) (T := TX12) (ci := 12) (j := 35) (z := 12) dX12_fitsAs_71 rfl lq_RX12_350 rfl rfl
theorem oX12_fitsAs_74 : oP MT mX12_fitsAs 74 (0, 1, 0, 0, []) := o_iconst dX12_fitsAs_74 (by decide)
theorem oX12_fitsAs_75 : oP MT mX12_fitsAs 75 (26, 3, 0, 2, [(12, 112)]) := o_callO ((vA.cons (v_callV dX12_fitsAs_75 (ci := 12) rfl rfl (mj := mX12_get) mt_X12_get cmq_X12_get wq_435 wq_437 wq_438 (by decide) (by decide)) vA.nil))
theorem oX12_fitsAs_78 : oP MT mX12_fitsAs 78 (1, 1, 2, 0, []) := o_iload_n dX12_fitsAs_78 rfl
theorem oX12_fitsAs_79 : oP MT mX12_fitsAs 79 (26, 3, 0, 2, [(12, 181)]) := o_callO ((vA.cons (v_callV dX12_fitsAs_79 (ci := 12) rfl rfl (mj := mX12_halvesAs) mt_X12_halvesAs cmq_X12_halvesAs wq_633 wq_635 wq_636 (by decide) (by decide)) vA.nil))
theorem oX12_fitsAs_82 : oP MT mX12_fitsAs 82 (4, 1, 0, 0, []) := o_iadd dX12_fitsAs_82
theorem oX12_fitsAs_83 : oP MT mX12_fitsAs 83 (21, 1, 0, 0, []) := o_iret dX12_fitsAs_83 rfl
def ops_X12_fitsAs : List (Nat × aO) := [(0, (1, 1, 1, 0, [])), (1, (0, 1, 0, 3, [])), (2, (11, 3, 1, 46, [])), (5, (1, 1, 0, 1, [])), (6, (0, 2, 0, 51, [])), (8, (26, 3, 0, 1, [(12, 178)])), (11, (1, 1, 0, 1, [])), (12, (0, 1, 0, 2, [])), (13, (1, 1, 2, 0, [])), (14, (26, 3, 0, 2, [(12, 182)])), (17, (2, 1, 3, 0, [])), (18, (1, 1, 0, 1, [])), (19, (12, 3, 36, 12, [])), (22, (10, 3, 0, 29, [])), (25, (0, 1, 0, 0, [])), (26, (9, 3, 45, 0, [])), (29, (1, 1, 3, 0, [])), (30, (1, 1, 0, 1, [])), (31, (0, 1, 0, 3, [])), (32, (1, 1, 0, 1, [])), (33, (1, 1, 0, 1, [])), (34, (12, 3, 35, 12, [])), (37, (0, 1, 0, 3, [])), (38, (26, 3, 0, 2, [(12, 112)])), (41, (26, 3, 0, 2, [(12, 179)])), (44, (4, 1, 5, 0, [])), (45, (21, 1, 0, 0, [])), (46, (1, 1, 0, 1, [])), (47, (0, 2, 0, 13, [])), (49, (26, 3, 0, 1, [(12, 178)])), (52, (1, 1, 0, 1, [])), (53, (1, 1, 0, 1, [])), (54, (1, 1, 0, 1, [])), (55, (12, 3, 35, 12, [])), (58, (0, 1, 0, 0, [])), (59, (26, 3, 0, 2, [(12, 112)])), (62, (1, 1, 2, 0, [])), (63, (26, 3, 0, 2, [(12, 179)])), (66, (2, 1, 3, 0, [])), (67, (1, 1, 3, 0, [])), (68, (1, 1, 0, 1, [])), (69, (1, 1, 0, 1, [])), (70, (1, 1, 0, 1, [])), (71, (12, 3, 35, 12, [])), (74, (0, 1, 0, 0, [])), (75, (26, 3, 0, 2, [(12, 112)])), (78, (1, 1, 2, 0, [])), (79, (26, 3, 0, 2, [(12, 181)])), (82, (4, 1, 0, 0, [])), (83, (21, 1, 0, 0, []))]
theorem os_X12_fitsAs : oA MT mX12_fitsAs ops_X12_fitsAs := (oA.cons oX12_fitsAs_0 (oA.cons oX12_fitsAs_1 (oA.cons oX12_fitsAs_2 (oA.cons oX12_fitsAs_5 (oA.cons oX12_fitsAs_6 (oA.cons oX12_fitsAs_8 (oA.cons oX12_fitsAs_11 (oA.cons oX12_fitsAs_12 (oA.cons oX12_fitsAs_13 (oA.cons oX12_fitsAs_14 (oA.cons oX12_fitsAs_17 (oA.cons oX12_fitsAs_18 (oA.cons oX12_fitsAs_19 (oA.cons oX12_fitsAs_22 (oA.cons oX12_fitsAs_25 (oA.cons oX12_fitsAs_26 (oA.cons oX12_fitsAs_29 (oA.cons oX12_fitsAs_30 (oA.cons oX12_fitsAs_31 (oA.cons oX12_fitsAs_32 (oA.cons oX12_fitsAs_33 (oA.cons oX12_fitsAs_34 (oA.cons oX12_fitsAs_37 (oA.cons oX12_fitsAs_38 (oA.cons oX12_fitsAs_41 (oA.cons oX12_fitsAs_44 (oA.cons oX12_fitsAs_45 (oA.cons oX12_fitsAs_46 (oA.cons oX12_fitsAs_47 (oA.cons oX12_fitsAs_49 (oA.cons oX12_fitsAs_52 (oA.cons oX12_fitsAs_53 (oA.cons oX12_fitsAs_54 (oA.cons oX12_fitsAs_55 (oA.cons oX12_fitsAs_58 (oA.cons oX12_fitsAs_59 (oA.cons oX12_fitsAs_62 (oA.cons oX12_fitsAs_63 (oA.cons oX12_fitsAs_66 (oA.cons oX12_fitsAs_67 (oA.cons oX12_fitsAs_68 (oA.cons oX12_fitsAs_69 (oA.cons oX12_fitsAs_70 (oA.cons oX12_fitsAs_71 (oA.cons oX12_fitsAs_74 (oA.cons oX12_fitsAs_75 (oA.cons oX12_fitsAs_78 (oA.cons oX12_fitsAs_79 (oA.cons oX12_fitsAs_82 (oA.cons oX12_fitsAs_83 oA.nil))))))))))))))))))))))))))))))))))))))))))))))))))
theorem dX12_key_0 : decode cX12_key 0 = .ok (.iload_n 1, 1) := by decide +kernel
theorem dX12_key_1 : decode cX12_key 1 = .ok (.iconst 1, 1) := by decide +kernel
theorem dX12_key_2 : decode cX12_key 2 = .ok (.iconst 5, 1) := by decide +kernel
theorem dX12_key_3 : decode cX12_key 3 = .ok (.invokestatic 71, 3) := by decide +kernel
theorem dX12_key_6 : decode cX12_key 6 = .ok (.ifCond .eq 28, 3) := by decide +kernel
theorem dX12_key_9 : decode cX12_key 9 = .ok (.iload_n 2, 1) := by decide +kernel
theorem dX12_key_10 : decode cX12_key 10 = .ok (.iconst 0, 1) := by decide +kernel
theorem dX12_key_11 : decode cX12_key 11 = .ok (.bipush 99, 2) := by decide +kernel
theorem dX12_key_13 : decode cX12_key 13 = .ok (.invokestatic 71, 3) := by decide +kernel
theorem dX12_key_16 : decode cX12_key 16 = .ok (.ifCond .eq 18, 3) := by decide +kernel
theorem dX12_key_19 : decode cX12_key 19 = .ok (.iload_n 3, 1) := by decide +kernel
theorem dX12_key_20 : decode cX12_key 20 = .ok (.invokestatic 217, 3) := by decide +kernel
theorem dX12_key_23 : decode cX12_key 23 = .ok (.ifCond .eq 11, 3) := by decide +kernel
theorem dX12_key_26 : decode cX12_key 26 = .ok (.iload 4, 2) := by decide +kernel
theorem dX12_key_28 : decode cX12_key 28 = .ok (.invokestatic 220, 3) := by decide +kernel
theorem dX12_key_31 : decode cX12_key 31 = .ok (.ifCond .ne 5, 3) := by decide +kernel
theorem dX12_key_34 : decode cX12_key 34 = .ok (.iconst (-1), 1) := by decide +kernel
theorem dX12_key_35 : decode cX12_key 35 = .ok (.ireturn, 1) := by decide +kernel
theorem dX12_key_36 : decode cX12_key 36 = .ok (.aload_n 0, 1) := by decide +kernel
theorem dX12_key_37 : decode cX12_key 37 = .ok (.getfield 9, 3) := by decide +kernel
theorem dX12_key_40 : decode cX12_key 40 = .ok (.iconst 4, 1) := by decide +kernel
theorem dX12_key_41 : decode cX12_key 41 = .ok (.iaload, 1) := by decide +kernel
theorem dX12_key_42 : decode cX12_key 42 = .ok (.bipush 6, 2) := by decide +kernel
theorem dX12_key_44 : decode cX12_key 44 = .ok (.if_icmp .ne 6, 3) := by decide +kernel
theorem dX12_key_47 : decode cX12_key 47 = .ok (.bipush (-2), 2) := by decide +kernel
theorem dX12_key_49 : decode cX12_key 49 = .ok (.ireturn, 1) := by decide +kernel
theorem dX12_key_50 : decode cX12_key 50 = .ok (.aload_n 0, 1) := by decide +kernel
theorem dX12_key_51 : decode cX12_key 51 = .ok (.getfield 9, 3) := by decide +kernel
theorem dX12_key_54 : decode cX12_key 54 = .ok (.iconst 4, 1) := by decide +kernel
theorem dX12_key_55 : decode cX12_key 55 = .ok (.iaload, 1) := by decide +kernel
theorem dX12_key_56 : decode cX12_key 56 = .ok (.istore 5, 2) := by decide +kernel
theorem dX12_key_58 : decode cX12_key 58 = .ok (.aload_n 0, 1) := by decide +kernel
theorem dX12_key_59 : decode cX12_key 59 = .ok (.iload 5, 2) := by decide +kernel
theorem dX12_key_61 : decode cX12_key 61 = .ok (.iconst 0, 1) := by decide +kernel
theorem dX12_key_62 : decode cX12_key 62 = .ok (.iload_n 1, 1) := by decide +kernel
theorem dX12_key_63 : decode cX12_key 63 = .ok (.invokevirtual 195, 3) := by decide +kernel
theorem dX12_key_66 : decode cX12_key 66 = .ok (.aload_n 0, 1) := by decide +kernel
theorem dX12_key_67 : decode cX12_key 67 = .ok (.iload 5, 2) := by decide +kernel
theorem dX12_key_69 : decode cX12_key 69 = .ok (.iconst 1, 1) := by decide +kernel
theorem dX12_key_70 : decode cX12_key 70 = .ok (.iload_n 2, 1) := by decide +kernel
theorem dX12_key_71 : decode cX12_key 71 = .ok (.invokevirtual 195, 3) := by decide +kernel
theorem dX12_key_74 : decode cX12_key 74 = .ok (.aload_n 0, 1) := by decide +kernel
theorem dX12_key_75 : decode cX12_key 75 = .ok (.iload 5, 2) := by decide +kernel
theorem dX12_key_77 : decode cX12_key 77 = .ok (.iconst 2, 1) := by decide +kernel
theorem dX12_key_78 : decode cX12_key 78 = .ok (.iload_n 3, 1) := by decide +kernel
theorem dX12_key_79 : decode cX12_key 79 = .ok (.invokevirtual 195, 3) := by decide +kernel
theorem dX12_key_82 : decode cX12_key 82 = .ok (.aload_n 0, 1) := by decide +kernel
theorem dX12_key_83 : decode cX12_key 83 = .ok (.iload 5, 2) := by decide +kernel
theorem dX12_key_85 : decode cX12_key 85 = .ok (.iconst 3, 1) := by decide +kernel
theorem dX12_key_86 : decode cX12_key 86 = .ok (.iload 4, 2) := by decide +kernel
theorem dX12_key_88 : decode cX12_key 88 = .ok (.invokevirtual 195, 3) := by decide +kernel
theorem dX12_key_91 : decode cX12_key 91 = .ok (.aload_n 0, 1) := by decide +kernel
theorem dX12_key_92 : decode cX12_key 92 = .ok (.iload 5, 2) := by decide +kernel
theorem dX12_key_94 : decode cX12_key 94 = .ok (.iconst 4, 1) := by decide +kernel
theorem dX12_key_95 : decode cX12_key 95 = .ok (.iconst 0, 1) := by decide +kernel
theorem dX12_key_96 : decode cX12_key 96 = .ok (.invokevirtual 195, 3) := by decide +kernel
theorem dX12_key_99 : decode cX12_key 99 = .ok (.aload_n 0, 1) := by decide +kernel
theorem dX12_key_100 : decode cX12_key 100 = .ok (.getfield 9, 3) := by decide +kernel
theorem dX12_key_103 : decode cX12_key 103 = .ok (.iconst 4, 1) := by decide +kernel
theorem dX12_key_104 : decode cX12_key 104 = .ok (.dup2, 1) := by decide +kernel
theorem dX12_key_105 : decode cX12_key 105 = .ok (.iaload, 1) := by decide +kernel
theorem dX12_key_106 : decode cX12_key 106 = .ok (.iconst 1, 1) := by decide +kernel
theorem dX12_key_107 : decode cX12_key 107 = .ok (.iadd, 1) := by decide +kernel
theorem dX12_key_108 : decode cX12_key 108 = .ok (.iastore, 1) := by decide +kernel
theorem dX12_key_109 : decode cX12_key 109 = .ok (.iload 5, 2) := by decide +kernel
theorem dX12_key_111 : decode cX12_key 111 = .ok (.ireturn, 1) := by decide +kernel
theorem oX12_key_0 : oP MT mX12_key 0 (1, 1, 1, 0, []) := o_iload_n dX12_key_0 rfl
theorem oX12_key_1 : oP MT mX12_key 1 (0, 1, 0, 1, []) := o_iconst dX12_key_1 (by decide)
theorem oX12_key_2 : oP MT mX12_key 2 (0, 1, 0, 5, []) := o_iconst dX12_key_2 (by decide)
theorem oX12_key_3 : oP MT mX12_key 3 (25, 3, 127, 3, []) := o_callS dX12_key_3 (mj := mX12_in1) mt_X12_in1 cmq_X12_in1 wq_468 wq_470 (by decide) (by decide)
theorem oX12_key_6 : oP MT mX12_key 6 (10, 3, 0, 34, []) := o_if_eq dX12_key_6 (by decide) (by decide)
theorem oX12_key_9 : oP MT mX12_key 9 (1, 1, 2, 0, []) := o_iload_n dX12_key_9 rfl
theorem oX12_key_10 : oP MT mX12_key 10 (0, 1, 0, 0, []) := o_iconst dX12_key_10 (by decide)
theorem oX12_key_11 : oP MT mX12_key 11 (0, 2, 0, 99, []) := o_bipush dX12_key_11 (by decide)
theorem oX12_key_13 : oP MT mX12_key 13 (25, 3, 127, 3, []) := o_callS dX12_key_13 (mj := mX12_in1) mt_X12_in1 cmq_X12_in1 wq_468 wq_470 (by decide) (by decide)
theorem oX12_key_16 : oP MT mX12_key 16 (10, 3, 0, 34, []) := o_if_eq dX12_key_16 (by decide) (by decide)
theorem oX12_key_19 : oP MT mX12_key 19 (1, 1, 3, 0, []) := o_iload_n dX12_key_19 rfl
theorem oX12_key_20 : oP MT mX12_key 20 (25, 3, 187, 1, []) := o_callS dX12_key_20 (mj := mX12_isDigit) mt_X12_isDigit cmq_X12_isDigit wq_647 wq_649 (by decide) (by decide)
theorem oX12_key_23 : oP MT mX12_key 23 (10, 3, 0, 34, []) := o_if_eq dX12_key_23 (by decide) (by decide)
theorem oX12_key_26 : oP MT mX12_key 26 (1, 2, 4, 0, []) := o_iload dX12_key_26
theorem oX12_key_28 : oP MT mX12_key 28 (25, 3, 188, 1, []) := o_callS dX12_key_28 (mj := mX12_isGate) mt_X12_isGate cmq_X12_isGate wq_650 wq_652 (by decide) (by decide)
theorem oX12_key_31 : oP MT mX12_key 31 (10, 3, 1, 36, []) := o_if_ne dX12_key_31 (by decide) (by decide)
theorem oX12_key_34 : oP MT mX12_key 34 (0, 1, 0, (-1), []) := o_iconst dX12_key_34 (by decide)
theorem oX12_key_35 : oP MT mX12_key 35 (21, 1, 0, 0, []) := o_iret dX12_key_35 rfl
theorem oX12_key_36 : oP MT mX12_key 36 (1, 1, 0, 1, []) := o_aload_n dX12_key_36 rfl
theorem oX12_key_37 : oP MT mX12_key 37 (13, 3, 0, 12, []) := o_getR (M := mX12_key) (C := RX12) (T := TX12) (ci := 12) (j := 0) (z := 12) dX12_key_37 rfl lq_RX12_9 rfl rfl
theorem oX12_key_40 : oP MT mX12_key 40 (0, 1, 0, 4, []) := o_iconst dX12_key_40 (by decide)
theorem oX12_key_41 : oP MT mX12_key 41 (16, 1, 1, 0, []) := o_iaload dX12_key_41
theorem oX12_key_42 : oP MT mX12_key 42 (0, 2, 0, 6, []) := o_bipush dX12_key_42 (by decide)
theorem oX12_key_44 : oP MT mX12_key 44 (11, 3, 1, 50, []) := o_icmp_ne dX12_key_44 (by decide) (by decide)
theorem oX12_key_47 : oP MT mX12_key 47 (0, 2, 0, (-2), []) := o_bipush dX12_key_47 (by decide)
theorem oX12_key_49 : oP MT mX12_key 49 (21, 1, 0, 0, []) := o_iret dX12_key_49 rfl
theorem oX12_key_50 : oP MT mX12_key 50 (1, 1, 0, 1, []) := o_aload_n dX12_key_50 rfl
theorem oX12_key_51 : oP MT mX12_key 51 (13, 3, 0, 12, []) := o_getR (M := mX12_key) (C := RX12) (T := TX12) (ci := 12) (j := 0) (z := 12) dX12_key_51 rfl lq_RX12_9 rfl rfl
theorem oX12_key_54 : oP MT mX12_key 54 (0, 1, 0, 4, []) := o_iconst dX12_key_54 (by decide)
theorem oX12_key_55 : oP MT mX12_key 55 (16, 1, 1, 0, []) := o_iaload dX12_key_55
theorem oX12_key_56 : oP MT mX12_key 56 (2, 2, 5, 0, []) := o_istore dX12_key_56 (by decide)
theorem oX12_key_58 : oP MT mX12_key 58 (1, 1, 0, 1, []) := o_aload_n dX12_key_58 rfl
theorem oX12_key_59 : oP MT mX12_key 59 (1, 2, 5, 0, []) := o_iload dX12_key_59
theorem oX12_key_61 : oP MT mX12_key 61 (0, 1, 0, 0, []) := o_iconst dX12_key_61 (by decide)
theorem oX12_key_62 : oP MT mX12_key 62 (1, 1, 1, 0, []) := o_iload_n dX12_key_62 rfl
theorem oX12_key_63 : oP MT mX12_key 63 (26, 3, 0, 3, [(12, 141)]) := o_callO ((vA.cons (v_callV dX12_key_63 (ci := 12) rfl rfl (mj := mX12_puts) mt_X12_puts cmq_X12_puts wq_523 wq_525 wq_526 (by decide) (by decide)) vA.nil))
theorem oX12_key_66 : oP MT mX12_key 66 (1, 1, 0, 1, []) := o_aload_n dX12_key_66 rfl
theorem oX12_key_67 : oP MT mX12_key 67 (1, 2, 5, 0, []) := o_iload dX12_key_67
theorem oX12_key_69 : oP MT mX12_key 69 (0, 1, 0, 1, []) := o_iconst dX12_key_69 (by decide)
theorem oX12_key_70 : oP MT mX12_key 70 (1, 1, 2, 0, []) := o_iload_n dX12_key_70 rfl
theorem oX12_key_71 : oP MT mX12_key 71 (26, 3, 0, 3, [(12, 141)]) := o_callO ((vA.cons (v_callV dX12_key_71 (ci := 12) rfl rfl (mj := mX12_puts) mt_X12_puts cmq_X12_puts wq_523 wq_525 wq_526 (by decide) (by decide)) vA.nil))
theorem oX12_key_74 : oP MT mX12_key 74 (1, 1, 0, 1, []) := o_aload_n dX12_key_74 rfl
theorem oX12_key_75 : oP MT mX12_key 75 (1, 2, 5, 0, []) := o_iload dX12_key_75
theorem oX12_key_77 : oP MT mX12_key 77 (0, 1, 0, 2, []) := o_iconst dX12_key_77 (by decide)
theorem oX12_key_78 : oP MT mX12_key 78 (1, 1, 3, 0, []) := o_iload_n dX12_key_78 rfl
theorem oX12_key_79 : oP MT mX12_key 79 (26, 3, 0, 3, [(12, 141)]) := o_callO ((vA.cons (v_callV dX12_key_79 (ci := 12) rfl rfl (mj := mX12_puts) mt_X12_puts cmq_X12_puts wq_523 wq_525 wq_526 (by decide) (by decide)) vA.nil))
theorem oX12_key_82 : oP MT mX12_key 82 (1, 1, 0, 1, []) := o_aload_n dX12_key_82 rfl
theorem oX12_key_83 : oP MT mX12_key 83 (1, 2, 5, 0, []) := o_iload dX12_key_83
theorem oX12_key_85 : oP MT mX12_key 85 (0, 1, 0, 3, []) := o_iconst dX12_key_85 (by decide)
theorem oX12_key_86 : oP MT mX12_key 86 (1, 2, 4, 0, []) := o_iload dX12_key_86
theorem oX12_key_88 : oP MT mX12_key 88 (26, 3, 0, 3, [(12, 141)]) := o_callO ((vA.cons (v_callV dX12_key_88 (ci := 12) rfl rfl (mj := mX12_puts) mt_X12_puts cmq_X12_puts wq_523 wq_525 wq_526 (by decide) (by decide)) vA.nil))
theorem oX12_key_91 : oP MT mX12_key 91 (1, 1, 0, 1, []) := o_aload_n dX12_key_91 rfl
theorem oX12_key_92 : oP MT mX12_key 92 (1, 2, 5, 0, []) := o_iload dX12_key_92
theorem oX12_key_94 : oP MT mX12_key 94 (0, 1, 0, 4, []) := o_iconst dX12_key_94 (by decide)
theorem oX12_key_95 : oP MT mX12_key 95 (0, 1, 0, 0, []) := o_iconst dX12_key_95 (by decide)
theorem oX12_key_96 : oP MT mX12_key 96 (26, 3, 0, 3, [(12, 141)]) := o_callO ((vA.cons (v_callV dX12_key_96 (ci := 12) rfl rfl (mj := mX12_puts) mt_X12_puts cmq_X12_puts wq_523 wq_525 wq_526 (by decide) (by decide)) vA.nil))
theorem oX12_key_99 : oP MT mX12_key 99 (1, 1, 0, 1, []) := o_aload_n dX12_key_99 rfl
theorem oX12_key_100 : oP MT mX12_key 100 (13, 3, 0, 12, []) := o_getR (M := mX12_key) (C := RX12) (T := TX12) (ci := 12) (j := 0) (z := 12) dX12_key_100 rfl lq_RX12_9 rfl rfl
theorem oX12_key_103 : oP MT mX12_key 103 (0, 1, 0, 4, []) := o_iconst dX12_key_103 (by decide)
theorem oX12_key_104 : oP MT mX12_key 104 (7, 1, 0, 0, []) := o_dup2 dX12_key_104
theorem oX12_key_105 : oP MT mX12_key 105 (16, 1, 1, 0, []) := o_iaload dX12_key_105
theorem oX12_key_106 : oP MT mX12_key 106 (0, 1, 0, 1, []) := o_iconst dX12_key_106 (by decide)
theorem oX12_key_107 : oP MT mX12_key 107 (4, 1, 0, 0, []) := o_iadd dX12_key_107
theorem oX12_key_108 : oP MT mX12_key 108 (18, 1, 0, 0, []) := o_iastore dX12_key_108
theorem oX12_key_109 : oP MT mX12_key 109 (1, 2, 5, 0, []) := o_iload dX12_key_109
theorem oX12_key_111 : oP MT mX12_key 111 (21, 1, 0, 0, []) := o_iret dX12_key_111 rfl
def ops_X12_key : List (Nat × aO) := [(0, (1, 1, 1, 0, [])), (1, (0, 1, 0, 1, [])), (2, (0, 1, 0, 5, [])), (3, (25, 3, 127, 3, [])), (6, (10, 3, 0, 34, [])), (9, (1, 1, 2, 0, [])), (10, (0, 1, 0, 0, [])), (11, (0, 2, 0, 99, [])), (13, (25, 3, 127, 3, [])), (16, (10, 3, 0, 34, [])), (19, (1, 1, 3, 0, [])), (20, (25, 3, 187, 1, [])), (23, (10, 3, 0, 34, [])), (26, (1, 2, 4, 0, [])), (28, (25, 3, 188, 1, [])), (31, (10, 3, 1, 36, [])), (34, (0, 1, 0, (-1), [])), (35, (21, 1, 0, 0, [])), (36, (1, 1, 0, 1, [])), (37, (13, 3, 0, 12, [])), (40, (0, 1, 0, 4, [])), (41, (16, 1, 1, 0, [])), (42, (0, 2, 0, 6, [])), (44, (11, 3, 1, 50, [])), (47, (0, 2, 0, (-2), [])), (49, (21, 1, 0, 0, [])), (50, (1, 1, 0, 1, [])), (51, (13, 3, 0, 12, [])), (54, (0, 1, 0, 4, [])), (55, (16, 1, 1, 0, [])), (56, (2, 2, 5, 0, [])), (58, (1, 1, 0, 1, [])), (59, (1, 2, 5, 0, [])), (61, (0, 1, 0, 0, [])), (62, (1, 1, 1, 0, [])), (63, (26, 3, 0, 3, [(12, 141)])), (66, (1, 1, 0, 1, [])), (67, (1, 2, 5, 0, [])), (69, (0, 1, 0, 1, [])), (70, (1, 1, 2, 0, [])), (71, (26, 3, 0, 3, [(12, 141)])), (74, (1, 1, 0, 1, [])), (75, (1, 2, 5, 0, [])), (77, (0, 1, 0, 2, [])), (78, (1, 1, 3, 0, [])), (79, (26, 3, 0, 3, [(12, 141)])), (82, (1, 1, 0, 1, [])), (83, (1, 2, 5, 0, [])), (85, (0, 1, 0, 3, [])), (86, (1, 2, 4, 0, [])), (88, (26, 3, 0, 3, [(12, 141)])), (91, (1, 1, 0, 1, [])), (92, (1, 2, 5, 0, [])), (94, (0, 1, 0, 4, [])), (95, (0, 1, 0, 0, [])), (96, (26, 3, 0, 3, [(12, 141)])), (99, (1, 1, 0, 1, [])), (100, (13, 3, 0, 12, [])), (103, (0, 1, 0, 4, [])), (104, (7, 1, 0, 0, [])), (105, (16, 1, 1, 0, [])), (106, (0, 1, 0, 1, [])), (107, (4, 1, 0, 0, [])), (108, (18, 1, 0, 0, [])), (109, (1, 2, 5, 0, [])), (111, (21, 1, 0, 0, []))]
theorem os_X12_key : oA MT mX12_key ops_X12_key := (oA.cons oX12_key_0 (oA.cons oX12_key_1 (oA.cons oX12_key_2 (oA.cons oX12_key_3 (oA.cons oX12_key_6 (oA.cons oX12_key_9 (oA.cons oX12_key_10 (oA.cons oX12_key_11 (oA.cons oX12_key_13 (oA.cons oX12_key_16 (oA.cons oX12_key_19 (oA.cons oX12_key_20 (oA.cons oX12_key_23 (oA.cons oX12_key_26 (oA.cons oX12_key_28 (oA.cons oX12_key_31 (oA.cons oX12_key_34 (oA.cons oX12_key_35 (oA.cons oX12_key_36 (oA.cons oX12_key_37 (oA.cons oX12_key_40 (oA.cons oX12_key_41 (oA.cons oX12_key_42 (oA.cons oX12_key_44 (oA.cons oX12_key_47 (oA.cons oX12_key_49 (oA.cons oX12_key_50 (oA.cons oX12_key_51 (oA.cons oX12_key_54 (oA.cons oX12_key_55 (oA.cons oX12_key_56 (oA.cons oX12_key_58 (oA.cons oX12_key_59 (oA.cons oX12_key_61 (oA.cons oX12_key_62 (oA.cons oX12_key_63 (oA.cons oX12_key_66 (oA.cons oX12_key_67 (oA.cons oX12_key_69 (oA.cons oX12_key_70 (oA.cons oX12_key_71 (oA.cons oX12_key_74 (oA.cons oX12_key_75 (oA.cons oX12_key_77 (oA.cons oX12_key_78 (oA.cons oX12_key_79 (oA.cons oX12_key_82 (oA.cons oX12_key_83 (oA.cons oX12_key_85 (oA.cons oX12_key_86 (oA.cons oX12_key_88 (oA.cons oX12_key_91 (oA.cons oX12_key_92 (oA.cons oX12_key_94 (oA.cons oX12_key_95 (oA.cons oX12_key_96 (oA.cons oX12_key_99 (oA.cons oX12_key_100 (oA.cons oX12_key_103 (oA.cons oX12_key_104 (oA.cons oX12_key_105 (oA.cons oX12_key_106 (oA.cons oX12_key_107 (oA.cons oX12_key_108 (oA.cons oX12_key_109 (oA.cons oX12_key_111 oA.nil))))))))))))))))))))))))))))))))))))))))))))))))))))))))))))))))))
theorem dX12_isDigit_0 : decode cX12_isDigit 0 = .ok (.iload_n 0, 1) := by decide +kernel
theorem dX12_isDigit_1 : decode cX12_isDigit 1 = .ok (.iconst 0, 1) := by decide +kernel
theorem dX12_isDigit_2 : decode cX12_isDigit 2 = .ok (.bipush 9, 2) := by decide +kernel
theorem dX12_isDigit_4 : decode cX12_isDigit 4 = .ok (.invokestatic 71, 3) := by decide +kernel
theorem dX12_isDigit_7 : decode cX12_isDigit 7 = .ok (.ireturn, 1) := by decide +kernel
theorem oX12_isDigit_0 : oP MT mX12_isDigit 0 (1, 1, 0, 0, []) := o_iload_n dX12_isDigit_0 rfl
theorem oX12_isDigit_1 : oP MT mX12_isDigit 1 (0, 1, 0, 0, []) := o_iconst dX12_isDigit_1 (by decide)
theorem oX12_isDigit_2 : oP MT mX12_isDigit 2 (0, 2, 0, 9, []) := o_bipush dX12_isDigit_2 (by decide)
theorem oX12_isDigit_4 : oP MT mX12_isDigit 4 (25, 3, 127, 3, []) := o_callS dX12_isDigit_4 (mj := mX12_in1) mt_X12_in1 cmq_X12_in1 wq_468 wq_470 (by decide) (by decide)
theorem oX12_isDigit_7 : oP MT mX12_isDigit 7 (22, 1, 0, 0, []) := o_zret dX12_isDigit_7 rfl
def ops_X12_isDigit : List (Nat × aO) := [(0, (1, 1, 0, 0, [])), (1, (0, 1, 0, 0, [])), (2, (0, 2, 0, 9, [])), (4, (25, 3, 127, 3, [])), (7, (22, 1, 0, 0, []))]
theorem os_X12_isDigit : oA MT mX12_isDigit ops_X12_isDigit := (oA.cons oX12_isDigit_0 (oA.cons oX12_isDigit_1 (oA.cons oX12_isDigit_2 (oA.cons oX12_isDigit_4 (oA.cons oX12_isDigit_7 oA.nil)))))
theorem dX12_isGate_0 : decode cX12_isGate 0 = .ok (.iload_n 0, 1) := by decide +kernel
theorem dX12_isGate_1 : decode cX12_isGate 1 = .ok (.iconst 0, 1) := by decide +kernel
theorem dX12_isGate_2 : decode cX12_isGate 2 = .ok (.iconst 5, 1) := by decide +kernel
theorem dX12_isGate_3 : decode cX12_isGate 3 = .ok (.invokestatic 71, 3) := by decide +kernel
theorem dX12_isGate_6 : decode cX12_isGate 6 = .ok (.ireturn, 1) := by decide +kernel
theorem oX12_isGate_0 : oP MT mX12_isGate 0 (1, 1, 0, 0, []) := o_iload_n dX12_isGate_0 rfl
theorem oX12_isGate_1 : oP MT mX12_isGate 1 (0, 1, 0, 0, []) := o_iconst dX12_isGate_1 (by decide)
theorem oX12_isGate_2 : oP MT mX12_isGate 2 (0, 1, 0, 5, []) := o_iconst dX12_isGate_2 (by decide)
theorem oX12_isGate_3 : oP MT mX12_isGate 3 (25, 3, 127, 3, []) := o_callS dX12_isGate_3 (mj := mX12_in1) mt_X12_in1 cmq_X12_in1 wq_468 wq_470 (by decide) (by decide)
theorem oX12_isGate_6 : oP MT mX12_isGate 6 (22, 1, 0, 0, []) := o_zret dX12_isGate_6 rfl
def ops_X12_isGate : List (Nat × aO) := [(0, (1, 1, 0, 0, [])), (1, (0, 1, 0, 0, [])), (2, (0, 1, 0, 5, [])), (3, (25, 3, 127, 3, [])), (6, (22, 1, 0, 0, []))]
theorem os_X12_isGate : oA MT mX12_isGate ops_X12_isGate := (oA.cons oX12_isGate_0 (oA.cons oX12_isGate_1 (oA.cons oX12_isGate_2 (oA.cons oX12_isGate_3 (oA.cons oX12_isGate_6 oA.nil)))))
theorem dX12_keyOf_0 : decode cX12_keyOf 0 = .ok (.aload_n 0, 1) := by decide +kernel
theorem dX12_keyOf_1 : decode cX12_keyOf 1 = .ok (.iload_n 1, 1) := by decide +kernel
theorem dX12_keyOf_2 : decode cX12_keyOf 2 = .ok (.invokevirtual 223, 3) := by decide +kernel
theorem dX12_keyOf_5 : decode cX12_keyOf 5 = .ok (.ifCond .eq 13, 3) := by decide +kernel
theorem dX12_keyOf_8 : decode cX12_keyOf 8 = .ok (.iload_n 2, 1) := by decide +kernel
theorem dX12_keyOf_9 : decode cX12_keyOf 9 = .ok (.iconst 0, 1) := by decide +kernel
theorem dX12_keyOf_10 : decode cX12_keyOf 10 = .ok (.bipush 9, 2) := by decide +kernel
theorem dX12_keyOf_12 : decode cX12_keyOf 12 = .ok (.invokestatic 71, 3) := by decide +kernel
theorem dX12_keyOf_15 : decode cX12_keyOf 15 = .ok (.ifCond .ne 5, 3) := by decide +kernel
theorem dX12_keyOf_18 : decode cX12_keyOf 18 = .ok (.iconst (-1), 1) := by decide +kernel
theorem dX12_keyOf_19 : decode cX12_keyOf 19 = .ok (.ireturn, 1) := by decide +kernel
theorem dX12_keyOf_20 : decode cX12_keyOf 20 = .ok (.iload_n 2, 1) := by decide +kernel
theorem dX12_keyOf_21 : decode cX12_keyOf 21 = .ok (.tableswitch 73 5 9 #[35, 41, 47, 53, 67], 35) := by decide +kernel
theorem dX12_keyOf_56 : decode cX12_keyOf 56 = .ok (.aload_n 0, 1) := by decide +kernel
theorem dX12_keyOf_57 : decode cX12_keyOf 57 = .ok (.iload_n 1, 1) := by decide +kernel
theorem dX12_keyOf_58 : decode cX12_keyOf 58 = .ok (.invokevirtual 214, 3) := by decide +kernel
theorem dX12_keyOf_61 : decode cX12_keyOf 61 = .ok (.ireturn, 1) := by decide +kernel
theorem dX12_keyOf_62 : decode cX12_keyOf 62 = .ok (.aload_n 0, 1) := by decide +kernel
theorem dX12_keyOf_63 : decode cX12_keyOf 63 = .ok (.iload_n 1, 1) := by decide +kernel
theorem dX12_keyOf_64 : decode cX12_keyOf 64 = .ok (.invokevirtual 94, 3) := by decide +kernel
theorem dX12_keyOf_67 : decode cX12_keyOf 67 = .ok (.ireturn, 1) := by decide +kernel
theorem dX12_keyOf_68 : decode cX12_keyOf 68 = .ok (.aload_n 0, 1) := by decide +kernel
theorem dX12_keyOf_69 : decode cX12_keyOf 69 = .ok (.iload_n 1, 1) := by decide +kernel
theorem dX12_keyOf_70 : decode cX12_keyOf 70 = .ok (.invokevirtual 107, 3) := by decide +kernel
theorem dX12_keyOf_73 : decode cX12_keyOf 73 = .ok (.ireturn, 1) := by decide +kernel
theorem dX12_keyOf_74 : decode cX12_keyOf 74 = .ok (.aload_n 0, 1) := by decide +kernel
theorem dX12_keyOf_75 : decode cX12_keyOf 75 = .ok (.iload_n 1, 1) := by decide +kernel
theorem dX12_keyOf_76 : decode cX12_keyOf 76 = .ok (.invokevirtual 205, 3) := by decide +kernel
theorem dX12_keyOf_79 : decode cX12_keyOf 79 = .ok (.ifCond .eq 7, 3) := by decide +kernel
theorem dX12_keyOf_82 : decode cX12_keyOf 82 = .ok (.iconst 1, 1) := by decide +kernel
theorem dX12_keyOf_83 : decode cX12_keyOf 83 = .ok (.goto 4, 3) := by decide +kernel
theorem dX12_keyOf_86 : decode cX12_keyOf 86 = .ok (.iconst 0, 1) := by decide +kernel
theorem dX12_keyOf_87 : decode cX12_keyOf 87 = .ok (.ireturn, 1) := by decide +kernel
theorem dX12_keyOf_88 : decode cX12_keyOf 88 = .ok (.aload_n 0, 1) := by decide +kernel
theorem dX12_keyOf_89 : decode cX12_keyOf 89 = .ok (.iload_n 1, 1) := by decide +kernel
theorem dX12_keyOf_90 : decode cX12_keyOf 90 = .ok (.invokevirtual 104, 3) := by decide +kernel
theorem dX12_keyOf_93 : decode cX12_keyOf 93 = .ok (.ireturn, 1) := by decide +kernel
theorem dX12_keyOf_94 : decode cX12_keyOf 94 = .ok (.aload_n 0, 1) := by decide +kernel
theorem dX12_keyOf_95 : decode cX12_keyOf 95 = .ok (.iload_n 1, 1) := by decide +kernel
theorem dX12_keyOf_96 : decode cX12_keyOf 96 = .ok (.iload_n 2, 1) := by decide +kernel
theorem dX12_keyOf_97 : decode cX12_keyOf 97 = .ok (.invokevirtual 79, 3) := by decide +kernel
theorem dX12_keyOf_100 : decode cX12_keyOf 100 = .ok (.ireturn, 1) := by decide +kernel
theorem oX12_keyOf_0 : oP MT mX12_keyOf 0 (1, 1, 0, 1, []) := o_aload_n dX12_keyOf_0 rfl
theorem oX12_keyOf_1 : oP MT mX12_keyOf 1 (1, 1, 1, 0, []) := o_iload_n dX12_keyOf_1 rfl
theorem oX12_keyOf_2 : oP MT mX12_keyOf 2 (26, 3, 0, 1, [(12, 149)]) := o_callO ((vA.cons (v_callV dX12_keyOf_2 (ci := 12) rfl rfl (mj := mX12_isKey) mt_X12_isKey cmq_X12_isKey wq_565 wq_567 wq_568 (by decide) (by decide)) vA.nil))
theorem oX12_keyOf_5 : oP MT mX12_keyOf 5 (10, 3, 0, 18, []) := o_if_eq dX12_keyOf_5 (by decide) (by decide)
theorem oX12_keyOf_8 : oP MT mX12_keyOf 8 (1, 1, 2, 0, []) := o_iload_n dX12_keyOf_8 rfl
theorem oX12_keyOf_9 : oP MT mX12_keyOf 9 (0, 1, 0, 0, []) := o_iconst dX12_keyOf_9 (by decide)
theorem oX12_keyOf_10 : oP MT mX12_keyOf 10 (0, 2, 0, 9, []) := o_bipush dX12_keyOf_10 (by decide)
theorem oX12_keyOf_12 : oP MT mX12_keyOf 12 (25, 3, 127, 3, []) := o_callS dX12_keyOf_12 (mj := mX12_in1) mt_X12_in1 cmq_X12_in1 wq_468 wq_470 (by decide) (by decide)
theorem oX12_keyOf_15 : oP MT mX12_keyOf 15 (10, 3, 1, 20, []) := o_if_ne dX12_keyOf_15 (by decide) (by decide)
theorem oX12_keyOf_18 : oP MT mX12_keyOf 18 (0, 1, 0, (-1), []) := o_iconst dX12_keyOf_18 (by decide)
theorem oX12_keyOf_19 : oP MT mX12_keyOf 19 (21, 1, 0, 0, []) := o_iret dX12_keyOf_19 rfl
theorem oX12_keyOf_20 : oP MT mX12_keyOf 20 (1, 1, 2, 0, []) := o_iload_n dX12_keyOf_20 rfl
theorem oX12_keyOf_21 : oP MT mX12_keyOf 21 (24, 35, 94, 0, [(5, 56), (6, 62), (7, 68), (8, 74), (9, 88)]) := o_table dX12_keyOf_21 rfl (by decide) (by decide) (by decide)
theorem oX12_keyOf_56 : oP MT mX12_keyOf 56 (1, 1, 0, 1, []) := o_aload_n dX12_keyOf_56 rfl
theorem oX12_keyOf_57 : oP MT mX12_keyOf 57 (1, 1, 1, 0, []) := o_iload_n dX12_keyOf_57 rfl
theorem oX12_keyOf_58 : oP MT mX12_keyOf 58 (26, 3, 0, 1, [(12, 147)]) := o_callO ((vA.cons (v_callV dX12_keyOf_58 (ci := 12) rfl rfl (mj := mX12_meltsOf) mt_X12_meltsOf cmq_X12_meltsOf wq_553 wq_555 wq_556 (by decide) (by decide)) vA.nil))
theorem oX12_keyOf_61 : oP MT mX12_keyOf 61 (21, 1, 0, 0, []) := o_iret dX12_keyOf_61 rfl
theorem oX12_keyOf_62 : oP MT mX12_keyOf 62 (1, 1, 0, 1, []) := o_aload_n dX12_keyOf_62 rfl
theorem oX12_keyOf_63 : oP MT mX12_keyOf 63 (1, 1, 1, 0, []) := o_iload_n dX12_keyOf_63 rfl
theorem oX12_keyOf_64 : oP MT mX12_keyOf 64 (26, 3, 0, 1, [(12, 123)]) := o_callO ((vA.cons (v_callV dX12_keyOf_64 (ci := 12) rfl rfl (mj := mX12_shapeOf) mt_X12_shapeOf cmq_X12_shapeOf wq_454 wq_456 wq_457 (by decide) (by decide)) vA.nil))
theorem oX12_keyOf_67 : oP MT mX12_keyOf 67 (21, 1, 0, 0, []) := o_iret dX12_keyOf_67 rfl
theorem oX12_keyOf_68 : oP MT mX12_keyOf 68 (1, 1, 0, 1, []) := o_aload_n dX12_keyOf_68 rfl
theorem oX12_keyOf_69 : oP MT mX12_keyOf 69 (1, 1, 1, 0, []) := o_iload_n dX12_keyOf_69 rfl
theorem oX12_keyOf_70 : oP MT mX12_keyOf 70 (26, 3, 0, 1, [(12, 121)]) := o_callO ((vA.cons (v_callV dX12_keyOf_70 (ci := 12) rfl rfl (mj := mX12_paysOf) mt_X12_paysOf cmq_X12_paysOf wq_519 wq_521 wq_522 (by decide) (by decide)) vA.nil))
theorem oX12_keyOf_73 : oP MT mX12_keyOf 73 (21, 1, 0, 0, []) := o_iret dX12_keyOf_73 rfl
theorem oX12_keyOf_74 : oP MT mX12_keyOf 74 (1, 1, 0, 1, []) := o_aload_n dX12_keyOf_74 rfl
theorem oX12_keyOf_75 : oP MT mX12_keyOf 75 (1, 1, 1, 0, []) := o_iload_n dX12_keyOf_75 rfl
theorem oX12_keyOf_76 : oP MT mX12_keyOf 76 (26, 3, 0, 1, [(12, 144)]) := o_callO ((vA.cons (v_callV dX12_keyOf_76 (ci := 12) rfl rfl (mj := mX12_mayTurn) mt_X12_mayTurn cmq_X12_mayTurn wq_531 wq_533 wq_534 (by decide) (by decide)) vA.nil))
theorem oX12_keyOf_79 : oP MT mX12_keyOf 79 (10, 3, 0, 86, []) := o_if_eq dX12_keyOf_79 (by decide) (by decide)
theorem oX12_keyOf_82 : oP MT mX12_keyOf 82 (0, 1, 0, 1, []) := o_iconst dX12_keyOf_82 (by decide)
theorem oX12_keyOf_83 : oP MT mX12_keyOf 83 (9, 3, 87, 0, []) := o_goto dX12_keyOf_83 (by decide)
theorem oX12_keyOf_86 : oP MT mX12_keyOf 86 (0, 1, 0, 0, []) := o_iconst dX12_keyOf_86 (by decide)
theorem oX12_keyOf_87 : oP MT mX12_keyOf 87 (21, 1, 0, 0, []) := o_iret dX12_keyOf_87 rfl
theorem oX12_keyOf_88 : oP MT mX12_keyOf 88 (1, 1, 0, 1, []) := o_aload_n dX12_keyOf_88 rfl
theorem oX12_keyOf_89 : oP MT mX12_keyOf 89 (1, 1, 1, 0, []) := o_iload_n dX12_keyOf_89 rfl
theorem oX12_keyOf_90 : oP MT mX12_keyOf 90 (26, 3, 0, 1, [(12, 120)]) := o_callO ((vA.cons (v_callV dX12_keyOf_90 (ci := 12) rfl rfl (mj := mX12_willOf) mt_X12_willOf cmq_X12_willOf wq_527 wq_529 wq_530 (by decide) (by decide)) vA.nil))
theorem oX12_keyOf_93 : oP MT mX12_keyOf 93 (21, 1, 0, 0, []) := o_iret dX12_keyOf_93 rfl
theorem oX12_keyOf_94 : oP MT mX12_keyOf 94 (1, 1, 0, 1, []) := o_aload_n dX12_keyOf_94 rfl
theorem oX12_keyOf_95 : oP MT mX12_keyOf 95 (1, 1, 1, 0, []) := o_iload_n dX12_keyOf_95 rfl
theorem oX12_keyOf_96 : oP MT mX12_keyOf 96 (1, 1, 2, 0, []) := o_iload_n dX12_keyOf_96 rfl
theorem oX12_keyOf_97 : oP MT mX12_keyOf 97 (26, 3, 0, 2, [(12, 112)]) := o_callO ((vA.cons (v_callV dX12_keyOf_97 (ci := 12) rfl rfl (mj := mX12_get) mt_X12_get cmq_X12_get wq_435 wq_437 wq_438 (by decide) (by decide)) vA.nil))
theorem oX12_keyOf_100 : oP MT mX12_keyOf 100 (21, 1, 0, 0, []) := o_iret dX12_keyOf_100 rfl
def ops_X12_keyOf : List (Nat × aO) := [(0, (1, 1, 0, 1, [])), (1, (1, 1, 1, 0, [])), (2, (26, 3, 0, 1, [(12, 149)])), (5, (10, 3, 0, 18, [])), (8, (1, 1, 2, 0, [])), (9, (0, 1, 0, 0, [])), (10, (0, 2, 0, 9, [])), (12, (25, 3, 127, 3, [])), (15, (10, 3, 1, 20, [])), (18, (0, 1, 0, (-1), [])), (19, (21, 1, 0, 0, [])), (20, (1, 1, 2, 0, [])), (21, (24, 35, 94, 0, [(5, 56), (6, 62), (7, 68), (8, 74), (9, 88)])), (56, (1, 1, 0, 1, [])), (57, (1, 1, 1, 0, [])), (58, (26, 3, 0, 1, [(12, 147)])), (61, (21, 1, 0, 0, [])), (62, (1, 1, 0, 1, [])), (63, (1, 1, 1, 0, [])), (64, (26, 3, 0, 1, [(12, 123)])), (67, (21, 1, 0, 0, [])), (68, (1, 1, 0, 1, [])), (69, (1, 1, 1, 0, [])), (70, (26, 3, 0, 1, [(12, 121)])), (73, (21, 1, 0, 0, [])), (74, (1, 1, 0, 1, [])), (75, (1, 1, 1, 0, [])), (76, (26, 3, 0, 1, [(12, 144)])), (79, (10, 3, 0, 86, [])), (82, (0, 1, 0, 1, [])), (83, (9, 3, 87, 0, [])), (86, (0, 1, 0, 0, [])), (87, (21, 1, 0, 0, [])), (88, (1, 1, 0, 1, [])), (89, (1, 1, 1, 0, [])), (90, (26, 3, 0, 1, [(12, 120)])), (93, (21, 1, 0, 0, [])), (94, (1, 1, 0, 1, [])), (95, (1, 1, 1, 0, [])), (96, (1, 1, 2, 0, [])), (97, (26, 3, 0, 2, [(12, 112)])), (100, (21, 1, 0, 0, []))]
theorem os_X12_keyOf : oA MT mX12_keyOf ops_X12_keyOf := (oA.cons oX12_keyOf_0 (oA.cons oX12_keyOf_1 (oA.cons oX12_keyOf_2 (oA.cons oX12_keyOf_5 (oA.cons oX12_keyOf_8 (oA.cons oX12_keyOf_9 (oA.cons oX12_keyOf_10 (oA.cons oX12_keyOf_12 (oA.cons oX12_keyOf_15 (oA.cons oX12_keyOf_18 (oA.cons oX12_keyOf_19 (oA.cons oX12_keyOf_20 (oA.cons oX12_keyOf_21 (oA.cons oX12_keyOf_56 (oA.cons oX12_keyOf_57 (oA.cons oX12_keyOf_58 (oA.cons oX12_keyOf_61 (oA.cons oX12_keyOf_62 (oA.cons oX12_keyOf_63 (oA.cons oX12_keyOf_64 (oA.cons oX12_keyOf_67 (oA.cons oX12_keyOf_68 (oA.cons oX12_keyOf_69 (oA.cons oX12_keyOf_70 (oA.cons oX12_keyOf_73 (oA.cons oX12_keyOf_74 (oA.cons oX12_keyOf_75 (oA.cons oX12_keyOf_76 (oA.cons oX12_keyOf_79 (oA.cons oX12_keyOf_82 (oA.cons oX12_keyOf_83 (oA.cons oX12_keyOf_86 (oA.cons oX12_keyOf_87 (oA.cons oX12_keyOf_88 (oA.cons oX12_keyOf_89 (oA.cons oX12_keyOf_90 (oA.cons oX12_keyOf_93 (oA.cons oX12_keyOf_94 (oA.cons oX12_keyOf_95 (oA.cons oX12_keyOf_96 (oA.cons oX12_keyOf_97 (oA.cons oX12_keyOf_100 oA.nil))))))))))))))))))))))))))))))))))))))))))
theorem dX12_change_0 : decode cX12_change 0 = .ok (.iload_n 2, 1) := by decide +kernel
theorem dX12_change_1 : decode cX12_change 1 = .ok (.iconst 1, 1) := by decide +kernel
theorem dX12_change_2 : decode cX12_change 2 = .ok (.if_icmp .ne 8, 3) := by decide +kernel
theorem dX12_change_5 : decode cX12_change 5 = .ok (.bipush 99, 2) := by decide +kernel
theorem dX12_change_7 : decode cX12_change 7 = .ok (.goto 23, 3) := by decide +kernel
theorem dX12_change_10 : decode cX12_change 10 = .ok (.iload_n 2, 1) := by decide +kernel
theorem dX12_change_11 : decode cX12_change 11 = .ok (.iconst 3, 1) := by decide +kernel
theorem dX12_change_12 : decode cX12_change 12 = .ok (.if_icmp .ne 7, 3) := by decide +kernel
theorem dX12_change_15 : decode cX12_change 15 = .ok (.iconst 5, 1) := by decide +kernel
theorem dX12_change_16 : decode cX12_change 16 = .ok (.goto 14, 3) := by decide +kernel
theorem dX12_change_19 : decode cX12_change 19 = .ok (.iload_n 2, 1) := by decide +kernel
theorem dX12_change_20 : decode cX12_change 20 = .ok (.iconst 4, 1) := by decide +kernel
theorem dX12_change_21 : decode cX12_change 21 = .ok (.if_icmp .ne 7, 3) := by decide +kernel
theorem dX12_change_24 : decode cX12_change 24 = .ok (.iconst 1, 1) := by decide +kernel
theorem dX12_change_25 : decode cX12_change 25 = .ok (.goto 5, 3) := by decide +kernel
theorem dX12_change_28 : decode cX12_change 28 = .ok (.bipush 9, 2) := by decide +kernel
theorem dX12_change_30 : decode cX12_change 30 = .ok (.istore 4, 2) := by decide +kernel
theorem dX12_change_32 : decode cX12_change 32 = .ok (.aload_n 0, 1) := by decide +kernel
theorem dX12_change_33 : decode cX12_change 33 = .ok (.iload_n 1, 1) := by decide +kernel
theorem dX12_change_34 : decode cX12_change 34 = .ok (.invokevirtual 223, 3) := by decide +kernel
theorem dX12_change_37 : decode cX12_change 37 = .ok (.ifCond .eq 38, 3) := by decide +kernel
theorem dX12_change_40 : decode cX12_change 40 = .ok (.iload_n 2, 1) := by decide +kernel
theorem dX12_change_41 : decode cX12_change 41 = .ok (.iconst 1, 1) := by decide +kernel
theorem dX12_change_42 : decode cX12_change 42 = .ok (.iconst 4, 1) := by decide +kernel
theorem dX12_change_43 : decode cX12_change 43 = .ok (.invokestatic 71, 3) := by decide +kernel
theorem dX12_change_46 : decode cX12_change 46 = .ok (.ifCond .eq 29, 3) := by decide +kernel
theorem dX12_change_49 : decode cX12_change 49 = .ok (.iload_n 3, 1) := by decide +kernel
theorem dX12_change_50 : decode cX12_change 50 = .ok (.iconst 0, 1) := by decide +kernel
theorem dX12_change_51 : decode cX12_change 51 = .ok (.iload 4, 2) := by decide +kernel
theorem dX12_change_53 : decode cX12_change 53 = .ok (.invokestatic 71, 3) := by decide +kernel
theorem dX12_change_56 : decode cX12_change 56 = .ok (.ifCond .eq 19, 3) := by decide +kernel
theorem dX12_change_59 : decode cX12_change 59 = .ok (.aload_n 0, 1) := by decide +kernel
theorem dX12_change_60 : decode cX12_change 60 = .ok (.bipush 35, 2) := by decide +kernel
theorem dX12_change_62 : decode cX12_change 62 = .ok (.iconst 5, 1) := by decide +kernel
theorem dX12_change_63 : decode cX12_change 63 = .ok (.iload_n 1, 1) := by decide +kernel
theorem dX12_change_64 : decode cX12_change 64 = .ok (.imul, 1) := by decide +kernel
theorem dX12_change_65 : decode cX12_change 65 = .ok (.iadd, 1) := by decide +kernel
theorem dX12_change_66 : decode cX12_change 66 = .ok (.iload_n 2, 1) := by decide +kernel
theorem dX12_change_67 : decode cX12_change 67 = .ok (.iadd, 1) := by decide +kernel
theorem dX12_change_68 : decode cX12_change 68 = .ok (.iload_n 3, 1) := by decide +kernel
theorem dX12_change_69 : decode cX12_change 69 = .ok (.invokevirtual 226, 3) := by decide +kernel
theorem dX12_change_72 : decode cX12_change 72 = .ok (.goto 4, 3) := by decide +kernel
theorem dX12_change_75 : decode cX12_change 75 = .ok (.iconst (-1), 1) := by decide +kernel
theorem dX12_change_76 : decode cX12_change 76 = .ok (.ireturn, 1) := by decide +kernel
theorem oX12_change_0 : oP MT mX12_change 0 (1, 1, 2, 0, []) := o_iload_n dX12_change_0 rfl
theorem oX12_change_1 : oP MT mX12_change 1 (0, 1, 0, 1, []) := o_iconst dX12_change_1 (by decide)
theorem oX12_change_2 : oP MT mX12_change 2 (11, 3, 1, 10, []) := o_icmp_ne dX12_change_2 (by decide) (by decide)
theorem oX12_change_5 : oP MT mX12_change 5 (0, 2, 0, 99, []) := o_bipush dX12_change_5 (by decide)
theorem oX12_change_7 : oP MT mX12_change 7 (9, 3, 30, 0, []) := o_goto dX12_change_7 (by decide)
theorem oX12_change_10 : oP MT mX12_change 10 (1, 1, 2, 0, []) := o_iload_n dX12_change_10 rfl
theorem oX12_change_11 : oP MT mX12_change 11 (0, 1, 0, 3, []) := o_iconst dX12_change_11 (by decide)
theorem oX12_change_12 : oP MT mX12_change 12 (11, 3, 1, 19, []) := o_icmp_ne dX12_change_12 (by decide) (by decide)
theorem oX12_change_15 : oP MT mX12_change 15 (0, 1, 0, 5, []) := o_iconst dX12_change_15 (by decide)
theorem oX12_change_16 : oP MT mX12_change 16 (9, 3, 30, 0, []) := o_goto dX12_change_16 (by decide)
theorem oX12_change_19 : oP MT mX12_change 19 (1, 1, 2, 0, []) := o_iload_n dX12_change_19 rfl
theorem oX12_change_20 : oP MT mX12_change 20 (0, 1, 0, 4, []) := o_iconst dX12_change_20 (by decide)
theorem oX12_change_21 : oP MT mX12_change 21 (11, 3, 1, 28, []) := o_icmp_ne dX12_change_21 (by decide) (by decide)
theorem oX12_change_24 : oP MT mX12_change 24 (0, 1, 0, 1, []) := o_iconst dX12_change_24 (by decide)
theorem oX12_change_25 : oP MT mX12_change 25 (9, 3, 30, 0, []) := o_goto dX12_change_25 (by decide)
theorem oX12_change_28 : oP MT mX12_change 28 (0, 2, 0, 9, []) := o_bipush dX12_change_28 (by decide)
theorem oX12_change_30 : oP MT mX12_change 30 (2, 2, 4, 0, []) := o_istore dX12_change_30 (by decide)
theorem oX12_change_32 : oP MT mX12_change 32 (1, 1, 0, 1, []) := o_aload_n dX12_change_32 rfl
theorem oX12_change_33 : oP MT mX12_change 33 (1, 1, 1, 0, []) := o_iload_n dX12_change_33 rfl
theorem oX12_change_34 : oP MT mX12_change 34 (26, 3, 0, 1, [(12, 149)]) := o_callO ((vA.cons (v_callV dX12_change_34 (ci := 12) rfl rfl (mj := mX12_isKey) mt_X12_isKey cmq_X12_isKey wq_565 wq_567 wq_568 (by decide) (by decide)) vA.nil))
theorem oX12_change_37 : oP MT mX12_change 37 (10, 3, 0, 75, []) := o_if_eq dX12_change_37 (by decide) (by decide)
theorem oX12_change_40 : oP MT mX12_change 40 (1, 1, 2, 0, []) := o_iload_n dX12_change_40 rfl
theorem oX12_change_41 : oP MT mX12_change 41 (0, 1, 0, 1, []) := o_iconst dX12_change_41 (by decide)
theorem oX12_change_42 : oP MT mX12_change 42 (0, 1, 0, 4, []) := o_iconst dX12_change_42 (by decide)
theorem oX12_change_43 : oP MT mX12_change 43 (25, 3, 127, 3, []) := o_callS dX12_change_43 (mj := mX12_in1) mt_X12_in1 cmq_X12_in1 wq_468 wq_470 (by decide) (by decide)
theorem oX12_change_46 : oP MT mX12_change 46 (10, 3, 0, 75, []) := o_if_eq dX12_change_46 (by decide) (by decide)
theorem oX12_change_49 : oP MT mX12_change 49 (1, 1, 3, 0, []) := o_iload_n dX12_change_49 rfl
theorem oX12_change_50 : oP MT mX12_change 50 (0, 1, 0, 0, []) := o_iconst dX12_change_50 (by decide)
theorem oX12_change_51 : oP MT mX12_change 51 (1, 2, 4, 0, []) := o_iload dX12_change_51
theorem oX12_change_53 : oP MT mX12_change 53 (25, 3, 127, 3, []) := o_callS dX12_change_53 (mj := mX12_in1) mt_X12_in1 cmq_X12_in1 wq_468 wq_470 (by decide) (by decide)
theorem oX12_change_56 : oP MT mX12_change 56 (10, 3, 0, 75, []) := o_if_eq dX12_change_56 (by decide) (by decide)
theorem oX12_change_59 : oP MT mX12_change 59 (1, 1, 0, 1, []) := o_aload_n dX12_change_59 rfl
theorem oX12_change_60 : oP MT mX12_change 60 (0, 2, 0, 35, []) := o_bipush dX12_change_60 (by decide)
theorem oX12_change_62 : oP MT mX12_change 62 (0, 1, 0, 5, []) := o_iconst dX12_change_62 (by decide)
theorem oX12_change_63 : oP MT mX12_change 63 (1, 1, 1, 0, []) := o_iload_n dX12_change_63 rfl
theorem oX12_change_64 : oP MT mX12_change 64 (4, 1, 2, 0, []) := o_imul dX12_change_64
theorem oX12_change_65 : oP MT mX12_change 65 (4, 1, 0, 0, []) := o_iadd dX12_change_65
theorem oX12_change_66 : oP MT mX12_change 66 (1, 1, 2, 0, []) := o_iload_n dX12_change_66 rfl
theorem oX12_change_67 : oP MT mX12_change 67 (4, 1, 0, 0, []) := o_iadd dX12_change_67
theorem oX12_change_68 : oP MT mX12_change 68 (1, 1, 3, 0, []) := o_iload_n dX12_change_68 rfl
theorem oX12_change_69 : oP MT mX12_change 69 (26, 3, 0, 2, [(12, 193)]) := o_callO ((vA.cons (v_callV dX12_change_69 (ci := 12) rfl rfl (mj := mX12_becomes) mt_X12_becomes cmq_X12_becomes wq_668 wq_670 wq_671 (by decide) (by decide)) vA.nil))
theorem oX12_change_72 : oP MT mX12_change 72 (9, 3, 76, 0, []) := o_goto dX12_change_72 (by decide)
theorem oX12_change_75 : oP MT mX12_change 75 (0, 1, 0, (-1), []) := o_iconst dX12_change_75 (by decide)
theorem oX12_change_76 : oP MT mX12_change 76 (21, 1, 0, 0, []) := o_iret dX12_change_76 rfl
def ops_X12_change : List (Nat × aO) := [(0, (1, 1, 2, 0, [])), (1, (0, 1, 0, 1, [])), (2, (11, 3, 1, 10, [])), (5, (0, 2, 0, 99, [])), (7, (9, 3, 30, 0, [])), (10, (1, 1, 2, 0, [])), (11, (0, 1, 0, 3, [])), (12, (11, 3, 1, 19, [])), (15, (0, 1, 0, 5, [])), (16, (9, 3, 30, 0, [])), (19, (1, 1, 2, 0, [])), (20, (0, 1, 0, 4, [])), (21, (11, 3, 1, 28, [])), (24, (0, 1, 0, 1, [])), (25, (9, 3, 30, 0, [])), (28, (0, 2, 0, 9, [])), (30, (2, 2, 4, 0, [])), (32, (1, 1, 0, 1, [])), (33, (1, 1, 1, 0, [])), (34, (26, 3, 0, 1, [(12, 149)])), (37, (10, 3, 0, 75, [])), (40, (1, 1, 2, 0, [])), (41, (0, 1, 0, 1, [])), (42, (0, 1, 0, 4, [])), (43, (25, 3, 127, 3, [])), (46, (10, 3, 0, 75, [])), (49, (1, 1, 3, 0, [])), (50, (0, 1, 0, 0, [])), (51, (1, 2, 4, 0, [])), (53, (25, 3, 127, 3, [])), (56, (10, 3, 0, 75, [])), (59, (1, 1, 0, 1, [])), (60, (0, 2, 0, 35, [])), (62, (0, 1, 0, 5, [])), (63, (1, 1, 1, 0, [])), (64, (4, 1, 2, 0, [])), (65, (4, 1, 0, 0, [])), (66, (1, 1, 2, 0, [])), (67, (4, 1, 0, 0, [])), (68, (1, 1, 3, 0, [])), (69, (26, 3, 0, 2, [(12, 193)])), (72, (9, 3, 76, 0, [])), (75, (0, 1, 0, (-1), [])), (76, (21, 1, 0, 0, []))]
theorem os_X12_change : oA MT mX12_change ops_X12_change := (oA.cons oX12_change_0 (oA.cons oX12_change_1 (oA.cons oX12_change_2 (oA.cons oX12_change_5 (oA.cons oX12_change_7 (oA.cons oX12_change_10 (oA.cons oX12_change_11 (oA.cons oX12_change_12 (oA.cons oX12_change_15 (oA.cons oX12_change_16 (oA.cons oX12_change_19 (oA.cons oX12_change_20 (oA.cons oX12_change_21 (oA.cons oX12_change_24 (oA.cons oX12_change_25 (oA.cons oX12_change_28 (oA.cons oX12_change_30 (oA.cons oX12_change_32 (oA.cons oX12_change_33 (oA.cons oX12_change_34 (oA.cons oX12_change_37 (oA.cons oX12_change_40 (oA.cons oX12_change_41 (oA.cons oX12_change_42 (oA.cons oX12_change_43 (oA.cons oX12_change_46 (oA.cons oX12_change_49 (oA.cons oX12_change_50 (oA.cons oX12_change_51 (oA.cons oX12_change_53 (oA.cons oX12_change_56 (oA.cons oX12_change_59 (oA.cons oX12_change_60 (oA.cons oX12_change_62 (oA.cons oX12_change_63 (oA.cons oX12_change_64 (oA.cons oX12_change_65 (oA.cons oX12_change_66 (oA.cons oX12_change_67 (oA.cons oX12_change_68 (oA.cons oX12_change_69 (oA.cons oX12_change_72 (oA.cons oX12_change_75 (oA.cons oX12_change_76 oA.nil))))))))))))))))))))))))))))))))))))))))))))
theorem dX12_becomes_0 : decode cX12_becomes 0 = .ok (.aload_n 0, 1) := by decide +kernel
theorem dX12_becomes_1 : decode cX12_becomes 1 = .ok (.getfield 9, 3) := by decide +kernel
theorem dX12_becomes_4 : decode cX12_becomes 4 = .ok (.iload_n 1, 1) := by decide +kernel
theorem dX12_becomes_5 : decode cX12_becomes 5 = .ok (.iaload, 1) := by decide +kernel
theorem dX12_becomes_6 : decode cX12_becomes 6 = .ok (.istore_n 3, 1) := by decide +kernel
theorem dX12_becomes_7 : decode cX12_becomes 7 = .ok (.aload_n 0, 1) := by decide +kernel
theorem dX12_becomes_8 : decode cX12_becomes 8 = .ok (.getfield 9, 3) := by decide +kernel
theorem dX12_becomes_11 : decode cX12_becomes 11 = .ok (.iload_n 1, 1) := by decide +kernel
theorem dX12_becomes_12 : decode cX12_becomes 12 = .ok (.iload_n 2, 1) := by decide +kernel
theorem dX12_becomes_13 : decode cX12_becomes 13 = .ok (.iastore, 1) := by decide +kernel
theorem dX12_becomes_14 : decode cX12_becomes 14 = .ok (.iload_n 3, 1) := by decide +kernel
theorem dX12_becomes_15 : decode cX12_becomes 15 = .ok (.ireturn, 1) := by decide +kernel
theorem oX12_becomes_0 : oP MT mX12_becomes 0 (1, 1, 0, 1, []) := o_aload_n dX12_becomes_0 rfl
theorem oX12_becomes_1 : oP MT mX12_becomes 1 (13, 3, 0, 12, []) := o_getR (M := mX12_becomes) (C := RX12) (T := TX12) (ci := 12) (j := 0) (z := 12) dX12_becomes_1 rfl lq_RX12_9 rfl rfl
theorem oX12_becomes_4 : oP MT mX12_becomes 4 (1, 1, 1, 0, []) := o_iload_n dX12_becomes_4 rfl
theorem oX12_becomes_5 : oP MT mX12_becomes 5 (16, 1, 1, 0, []) := o_iaload dX12_becomes_5
theorem oX12_becomes_6 : oP MT mX12_becomes 6 (2, 1, 3, 0, []) := o_istore_n dX12_becomes_6 rfl (by decide)
theorem oX12_becomes_7 : oP MT mX12_becomes 7 (1, 1, 0, 1, []) := o_aload_n dX12_becomes_7 rfl
theorem oX12_becomes_8 : oP MT mX12_becomes 8 (13, 3, 0, 12, []) := o_getR (M := mX12_becomes) (C := RX12) (T := TX12) (ci := 12) (j := 0) (z := 12) dX12_becomes_8 rfl lq_RX12_9 rfl rfl
theorem oX12_becomes_11 : oP MT mX12_becomes 11 (1, 1, 1, 0, []) := o_iload_n dX12_becomes_11 rfl
theorem oX12_becomes_12 : oP MT mX12_becomes 12 (1, 1, 2, 0, []) := o_iload_n dX12_becomes_12 rfl
theorem oX12_becomes_13 : oP MT mX12_becomes 13 (18, 1, 0, 0, []) := o_iastore dX12_becomes_13
theorem oX12_becomes_14 : oP MT mX12_becomes 14 (1, 1, 3, 0, []) := o_iload_n dX12_becomes_14 rfl
theorem oX12_becomes_15 : oP MT mX12_becomes 15 (21, 1, 0, 0, []) := o_iret dX12_becomes_15 rfl
def ops_X12_becomes : List (Nat × aO) := [(0, (1, 1, 0, 1, [])), (1, (13, 3, 0, 12, [])), (4, (1, 1, 1, 0, [])), (5, (16, 1, 1, 0, [])), (6, (2, 1, 3, 0, [])), (7, (1, 1, 0, 1, [])), (8, (13, 3, 0, 12, [])), (11, (1, 1, 1, 0, [])), (12, (1, 1, 2, 0, [])), (13, (18, 1, 0, 0, [])), (14, (1, 1, 3, 0, [])), (15, (21, 1, 0, 0, []))]
theorem os_X12_becomes : oA MT mX12_becomes ops_X12_becomes := (oA.cons oX12_becomes_0 (oA.cons oX12_becomes_1 (oA.cons oX12_becomes_4 (oA.cons oX12_becomes_5 (oA.cons oX12_becomes_6 (oA.cons oX12_becomes_7 (oA.cons oX12_becomes_8 (oA.cons oX12_becomes_11 (oA.cons oX12_becomes_12 (oA.cons oX12_becomes_13 (oA.cons oX12_becomes_14 (oA.cons oX12_becomes_15 oA.nil))))))))))))
theorem dX12_remake_0 : decode cX12_remake 0 = .ok (.aload_n 0, 1) := by decide +kernel
theorem dX12_remake_1 : decode cX12_remake 1 = .ok (.iload_n 1, 1) := by decide +kernel
theorem dX12_remake_2 : decode cX12_remake 2 = .ok (.invokevirtual 223, 3) := by decide +kernel
theorem dX12_remake_5 : decode cX12_remake 5 = .ok (.ifCond .eq 26, 3) := by decide +kernel
theorem dX12_remake_8 : decode cX12_remake 8 = .ok (.iload_n 2, 1) := by decide +kernel
theorem dX12_remake_9 : decode cX12_remake 9 = .ok (.iconst 1, 1) := by decide +kernel
theorem dX12_remake_10 : decode cX12_remake 10 = .ok (.iconst 5, 1) := by decide +kernel
theorem dX12_remake_11 : decode cX12_remake 11 = .ok (.invokestatic 71, 3) := by decide +kernel
theorem dX12_remake_14 : decode cX12_remake 14 = .ok (.ifCond .eq 17, 3) := by decide +kernel
theorem dX12_remake_17 : decode cX12_remake 17 = .ok (.aload_n 0, 1) := by decide +kernel
theorem dX12_remake_18 : decode cX12_remake 18 = .ok (.bipush 35, 2) := by decide +kernel
theorem dX12_remake_20 : decode cX12_remake 20 = .ok (.iconst 5, 1) := by decide +kernel
theorem dX12_remake_21 : decode cX12_remake 21 = .ok (.iload_n 1, 1) := by decide +kernel
theorem dX12_remake_22 : decode cX12_remake 22 = .ok (.imul, 1) := by decide +kernel
theorem dX12_remake_23 : decode cX12_remake 23 = .ok (.iadd, 1) := by decide +kernel
theorem dX12_remake_24 : decode cX12_remake 24 = .ok (.iload_n 2, 1) := by decide +kernel
theorem dX12_remake_25 : decode cX12_remake 25 = .ok (.invokevirtual 226, 3) := by decide +kernel
theorem dX12_remake_28 : decode cX12_remake 28 = .ok (.goto 4, 3) := by decide +kernel
theorem dX12_remake_31 : decode cX12_remake 31 = .ok (.iconst (-1), 1) := by decide +kernel
theorem dX12_remake_32 : decode cX12_remake 32 = .ok (.ireturn, 1) := by decide +kernel
theorem oX12_remake_0 : oP MT mX12_remake 0 (1, 1, 0, 1, []) := o_aload_n dX12_remake_0 rfl
theorem oX12_remake_1 : oP MT mX12_remake 1 (1, 1, 1, 0, []) := o_iload_n dX12_remake_1 rfl
theorem oX12_remake_2 : oP MT mX12_remake 2 (26, 3, 0, 1, [(12, 149)]) := o_callO ((vA.cons (v_callV dX12_remake_2 (ci := 12) rfl rfl (mj := mX12_isKey) mt_X12_isKey cmq_X12_isKey wq_565 wq_567 wq_568 (by decide) (by decide)) vA.nil))
theorem oX12_remake_5 : oP MT mX12_remake 5 (10, 3, 0, 31, []) := o_if_eq dX12_remake_5 (by decide) (by decide)
theorem oX12_remake_8 : oP MT mX12_remake 8 (1, 1, 2, 0, []) := o_iload_n dX12_remake_8 rfl
theorem oX12_remake_9 : oP MT mX12_remake 9 (0, 1, 0, 1, []) := o_iconst dX12_remake_9 (by decide)
theorem oX12_remake_10 : oP MT mX12_remake 10 (0, 1, 0, 5, []) := o_iconst dX12_remake_10 (by decide)
theorem oX12_remake_11 : oP MT mX12_remake 11 (25, 3, 127, 3, []) := o_callS dX12_remake_11 (mj := mX12_in1) mt_X12_in1 cmq_X12_in1 wq_468 wq_470 (by decide) (by decide)
theorem oX12_remake_14 : oP MT mX12_remake 14 (10, 3, 0, 31, []) := o_if_eq dX12_remake_14 (by decide) (by decide)
theorem oX12_remake_17 : oP MT mX12_remake 17 (1, 1, 0, 1, []) := o_aload_n dX12_remake_17 rfl
theorem oX12_remake_18 : oP MT mX12_remake 18 (0, 2, 0, 35, []) := o_bipush dX12_remake_18 (by decide)
theorem oX12_remake_20 : oP MT mX12_remake 20 (0, 1, 0, 5, []) := o_iconst dX12_remake_20 (by decide)
theorem oX12_remake_21 : oP MT mX12_remake 21 (1, 1, 1, 0, []) := o_iload_n dX12_remake_21 rfl
theorem oX12_remake_22 : oP MT mX12_remake 22 (4, 1, 2, 0, []) := o_imul dX12_remake_22
theorem oX12_remake_23 : oP MT mX12_remake 23 (4, 1, 0, 0, []) := o_iadd dX12_remake_23
theorem oX12_remake_24 : oP MT mX12_remake 24 (1, 1, 2, 0, []) := o_iload_n dX12_remake_24 rfl
theorem oX12_remake_25 : oP MT mX12_remake 25 (26, 3, 0, 2, [(12, 193)]) := o_callO ((vA.cons (v_callV dX12_remake_25 (ci := 12) rfl rfl (mj := mX12_becomes) mt_X12_becomes cmq_X12_becomes wq_668 wq_670 wq_671 (by decide) (by decide)) vA.nil))
theorem oX12_remake_28 : oP MT mX12_remake 28 (9, 3, 32, 0, []) := o_goto dX12_remake_28 (by decide)
theorem oX12_remake_31 : oP MT mX12_remake 31 (0, 1, 0, (-1), []) := o_iconst dX12_remake_31 (by decide)
theorem oX12_remake_32 : oP MT mX12_remake 32 (21, 1, 0, 0, []) := o_iret dX12_remake_32 rfl
def ops_X12_remake : List (Nat × aO) := [(0, (1, 1, 0, 1, [])), (1, (1, 1, 1, 0, [])), (2, (26, 3, 0, 1, [(12, 149)])), (5, (10, 3, 0, 31, [])), (8, (1, 1, 2, 0, [])), (9, (0, 1, 0, 1, [])), (10, (0, 1, 0, 5, [])), (11, (25, 3, 127, 3, [])), (14, (10, 3, 0, 31, [])), (17, (1, 1, 0, 1, [])), (18, (0, 2, 0, 35, [])), (20, (0, 1, 0, 5, [])), (21, (1, 1, 1, 0, [])), (22, (4, 1, 2, 0, [])), (23, (4, 1, 0, 0, [])), (24, (1, 1, 2, 0, [])), (25, (26, 3, 0, 2, [(12, 193)])), (28, (9, 3, 32, 0, [])), (31, (0, 1, 0, (-1), [])), (32, (21, 1, 0, 0, []))]
theorem os_X12_remake : oA MT mX12_remake ops_X12_remake := (oA.cons oX12_remake_0 (oA.cons oX12_remake_1 (oA.cons oX12_remake_2 (oA.cons oX12_remake_5 (oA.cons oX12_remake_8 (oA.cons oX12_remake_9 (oA.cons oX12_remake_10 (oA.cons oX12_remake_11 (oA.cons oX12_remake_14 (oA.cons oX12_remake_17 (oA.cons oX12_remake_18 (oA.cons oX12_remake_20 (oA.cons oX12_remake_21 (oA.cons oX12_remake_22 (oA.cons oX12_remake_23 (oA.cons oX12_remake_24 (oA.cons oX12_remake_25 (oA.cons oX12_remake_28 (oA.cons oX12_remake_31 (oA.cons oX12_remake_32 oA.nil))))))))))))))))))))
theorem dX12_sun_0 : decode cX12_sun 0 = .ok (.iload_n 1, 1) := by decide +kernel
theorem dX12_sun_1 : decode cX12_sun 1 = .ok (.iconst 0, 1) := by decide +kernel
theorem dX12_sun_2 : decode cX12_sun 2 = .ok (.bipush 15, 2) := by decide +kernel
theorem dX12_sun_4 : decode cX12_sun 4 = .ok (.invokestatic 71, 3) := by decide +kernel
theorem dX12_sun_7 : decode cX12_sun 7 = .ok (.ifCond .eq 25, 3) := by decide +kernel
theorem dX12_sun_10 : decode cX12_sun 10 = .ok (.iload_n 2, 1) := by decide +kernel
theorem dX12_sun_11 : decode cX12_sun 11 = .ok (.iconst 0, 1) := by decide +kernel
theorem dX12_sun_12 : decode cX12_sun 12 = .ok (.bipush 15, 2) := by decide +kernel
theorem dX12_sun_14 : decode cX12_sun 14 = .ok (.invokestatic 71, 3) := by decide +kernel
theorem dX12_sun_17 : decode cX12_sun 17 = .ok (.ifCond .eq 15, 3) := by decide +kernel
theorem dX12_sun_20 : decode cX12_sun 20 = .ok (.aload_n 0, 1) := by decide +kernel
theorem dX12_sun_21 : decode cX12_sun 21 = .ok (.bipush 7, 2) := by decide +kernel
theorem dX12_sun_23 : decode cX12_sun 23 = .ok (.iload_n 1, 1) := by decide +kernel
theorem dX12_sun_24 : decode cX12_sun 24 = .ok (.iadd, 1) := by decide +kernel
theorem dX12_sun_25 : decode cX12_sun 25 = .ok (.iload_n 2, 1) := by decide +kernel
theorem dX12_sun_26 : decode cX12_sun 26 = .ok (.invokevirtual 226, 3) := by decide +kernel
theorem dX12_sun_29 : decode cX12_sun 29 = .ok (.goto 4, 3) := by decide +kernel
theorem dX12_sun_32 : decode cX12_sun 32 = .ok (.iconst (-1), 1) := by decide +kernel
theorem dX12_sun_33 : decode cX12_sun 33 = .ok (.ireturn, 1) := by decide +kernel
theorem oX12_sun_0 : oP MT mX12_sun 0 (1, 1, 1, 0, []) := o_iload_n dX12_sun_0 rfl
theorem oX12_sun_1 : oP MT mX12_sun 1 (0, 1, 0, 0, []) := o_iconst dX12_sun_1 (by decide)
theorem oX12_sun_2 : oP MT mX12_sun 2 (0, 2, 0, 15, []) := o_bipush dX12_sun_2 (by decide)
theorem oX12_sun_4 : oP MT mX12_sun 4 (25, 3, 127, 3, []) := o_callS dX12_sun_4 (mj := mX12_in1) mt_X12_in1 cmq_X12_in1 wq_468 wq_470 (by decide) (by decide)
theorem oX12_sun_7 : oP MT mX12_sun 7 (10, 3, 0, 32, []) := o_if_eq dX12_sun_7 (by decide) (by decide)
theorem oX12_sun_10 : oP MT mX12_sun 10 (1, 1, 2, 0, []) := o_iload_n dX12_sun_10 rfl
theorem oX12_sun_11 : oP MT mX12_sun 11 (0, 1, 0, 0, []) := o_iconst dX12_sun_11 (by decide)
theorem oX12_sun_12 : oP MT mX12_sun 12 (0, 2, 0, 15, []) := o_bipush dX12_sun_12 (by decide)
theorem oX12_sun_14 : oP MT mX12_sun 14 (25, 3, 127, 3, []) := o_callS dX12_sun_14 (mj := mX12_in1) mt_X12_in1 cmq_X12_in1 wq_468 wq_470 (by decide) (by decide)
theorem oX12_sun_17 : oP MT mX12_sun 17 (10, 3, 0, 32, []) := o_if_eq dX12_sun_17 (by decide) (by decide)
theorem oX12_sun_20 : oP MT mX12_sun 20 (1, 1, 0, 1, []) := o_aload_n dX12_sun_20 rfl
theorem oX12_sun_21 : oP MT mX12_sun 21 (0, 2, 0, 7, []) := o_bipush dX12_sun_21 (by decide)
theorem oX12_sun_23 : oP MT mX12_sun 23 (1, 1, 1, 0, []) := o_iload_n dX12_sun_23 rfl
theorem oX12_sun_24 : oP MT mX12_sun 24 (4, 1, 0, 0, []) := o_iadd dX12_sun_24
theorem oX12_sun_25 : oP MT mX12_sun 25 (1, 1, 2, 0, []) := o_iload_n dX12_sun_25 rfl
theorem oX12_sun_26 : oP MT mX12_sun 26 (26, 3, 0, 2, [(12, 193)]) := o_callO ((vA.cons (v_callV dX12_sun_26 (ci := 12) rfl rfl (mj := mX12_becomes) mt_X12_becomes cmq_X12_becomes wq_668 wq_670 wq_671 (by decide) (by decide)) vA.nil))
theorem oX12_sun_29 : oP MT mX12_sun 29 (9, 3, 33, 0, []) := o_goto dX12_sun_29 (by decide)
theorem oX12_sun_32 : oP MT mX12_sun 32 (0, 1, 0, (-1), []) := o_iconst dX12_sun_32 (by decide)
theorem oX12_sun_33 : oP MT mX12_sun 33 (21, 1, 0, 0, []) := o_iret dX12_sun_33 rfl
def ops_X12_sun : List (Nat × aO) := [(0, (1, 1, 1, 0, [])), (1, (0, 1, 0, 0, [])), (2, (0, 2, 0, 15, [])), (4, (25, 3, 127, 3, [])), (7, (10, 3, 0, 32, [])), (10, (1, 1, 2, 0, [])), (11, (0, 1, 0, 0, [])), (12, (0, 2, 0, 15, [])), (14, (25, 3, 127, 3, [])), (17, (10, 3, 0, 32, [])), (20, (1, 1, 0, 1, [])), (21, (0, 2, 0, 7, [])), (23, (1, 1, 1, 0, [])), (24, (4, 1, 0, 0, [])), (25, (1, 1, 2, 0, [])), (26, (26, 3, 0, 2, [(12, 193)])), (29, (9, 3, 33, 0, [])), (32, (0, 1, 0, (-1), [])), (33, (21, 1, 0, 0, []))]
theorem os_X12_sun : oA MT mX12_sun ops_X12_sun := (oA.cons oX12_sun_0 (oA.cons oX12_sun_1 (oA.cons oX12_sun_2 (oA.cons oX12_sun_4 (oA.cons oX12_sun_7 (oA.cons oX12_sun_10 (oA.cons oX12_sun_11 (oA.cons oX12_sun_12 (oA.cons oX12_sun_14 (oA.cons oX12_sun_17 (oA.cons oX12_sun_20 (oA.cons oX12_sun_21 (oA.cons oX12_sun_23 (oA.cons oX12_sun_24 (oA.cons oX12_sun_25 (oA.cons oX12_sun_26 (oA.cons oX12_sun_29 (oA.cons oX12_sun_32 (oA.cons oX12_sun_33 oA.nil)))))))))))))))))))
theorem dX12_gate_0 : decode cX12_gate 0 = .ok (.iload_n 1, 1) := by decide +kernel
theorem dX12_gate_1 : decode cX12_gate 1 = .ok (.invokestatic 220, 3) := by decide +kernel
theorem dX12_gate_4 : decode cX12_gate 4 = .ok (.ifCond .eq 40, 3) := by decide +kernel
theorem dX12_gate_7 : decode cX12_gate 7 = .ok (.iload_n 2, 1) := by decide +kernel
theorem dX12_gate_8 : decode cX12_gate 8 = .ok (.iconst 0, 1) := by decide +kernel
theorem dX12_gate_9 : decode cX12_gate 9 = .ok (.iconst 1, 1) := by decide +kernel
theorem dX12_gate_10 : decode cX12_gate 10 = .ok (.invokestatic 71, 3) := by decide +kernel
theorem dX12_gate_13 : decode cX12_gate 13 = .ok (.ifCond .eq 31, 3) := by decide +kernel
theorem dX12_gate_16 : decode cX12_gate 16 = .ok (.iload_n 3, 1) := by decide +kernel
theorem dX12_gate_17 : decode cX12_gate 17 = .ok (.invokestatic 217, 3) := by decide +kernel
theorem dX12_gate_20 : decode cX12_gate 20 = .ok (.ifCond .eq 24, 3) := by decide +kernel
theorem dX12_gate_23 : decode cX12_gate 23 = .ok (.aload_n 0, 1) := by decide +kernel
theorem dX12_gate_24 : decode cX12_gate 24 = .ok (.iload_n 2, 1) := by decide +kernel
theorem dX12_gate_25 : decode cX12_gate 25 = .ok (.ifCond .ne 8, 3) := by decide +kernel
theorem dX12_gate_28 : decode cX12_gate 28 = .ok (.bipush 23, 2) := by decide +kernel
theorem dX12_gate_30 : decode cX12_gate 30 = .ok (.goto 5, 3) := by decide +kernel
theorem dX12_gate_33 : decode cX12_gate 33 = .ok (.bipush 29, 2) := by decide +kernel
theorem dX12_gate_35 : decode cX12_gate 35 = .ok (.iload_n 1, 1) := by decide +kernel
theorem dX12_gate_36 : decode cX12_gate 36 = .ok (.iadd, 1) := by decide +kernel
theorem dX12_gate_37 : decode cX12_gate 37 = .ok (.iload_n 3, 1) := by decide +kernel
theorem dX12_gate_38 : decode cX12_gate 38 = .ok (.invokevirtual 226, 3) := by decide +kernel
theorem dX12_gate_41 : decode cX12_gate 41 = .ok (.goto 4, 3) := by decide +kernel
theorem dX12_gate_44 : decode cX12_gate 44 = .ok (.iconst (-1), 1) := by decide +kernel
theorem dX12_gate_45 : decode cX12_gate 45 = .ok (.ireturn, 1) := by decide +kernel
theorem oX12_gate_0 : oP MT mX12_gate 0 (1, 1, 1, 0, []) := o_iload_n dX12_gate_0 rfl
theorem oX12_gate_1 : oP MT mX12_gate 1 (25, 3, 188, 1, []) := o_callS dX12_gate_1 (mj := mX12_isGate) mt_X12_isGate cmq_X12_isGate wq_650 wq_652 (by decide) (by decide)
theorem oX12_gate_4 : oP MT mX12_gate 4 (10, 3, 0, 44, []) := o_if_eq dX12_gate_4 (by decide) (by decide)
theorem oX12_gate_7 : oP MT mX12_gate 7 (1, 1, 2, 0, []) := o_iload_n dX12_gate_7 rfl
theorem oX12_gate_8 : oP MT mX12_gate 8 (0, 1, 0, 0, []) := o_iconst dX12_gate_8 (by decide)
theorem oX12_gate_9 : oP MT mX12_gate 9 (0, 1, 0, 1, []) := o_iconst dX12_gate_9 (by decide)
theorem oX12_gate_10 : oP MT mX12_gate 10 (25, 3, 127, 3, []) := o_callS dX12_gate_10 (mj := mX12_in1) mt_X12_in1 cmq_X12_in1 wq_468 wq_470 (by decide) (by decide)
theorem oX12_gate_13 : oP MT mX12_gate 13 (10, 3, 0, 44, []) := o_if_eq dX12_gate_13 (by decide) (by decide)
theorem oX12_gate_16 : oP MT mX12_gate 16 (1, 1, 3, 0, []) := o_iload_n dX12_gate_16 rfl
theorem oX12_gate_17 : oP MT mX12_gate 17 (25, 3, 187, 1, []) := o_callS dX12_gate_17 (mj := mX12_isDigit) mt_X12_isDigit cmq_X12_isDigit wq_647 wq_649 (by decide) (by decide)
theorem oX12_gate_20 : oP MT mX12_gate 20 (10, 3, 0, 44, []) := o_if_eq dX12_gate_20 (by decide) (by decide)
theorem oX12_gate_23 : oP MT mX12_gate 23 (1, 1, 0, 1, []) := o_aload_n dX12_gate_23 rfl
theorem oX12_gate_24 : oP MT mX12_gate 24 (1, 1, 2, 0, []) := o_iload_n dX12_gate_24 rfl
theorem oX12_gate_25 : oP MT mX12_gate 25 (10, 3, 1, 33, []) := o_if_ne dX12_gate_25 (by decide) (by decide)
theorem oX12_gate_28 : oP MT mX12_gate 28 (0, 2, 0, 23, []) := o_bipush dX12_gate_28 (by decide)
theorem oX12_gate_30 : oP MT mX12_gate 30 (9, 3, 35, 0, []) := o_goto dX12_gate_30 (by decide)
theorem oX12_gate_33 : oP MT mX12_gate 33 (0, 2, 0, 29, []) := o_bipush dX12_gate_33 (by decide)
theorem oX12_gate_35 : oP MT mX12_gate 35 (1, 1, 1, 0, []) := o_iload_n dX12_gate_35 rfl
theorem oX12_gate_36 : oP MT mX12_gate 36 (4, 1, 0, 0, []) := o_iadd dX12_gate_36
theorem oX12_gate_37 : oP MT mX12_gate 37 (1, 1, 3, 0, []) := o_iload_n dX12_gate_37 rfl
theorem oX12_gate_38 : oP MT mX12_gate 38 (26, 3, 0, 2, [(12, 193)]) := o_callO ((vA.cons (v_callV dX12_gate_38 (ci := 12) rfl rfl (mj := mX12_becomes) mt_X12_becomes cmq_X12_becomes wq_668 wq_670 wq_671 (by decide) (by decide)) vA.nil))
theorem oX12_gate_41 : oP MT mX12_gate 41 (9, 3, 45, 0, []) := o_goto dX12_gate_41 (by decide)
theorem oX12_gate_44 : oP MT mX12_gate 44 (0, 1, 0, (-1), []) := o_iconst dX12_gate_44 (by decide)
theorem oX12_gate_45 : oP MT mX12_gate 45 (21, 1, 0, 0, []) := o_iret dX12_gate_45 rfl
def ops_X12_gate : List (Nat × aO) := [(0, (1, 1, 1, 0, [])), (1, (25, 3, 188, 1, [])), (4, (10, 3, 0, 44, [])), (7, (1, 1, 2, 0, [])), (8, (0, 1, 0, 0, [])), (9, (0, 1, 0, 1, [])), (10, (25, 3, 127, 3, [])), (13, (10, 3, 0, 44, [])), (16, (1, 1, 3, 0, [])), (17, (25, 3, 187, 1, [])), (20, (10, 3, 0, 44, [])), (23, (1, 1, 0, 1, [])), (24, (1, 1, 2, 0, [])), (25, (10, 3, 1, 33, [])), (28, (0, 2, 0, 23, [])), (30, (9, 3, 35, 0, [])), (33, (0, 2, 0, 29, [])), (35, (1, 1, 1, 0, [])), (36, (4, 1, 0, 0, [])), (37, (1, 1, 3, 0, [])), (38, (26, 3, 0, 2, [(12, 193)])), (41, (9, 3, 45, 0, [])), (44, (0, 1, 0, (-1), [])), (45, (21, 1, 0, 0, []))]
theorem os_X12_gate : oA MT mX12_gate ops_X12_gate := (oA.cons oX12_gate_0 (oA.cons oX12_gate_1 (oA.cons oX12_gate_4 (oA.cons oX12_gate_7 (oA.cons oX12_gate_8 (oA.cons oX12_gate_9 (oA.cons oX12_gate_10 (oA.cons oX12_gate_13 (oA.cons oX12_gate_16 (oA.cons oX12_gate_17 (oA.cons oX12_gate_20 (oA.cons oX12_gate_23 (oA.cons oX12_gate_24 (oA.cons oX12_gate_25 (oA.cons oX12_gate_28 (oA.cons oX12_gate_30 (oA.cons oX12_gate_33 (oA.cons oX12_gate_35 (oA.cons oX12_gate_36 (oA.cons oX12_gate_37 (oA.cons oX12_gate_38 (oA.cons oX12_gate_41 (oA.cons oX12_gate_44 (oA.cons oX12_gate_45 oA.nil))))))))))))))))))))))))
theorem dX12_gateOf_0 : decode cX12_gateOf 0 = .ok (.iload_n 1, 1) := by decide +kernel
theorem dX12_gateOf_1 : decode cX12_gateOf 1 = .ok (.invokestatic 220, 3) := by decide +kernel
theorem dX12_gateOf_4 : decode cX12_gateOf 4 = .ok (.ifCond .eq 33, 3) := by decide +kernel
theorem dX12_gateOf_7 : decode cX12_gateOf 7 = .ok (.iload_n 2, 1) := by decide +kernel
theorem dX12_gateOf_8 : decode cX12_gateOf 8 = .ok (.iconst 0, 1) := by decide +kernel
theorem dX12_gateOf_9 : decode cX12_gateOf 9 = .ok (.iconst 1, 1) := by decide +kernel
theorem dX12_gateOf_10 : decode cX12_gateOf 10 = .ok (.invokestatic 71, 3) := by decide +kernel
theorem dX12_gateOf_13 : decode cX12_gateOf 13 = .ok (.ifCond .eq 24, 3) := by decide +kernel
theorem dX12_gateOf_16 : decode cX12_gateOf 16 = .ok (.aload_n 0, 1) := by decide +kernel
theorem dX12_gateOf_17 : decode cX12_gateOf 17 = .ok (.getfield 9, 3) := by decide +kernel
theorem dX12_gateOf_20 : decode cX12_gateOf 20 = .ok (.iload_n 2, 1) := by decide +kernel
theorem dX12_gateOf_21 : decode cX12_gateOf 21 = .ok (.ifCond .ne 8, 3) := by decide +kernel
theorem dX12_gateOf_24 : decode cX12_gateOf 24 = .ok (.bipush 23, 2) := by decide +kernel
theorem dX12_gateOf_26 : decode cX12_gateOf 26 = .ok (.goto 5, 3) := by decide +kernel
theorem dX12_gateOf_29 : decode cX12_gateOf 29 = .ok (.bipush 29, 2) := by decide +kernel
theorem dX12_gateOf_31 : decode cX12_gateOf 31 = .ok (.iload_n 1, 1) := by decide +kernel
theorem dX12_gateOf_32 : decode cX12_gateOf 32 = .ok (.iadd, 1) := by decide +kernel
theorem dX12_gateOf_33 : decode cX12_gateOf 33 = .ok (.iaload, 1) := by decide +kernel
theorem dX12_gateOf_34 : decode cX12_gateOf 34 = .ok (.goto 4, 3) := by decide +kernel
theorem dX12_gateOf_37 : decode cX12_gateOf 37 = .ok (.iconst (-1), 1) := by decide +kernel
theorem dX12_gateOf_38 : decode cX12_gateOf 38 = .ok (.ireturn, 1) := by decide +kernel
theorem oX12_gateOf_0 : oP MT mX12_gateOf 0 (1, 1, 1, 0, []) := o_iload_n dX12_gateOf_0 rfl
theorem oX12_gateOf_1 : oP MT mX12_gateOf 1 (25, 3, 188, 1, []) := o_callS dX12_gateOf_1 (mj := mX12_isGate) mt_X12_isGate cmq_X12_isGate wq_650 wq_652 (by decide) (by decide)
theorem oX12_gateOf_4 : oP MT mX12_gateOf 4 (10, 3, 0, 37, []) := o_if_eq dX12_gateOf_4 (by decide) (by decide)
theorem oX12_gateOf_7 : oP MT mX12_gateOf 7 (1, 1, 2, 0, []) := o_iload_n dX12_gateOf_7 rfl
theorem oX12_gateOf_8 : oP MT mX12_gateOf 8 (0, 1, 0, 0, []) := o_iconst dX12_gateOf_8 (by decide)
theorem oX12_gateOf_9 : oP MT mX12_gateOf 9 (0, 1, 0, 1, []) := o_iconst dX12_gateOf_9 (by decide)
theorem oX12_gateOf_10 : oP MT mX12_gateOf 10 (25, 3, 127, 3, []) := o_callS dX12_gateOf_10 (mj := mX12_in1) mt_X12_in1 cmq_X12_in1 wq_468 wq_470 (by decide) (by decide)
theorem oX12_gateOf_13 : oP MT mX12_gateOf 13 (10, 3, 0, 37, []) := o_if_eq dX12_gateOf_13 (by decide) (by decide)
theorem oX12_gateOf_16 : oP MT mX12_gateOf 16 (1, 1, 0, 1, []) := o_aload_n dX12_gateOf_16 rfl
theorem oX12_gateOf_17 : oP MT mX12_gateOf 17 (13, 3, 0, 12, []) := o_getR (M := mX12_gateOf) (C := RX12) (T := TX12) (ci := 12) (j := 0) (z := 12) dX12_gateOf_17 rfl lq_RX12_9 rfl rfl
theorem oX12_gateOf_20 : oP MT mX12_gateOf 20 (1, 1, 2, 0, []) := o_iload_n dX12_gateOf_20 rfl
theorem oX12_gateOf_21 : oP MT mX12_gateOf 21 (10, 3, 1, 29, []) := o_if_ne dX12_gateOf_21 (by decide) (by decide)
theorem oX12_gateOf_24 : oP MT mX12_gateOf 24 (0, 2, 0, 23, []) := o_bipush dX12_gateOf_24 (by decide)
theorem oX12_gateOf_26 : oP MT mX12_gateOf 26 (9, 3, 31, 0, []) := o_goto dX12_gateOf_26 (by decide)
theorem oX12_gateOf_29 : oP MT mX12_gateOf 29 (0, 2, 0, 29, []) := o_bipush dX12_gateOf_29 (by decide)
theorem oX12_gateOf_31 : oP MT mX12_gateOf 31 (1, 1, 1, 0, []) := o_iload_n dX12_gateOf_31 rfl
theorem oX12_gateOf_32 : oP MT mX12_gateOf 32 (4, 1, 0, 0, []) := o_iadd dX12_gateOf_32
theorem oX12_gateOf_33 : oP MT mX12_gateOf 33 (16, 1, 1, 0, []) := o_iaload dX12_gateOf_33
theorem oX12_gateOf_34 : oP MT mX12_gateOf 34 (9, 3, 38, 0, []) := o_goto dX12_gateOf_34 (by decide)
theorem oX12_gateOf_37 : oP MT mX12_gateOf 37 (0, 1, 0, (-1), []) := o_iconst dX12_gateOf_37 (by decide)
theorem oX12_gateOf_38 : oP MT mX12_gateOf 38 (21, 1, 0, 0, []) := o_iret dX12_gateOf_38 rfl
def ops_X12_gateOf : List (Nat × aO) := [(0, (1, 1, 1, 0, [])), (1, (25, 3, 188, 1, [])), (4, (10, 3, 0, 37, [])), (7, (1, 1, 2, 0, [])), (8, (0, 1, 0, 0, [])), (9, (0, 1, 0, 1, [])), (10, (25, 3, 127, 3, [])), (13, (10, 3, 0, 37, [])), (16, (1, 1, 0, 1, [])), (17, (13, 3, 0, 12, [])), (20, (1, 1, 2, 0, [])), (21, (10, 3, 1, 29, [])), (24, (0, 2, 0, 23, [])), (26, (9, 3, 31, 0, [])), (29, (0, 2, 0, 29, [])), (31, (1, 1, 1, 0, [])), (32, (4, 1, 0, 0, [])), (33, (16, 1, 1, 0, [])), (34, (9, 3, 38, 0, [])), (37, (0, 1, 0, (-1), [])), (38, (21, 1, 0, 0, []))]
theorem os_X12_gateOf : oA MT mX12_gateOf ops_X12_gateOf := (oA.cons oX12_gateOf_0 (oA.cons oX12_gateOf_1 (oA.cons oX12_gateOf_4 (oA.cons oX12_gateOf_7 (oA.cons oX12_gateOf_8 (oA.cons oX12_gateOf_9 (oA.cons oX12_gateOf_10 (oA.cons oX12_gateOf_13 (oA.cons oX12_gateOf_16 (oA.cons oX12_gateOf_17 (oA.cons oX12_gateOf_20 (oA.cons oX12_gateOf_21 (oA.cons oX12_gateOf_24 (oA.cons oX12_gateOf_26 (oA.cons oX12_gateOf_29 (oA.cons oX12_gateOf_31 (oA.cons oX12_gateOf_32 (oA.cons oX12_gateOf_33 (oA.cons oX12_gateOf_34 (oA.cons oX12_gateOf_37 (oA.cons oX12_gateOf_38 oA.nil)))))))))))))))))))))
theorem dX12_ends_0 : decode cX12_ends 0 = .ok (.iload_n 1, 1) := by decide +kernel
theorem dX12_ends_1 : decode cX12_ends 1 = .ok (.iconst 1, 1) := by decide +kernel
theorem dX12_ends_2 : decode cX12_ends 2 = .ok (.bipush 16, 2) := by decide +kernel
theorem dX12_ends_4 : decode cX12_ends 4 = .ok (.invokestatic 71, 3) := by decide +kernel
theorem dX12_ends_7 : decode cX12_ends 7 = .ok (.ifCond .ne 7, 3) := by decide +kernel
theorem dX12_ends_10 : decode cX12_ends 10 = .ok (.iconst (-1), 1) := by decide +kernel
theorem dX12_ends_11 : decode cX12_ends 11 = .ok (.goto 24, 3) := by decide +kernel
theorem dX12_ends_14 : decode cX12_ends 14 = .ok (.iload_n 1, 1) := by decide +kernel
theorem dX12_ends_15 : decode cX12_ends 15 = .ok (.aload_n 0, 1) := by decide +kernel
theorem dX12_ends_16 : decode cX12_ends 16 = .ok (.getfield 9, 3) := by decide +kernel
theorem dX12_ends_19 : decode cX12_ends 19 = .ok (.iconst 0, 1) := by decide +kernel
theorem dX12_ends_20 : decode cX12_ends 20 = .ok (.iaload, 1) := by decide +kernel
theorem dX12_ends_21 : decode cX12_ends 21 = .ok (.if_icmp .ge 8, 3) := by decide +kernel
theorem dX12_ends_24 : decode cX12_ends 24 = .ok (.bipush (-4), 2) := by decide +kernel
theorem dX12_ends_26 : decode cX12_ends 26 = .ok (.goto 9, 3) := by decide +kernel
theorem dX12_ends_29 : decode cX12_ends 29 = .ok (.aload_n 0, 1) := by decide +kernel
theorem dX12_ends_30 : decode cX12_ends 30 = .ok (.iconst 1, 1) := by decide +kernel
theorem dX12_ends_31 : decode cX12_ends 31 = .ok (.iload_n 1, 1) := by decide +kernel
theorem dX12_ends_32 : decode cX12_ends 32 = .ok (.invokevirtual 226, 3) := by decide +kernel
theorem dX12_ends_35 : decode cX12_ends 35 = .ok (.ireturn, 1) := by decide +kernel
theorem oX12_ends_0 : oP MT mX12_ends 0 (1, 1, 1, 0, []) := o_iload_n dX12_ends_0 rfl
theorem oX12_ends_1 : oP MT mX12_ends 1 (0, 1, 0, 1, []) := o_iconst dX12_ends_1 (by decide)
theorem oX12_ends_2 : oP MT mX12_ends 2 (0, 2, 0, 16, []) := o_bipush dX12_ends_2 (by decide)
theorem oX12_ends_4 : oP MT mX12_ends 4 (25, 3, 127, 3, []) := o_callS dX12_ends_4 (mj := mX12_in1) mt_X12_in1 cmq_X12_in1 wq_468 wq_470 (by decide) (by decide)
theorem oX12_ends_7 : oP MT mX12_ends 7 (10, 3, 1, 14, []) := o_if_ne dX12_ends_7 (by decide) (by decide)
theorem oX12_ends_10 : oP MT mX12_ends 10 (0, 1, 0, (-1), []) := o_iconst dX12_ends_10 (by decide)
theorem oX12_ends_11 : oP MT mX12_ends 11 (9, 3, 35, 0, []) := o_goto dX12_ends_11 (by decide)
theorem oX12_ends_14 : oP MT mX12_ends 14 (1, 1, 1, 0, []) := o_iload_n dX12_ends_14 rfl
theorem oX12_ends_15 : oP MT mX12_ends 15 (1, 1, 0, 1, []) := o_aload_n dX12_ends_15 rfl
theorem oX12_ends_16 : oP MT mX12_ends 16 (13, 3, 0, 12, []) := o_getR (M := mX12_ends) (C := RX12) (T := TX12) (ci := 12) (j := 0) (z := 12) dX12_ends_16 rfl lq_RX12_9 rfl rfl
theorem oX12_ends_19 : oP MT mX12_ends 19 (0, 1, 0, 0, []) := o_iconst dX12_ends_19 (by decide)
theorem oX12_ends_20 : oP MT mX12_ends 20 (16, 1, 1, 0, []) := o_iaload dX12_ends_20
theorem oX12_ends_21 : oP MT mX12_ends 21 (11, 3, 3, 29, []) := o_icmp_ge dX12_ends_21 (by decide) (by decide)
theorem oX12_ends_24 : oP MT mX12_ends 24 (0, 2, 0, (-4), []) := o_bipush dX12_ends_24 (by decide)
theorem oX12_ends_26 : oP MT mX12_ends 26 (9, 3, 35, 0, []) := o_goto dX12_ends_26 (by decide)
theorem oX12_ends_29 : oP MT mX12_ends 29 (1, 1, 0, 1, []) := o_aload_n dX12_ends_29 rfl
theorem oX12_ends_30 : oP MT mX12_ends 30 (0, 1, 0, 1, []) := o_iconst dX12_ends_30 (by decide)
theorem oX12_ends_31 : oP MT mX12_ends 31 (1, 1, 1, 0, []) := o_iload_n dX12_ends_31 rfl
theorem oX12_ends_32 : oP MT mX12_ends 32 (26, 3, 0, 2, [(12, 193)]) := o_callO ((vA.cons (v_callV dX12_ends_32 (ci := 12) rfl rfl (mj := mX12_becomes) mt_X12_becomes cmq_X12_becomes wq_668 wq_670 wq_671 (by decide) (by decide)) vA.nil))
theorem oX12_ends_35 : oP MT mX12_ends 35 (21, 1, 0, 0, []) := o_iret dX12_ends_35 rfl
def ops_X12_ends : List (Nat × aO) := [(0, (1, 1, 1, 0, [])), (1, (0, 1, 0, 1, [])), (2, (0, 2, 0, 16, [])), (4, (25, 3, 127, 3, [])), (7, (10, 3, 1, 14, [])), (10, (0, 1, 0, (-1), [])), (11, (9, 3, 35, 0, [])), (14, (1, 1, 1, 0, [])), (15, (1, 1, 0, 1, [])), (16, (13, 3, 0, 12, [])), (19, (0, 1, 0, 0, [])), (20, (16, 1, 1, 0, [])), (21, (11, 3, 3, 29, [])), (24, (0, 2, 0, (-4), [])), (26, (9, 3, 35, 0, [])), (29, (1, 1, 0, 1, [])), (30, (0, 1, 0, 1, [])), (31, (1, 1, 1, 0, [])), (32, (26, 3, 0, 2, [(12, 193)])), (35, (21, 1, 0, 0, []))]
theorem os_X12_ends : oA MT mX12_ends ops_X12_ends := (oA.cons oX12_ends_0 (oA.cons oX12_ends_1 (oA.cons oX12_ends_2 (oA.cons oX12_ends_4 (oA.cons oX12_ends_7 (oA.cons oX12_ends_10 (oA.cons oX12_ends_11 (oA.cons oX12_ends_14 (oA.cons oX12_ends_15 (oA.cons oX12_ends_16 (oA.cons oX12_ends_19 (oA.cons oX12_ends_20 (oA.cons oX12_ends_21 (oA.cons oX12_ends_24 (oA.cons oX12_ends_26 (oA.cons oX12_ends_29 (oA.cons oX12_ends_30 (oA.cons oX12_ends_31 (oA.cons oX12_ends_32 (oA.cons oX12_ends_35 oA.nil))))))))))))))))))))
theorem dX12_anew_0 : decode cX12_anew 0 = .ok (.aload_n 0, 1) := by decide +kernel
theorem dX12_anew_1 : decode cX12_anew 1 = .ok (.getfield 9, 3) := by decide +kernel
theorem dX12_anew_4 : decode cX12_anew 4 = .ok (.iconst 2, 1) := by decide +kernel
theorem dX12_anew_5 : decode cX12_anew 5 = .ok (.iconst 0, 1) := by decide +kernel
theorem dX12_anew_6 : decode cX12_anew 6 = .ok (.iastore, 1) := by decide +kernel
theorem dX12_anew_7 : decode cX12_anew 7 = .ok (.iconst 0, 1) := by decide +kernel
theorem dX12_anew_8 : decode cX12_anew 8 = .ok (.istore_n 1, 1) := by decide +kernel
theorem dX12_anew_9 : decode cX12_anew 9 = .ok (.iload_n 1, 1) := by decide +kernel
theorem dX12_anew_10 : decode cX12_anew 10 = .ok (.aload_n 0, 1) := by decide +kernel
theorem dX12_anew_11 : decode cX12_anew 11 = .ok (.getfield 9, 3) := by decide +kernel
theorem dX12_anew_14 : decode cX12_anew 14 = .ok (.iconst 4, 1) := by decide +kernel
theorem dX12_anew_15 : decode cX12_anew 15 = .ok (.iaload, 1) := by decide +kernel
theorem dX12_anew_16 : decode cX12_anew 16 = .ok (.if_icmp .ge 16, 3) := by decide +kernel
theorem dX12_anew_19 : decode cX12_anew 19 = .ok (.aload_n 0, 1) := by decide +kernel
theorem dX12_anew_20 : decode cX12_anew 20 = .ok (.iload_n 1, 1) := by decide +kernel
theorem dX12_anew_21 : decode cX12_anew 21 = .ok (.iconst 4, 1) := by decide +kernel
theorem dX12_anew_22 : decode cX12_anew 22 = .ok (.iconst 0, 1) := by decide +kernel
theorem dX12_anew_23 : decode cX12_anew 23 = .ok (.invokevirtual 195, 3) := by decide +kernel
theorem dX12_anew_26 : decode cX12_anew 26 = .ok (.iinc 1 1, 3) := by decide +kernel
theorem dX12_anew_29 : decode cX12_anew 29 = .ok (.goto (-20), 3) := by decide +kernel
theorem dX12_anew_32 : decode cX12_anew 32 = .ok (.aload_n 0, 1) := by decide +kernel
theorem dX12_anew_33 : decode cX12_anew 33 = .ok (.iconst 0, 1) := by decide +kernel
theorem dX12_anew_34 : decode cX12_anew 34 = .ok (.iconst 0, 1) := by decide +kernel
theorem dX12_anew_35 : decode cX12_anew 35 = .ok (.invokevirtual 226, 3) := by decide +kernel
theorem dX12_anew_38 : decode cX12_anew 38 = .ok (.ireturn, 1) := by decide +kernel
theorem oX12_anew_0 : oP MT mX12_anew 0 (1, 1, 0, 1, []) := o_aload_n dX12_anew_0 rfl
theorem oX12_anew_1 : oP MT mX12_anew 1 (13, 3, 0, 12, []) := o_getR (M := mX12_anew) (C := RX12) (T := TX12) (ci := 12) (j := 0) (z := 12) dX12_anew_1 rfl lq_RX12_9 rfl rfl
theorem oX12_anew_4 : oP MT mX12_anew 4 (0, 1, 0, 2, []) := o_iconst dX12_anew_4 (by decide)
theorem oX12_anew_5 : oP MT mX12_anew 5 (0, 1, 0, 0, []) := o_iconst dX12_anew_5 (by decide)
theorem oX12_anew_6 : oP MT mX12_anew 6 (18, 1, 0, 0, []) := o_iastore dX12_anew_6
theorem oX12_anew_7 : oP MT mX12_anew 7 (0, 1, 0, 0, []) := o_iconst dX12_anew_7 (by decide)
theorem oX12_anew_8 : oP MT mX12_anew 8 (2, 1, 1, 0, []) := o_istore_n dX12_anew_8 rfl (by decide)
theorem oX12_anew_9 : oP MT mX12_anew 9 (1, 1, 1, 0, []) := o_iload_n dX12_anew_9 rfl
theorem oX12_anew_10 : oP MT mX12_anew 10 (1, 1, 0, 1, []) := o_aload_n dX12_anew_10 rfl
theorem oX12_anew_11 : oP MT mX12_anew 11 (13, 3, 0, 12, []) := o_getR (M := mX12_anew) (C := RX12) (T := TX12) (ci := 12) (j := 0) (z := 12) dX12_anew_11 rfl lq_RX12_9 rfl rfl
theorem oX12_anew_14 : oP MT mX12_anew 14 (0, 1, 0, 4, []) := o_iconst dX12_anew_14 (by decide)
theorem oX12_anew_15 : oP MT mX12_anew 15 (16, 1, 1, 0, []) := o_iaload dX12_anew_15
theorem oX12_anew_16 : oP MT mX12_anew 16 (11, 3, 3, 32, []) := o_icmp_ge dX12_anew_16 (by decide) (by decide)
theorem oX12_anew_19 : oP MT mX12_anew 19 (1, 1, 0, 1, []) := o_aload_n dX12_anew_19 rfl
theorem oX12_anew_20 : oP MT mX12_anew 20 (1, 1, 1, 0, []) := o_iload_n dX12_anew_20 rfl
theorem oX12_anew_21 : oP MT mX12_anew 21 (0, 1, 0, 4, []) := o_iconst dX12_anew_21 (by decide)
theorem oX12_anew_22 : oP MT mX12_anew 22 (0, 1, 0, 0, []) := o_iconst dX12_anew_22 (by decide)
theorem oX12_anew_23 : oP MT mX12_anew 23 (26, 3, 0, 3, [(12, 141)]) := o_callO ((vA.cons (v_callV dX12_anew_23 (ci := 12) rfl rfl (mj := mX12_puts) mt_X12_puts cmq_X12_puts wq_523 wq_525 wq_526 (by decide) (by decide)) vA.nil))
theorem oX12_anew_26 : oP MT mX12_anew 26 (3, 3, 1, 1, []) := o_iinc dX12_anew_26 (by decide) (by decide)
theorem oX12_anew_29 : oP MT mX12_anew 29 (9, 3, 9, 0, []) := o_goto dX12_anew_29 (by decide)
theorem oX12_anew_32 : oP MT mX12_anew 32 (1, 1, 0, 1, []) := o_aload_n dX12_anew_32 rfl
theorem oX12_anew_33 : oP MT mX12_anew 33 (0, 1, 0, 0, []) := o_iconst dX12_anew_33 (by decide)
theorem oX12_anew_34 : oP MT mX12_anew 34 (0, 1, 0, 0, []) := o_iconst dX12_anew_34 (by decide)
theorem oX12_anew_35 : oP MT mX12_anew 35 (26, 3, 0, 2, [(12, 193)]) := o_callO ((vA.cons (v_callV dX12_anew_35 (ci := 12) rfl rfl (mj := mX12_becomes) mt_X12_becomes cmq_X12_becomes wq_668 wq_670 wq_671 (by decide) (by decide)) vA.nil))
theorem oX12_anew_38 : oP MT mX12_anew 38 (21, 1, 0, 0, []) := o_iret dX12_anew_38 rfl
def ops_X12_anew : List (Nat × aO) := [(0, (1, 1, 0, 1, [])), (1, (13, 3, 0, 12, [])), (4, (0, 1, 0, 2, [])), (5, (0, 1, 0, 0, [])), (6, (18, 1, 0, 0, [])), (7, (0, 1, 0, 0, [])), (8, (2, 1, 1, 0, [])), (9, (1, 1, 1, 0, [])), (10, (1, 1, 0, 1, [])), (11, (13, 3, 0, 12, [])), (14, (0, 1, 0, 4, [])), (15, (16, 1, 1, 0, [])), (16, (11, 3, 3, 32, [])), (19, (1, 1, 0, 1, [])), (20, (1, 1, 1, 0, [])), (21, (0, 1, 0, 4, [])), (22, (0, 1, 0, 0, [])), (23, (26, 3, 0, 3, [(12, 141)])), (26, (3, 3, 1, 1, [])), (29, (9, 3, 9, 0, [])), (32, (1, 1, 0, 1, [])), (33, (0, 1, 0, 0, [])), (34, (0, 1, 0, 0, [])), (35, (26, 3, 0, 2, [(12, 193)])), (38, (21, 1, 0, 0, []))]
theorem os_X12_anew : oA MT mX12_anew ops_X12_anew := (oA.cons oX12_anew_0 (oA.cons oX12_anew_1 (oA.cons oX12_anew_4 (oA.cons oX12_anew_5 (oA.cons oX12_anew_6 (oA.cons oX12_anew_7 (oA.cons oX12_anew_8 (oA.cons oX12_anew_9 (oA.cons oX12_anew_10 (oA.cons oX12_anew_11 (oA.cons oX12_anew_14 (oA.cons oX12_anew_15 (oA.cons oX12_anew_16 (oA.cons oX12_anew_19 (oA.cons oX12_anew_20 (oA.cons oX12_anew_21 (oA.cons oX12_anew_22 (oA.cons oX12_anew_23 (oA.cons oX12_anew_26 (oA.cons oX12_anew_29 (oA.cons oX12_anew_32 (oA.cons oX12_anew_33 (oA.cons oX12_anew_34 (oA.cons oX12_anew_35 (oA.cons oX12_anew_38 oA.nil)))))))))))))))))))))))))
theorem dX12_state_0 : decode cX12_state 0 = .ok (.iload_n 1, 1) := by decide +kernel
theorem dX12_state_1 : decode cX12_state 1 = .ok (.tableswitch 93 0 6 #[43, 50, 57, 64, 77, 83, 88], 43) := by decide +kernel
theorem dX12_state_44 : decode cX12_state 44 = .ok (.aload_n 0, 1) := by decide +kernel
theorem dX12_state_45 : decode cX12_state 45 = .ok (.getfield 9, 3) := by decide +kernel
theorem dX12_state_48 : decode cX12_state 48 = .ok (.iconst 0, 1) := by decide +kernel
theorem dX12_state_49 : decode cX12_state 49 = .ok (.iaload, 1) := by decide +kernel
theorem dX12_state_50 : decode cX12_state 50 = .ok (.ireturn, 1) := by decide +kernel
theorem dX12_state_51 : decode cX12_state 51 = .ok (.aload_n 0, 1) := by decide +kernel
theorem dX12_state_52 : decode cX12_state 52 = .ok (.getfield 9, 3) := by decide +kernel
theorem dX12_state_55 : decode cX12_state 55 = .ok (.iconst 1, 1) := by decide +kernel
theorem dX12_state_56 : decode cX12_state 56 = .ok (.iaload, 1) := by decide +kernel
theorem dX12_state_57 : decode cX12_state 57 = .ok (.ireturn, 1) := by decide +kernel
theorem dX12_state_58 : decode cX12_state 58 = .ok (.aload_n 0, 1) := by decide +kernel
theorem dX12_state_59 : decode cX12_state 59 = .ok (.getfield 9, 3) := by decide +kernel
theorem dX12_state_62 : decode cX12_state 62 = .ok (.iconst 2, 1) := by decide +kernel
theorem dX12_state_63 : decode cX12_state 63 = .ok (.iaload, 1) := by decide +kernel
theorem dX12_state_64 : decode cX12_state 64 = .ok (.ireturn, 1) := by decide +kernel
theorem dX12_state_65 : decode cX12_state 65 = .ok (.aload_n 0, 1) := by decide +kernel
theorem dX12_state_66 : decode cX12_state 66 = .ok (.invokevirtual 229, 3) := by decide +kernel
theorem dX12_state_69 : decode cX12_state 69 = .ok (.ifCond .eq 7, 3) := by decide +kernel
theorem dX12_state_72 : decode cX12_state 72 = .ok (.iconst 1, 1) := by decide +kernel
theorem dX12_state_73 : decode cX12_state 73 = .ok (.goto 4, 3) := by decide +kernel
theorem dX12_state_76 : decode cX12_state 76 = .ok (.iconst 0, 1) := by decide +kernel
theorem dX12_state_77 : decode cX12_state 77 = .ok (.ireturn, 1) := by decide +kernel
theorem dX12_state_78 : decode cX12_state 78 = .ok (.aload_n 0, 1) := by decide +kernel
theorem dX12_state_79 : decode cX12_state 79 = .ok (.iconst 4, 1) := by decide +kernel
theorem dX12_state_80 : decode cX12_state 80 = .ok (.invokevirtual 232, 3) := by decide +kernel
theorem dX12_state_83 : decode cX12_state 83 = .ok (.ireturn, 1) := by decide +kernel
theorem dX12_state_84 : decode cX12_state 84 = .ok (.aload_n 0, 1) := by decide +kernel
theorem dX12_state_85 : decode cX12_state 85 = .ok (.invokevirtual 83, 3) := by decide +kernel
theorem dX12_state_88 : decode cX12_state 88 = .ok (.ireturn, 1) := by decide +kernel
theorem dX12_state_89 : decode cX12_state 89 = .ok (.aload_n 0, 1) := by decide +kernel
theorem dX12_state_90 : decode cX12_state 90 = .ok (.invokevirtual 235, 3) := by decide +kernel
theorem dX12_state_93 : decode cX12_state 93 = .ok (.ireturn, 1) := by decide +kernel
theorem dX12_state_94 : decode cX12_state 94 = .ok (.iconst (-1), 1) := by decide +kernel
theorem dX12_state_95 : decode cX12_state 95 = .ok (.ireturn, 1) := by decide +kernel
theorem oX12_state_0 : oP MT mX12_state 0 (1, 1, 1, 0, []) := o_iload_n dX12_state_0 rfl
theorem oX12_state_1 : oP MT mX12_state 1 (24, 43, 94, 0, [(0, 44), (1, 51), (2, 58), (3, 65), (4, 78), (5, 84), (6, 89)]) := o_table dX12_state_1 rfl (by decide) (by decide) (by decide)
theorem oX12_state_44 : oP MT mX12_state 44 (1, 1, 0, 1, []) := o_aload_n dX12_state_44 rfl
theorem oX12_state_45 : oP MT mX12_state 45 (13, 3, 0, 12, []) := o_getR (M := mX12_state) (C := RX12) (T := TX12) (ci := 12) (j := 0) (z := 12) dX12_state_45 rfl lq_RX12_9 rfl rfl
theorem oX12_state_48 : oP MT mX12_state 48 (0, 1, 0, 0, []) := o_iconst dX12_state_48 (by decide)
theorem oX12_state_49 : oP MT mX12_state 49 (16, 1, 1, 0, []) := o_iaload dX12_state_49
theorem oX12_state_50 : oP MT mX12_state 50 (21, 1, 0, 0, []) := o_iret dX12_state_50 rfl
theorem oX12_state_51 : oP MT mX12_state 51 (1, 1, 0, 1, []) := o_aload_n dX12_state_51 rfl
theorem oX12_state_52 : oP MT mX12_state 52 (13, 3, 0, 12, []) := o_getR (M := mX12_state) (C := RX12) (T := TX12) (ci := 12) (j := 0) (z := 12) dX12_state_52 rfl lq_RX12_9 rfl rfl
theorem oX12_state_55 : oP MT mX12_state 55 (0, 1, 0, 1, []) := o_iconst dX12_state_55 (by decide)
theorem oX12_state_56 : oP MT mX12_state 56 (16, 1, 1, 0, []) := o_iaload dX12_state_56
theorem oX12_state_57 : oP MT mX12_state 57 (21, 1, 0, 0, []) := o_iret dX12_state_57 rfl
theorem oX12_state_58 : oP MT mX12_state 58 (1, 1, 0, 1, []) := o_aload_n dX12_state_58 rfl
theorem oX12_state_59 : oP MT mX12_state 59 (13, 3, 0, 12, []) := o_getR (M := mX12_state) (C := RX12) (T := TX12) (ci := 12) (j := 0) (z := 12) dX12_state_59 rfl lq_RX12_9 rfl rfl
theorem oX12_state_62 : oP MT mX12_state 62 (0, 1, 0, 2, []) := o_iconst dX12_state_62 (by decide)
theorem oX12_state_63 : oP MT mX12_state 63 (16, 1, 1, 0, []) := o_iaload dX12_state_63
theorem oX12_state_64 : oP MT mX12_state 64 (21, 1, 0, 0, []) := o_iret dX12_state_64 rfl
theorem oX12_state_65 : oP MT mX12_state 65 (1, 1, 0, 1, []) := o_aload_n dX12_state_65 rfl
theorem oX12_state_66 : oP MT mX12_state 66 (26, 3, 0, 0, [(12, 150)]) := o_callO ((vA.cons (v_callV dX12_state_66 (ci := 12) rfl rfl (mj := mX12_isOver) mt_X12_isOver cmq_X12_isOver wq_557 wq_559 wq_560 (by decide) (by decide)) vA.nil))
theorem oX12_state_69 : oP MT mX12_state 69 (10, 3, 0, 76, []) := o_if_eq dX12_state_69 (by decide) (by decide)
theorem oX12_state_72 : oP MT mX12_state 72 (0, 1, 0, 1, []) := o_iconst dX12_state_72 (by decide)
theorem oX12_state_73 : oP MT mX12_state 73 (9, 3, 77, 0, []) := o_goto dX12_state_73 (by decide)
theorem oX12_state_76 : oP MT mX12_state 76 (0, 1, 0, 0, []) := o_iconst dX12_state_76 (by decide)
theorem oX12_state_77 : oP MT mX12_state 77 (21, 1, 0, 0, []) := o_iret dX12_state_77 rfl
theorem oX12_state_78 : oP MT mX12_state 78 (1, 1, 0, 1, []) := o_aload_n dX12_state_78 rfl
theorem oX12_state_79 : oP MT mX12_state 79 (0, 1, 0, 4, []) := o_iconst dX12_state_79 (by decide)
theorem oX12_state_80 : oP MT mX12_state 80 (26, 3, 0, 1, [(12, 157)]) := o_callO ((vA.cons (v_callV dX12_state_80 (ci := 12) rfl rfl (mj := mX12_those) mt_X12_those cmq_X12_those wq_585 wq_587 wq_588 (by decide) (by decide)) vA.nil))
theorem oX12_state_83 : oP MT mX12_state 83 (21, 1, 0, 0, []) := o_iret dX12_state_83 rfl
theorem oX12_state_84 : oP MT mX12_state 84 (1, 1, 0, 1, []) := o_aload_n dX12_state_84 rfl
theorem oX12_state_85 : oP MT mX12_state 85 (26, 3, 0, 0, [(12, 118)]) := o_callO ((vA.cons (v_callV dX12_state_85 (ci := 12) rfl rfl (mj := mX12_sunNow) mt_X12_sunNow cmq_X12_sunNow wq_439 wq_441 wq_442 (by decide) (by decide)) vA.nil))
theorem oX12_state_88 : oP MT mX12_state 88 (21, 1, 0, 0, []) := o_iret dX12_state_88 rfl
theorem oX12_state_89 : oP MT mX12_state 89 (1, 1, 0, 1, []) := o_aload_n dX12_state_89 rfl
theorem oX12_state_90 : oP MT mX12_state 90 (26, 3, 0, 0, [(12, 156)]) := o_callO ((vA.cons (v_callV dX12_state_90 (ci := 12) rfl rfl (mj := mX12_teethAll) mt_X12_teethAll cmq_X12_teethAll wq_677 wq_679 wq_680 (by decide) (by decide)) vA.nil))
theorem oX12_state_93 : oP MT mX12_state 93 (21, 1, 0, 0, []) := o_iret dX12_state_93 rfl
theorem oX12_state_94 : oP MT mX12_state 94 (0, 1, 0, (-1), []) := o_iconst dX12_state_94 (by decide)
theorem oX12_state_95 : oP MT mX12_state 95 (21, 1, 0, 0, []) := o_iret dX12_state_95 rfl
def ops_X12_state : List (Nat × aO) := [(0, (1, 1, 1, 0, [])), (1, (24, 43, 94, 0, [(0, 44), (1, 51), (2, 58), (3, 65), (4, 78), (5, 84), (6, 89)])), (44, (1, 1, 0, 1, [])), (45, (13, 3, 0, 12, [])), (48, (0, 1, 0, 0, [])), (49, (16, 1, 1, 0, [])), (50, (21, 1, 0, 0, [])), (51, (1, 1, 0, 1, [])), (52, (13, 3, 0, 12, [])), (55, (0, 1, 0, 1, [])), (56, (16, 1, 1, 0, [])), (57, (21, 1, 0, 0, [])), (58, (1, 1, 0, 1, [])), (59, (13, 3, 0, 12, [])), (62, (0, 1, 0, 2, [])), (63, (16, 1, 1, 0, [])), (64, (21, 1, 0, 0, [])), (65, (1, 1, 0, 1, [])), (66, (26, 3, 0, 0, [(12, 150)])), (69, (10, 3, 0, 76, [])), (72, (0, 1, 0, 1, [])), (73, (9, 3, 77, 0, [])), (76, (0, 1, 0, 0, [])), (77, (21, 1, 0, 0, [])), (78, (1, 1, 0, 1, [])), (79, (0, 1, 0, 4, [])), (80, (26, 3, 0, 1, [(12, 157)])), (83, (21, 1, 0, 0, [])), (84, (1, 1, 0, 1, [])), (85, (26, 3, 0, 0, [(12, 118)])), (88, (21, 1, 0, 0, [])), (89, (1, 1, 0, 1, [])), (90, (26, 3, 0, 0, [(12, 156)])), (93, (21, 1, 0, 0, [])), (94, (0, 1, 0, (-1), [])), (95, (21, 1, 0, 0, []))]
theorem os_X12_state : oA MT mX12_state ops_X12_state := (oA.cons oX12_state_0 (oA.cons oX12_state_1 (oA.cons oX12_state_44 (oA.cons oX12_state_45 (oA.cons oX12_state_48 (oA.cons oX12_state_49 (oA.cons oX12_state_50 (oA.cons oX12_state_51 (oA.cons oX12_state_52 (oA.cons oX12_state_55 (oA.cons oX12_state_56 (oA.cons oX12_state_57 (oA.cons oX12_state_58 (oA.cons oX12_state_59 (oA.cons oX12_state_62 (oA.cons oX12_state_63 (oA.cons oX12_state_64 (oA.cons oX12_state_65 (oA.cons oX12_state_66 (oA.cons oX12_state_69 (oA.cons oX12_state_72 (oA.cons oX12_state_73 (oA.cons oX12_state_76 (oA.cons oX12_state_77 (oA.cons oX12_state_78 (oA.cons oX12_state_79 (oA.cons oX12_state_80 (oA.cons oX12_state_83 (oA.cons oX12_state_84 (oA.cons oX12_state_85 (oA.cons oX12_state_88 (oA.cons oX12_state_89 (oA.cons oX12_state_90 (oA.cons oX12_state_93 (oA.cons oX12_state_94 (oA.cons oX12_state_95 oA.nil))))))))))))))))))))))))))))))))))))
theorem dX12_feed_0 : decode cX12_feed 0 = .ok (.iload_n 3, 1) := by decide +kernel
theorem dX12_feed_1 : decode cX12_feed 1 = .ok (.iconst 1, 1) := by decide +kernel
theorem dX12_feed_2 : decode cX12_feed 2 = .ok (.bipush 8, 2) := by decide +kernel
theorem dX12_feed_4 : decode cX12_feed 4 = .ok (.invokestatic 71, 3) := by decide +kernel
theorem dX12_feed_7 : decode cX12_feed 7 = .ok (.ifCond .ne 5, 3) := by decide +kernel
theorem dX12_feed_10 : decode cX12_feed 10 = .ok (.iconst (-1), 1) := by decide +kernel
theorem dX12_feed_11 : decode cX12_feed 11 = .ok (.ireturn, 1) := by decide +kernel
theorem dX12_feed_12 : decode cX12_feed 12 = .ok (.aload_n 0, 1) := by decide +kernel
theorem dX12_feed_13 : decode cX12_feed 13 = .ok (.getfield 126, 3) := by decide +kernel
theorem dX12_feed_16 : decode cX12_feed 16 = .ok (.iload_n 3, 1) := by decide +kernel
theorem dX12_feed_17 : decode cX12_feed 17 = .ok (.iadd, 1) := by decide +kernel
theorem dX12_feed_18 : decode cX12_feed 18 = .ok (.sipush 200, 3) := by decide +kernel
theorem dX12_feed_21 : decode cX12_feed 21 = .ok (.if_icmp .le 6, 3) := by decide +kernel
theorem dX12_feed_24 : decode cX12_feed 24 = .ok (.bipush (-2), 2) := by decide +kernel
theorem dX12_feed_26 : decode cX12_feed 26 = .ok (.ireturn, 1) := by decide +kernel
theorem dX12_feed_27 : decode cX12_feed 27 = .ok (.iconst 0, 1) := by decide +kernel
theorem dX12_feed_28 : decode cX12_feed 28 = .ok (.istore 4, 2) := by decide +kernel
theorem dX12_feed_30 : decode cX12_feed 30 = .ok (.iload 4, 2) := by decide +kernel
theorem dX12_feed_32 : decode cX12_feed 32 = .ok (.iload_n 3, 1) := by decide +kernel
theorem dX12_feed_33 : decode cX12_feed 33 = .ok (.if_icmp .ge 40, 3) := by decide +kernel
theorem dX12_feed_36 : decode cX12_feed 36 = .ok (.aload_n 0, 1) := by decide +kernel
theorem dX12_feed_37 : decode cX12_feed 37 = .ok (.getfield 22, 3) := by decide +kernel
theorem dX12_feed_40 : decode cX12_feed 40 = .ok (.aload_n 0, 1) := by decide +kernel
theorem dX12_feed_41 : decode cX12_feed 41 = .ok (.getfield 126, 3) := by decide +kernel
theorem dX12_feed_44 : decode cX12_feed 44 = .ok (.lload_n 1, 1) := by decide +kernel
theorem dX12_feed_45 : decode cX12_feed 45 = .ok (.bipush 8, 2) := by decide +kernel
theorem dX12_feed_47 : decode cX12_feed 47 = .ok (.iload 4, 2) := by decide +kernel
theorem dX12_feed_49 : decode cX12_feed 49 = .ok (.imul, 1) := by decide +kernel
theorem dX12_feed_50 : decode cX12_feed 50 = .ok (.lshr, 1) := by decide +kernel
theorem dX12_feed_51 : decode cX12_feed 51 = .ok (.ldc2_w 190, 3) := by decide +kernel
theorem dX12_feed_54 : decode cX12_feed 54 = .ok (.land, 1) := by decide +kernel
theorem dX12_feed_55 : decode cX12_feed 55 = .ok (.l2i, 1) := by decide +kernel
theorem dX12_feed_56 : decode cX12_feed 56 = .ok (.iastore, 1) := by decide +kernel
theorem dX12_feed_57 : decode cX12_feed 57 = .ok (.aload_n 0, 1) := by decide +kernel
theorem dX12_feed_58 : decode cX12_feed 58 = .ok (.dup, 1) := by decide +kernel
theorem dX12_feed_59 : decode cX12_feed 59 = .ok (.getfield 126, 3) := by decide +kernel
theorem dX12_feed_62 : decode cX12_feed 62 = .ok (.iconst 1, 1) := by decide +kernel
theorem dX12_feed_63 : decode cX12_feed 63 = .ok (.iadd, 1) := by decide +kernel
theorem dX12_feed_64 : decode cX12_feed 64 = .ok (.putfield 126, 3) := by decide +kernel
theorem dX12_feed_67 : decode cX12_feed 67 = .ok (.iinc 4 1, 3) := by decide +kernel
theorem dX12_feed_70 : decode cX12_feed 70 = .ok (.goto (-40), 3) := by decide +kernel
theorem dX12_feed_73 : decode cX12_feed 73 = .ok (.aload_n 0, 1) := by decide +kernel
theorem dX12_feed_74 : decode cX12_feed 74 = .ok (.getfield 126, 3) := by decide +kernel
theorem dX12_feed_77 : decode cX12_feed 77 = .ok (.ireturn, 1) := by decide +kernel
theorem oX12_feed_0 : oP MT mX12_feed 0 (1, 1, 3, 0, []) := o_iload_n dX12_feed_0 rfl
theorem oX12_feed_1 : oP MT mX12_feed 1 (0, 1, 0, 1, []) := o_iconst dX12_feed_1 (by decide)
theorem oX12_feed_2 : oP MT mX12_feed 2 (0, 2, 0, 8, []) := o_bipush dX12_feed_2 (by decide)
theorem oX12_feed_4 : oP MT mX12_feed 4 (25, 3, 127, 3, []) := o_callS dX12_feed_4 (mj := mX12_in1) mt_X12_in1 cmq_X12_in1 wq_468 wq_470 (by decide) (by decide)
theorem oX12_feed_7 : oP MT mX12_feed 7 (10, 3, 1, 12, []) := o_if_ne dX12_feed_7 (by decide) (by decide)
theorem oX12_feed_10 : oP MT mX12_feed 10 (0, 1, 0, (-1), []) := o_iconst dX12_feed_10 (by decide)
theorem oX12_feed_11 : oP MT mX12_feed 11 (21, 1, 0, 0, []) := o_iret dX12_feed_11 rfl
theorem oX12_feed_12 : oP MT mX12_feed 12 (1, 1, 0, 1, []) := o_aload_n dX12_feed_12 rfl
theorem oX12_feed_13 : oP MT mX12_feed 13 (12, 3, 6, 12, []) := o_getI (M := mX12_feed) (C := RX12) (T := TX12) (ci := 12) (j := 6) (z := 12) dX12_feed_13 rfl lq_RX12_126 rfl rfl
theorem oX12_feed_16 : oP MT mX12_feed 16 (1, 1, 3, 0, []) := o_iload_n dX12_feed_16 rfl
theorem oX12_feed_17 : oP MT mX12_feed 17 (4, 1, 0, 0, []) := o_iadd dX12_feed_17
theorem oX12_feed_18 : oP MT mX12_feed 18 (0, 3, 0, 200, []) := o_sipush dX12_feed_18 (by decide)
theorem oX12_feed_21 : oP MT mX12_feed 21 (11, 3, 5, 27, []) := o_icmp_le dX12_feed_21 (by decide) (by decide)
theorem oX12_feed_24 : oP MT mX12_feed 24 (0, 2, 0, (-2), []) := o_bipush dX12_feed_24 (by decide)
theorem oX12_feed_26 : oP MT mX12_feed 26 (21, 1, 0, 0, []) := o_iret dX12_feed_26 rfl
theorem oX12_feed_27 : oP MT mX12_feed 27 (0, 1, 0, 0, []) := o_iconst dX12_feed_27 (by decide)
theorem oX12_feed_28 : oP MT mX12_feed 28 (2, 2, 4, 0, []) := o_istore dX12_feed_28 (by decide)
theorem oX12_feed_30 : oP MT mX12_feed 30 (1, 2, 4, 0, []) := o_iload dX12_feed_30
theorem oX12_feed_32 : oP MT mX12_feed 32 (1, 1, 3, 0, []) := o_iload_n dX12_feed_32 rfl
theorem oX12_feed_33 : oP MT mX12_feed 33 (11, 3, 3, 73, []) := o_icmp_ge dX12_feed_33 (by decide) (by decide)
theorem oX12_feed_36 : oP MT mX12_feed 36 (1, 1, 0, 1, []) := o_aload_n dX12_feed_36 rfl
theorem oX12_feed_37 : oP MT mX12_feed 37 (13, 3, 5, 12, []) := o_getR (M := mX12_feed) (C := RX12) (T := TX12) (ci := 12) (j := 5) (z := 12) dX12_feed_37 rfl lq_RX12_22 rfl rfl
theorem oX12_feed_40 : oP MT mX12_feed 40 (1, 1, 0, 1, []) := o_aload_n dX12_feed_40 rfl
theorem oX12_feed_41 : oP MT mX12_feed 41 (12, 3, 6, 12, []) := o_getI (M := mX12_feed) (C := RX12) (T := TX12) (ci := 12) (j := 6) (z := 12) dX12_feed_41 rfl lq_RX12_126 rfl rfl
theorem oX12_feed_45 : oP MT mX12_feed 45 (0, 2, 0, 8, []) := o_bipush dX12_feed_45 (by decide)
theorem oX12_feed_47 : oP MT mX12_feed 47 (1, 2, 4, 0, []) := o_iload dX12_feed_47
theorem oX12_feed_49 : oP MT mX12_feed 49 (4, 1, 2, 0, []) := o_imul dX12_feed_49
theorem oX12_feed_56 : oP MT mX12_feed 56 (18, 1, 0, 0, []) := o_iastore dX12_feed_56
theorem oX12_feed_57 : oP MT mX12_feed 57 (1, 1, 0, 1, []) := o_aload_n dX12_feed_57 rfl
theorem oX12_feed_58 : oP MT mX12_feed 58 (6, 1, 0, 0, []) := o_dup dX12_feed_58
theorem oX12_feed_59 : oP MT mX12_feed 59 (12, 3, 6, 12, []) := o_getI (M := mX12_feed) (C := RX12) (T := TX12) (ci := 12) (j := 6) (z := 12) dX12_feed_59 rfl lq_RX12_126 rfl rfl
theorem oX12_feed_62 : oP MT mX12_feed 62 (0, 1, 0, 1, []) := o_iconst dX12_feed_62 (by decide)
theorem oX12_feed_63 : oP MT mX12_feed 63 (4, 1, 0, 0, []) := o_iadd dX12_feed_63
theorem oX12_feed_64 : oP MT mX12_feed 64 (14, 3, 6, 12, []) := o_putI (M := mX12_feed) (C := RX12) (T := TX12) (ci := 12) (j := 6) (z := 12) dX12_feed_64 rfl lq_RX12_126 rfl rfl rfl rfl
theorem oX12_feed_67 : oP MT mX12_feed 67 (3, 3, 4, 1, []) := o_iinc dX12_feed_67 (by decide) (by decide)
theorem oX12_feed_70 : oP MT mX12_feed 70 (9, 3, 30, 0, []) := o_goto dX12_feed_70 (by decide)
theorem oX12_feed_73 : oP MT mX12_feed 73 (1, 1, 0, 1, []) := o_aload_n dX12_feed_73 rfl
theorem oX12_feed_74 : oP MT mX12_feed 74 (12, 3, 6, 12, []) := o_getI (M := mX12_feed) (C := RX12) (T := TX12) (ci := 12) (j := 6) (z := 12) dX12_feed_74 rfl lq_RX12_126 rfl rfl
theorem oX12_feed_77 : oP MT mX12_feed 77 (21, 1, 0, 0, []) := o_iret dX12_feed_77 rfl
def ops_X12_feed : List (Nat × aO) := [(0, (1, 1, 3, 0, [])), (1, (0, 1, 0, 1, [])), (2, (0, 2, 0, 8, [])), (4, (25, 3, 127, 3, [])), (7, (10, 3, 1, 12, [])), (10, (0, 1, 0, (-1), [])), (11, (21, 1, 0, 0, [])), (12, (1, 1, 0, 1, [])), (13, (12, 3, 6, 12, [])), (16, (1, 1, 3, 0, [])), (17, (4, 1, 0, 0, [])), (18, (0, 3, 0, 200, [])), (21, (11, 3, 5, 27, [])), (24, (0, 2, 0, (-2), [])), (26, (21, 1, 0, 0, [])), (27, (0, 1, 0, 0, [])), (28, (2, 2, 4, 0, [])), (30, (1, 2, 4, 0, [])), (32, (1, 1, 3, 0, [])), (33, (11, 3, 3, 73, [])), (36, (1, 1, 0, 1, [])), (37, (13, 3, 5, 12, [])), (40, (1, 1, 0, 1, [])), (41, (12, 3, 6, 12, [])), (45, (0, 2, 0, 8, [])), (47, (1, 2, 4, 0, [])), (49, (4, 1, 2, 0, [])), (56, (18, 1, 0, 0, [])), (57, (1, 1, 0, 1, [])), (58, (6, 1, 0, 0, [])), (59, (12, 3, 6, 12, [])), (62, (0, 1, 0, 1, [])), (63, (4, 1, 0, 0, [])), (64, (14, 3, 6, 12, [])), (67, (3, 3, 4, 1, [])), (70, (9, 3, 30, 0, [])), (73, (1, 1, 0, 1, [])), (74, (12, 3, 6, 12, [])), (77, (21, 1, 0, 0, []))]
theorem os_X12_feed : oA MT mX12_feed ops_X12_feed := (oA.cons oX12_feed_0 (oA.cons oX12_feed_1 (oA.cons oX12_feed_2 (oA.cons oX12_feed_4 (oA.cons oX12_feed_7 (oA.cons oX12_feed_10 (oA.cons oX12_feed_11 (oA.cons oX12_feed_12 (oA.cons oX12_feed_13 (oA.cons oX12_feed_16 (oA.cons oX12_feed_17 (oA.cons oX12_feed_18 (oA.cons oX12_feed_21 (oA.cons oX12_feed_24 (oA.cons oX12_feed_26 (oA.cons oX12_feed_27 (oA.cons oX12_feed_28 (oA.cons oX12_feed_30 (oA.cons oX12_feed_32 (oA.cons oX12_feed_33 (oA.cons oX12_feed_36 (oA.cons oX12_feed_37 (oA.cons oX12_feed_40 (oA.cons oX12_feed_41 (oA.cons oX12_feed_45 (oA.cons oX12_feed_47 (oA.cons oX12_feed_49 (oA.cons oX12_feed_56 (oA.cons oX12_feed_57 (oA.cons oX12_feed_58 (oA.cons oX12_feed_59 (oA.cons oX12_feed_62 (oA.cons oX12_feed_63 (oA.cons oX12_feed_64 (oA.cons oX12_feed_67 (oA.cons oX12_feed_70 (oA.cons oX12_feed_73 (oA.cons oX12_feed_74 (oA.cons oX12_feed_77 oA.nil)))))))))))))))))))))))))))))))))))))))
