theorem dX12_again_0 : decode cX12_again 0 = .ok (.aload_n 0, 1) := by decide +kernel
theorem dX12_again_1 : decode cX12_again 1 = .ok (.getfield 369, 3) := by decide +kernel
theorem dX12_again_4 : decode cX12_again 4 = .ok (.ifCond .ne 6, 3) := by decide +kernel
theorem dX12_again_7 : decode cX12_again 7 = .ok (.bipush (-3), 2) := by decide +kernel
theorem dX12_again_9 : decode cX12_again 9 = .ok (.ireturn, 1) := by decide +kernel
theorem dX12_again_10 : decode cX12_again 10 = .ok (.iconst 0, 1) := by decide +kernel
theorem dX12_again_11 : decode cX12_again 11 = .ok (.istore_n 1, 1) := by decide +kernel
theorem dX12_again_12 : decode cX12_again 12 = .ok (.iload_n 1, 1) := by decide +kernel
theorem dX12_again_13 : decode cX12_again 13 = .ok (.sipush 313, 3) := by decide +kernel
theorem dX12_again_16 : decode cX12_again 16 = .ok (.if_icmp .ge 21, 3) := by decide +kernel
theorem dX12_again_19 : decode cX12_again 19 = .ok (.aload_n 0, 1) := by decide +kernel
theorem dX12_again_20 : decode cX12_again 20 = .ok (.getfield 9, 3) := by decide +kernel
theorem dX12_again_23 : decode cX12_again 23 = .ok (.iload_n 1, 1) := by decide +kernel
theorem dX12_again_24 : decode cX12_again 24 = .ok (.aload_n 0, 1) := by decide +kernel
theorem dX12_again_25 : decode cX12_again 25 = .ok (.getfield 13, 3) := by decide +kernel
theorem dX12_again_28 : decode cX12_again 28 = .ok (.iload_n 1, 1) := by decide +kernel
theorem dX12_again_29 : decode cX12_again 29 = .ok (.iaload, 1) := by decide +kernel
theorem dX12_again_30 : decode cX12_again 30 = .ok (.iastore, 1) := by decide +kernel
theorem dX12_again_31 : decode cX12_again 31 = .ok (.iinc 1 1, 3) := by decide +kernel
theorem dX12_again_34 : decode cX12_again 34 = .ok (.goto (-22), 3) := by decide +kernel
theorem dX12_again_37 : decode cX12_again 37 = .ok (.aload_n 0, 1) := by decide +kernel
theorem dX12_again_38 : decode cX12_again 38 = .ok (.getfield 9, 3) := by decide +kernel
theorem dX12_again_41 : decode cX12_again 41 = .ok (.iconst 4, 1) := by decide +kernel
theorem dX12_again_42 : decode cX12_again 42 = .ok (.iaload, 1) := by decide +kernel
theorem dX12_again_43 : decode cX12_again 43 = .ok (.ireturn, 1) := by decide +kernel
theorem oX12_again_0 : oP MT mX12_again 0 (1, 1, 0, 1, []) := o_aload_n dX12_again_0 rfl
theorem oX12_again_1 : oP MT mX12_again 1 (12, 3, 3, 12, []) := o_getI (M := mX12_again) (C := RX12) (T := TX12) (ci := 12) (j := 3) (z := 12) dX12_again_1 rfl lq_RX12_369 rfl rfl
theorem oX12_again_4 : oP MT mX12_again 4 (10, 3, 1, 10, []) := o_if_ne dX12_again_4 (by decide) (by decide)
theorem oX12_again_7 : oP MT mX12_again 7 (0, 2, 0, (-3), []) := o_bipush dX12_again_7 (by decide)
theorem oX12_again_9 : oP MT mX12_again 9 (21, 1, 0, 0, []) := o_iret dX12_again_9 rfl
theorem oX12_again_10 : oP MT mX12_again 10 (0, 1, 0, 0, []) := o_iconst dX12_again_10 (by decide)
theorem oX12_again_11 : oP MT mX12_again 11 (2, 1, 1, 0, []) := o_istore_n dX12_again_11 rfl (by decide)
theorem oX12_again_12 : oP MT mX12_again 12 (1, 1, 1, 0, []) := o_iload_n dX12_again_12 rfl
theorem oX12_again_13 : oP MT mX12_again 13 (0, 3, 0, 313, []) := o_sipush dX12_again_13 (by decide)
theorem oX12_again_16 : oP MT mX12_again 16 (11, 3, 3, 37, []) := o_icmp_ge dX12_again_16 (by decide) (by decide)
theorem oX12_again_19 : oP MT mX12_again 19 (1, 1, 0, 1, []) := o_aload_n dX12_again_19 rfl
theorem oX12_again_20 : oP MT mX12_again 20 (13, 3, 0, 12, []) := o_getR (M := mX12_again) (C := RX12) (T := TX12) (ci := 12) (j := 0) (z := 12) dX12_again_20 rfl lq_RX12_9 rfl rfl
theorem oX12_again_23 : oP MT mX12_again 23 (1, 1, 1, 0, []) := o_iload_n dX12_again_23 rfl
theorem oX12_again_24 : oP MT mX12_again 24 (1, 1, 0, 1, []) := o_aload_n dX12_again_24 rfl
theorem oX12_again_25 : oP MT mX12_again 25 (13, 3, 1, 12, []) := o_getR (M := mX12_again) (C := RX12) (T := TX12) (ci := 12) (j := 1) (z := 12) dX12_again_25 rfl lq_RX12_13 rfl rfl
theorem oX12_again_28 : oP MT mX12_again 28 (1, 1, 1, 0, []) := o_iload_n dX12_again_28 rfl
theorem oX12_again_29 : oP MT mX12_again 29 (16, 1, 1, 0, []) := o_iaload dX12_again_29
theorem oX12_again_30 : oP MT mX12_again 30 (18, 1, 0, 0, []) := o_iastore dX12_again_30
theorem oX12_again_31 : oP MT mX12_again 31 (3, 3, 1, 1, []) := o_iinc dX12_again_31 (by decide) (by decide)
theorem oX12_again_34 : oP MT mX12_again 34 (9, 3, 12, 0, []) := o_goto dX12_again_34 (by decide)
theorem oX12_again_37 : oP MT mX12_again 37 (1, 1, 0, 1, []) := o_aload_n dX12_again_37 rfl
theorem oX12_again_38 : oP MT mX12_again 38 (13, 3, 0, 12, []) := o_getR (M := mX12_again) (C := RX12) (T := TX12) (ci := 12) (j := 0) (z := 12) dX12_again_38 rfl lq_RX12_9 rfl rfl
theorem oX12_again_41 : oP MT mX12_again 41 (0, 1, 0, 4, []) := o_iconst dX12_again_41 (by decide)
theorem oX12_again_42 : oP MT mX12_again 42 (16, 1, 1, 0, []) := o_iaload dX12_again_42
theorem oX12_again_43 : oP MT mX12_again 43 (21, 1, 0, 0, []) := o_iret dX12_again_43 rfl
def ops_X12_again : List (Nat × aO) := [(0, (1, 1, 0, 1, [])), (1, (12, 3, 3, 12, [])), (4, (10, 3, 1, 10, [])), (7, (0, 2, 0, (-3), [])), (9, (21, 1, 0, 0, [])), (10, (0, 1, 0, 0, [])), (11, (2, 1, 1, 0, [])), (12, (1, 1, 1, 0, [])), (13, (0, 3, 0, 313, [])), (16, (11, 3, 3, 37, [])), (19, (1, 1, 0, 1, [])), (20, (13, 3, 0, 12, [])), (23, (1, 1, 1, 0, [])), (24, (1, 1, 0, 1, [])), (25, (13, 3, 1, 12, [])), (28, (1, 1, 1, 0, [])), (29, (16, 1, 1, 0, [])), (30, (18, 1, 0, 0, [])), (31, (3, 3, 1, 1, [])), (34, (9, 3, 12, 0, [])), (37, (1, 1, 0, 1, [])), (38, (13, 3, 0, 12, [])), (41, (0, 1, 0, 4, [])), (42, (16, 1, 1, 0, [])), (43, (21, 1, 0, 0, []))]
theorem os_X12_again : oA MT mX12_again ops_X12_again := (oA.cons oX12_again_0 (oA.cons oX12_again_1 (oA.cons oX12_again_4 (oA.cons oX12_again_7 (oA.cons oX12_again_9 (oA.cons oX12_again_10 (oA.cons oX12_again_11 (oA.cons oX12_again_12 (oA.cons oX12_again_13 (oA.cons oX12_again_16 (oA.cons oX12_again_19 (oA.cons oX12_again_20 (oA.cons oX12_again_23 (oA.cons oX12_again_24 (oA.cons oX12_again_25 (oA.cons oX12_again_28 (oA.cons oX12_again_29 (oA.cons oX12_again_30 (oA.cons oX12_again_31 (oA.cons oX12_again_34 (oA.cons oX12_again_37 (oA.cons oX12_again_38 (oA.cons oX12_again_41 (oA.cons oX12_again_42 (oA.cons oX12_again_43 oA.nil)))))))))))))))))))))))))
