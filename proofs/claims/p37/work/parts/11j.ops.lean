theorem dX12_trace_0 : decode cX12_trace 0 = .ok (.iload_n 1, 1) := by decide +kernel
theorem dX12_trace_1 : decode cX12_trace 1 = .ok (.iconst 0, 1) := by decide +kernel
theorem dX12_trace_2 : decode cX12_trace 2 = .ok (.aload_n 0, 1) := by decide +kernel
theorem dX12_trace_3 : decode cX12_trace 3 = .ok (.getfield 341, 3) := by decide +kernel
theorem dX12_trace_6 : decode cX12_trace 6 = .ok (.iconst 1, 1) := by decide +kernel
theorem dX12_trace_7 : decode cX12_trace 7 = .ok (.isub, 1) := by decide +kernel
theorem dX12_trace_8 : decode cX12_trace 8 = .ok (.invokestatic 71, 3) := by decide +kernel
theorem dX12_trace_11 : decode cX12_trace 11 = .ok (.ifCond .eq 12, 3) := by decide +kernel
theorem dX12_trace_14 : decode cX12_trace 14 = .ok (.aload_n 0, 1) := by decide +kernel
theorem dX12_trace_15 : decode cX12_trace 15 = .ok (.getfield 68, 3) := by decide +kernel
theorem dX12_trace_18 : decode cX12_trace 18 = .ok (.iload_n 1, 1) := by decide +kernel
theorem dX12_trace_19 : decode cX12_trace 19 = .ok (.iaload, 1) := by decide +kernel
theorem dX12_trace_20 : decode cX12_trace 20 = .ok (.goto 5, 3) := by decide +kernel
theorem dX12_trace_23 : decode cX12_trace 23 = .ok (.bipush (-3), 2) := by decide +kernel
theorem dX12_trace_25 : decode cX12_trace 25 = .ok (.ireturn, 1) := by decide +kernel
theorem oX12_trace_0 : oP MT mX12_trace 0 (1, 1, 1, 0, []) := o_iload_n dX12_trace_0 rfl
theorem oX12_trace_1 : oP MT mX12_trace 1 (0, 1, 0, 0, []) := o_iconst dX12_trace_1 (by decide)
theorem oX12_trace_2 : oP MT mX12_trace 2 (1, 1, 0, 1, []) := o_aload_n dX12_trace_2 rfl
theorem oX12_trace_3 : oP MT mX12_trace 3 (12, 3, 34, 12, []) := o_getI (M := mX12_trace) (C := RX12) (T := TX12) (ci := 12) (j := 34) (z := 12) dX12_trace_3 rfl lq_RX12_341 rfl rfl
theorem oX12_trace_6 : oP MT mX12_trace 6 (0, 1, 0, 1, []) := o_iconst dX12_trace_6 (by decide)
theorem oX12_trace_7 : oP MT mX12_trace 7 (4, 1, 1, 0, []) := o_isub dX12_trace_7
theorem oX12_trace_8 : oP MT mX12_trace 8 (25, 3, 127, 3, []) := o_callS dX12_trace_8 (mj := mX12_in1) mt_X12_in1 cmq_X12_in1 wq_468 wq_470 (by decide) (by decide)
theorem oX12_trace_11 : oP MT mX12_trace 11 (10, 3, 0, 23, []) := o_if_eq dX12_trace_11 (by decide) (by decide)
theorem oX12_trace_14 : oP MT mX12_trace 14 (1, 1, 0, 1, []) := o_aload_n dX12_trace_14 rfl
theorem oX12_trace_15 : oP MT mX12_trace 15 (13, 3, 33, 12, []) := o_getR (M := mX12_trace) (C := RX12) (T := TX12) (ci := 12) (j := 33) (z := 12) dX12_trace_15 rfl lq_RX12_68 rfl rfl
theorem oX12_trace_18 : oP MT mX12_trace 18 (1, 1, 1, 0, []) := o_iload_n dX12_trace_18 rfl
theorem oX12_trace_19 : oP MT mX12_trace 19 (16, 1, 1, 0, []) := o_iaload dX12_trace_19
theorem oX12_trace_20 : oP MT mX12_trace 20 (9, 3, 25, 0, []) := o_goto dX12_trace_20 (by decide)
theorem oX12_trace_23 : oP MT mX12_trace 23 (0, 2, 0, (-3), []) := o_bipush dX12_trace_23 (by decide)
theorem oX12_trace_25 : oP MT mX12_trace 25 (21, 1, 0, 0, []) := o_iret dX12_trace_25 rfl
def ops_X12_trace : List (Nat × aO) := [(0, (1, 1, 1, 0, [])), (1, (0, 1, 0, 0, [])), (2, (1, 1, 0, 1, [])), (3, (12, 3, 34, 12, [])), (6, (0, 1, 0, 1, [])), (7, (4, 1, 1, 0, [])), (8, (25, 3, 127, 3, [])), (11, (10, 3, 0, 23, [])), (14, (1, 1, 0, 1, [])), (15, (13, 3, 33, 12, [])), (18, (1, 1, 1, 0, [])), (19, (16, 1, 1, 0, [])), (20, (9, 3, 25, 0, [])), (23, (0, 2, 0, (-3), [])), (25, (21, 1, 0, 0, []))]
theorem os_X12_trace : oA MT mX12_trace ops_X12_trace := (oA.cons oX12_trace_0 (oA.cons oX12_trace_1 (oA.cons oX12_trace_2 (oA.cons oX12_trace_3 (oA.cons oX12_trace_6 (oA.cons oX12_trace_7 (oA.cons oX12_trace_8 (oA.cons oX12_trace_11 (oA.cons oX12_trace_14 (oA.cons oX12_trace_15 (oA.cons oX12_trace_18 (oA.cons oX12_trace_19 (oA.cons oX12_trace_20 (oA.cons oX12_trace_23 (oA.cons oX12_trace_25 oA.nil)))))))))))))))
theorem dX12_many_0 : decode cX12_many 0 = .ok (.iload_n 1, 1) := by decide +kernel
theorem dX12_many_1 : decode cX12_many 1 = .ok (.tableswitch 89 0 6 #[43, 50, 57, 66, 74, 79, 84], 43) := by decide +kernel
theorem dX12_many_44 : decode cX12_many 44 = .ok (.aload_n 0, 1) := by decide +kernel
theorem dX12_many_45 : decode cX12_many 45 = .ok (.getfield 9, 3) := by decide +kernel
theorem dX12_many_48 : decode cX12_many 48 = .ok (.iconst 4, 1) := by decide +kernel
theorem dX12_many_49 : decode cX12_many 49 = .ok (.iaload, 1) := by decide +kernel
theorem dX12_many_50 : decode cX12_many 50 = .ok (.ireturn, 1) := by decide +kernel
theorem dX12_many_51 : decode cX12_many 51 = .ok (.aload_n 0, 1) := by decide +kernel
theorem dX12_many_52 : decode cX12_many 52 = .ok (.getfield 9, 3) := by decide +kernel
theorem dX12_many_55 : decode cX12_many 55 = .ok (.iconst 5, 1) := by decide +kernel
theorem dX12_many_56 : decode cX12_many 56 = .ok (.iaload, 1) := by decide +kernel
theorem dX12_many_57 : decode cX12_many 57 = .ok (.ireturn, 1) := by decide +kernel
theorem dX12_many_58 : decode cX12_many 58 = .ok (.aload_n 0, 1) := by decide +kernel
theorem dX12_many_59 : decode cX12_many 59 = .ok (.iconst 4, 1) := by decide +kernel
theorem dX12_many_60 : decode cX12_many 60 = .ok (.invokevirtual 232, 3) := by decide +kernel
theorem dX12_many_63 : decode cX12_many 63 = .ok (.invokestatic 366, 3) := by decide +kernel
theorem dX12_many_66 : decode cX12_many 66 = .ok (.ireturn, 1) := by decide +kernel
theorem dX12_many_67 : decode cX12_many 67 = .ok (.aload_n 0, 1) := by decide +kernel
theorem dX12_many_68 : decode cX12_many 68 = .ok (.getfield 9, 3) := by decide +kernel
theorem dX12_many_71 : decode cX12_many 71 = .ok (.bipush 6, 2) := by decide +kernel
theorem dX12_many_73 : decode cX12_many 73 = .ok (.iaload, 1) := by decide +kernel
theorem dX12_many_74 : decode cX12_many 74 = .ok (.ireturn, 1) := by decide +kernel
theorem dX12_many_75 : decode cX12_many 75 = .ok (.aload_n 0, 1) := by decide +kernel
theorem dX12_many_76 : decode cX12_many 76 = .ok (.getfield 317, 3) := by decide +kernel
theorem dX12_many_79 : decode cX12_many 79 = .ok (.ireturn, 1) := by decide +kernel
theorem dX12_many_80 : decode cX12_many 80 = .ok (.aload_n 0, 1) := by decide +kernel
theorem dX12_many_81 : decode cX12_many 81 = .ok (.getfield 126, 3) := by decide +kernel
theorem dX12_many_84 : decode cX12_many 84 = .ok (.ireturn, 1) := by decide +kernel
theorem dX12_many_85 : decode cX12_many 85 = .ok (.aload_n 0, 1) := by decide +kernel
theorem dX12_many_86 : decode cX12_many 86 = .ok (.getfield 341, 3) := by decide +kernel
theorem dX12_many_89 : decode cX12_many 89 = .ok (.ireturn, 1) := by decide +kernel
theorem dX12_many_90 : decode cX12_many 90 = .ok (.iconst (-1), 1) := by decide +kernel
theorem dX12_many_91 : decode cX12_many 91 = .ok (.ireturn, 1) := by decide +kernel
theorem oX12_many_0 : oP MT mX12_many 0 (1, 1, 1, 0, []) := o_iload_n dX12_many_0 rfl
theorem oX12_many_1 : oP MT mX12_many 1 (24, 43, 90, 0, [(0, 44), (1, 51), (2, 58), (3, 67), (4, 75), (5, 80), (6, 85)]) := o_table dX12_many_1 rfl (by decide) (by decide) (by decide)
theorem oX12_many_44 : oP MT mX12_many 44 (1, 1, 0, 1, []) := o_aload_n dX12_many_44 rfl
theorem oX12_many_45 : oP MT mX12_many 45 (13, 3, 0, 12, []) := o_getR (M := mX12_many) (C := RX12) (T := TX12) (ci := 12) (j := 0) (z := 12) dX12_many_45 rfl lq_RX12_9 rfl rfl
theorem oX12_many_48 : oP MT mX12_many 48 (0, 1, 0, 4, []) := o_iconst dX12_many_48 (by decide)
theorem oX12_many_49 : oP MT mX12_many 49 (16, 1, 1, 0, []) := o_iaload dX12_many_49
theorem oX12_many_50 : oP MT mX12_many 50 (21, 1, 0, 0, []) := o_iret dX12_many_50 rfl
theorem oX12_many_51 : oP MT mX12_many 51 (1, 1, 0, 1, []) := o_aload_n dX12_many_51 rfl
theorem oX12_many_52 : oP MT mX12_many 52 (13, 3, 0, 12, []) := o_getR (M := mX12_many) (C := RX12) (T := TX12) (ci := 12) (j := 0) (z := 12) dX12_many_52 rfl lq_RX12_9 rfl rfl
theorem oX12_many_55 : oP MT mX12_many 55 (0, 1, 0, 5, []) := o_iconst dX12_many_55 (by decide)
theorem oX12_many_56 : oP MT mX12_many 56 (16, 1, 1, 0, []) := o_iaload dX12_many_56
theorem oX12_many_57 : oP MT mX12_many 57 (21, 1, 0, 0, []) := o_iret dX12_many_57 rfl
theorem oX12_many_58 : oP MT mX12_many 58 (1, 1, 0, 1, []) := o_aload_n dX12_many_58 rfl
theorem oX12_many_59 : oP MT mX12_many 59 (0, 1, 0, 4, []) := o_iconst dX12_many_59 (by decide)
theorem oX12_many_60 : oP MT mX12_many 60 (26, 3, 0, 1, [(12, 157)]) := o_callO ((vA.cons (v_callV dX12_many_60 (ci := 12) rfl rfl (mj := mX12_those) mt_X12_those cmq_X12_those wq_585 wq_587 wq_588 (by decide) (by decide)) vA.nil))
theorem oX12_many_63 : oP MT mX12_many 63 (25, 3, 291, 1, []) := o_callS dX12_many_63 (mj := mX12_ones) mt_X12_ones cmq_X12_ones wq_835 wq_837 (by decide) (by decide)
theorem oX12_many_66 : oP MT mX12_many 66 (21, 1, 0, 0, []) := o_iret dX12_many_66 rfl
theorem oX12_many_67 : oP MT mX12_many 67 (1, 1, 0, 1, []) := o_aload_n dX12_many_67 rfl
theorem oX12_many_68 : oP MT mX12_many 68 (13, 3, 0, 12, []) := o_getR (M := mX12_many) (C := RX12) (T := TX12) (ci := 12) (j := 0) (z := 12) dX12_many_68 rfl lq_RX12_9 rfl rfl
theorem oX12_many_71 : oP MT mX12_many 71 (0, 2, 0, 6, []) := o_bipush dX12_many_71 (by decide)
theorem oX12_many_73 : oP MT mX12_many 73 (16, 1, 1, 0, []) := o_iaload dX12_many_73
theorem oX12_many_74 : oP MT mX12_many 74 (21, 1, 0, 0, []) := o_iret dX12_many_74 rfl
theorem oX12_many_75 : oP MT mX12_many 75 (1, 1, 0, 1, []) := o_aload_n dX12_many_75 rfl
theorem oX12_many_76 : oP MT mX12_many 76 (12, 3, 27, 12, []) := o_getI (M := mX12_many) (C := RX12) (T := TX12) (ci := 12) (j := 27) (z := 12) dX12_many_76 rfl lq_RX12_317 rfl rfl
theorem oX12_many_79 : oP MT mX12_many 79 (21, 1, 0, 0, []) := o_iret dX12_many_79 rfl
theorem oX12_many_80 : oP MT mX12_many 80 (1, 1, 0, 1, []) := o_aload_n dX12_many_80 rfl
theorem oX12_many_81 : oP MT mX12_many 81 (12, 3, 6, 12, []) := o_getI (M := mX12_many) (C := RX12) (T := TX12) (ci := 12) (j := 6) (z := 12) dX12_many_81 rfl lq_RX12_126 rfl rfl
theorem oX12_many_84 : oP MT mX12_many 84 (21, 1, 0, 0, []) := o_iret dX12_many_84 rfl
theorem oX12_many_85 : oP MT mX12_many 85 (1, 1, 0, 1, []) := o_aload_n dX12_many_85 rfl
theorem oX12_many_86 : oP MT mX12_many 86 (12, 3, 34, 12, []) := o_getI (M := mX12_many) (C := RX12) (T := TX12) (ci := 12) (j := 34) (z := 12) dX12_many_86 rfl lq_RX12_341 rfl rfl
theorem oX12_many_89 : oP MT mX12_many 89 (21, 1, 0, 0, []) := o_iret dX12_many_89 rfl
theorem oX12_many_90 : oP MT mX12_many 90 (0, 1, 0, (-1), []) := o_iconst dX12_many_90 (by decide)
theorem oX12_many_91 : oP MT mX12_many 91 (21, 1, 0, 0, []) := o_iret dX12_many_91 rfl
def ops_X12_many : List (Nat × aO) := [(0, (1, 1, 1, 0, [])), (1, (24, 43, 90, 0, [(0, 44), (1, 51), (2, 58), (3, 67), (4, 75), (5, 80), (6, 85)])), (44, (1, 1, 0, 1, [])), (45, (13, 3, 0, 12, [])), (48, (0, 1, 0, 4, [])), (49, (16, 1, 1, 0, [])), (50, (21, 1, 0, 0, [])), (51, (1, 1, 0, 1, [])), (52, (13, 3, 0, 12, [])), (55, (0, 1, 0, 5, [])), (56, (16, 1, 1, 0, [])), (57, (21, 1, 0, 0, [])), (58, (1, 1, 0, 1, [])), (59, (0, 1, 0, 4, [])), (60, (26, 3, 0, 1, [(12, 157)])), (63, (25, 3, 291, 1, [])), (66, (21, 1, 0, 0, [])), (67, (1, 1, 0, 1, [])), (68, (13, 3, 0, 12, [])), (71, (0, 2, 0, 6, [])), (73, (16, 1, 1, 0, [])), (74, (21, 1, 0, 0, [])), (75, (1, 1, 0, 1, [])), (76, (12, 3, 27, 12, [])), (79, (21, 1, 0, 0, [])), (80, (1, 1, 0, 1, [])), (81, (12, 3, 6, 12, [])), (84, (21, 1, 0, 0, [])), (85, (1, 1, 0, 1, [])), (86, (12, 3, 34, 12, [])), (89, (21, 1, 0, 0, [])), (90, (0, 1, 0, (-1), [])), (91, (21, 1, 0, 0, []))]
theorem os_X12_many : oA MT mX12_many ops_X12_many := (oA.cons oX12_many_0 (oA.cons oX12_many_1 (oA.cons oX12_many_44 (oA.cons oX12_many_45 (oA.cons oX12_many_48 (oA.cons oX12_many_49 (oA.cons oX12_many_50 (oA.cons oX12_many_51 (oA.cons oX12_many_52 (oA.cons oX12_many_55 (oA.cons oX12_many_56 (oA.cons oX12_many_57 (oA.cons oX12_many_58 (oA.cons oX12_many_59 (oA.cons oX12_many_60 (oA.cons oX12_many_63 (oA.cons oX12_many_66 (oA.cons oX12_many_67 (oA.cons oX12_many_68 (oA.cons oX12_many_71 (oA.cons oX12_many_73 (oA.cons oX12_many_74 (oA.cons oX12_many_75 (oA.cons oX12_many_76 (oA.cons oX12_many_79 (oA.cons oX12_many_80 (oA.cons oX12_many_81 (oA.cons oX12_many_84 (oA.cons oX12_many_85 (oA.cons oX12_many_86 (oA.cons oX12_many_89 (oA.cons oX12_many_90 (oA.cons oX12_many_91 oA.nil)))))))))))))))))))))))))))))))))
theorem dX12_ones_0 : decode cX12_ones 0 = .ok (.iconst 0, 1) := by decide +kernel
theorem dX12_ones_1 : decode cX12_ones 1 = .ok (.istore_n 1, 1) := by decide +kernel
theorem dX12_ones_2 : decode cX12_ones 2 = .ok (.iload_n 0, 1) := by decide +kernel
theorem dX12_ones_3 : decode cX12_ones 3 = .ok (.istore_n 2, 1) := by decide +kernel
theorem dX12_ones_4 : decode cX12_ones 4 = .ok (.iload_n 2, 1) := by decide +kernel
theorem dX12_ones_5 : decode cX12_ones 5 = .ok (.ifCond .eq 15, 3) := by decide +kernel
theorem dX12_ones_8 : decode cX12_ones 8 = .ok (.iinc 1 1, 3) := by decide +kernel
theorem dX12_ones_11 : decode cX12_ones 11 = .ok (.iload_n 2, 1) := by decide +kernel
theorem dX12_ones_12 : decode cX12_ones 12 = .ok (.iload_n 2, 1) := by decide +kernel
theorem dX12_ones_13 : decode cX12_ones 13 = .ok (.iconst 1, 1) := by decide +kernel
theorem dX12_ones_14 : decode cX12_ones 14 = .ok (.isub, 1) := by decide +kernel
theorem dX12_ones_15 : decode cX12_ones 15 = .ok (.iand, 1) := by decide +kernel
theorem dX12_ones_16 : decode cX12_ones 16 = .ok (.istore_n 2, 1) := by decide +kernel
theorem dX12_ones_17 : decode cX12_ones 17 = .ok (.goto (-13), 3) := by decide +kernel
theorem dX12_ones_20 : decode cX12_ones 20 = .ok (.iload_n 1, 1) := by decide +kernel
theorem dX12_ones_21 : decode cX12_ones 21 = .ok (.ireturn, 1) := by decide +kernel
theorem oX12_ones_0 : oP MT mX12_ones 0 (0, 1, 0, 0, []) := o_iconst dX12_ones_0 (by decide)
theorem oX12_ones_1 : oP MT mX12_ones 1 (2, 1, 1, 0, []) := o_istore_n dX12_ones_1 rfl (by decide)
theorem oX12_ones_2 : oP MT mX12_ones 2 (1, 1, 0, 0, []) := o_iload_n dX12_ones_2 rfl
theorem oX12_ones_3 : oP MT mX12_ones 3 (2, 1, 2, 0, []) := o_istore_n dX12_ones_3 rfl (by decide)
theorem oX12_ones_4 : oP MT mX12_ones 4 (1, 1, 2, 0, []) := o_iload_n dX12_ones_4 rfl
theorem oX12_ones_5 : oP MT mX12_ones 5 (10, 3, 0, 20, []) := o_if_eq dX12_ones_5 (by decide) (by decide)
theorem oX12_ones_8 : oP MT mX12_ones 8 (3, 3, 1, 1, []) := o_iinc dX12_ones_8 (by decide) (by decide)
theorem oX12_ones_11 : oP MT mX12_ones 11 (1, 1, 2, 0, []) := o_iload_n dX12_ones_11 rfl
theorem oX12_ones_12 : oP MT mX12_ones 12 (1, 1, 2, 0, []) := o_iload_n dX12_ones_12 rfl
theorem oX12_ones_13 : oP MT mX12_ones 13 (0, 1, 0, 1, []) := o_iconst dX12_ones_13 (by decide)
theorem oX12_ones_14 : oP MT mX12_ones 14 (4, 1, 1, 0, []) := o_isub dX12_ones_14
theorem oX12_ones_15 : oP MT mX12_ones 15 (4, 1, 3, 0, []) := o_iand dX12_ones_15
theorem oX12_ones_16 : oP MT mX12_ones 16 (2, 1, 2, 0, []) := o_istore_n dX12_ones_16 rfl (by decide)
theorem oX12_ones_17 : oP MT mX12_ones 17 (9, 3, 4, 0, []) := o_goto dX12_ones_17 (by decide)
theorem oX12_ones_20 : oP MT mX12_ones 20 (1, 1, 1, 0, []) := o_iload_n dX12_ones_20 rfl
theorem oX12_ones_21 : oP MT mX12_ones 21 (21, 1, 0, 0, []) := o_iret dX12_ones_21 rfl
def ops_X12_ones : List (Nat × aO) := [(0, (0, 1, 0, 0, [])), (1, (2, 1, 1, 0, [])), (2, (1, 1, 0, 0, [])), (3, (2, 1, 2, 0, [])), (4, (1, 1, 2, 0, [])), (5, (10, 3, 0, 20, [])), (8, (3, 3, 1, 1, [])), (11, (1, 1, 2, 0, [])), (12, (1, 1, 2, 0, [])), (13, (0, 1, 0, 1, [])), (14, (4, 1, 1, 0, [])), (15, (4, 1, 3, 0, [])), (16, (2, 1, 2, 0, [])), (17, (9, 3, 4, 0, [])), (20, (1, 1, 1, 0, [])), (21, (21, 1, 0, 0, []))]
theorem os_X12_ones : oA MT mX12_ones ops_X12_ones := (oA.cons oX12_ones_0 (oA.cons oX12_ones_1 (oA.cons oX12_ones_2 (oA.cons oX12_ones_3 (oA.cons oX12_ones_4 (oA.cons oX12_ones_5 (oA.cons oX12_ones_8 (oA.cons oX12_ones_11 (oA.cons oX12_ones_12 (oA.cons oX12_ones_13 (oA.cons oX12_ones_14 (oA.cons oX12_ones_15 (oA.cons oX12_ones_16 (oA.cons oX12_ones_17 (oA.cons oX12_ones_20 (oA.cons oX12_ones_21 oA.nil))))))))))))))))
theorem dX12_keep_0 : decode cX12_keep 0 = .ok (.iconst 0, 1) := by decide +kernel
theorem dX12_keep_1 : decode cX12_keep 1 = .ok (.istore_n 1, 1) := by decide +kernel
theorem dX12_keep_2 : decode cX12_keep 2 = .ok (.iload_n 1, 1) := by decide +kernel
theorem dX12_keep_3 : decode cX12_keep 3 = .ok (.sipush 313, 3) := by decide +kernel
theorem dX12_keep_6 : decode cX12_keep 6 = .ok (.if_icmp .ge 21, 3) := by decide +kernel
theorem dX12_keep_9 : decode cX12_keep 9 = .ok (.aload_n 0, 1) := by decide +kernel
theorem dX12_keep_10 : decode cX12_keep 10 = .ok (.getfield 13, 3) := by decide +kernel
theorem dX12_keep_13 : decode cX12_keep 13 = .ok (.iload_n 1, 1) := by decide +kernel
theorem dX12_keep_14 : decode cX12_keep 14 = .ok (.aload_n 0, 1) := by decide +kernel
theorem dX12_keep_15 : decode cX12_keep 15 = .ok (.getfield 9, 3) := by decide +kernel
theorem dX12_keep_18 : decode cX12_keep 18 = .ok (.iload_n 1, 1) := by decide +kernel
theorem dX12_keep_19 : decode cX12_keep 19 = .ok (.iaload, 1) := by decide +kernel
theorem dX12_keep_20 : decode cX12_keep 20 = .ok (.iastore, 1) := by decide +kernel
theorem dX12_keep_21 : decode cX12_keep 21 = .ok (.iinc 1 1, 3) := by decide +kernel
theorem dX12_keep_24 : decode cX12_keep 24 = .ok (.goto (-22), 3) := by decide +kernel
theorem dX12_keep_27 : decode cX12_keep 27 = .ok (.aload_n 0, 1) := by decide +kernel
theorem dX12_keep_28 : decode cX12_keep 28 = .ok (.iconst 1, 1) := by decide +kernel
theorem dX12_keep_29 : decode cX12_keep 29 = .ok (.putfield 369, 3) := by decide +kernel
theorem dX12_keep_32 : decode cX12_keep 32 = .ok (.iconst 1, 1) := by decide +kernel
theorem dX12_keep_33 : decode cX12_keep 33 = .ok (.ireturn, 1) := by decide +kernel
theorem oX12_keep_0 : oP MT mX12_keep 0 (0, 1, 0, 0, []) := o_iconst dX12_keep_0 (by decide)
theorem oX12_keep_1 : oP MT mX12_keep 1 (2, 1, 1, 0, []) := o_istore_n dX12_keep_1 rfl (by decide)
theorem oX12_keep_2 : oP MT mX12_keep 2 (1, 1, 1, 0, []) := o_iload_n dX12_keep_2 rfl
theorem oX12_keep_3 : oP MT mX12_keep 3 (0, 3, 0, 313, []) := o_sipush dX12_keep_3 (by decide)
theorem oX12_keep_6 : oP MT mX12_keep 6 (11, 3, 3, 27, []) := o_icmp_ge dX12_keep_6 (by decide) (by decide)
theorem oX12_keep_9 : oP MT mX12_keep 9 (1, 1, 0, 1, []) := o_aload_n dX12_keep_9 rfl
theorem oX12_keep_10 : oP MT mX12_keep 10 (13, 3, 1, 12, []) := o_getR (M := mX12_keep) (C := RX12) (T := TX12) (ci := 12) (j := 1) (z := 12) dX12_keep_10 rfl lq_RX12_13 rfl rfl
theorem oX12_keep_13 : oP MT mX12_keep 13 (1, 1, 1, 0, []) := o_iload_n dX12_keep_13 rfl
theorem oX12_keep_14 : oP MT mX12_keep 14 (1, 1, 0, 1, []) := o_aload_n dX12_keep_14 rfl
theorem oX12_keep_15 : oP MT mX12_keep 15 (13, 3, 0, 12, []) := o_getR (M := mX12_keep) (C := RX12) (T := TX12) (ci := 12) (j := 0) (z := 12) dX12_keep_15 rfl lq_RX12_9 rfl rfl
theorem oX12_keep_18 : oP MT mX12_keep 18 (1, 1, 1, 0, []) := o_iload_n dX12_keep_18 rfl
theorem oX12_keep_19 : oP MT mX12_keep 19 (16, 1, 1, 0, []) := o_iaload dX12_keep_19
theorem oX12_keep_20 : oP MT mX12_keep 20 (18, 1, 0, 0, []) := o_iastore dX12_keep_20
theorem oX12_keep_21 : oP MT mX12_keep 21 (3, 3, 1, 1, []) := o_iinc dX12_keep_21 (by decide) (by decide)
theorem oX12_keep_24 : oP MT mX12_keep 24 (9, 3, 2, 0, []) := o_goto dX12_keep_24 (by decide)
theorem oX12_keep_27 : oP MT mX12_keep 27 (1, 1, 0, 1, []) := o_aload_n dX12_keep_27 rfl
theorem oX12_keep_28 : oP MT mX12_keep 28 (0, 1, 0, 1, []) := o_iconst dX12_keep_28 (by decide)
theorem oX12_keep_29 : oP MT mX12_keep 29 (15, 3, 3, 12, []) := o_putZ (M := mX12_keep) (C := RX12) (T := TX12) (ci := 12) (j := 3) (z := 12) dX12_keep_29 rfl lq_RX12_369 rfl rfl rfl rfl
theorem oX12_keep_32 : oP MT mX12_keep 32 (0, 1, 0, 1, []) := o_iconst dX12_keep_32 (by decide)
theorem oX12_keep_33 : oP MT mX12_keep 33 (21, 1, 0, 0, []) := o_iret dX12_keep_33 rfl
def ops_X12_keep : List (Nat × aO) := [(0, (0, 1, 0, 0, [])), (1, (2, 1, 1, 0, [])), (2, (1, 1, 1, 0, [])), (3, (0, 3, 0, 313, [])), (6, (11, 3, 3, 27, [])), (9, (1, 1, 0, 1, [])), (10, (13, 3, 1, 12, [])), (13, (1, 1, 1, 0, [])), (14, (1, 1, 0, 1, [])), (15, (13, 3, 0, 12, [])), (18, (1, 1, 1, 0, [])), (19, (16, 1, 1, 0, [])), (20, (18, 1, 0, 0, [])), (21, (3, 3, 1, 1, [])), (24, (9, 3, 2, 0, [])), (27, (1, 1, 0, 1, [])), (28, (0, 1, 0, 1, [])), (29, (15, 3, 3, 12, [])), (32, (0, 1, 0, 1, [])), (33, (21, 1, 0, 0, []))]
theorem os_X12_keep : oA MT mX12_keep ops_X12_keep := (oA.cons oX12_keep_0 (oA.cons oX12_keep_1 (oA.cons oX12_keep_2 (oA.cons oX12_keep_3 (oA.cons oX12_keep_6 (oA.cons oX12_keep_9 (oA.cons oX12_keep_10 (oA.cons oX12_keep_13 (oA.cons oX12_keep_14 (oA.cons oX12_keep_15 (oA.cons oX12_keep_18 (oA.cons oX12_keep_19 (oA.cons oX12_keep_20 (oA.cons oX12_keep_21 (oA.cons oX12_keep_24 (oA.cons oX12_keep_27 (oA.cons oX12_keep_28 (oA.cons oX12_keep_29 (oA.cons oX12_keep_32 (oA.cons oX12_keep_33 oA.nil))))))))))))))))))))
theorem dX12_again_0 : decode cX12_again 0 = .ok (.aload_n 0, 1) := by decide +kernel
theorem dX12_again_1 : decode cX12_again 1 = .ok (.getfield 369, 3) := by decide +kernel
theorem dX12_again_4 : decode cX12_again 4 = .ok (.ifCond .ne 6, 3) := by decide +kernel
theorem dX12_again_7 : decode cX12_again 7 = .ok (.bipush (-3), 2) := by decide +kernel
theorem dX12_again_9 : decode cX12_again 9 = .ok (.ireturn, 1) := by decide +kernel
theorem dX12_again_10 : decode cX12_again 10 = .ok (.iconst 0, 1) := by decide +kernel
theorem dX12_again_11 : decode cX12_again 11 = .ok (.istore_n 1, 1) := by decide +kernel
theorem dX12_again_12 : decode cX12_again 12 = .ok (.iload_n 1, 1) := by decide +kernel
theorem dX12_again_13 : decode cX12_again 13 = .ok (.sipush 313, 3) := by decide +kernel
theorem dX12_again_16 : decode cX12_again 16 = .ok (.if_icmp .ge 21, 3) := by decide +kernel
theorem dX12_again_19 : decode cX12_again 19 = .ok (.aload_n 0, 1) := by decide +kernel
theorem dX12_again_20 : decode cX12_again 20 = .ok (.getfield 9, 3) := by decide +kernel
theorem dX12_again_23 : decode cX12_again 23 = .ok (.iload_n 1, 1) := by decide +kernel
theorem dX12_again_24 : decode cX12_again 24 = .ok (.aload_n 0, 1) := by decide +kernel
theorem dX12_again_25 : decode cX12_again 25 = .ok (.getfield 13, 3) := by decide +kernel
theorem dX12_again_28 : decode cX12_again 28 = .ok (.iload_n 1, 1) := by decide +kernel
theorem dX12_again_29 : decode cX12_again 29 = .ok (.iaload, 1) := by decide +kernel
theorem dX12_again_30 : decode cX12_again 30 = .ok (.iastore, 1) := by decide +kernel
theorem dX12_again_31 : decode cX12_again 31 = .ok (.iinc 1 1, 3) := by decide +kernel
theorem dX12_again_34 : decode cX12_again 34 = .ok (.goto (-22), 3) := by decide +kernel
theorem dX12_again_37 : decode cX12_again 37 = .ok (.aload_n 0, 1) := by decide +kernel
theorem dX12_again_38 : decode cX12_again 38 = .ok (.getfield 9, 3) := by decide +kernel
theorem dX12_again_41 : decode cX12_again 41 = .ok (.iconst 4, 1) := by decide +kernel
theorem dX12_again_42 : decode cX12_again 42 = .ok (.iaload, 1) := by decide +kernel
theorem dX12_again_43 : decode cX12_again 43 = .ok (.ireturn, 1) := by decide +kernel
theorem oX12_again_0 : oP MT mX12_again 0 (1, 1, 0, 1, []) := o_aload_n dX12_again_0 rfl
theorem oX12_again_1 : oP MT mX12_again 1 (12, 3, 3, 12, []) := o_getI (M := mX12_again) (C := RX12) (T := TX12) (ci := 12) (j := 3) (z := 12) dX12_again_1 rfl lq_RX12_369 rfl rfl
theorem oX12_again_4 : oP MT mX12_again 4 (10, 3, 1, 10, []) := o_if_ne dX12_again_4 (by decide) (by decide)
theorem oX12_again_7 : oP MT mX12_again 7 (0, 2, 0, (-3), []) := o_bipush dX12_again_7 (by decide)
theorem oX12_again_9 : oP MT mX12_again 9 (21, 1, 0, 0, []) := o_iret dX12_again_9 rfl
theorem oX12_again_10 : oP MT mX12_again 10 (0, 1, 0, 0, []) := o_iconst dX12_again_10 (by decide)
theorem oX12_again_11 : oP MT mX12_again 11 (2, 1, 1, 0, []) := o_istore_n dX12_again_11 rfl (by decide)
theorem oX12_again_12 : oP MT mX12_again 12 (1, 1, 1, 0, []) := o_iload_n dX12_again_12 rfl
theorem oX12_again_13 : oP MT mX12_again 13 (0, 3, 0, 313, []) := o_sipush dX12_again_13 (by decide)
theorem oX12_again_16 : oP MT mX12_again 16 (11, 3, 3, 37, []) := o_icmp_ge dX12_again_16 (by decide) (by decide)
theorem oX12_again_19 : oP MT mX12_again 19 (1, 1, 0, 1, []) := o_aload_n dX12_again_19 rfl
theorem oX12_again_20 : oP MT mX12_again 20 (13, 3, 0, 12, []) := o_getR (M := mX12_again) (C := RX12) (T := TX12) (ci := 12) (j := 0) (z := 12) dX12_again_20 rfl lq_RX12_9 rfl rfl
theorem oX12_again_23 : oP MT mX12_again 23 (1, 1, 1, 0, []) := o_iload_n dX12_again_23 rfl
theorem oX12_again_24 : oP MT mX12_again 24 (1, 1, 0, 1, []) := o_aload_n dX12_again_24 rfl
theorem oX12_again_25 : oP MT mX12_again 25 (13, 3, 1, 12, []) := o_getR (M := mX12_again) (C := RX12) (T := TX12) (ci := 12) (j := 1) (z := 12) dX12_again_25 rfl lq_RX12_13 rfl rfl
theorem oX12_again_28 : oP MT mX12_again 28 (1, 1, 1, 0, []) := o_iload_n dX12_again_28 rfl
theorem oX12_again_29 : oP MT mX12_again 29 (16, 1, 1, 0, []) := o_iaload dX12_again_29
theorem oX12_again_30 : oP MT mX12_again 30 (18, 1, 0, 0, []) := o_iastore dX12_again_30
theorem oX12_again_31 : oP MT mX12_again 31 (3, 3, 1, 1, []) := o_iinc dX12_again_31 (by decide) (by decide)
theorem oX12_again_34 : oP MT mX12_again 34 (9, 3, 12, 0, []) := o_goto dX12_again_34 (by decide)
theorem oX12_again_37 : oP MT mX12_again 37 (1, 1, 0, 1, []) := o_aload_n dX12_again_37 rfl
theorem oX12_again_38 : oP MT mX12_again 38 (13, 3, 0, 12, []) := o_getR (M := mX12_again) (C := RX12) (T := TX12) (ci := 12) (j := 0) (z := 12) dX12_again_38 rfl lq_RX12_9 rfl rfl
theorem oX12_again_41 : oP MT mX12_again 41 (0, 1, 0, 4, []) := o_iconst dX12_again_41 (by decide)
theorem oX12_again_42 : oP MT mX12_again 42 (16, 1, 1, 0, []) := o_iaload dX12_again_42
theorem oX12_again_43 : oP MT mX12_again 43 (21, 1, 0, 0, []) := o_iret dX12_again_43 rfl
def ops_X12_again : List (Nat × aO) := [(0, (1, 1, 0, 1, [])), (1, (12, 3, 3, 12, [])), (4, (10, 3, 1, 10, [])), (7, (0, 2, 0, (-3), [])), (9, (21, 1, 0, 0, [])), (10, (0, 1, 0, 0, [])), (11, (2, 1, 1, 0, [])), (12, (1, 1, 1, 0, [])), (13, (0, 3, 0, 313, [])), (16, (11, 3, 3, 37, [])), (19, (1, 1, 0, 1, [])), (20, (13, 3, 0, 12, [])), (23, (1, 1, 1, 0, [])), (24, (1, 1, 0, 1, [])), (25, (13, 3, 1, 12, [])), (28, (1, 1, 1, 0, [])), (29, (16, 1, 1, 0, [])), (30, (18, 1, 0, 0, [])), (31, (3, 3, 1, 1, [])), (34, (9, 3, 12, 0, [])), (37, (1, 1, 0, 1, [])), (38, (13, 3, 0, 12, [])), (41, (0, 1, 0, 4, [])), (42, (16, 1, 1, 0, [])), (43, (21, 1, 0, 0, []))]
theorem os_X12_again : oA MT mX12_again ops_X12_again := (oA.cons oX12_again_0 (oA.cons oX12_again_1 (oA.cons oX12_again_4 (oA.cons oX12_again_7 (oA.cons oX12_again_9 (oA.cons oX12_again_10 (oA.cons oX12_again_11 (oA.cons oX12_again_12 (oA.cons oX12_again_13 (oA.cons oX12_again_16 (oA.cons oX12_again_19 (oA.cons oX12_again_20 (oA.cons oX12_again_23 (oA.cons oX12_again_24 (oA.cons oX12_again_25 (oA.cons oX12_again_28 (oA.cons oX12_again_29 (oA.cons oX12_again_30 (oA.cons oX12_again_31 (oA.cons oX12_again_34 (oA.cons oX12_again_37 (oA.cons oX12_again_38 (oA.cons oX12_again_41 (oA.cons oX12_again_42 (oA.cons oX12_again_43 oA.nil)))))))))))))))))))))))))
