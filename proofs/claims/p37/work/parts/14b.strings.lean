/-! ===== the String constant of the words: length() and charAt() ===== -/
abbrev mJ0_length_8abf5 : gM := (yJ0_length_8abf5, cJ0_length_8abf5, 1, (some .int))
theorem dJ0_length_8abf5_0 : decode cJ0_length_8abf5 0 = .ok (.aload_n 0, 1) := by decide +kernel
theorem dJ0_length_8abf5_1 : decode cJ0_length_8abf5 1 = .ok (.getfield 9, 3) := by decide +kernel
theorem dJ0_length_8abf5_4 : decode cJ0_length_8abf5 4 = .ok (.arraylength, 1) := by decide +kernel
theorem dJ0_length_8abf5_5 : decode cJ0_length_8abf5 5 = .ok (.aload_n 0, 1) := by decide +kernel
theorem dJ0_length_8abf5_6 : decode cJ0_length_8abf5 6 = .ok (.invokevirtual 335, 3) := by decide +kernel
theorem dJ0_length_8abf5_9 : decode cJ0_length_8abf5 9 = .ok (.ishr, 1) := by decide +kernel
theorem dJ0_length_8abf5_10 : decode cJ0_length_8abf5 10 = .ok (.ireturn, 1) := by decide +kernel
abbrev mJ0_charAt_5068e : gM := (yJ0_charAt_5068e, cJ0_charAt_5068e, 2, (some .char))
theorem dJ0_charAt_5068e_0 : decode cJ0_charAt_5068e 0 = .ok (.aload_n 0, 1) := by decide +kernel
theorem dJ0_charAt_5068e_1 : decode cJ0_charAt_5068e 1 = .ok (.invokevirtual 492, 3) := by decide +kernel
theorem dJ0_charAt_5068e_4 : decode cJ0_charAt_5068e 4 = .ok (.ifCond .eq 12, 3) := by decide +kernel
theorem dJ0_charAt_5068e_7 : decode cJ0_charAt_5068e 7 = .ok (.aload_n 0, 1) := by decide +kernel
theorem dJ0_charAt_5068e_8 : decode cJ0_charAt_5068e 8 = .ok (.getfield 9, 3) := by decide +kernel
theorem dJ0_charAt_5068e_11 : decode cJ0_charAt_5068e 11 = .ok (.iload_n 1, 1) := by decide +kernel
theorem dJ0_charAt_5068e_12 : decode cJ0_charAt_5068e 12 = .ok (.invokestatic 495, 3) := by decide +kernel
theorem dJ0_charAt_5068e_15 : decode cJ0_charAt_5068e 15 = .ok (.ireturn, 1) := by decide +kernel
theorem dJ0_charAt_5068e_16 : decode cJ0_charAt_5068e 16 = .ok (.aload_n 0, 1) := by decide +kernel
theorem dJ0_charAt_5068e_17 : decode cJ0_charAt_5068e 17 = .ok (.getfield 9, 3) := by decide +kernel
theorem dJ0_charAt_5068e_20 : decode cJ0_charAt_5068e 20 = .ok (.iload_n 1, 1) := by decide +kernel
theorem dJ0_charAt_5068e_21 : decode cJ0_charAt_5068e 21 = .ok (.invokestatic 498, 3) := by decide +kernel
theorem dJ0_charAt_5068e_24 : decode cJ0_charAt_5068e 24 = .ok (.ireturn, 1) := by decide +kernel
abbrev mJ0_coder_7d493 : gM := (yJ0_coder_7d493, cJ0_coder_7d493, 1, (some .byte))
theorem dJ0_coder_7d493_0 : decode cJ0_coder_7d493 0 = .ok (.getstatic 38, 3) := by decide +kernel
theorem dJ0_coder_7d493_3 : decode cJ0_coder_7d493 3 = .ok (.ifCond .eq 10, 3) := by decide +kernel
theorem dJ0_coder_7d493_6 : decode cJ0_coder_7d493 6 = .ok (.aload_n 0, 1) := by decide +kernel
theorem dJ0_coder_7d493_7 : decode cJ0_coder_7d493 7 = .ok (.getfield 15, 3) := by decide +kernel
theorem dJ0_coder_7d493_10 : decode cJ0_coder_7d493 10 = .ok (.goto 4, 3) := by decide +kernel
theorem dJ0_coder_7d493_13 : decode cJ0_coder_7d493 13 = .ok (.iconst 1, 1) := by decide +kernel
theorem dJ0_coder_7d493_14 : decode cJ0_coder_7d493 14 = .ok (.ireturn, 1) := by decide +kernel
abbrev mJ0_isLatin1_aae02 : gM := (yJ0_isLatin1_aae02, cJ0_isLatin1_aae02, 1, (some .boolean))
theorem dJ0_isLatin1_aae02_0 : decode cJ0_isLatin1_aae02 0 = .ok (.getstatic 38, 3) := by decide +kernel
theorem dJ0_isLatin1_aae02_3 : decode cJ0_isLatin1_aae02 3 = .ok (.ifCond .eq 14, 3) := by decide +kernel
theorem dJ0_isLatin1_aae02_6 : decode cJ0_isLatin1_aae02 6 = .ok (.aload_n 0, 1) := by decide +kernel
theorem dJ0_isLatin1_aae02_7 : decode cJ0_isLatin1_aae02 7 = .ok (.getfield 15, 3) := by decide +kernel
theorem dJ0_isLatin1_aae02_10 : decode cJ0_isLatin1_aae02 10 = .ok (.ifCond .ne 7, 3) := by decide +kernel
theorem dJ0_isLatin1_aae02_13 : decode cJ0_isLatin1_aae02 13 = .ok (.iconst 1, 1) := by decide +kernel
theorem dJ0_isLatin1_aae02_14 : decode cJ0_isLatin1_aae02 14 = .ok (.goto 4, 3) := by decide +kernel
theorem dJ0_isLatin1_aae02_17 : decode cJ0_isLatin1_aae02 17 = .ok (.iconst 0, 1) := by decide +kernel
theorem dJ0_isLatin1_aae02_18 : decode cJ0_isLatin1_aae02 18 = .ok (.ireturn, 1) := by decide +kernel
abbrev mJ0_checkIndex_df160 : gM := (yJ0_checkIndex_df160, cJ0_checkIndex_df160, 2, none)
theorem dJ0_checkIndex_df160_0 : decode cJ0_checkIndex_df160 0 = .ok (.iload_n 0, 1) := by decide +kernel
theorem dJ0_checkIndex_df160_1 : decode cJ0_checkIndex_df160 1 = .ok (.iload_n 1, 1) := by decide +kernel
theorem dJ0_checkIndex_df160_2 : decode cJ0_checkIndex_df160 2 = .ok (.getstatic 1053, 3) := by decide +kernel
theorem dJ0_checkIndex_df160_5 : decode cJ0_checkIndex_df160 5 = .ok (.invokestatic 1059, 3) := by decide +kernel
theorem dJ0_checkIndex_df160_8 : decode cJ0_checkIndex_df160 8 = .ok (.pop, 1) := by decide +kernel
theorem dJ0_checkIndex_df160_9 : decode cJ0_checkIndex_df160 9 = .ok (.return_, 1) := by decide +kernel
abbrev mJ1_charAt_3b067 : gM := (yJ1_charAt_3b067, cJ1_charAt_3b067, 2, (some .char))
theorem dJ1_charAt_3b067_0 : decode cJ1_charAt_3b067 0 = .ok (.iload_n 1, 1) := by decide +kernel
theorem dJ1_charAt_3b067_1 : decode cJ1_charAt_3b067 1 = .ok (.aload_n 0, 1) := by decide +kernel
theorem dJ1_charAt_3b067_2 : decode cJ1_charAt_3b067 2 = .ok (.arraylength, 1) := by decide +kernel
theorem dJ1_charAt_3b067_3 : decode cJ1_charAt_3b067 3 = .ok (.invokestatic 9, 3) := by decide +kernel
theorem dJ1_charAt_3b067_6 : decode cJ1_charAt_3b067 6 = .ok (.aload_n 0, 1) := by decide +kernel
theorem dJ1_charAt_3b067_7 : decode cJ1_charAt_3b067 7 = .ok (.iload_n 1, 1) := by decide +kernel
theorem dJ1_charAt_3b067_8 : decode cJ1_charAt_3b067 8 = .ok (.baload, 1) := by decide +kernel
theorem dJ1_charAt_3b067_9 : decode cJ1_charAt_3b067 9 = .ok (.sipush 255, 3) := by decide +kernel
theorem dJ1_charAt_3b067_12 : decode cJ1_charAt_3b067 12 = .ok (.iand, 1) := by decide +kernel
theorem dJ1_charAt_3b067_13 : decode cJ1_charAt_3b067 13 = .ok (.i2c, 1) := by decide +kernel
theorem dJ1_charAt_3b067_14 : decode cJ1_charAt_3b067 14 = .ok (.ireturn, 1) := by decide +kernel
abbrev mJ3_checkIndex_8e157 : gM := (yJ3_checkIndex_8e157, cJ3_checkIndex_8e157, 3, (some .int))
theorem dJ3_checkIndex_8e157_0 : decode cJ3_checkIndex_8e157 0 = .ok (.iload_n 0, 1) := by decide +kernel
theorem dJ3_checkIndex_8e157_1 : decode cJ3_checkIndex_8e157 1 = .ok (.ifCond .lt 8, 3) := by decide +kernel
theorem dJ3_checkIndex_8e157_4 : decode cJ3_checkIndex_8e157 4 = .ok (.iload_n 0, 1) := by decide +kernel
theorem dJ3_checkIndex_8e157_5 : decode cJ3_checkIndex_8e157 5 = .ok (.iload_n 1, 1) := by decide +kernel
theorem dJ3_checkIndex_8e157_6 : decode cJ3_checkIndex_8e157 6 = .ok (.if_icmp .lt 10, 3) := by decide +kernel
theorem dJ3_checkIndex_8e157_9 : decode cJ3_checkIndex_8e157 9 = .ok (.aload_n 2, 1) := by decide +kernel
theorem dJ3_checkIndex_8e157_10 : decode cJ3_checkIndex_8e157 10 = .ok (.iload_n 0, 1) := by decide +kernel
theorem dJ3_checkIndex_8e157_11 : decode cJ3_checkIndex_8e157 11 = .ok (.iload_n 1, 1) := by decide +kernel
theorem dJ3_checkIndex_8e157_12 : decode cJ3_checkIndex_8e157 12 = .ok (.invokestatic 95, 3) := by decide +kernel
theorem dJ3_checkIndex_8e157_15 : decode cJ3_checkIndex_8e157 15 = .ok (.athrow, 1) := by decide +kernel
theorem dJ3_checkIndex_8e157_16 : decode cJ3_checkIndex_8e157 16 = .ok (.iload_n 0, 1) := by decide +kernel
theorem dJ3_checkIndex_8e157_17 : decode cJ3_checkIndex_8e157 17 = .ok (.ireturn, 1) := by decide +kernel
theorem dX5_nextName_0 : decode cX5_nextName 0 = .ok (.aload_n 0, 1) := by decide +kernel
theorem dX5_nextName_1 : decode cX5_nextName 1 = .ok (.getfield 58, 3) := by decide +kernel
theorem dX5_nextName_4 : decode cX5_nextName 4 = .ok (.aload_n 0, 1) := by decide +kernel
theorem dX5_nextName_5 : decode cX5_nextName 5 = .ok (.getfield 32, 3) := by decide +kernel
theorem dX5_nextName_8 : decode cX5_nextName 8 = .ok (.if_icmp .ge 31, 3) := by decide +kernel
theorem dX5_nextName_11 : decode cX5_nextName 11 = .ok (.aload_n 0, 1) := by decide +kernel
theorem dX5_nextName_12 : decode cX5_nextName 12 = .ok (.getfield 9, 3) := by decide +kernel
theorem dX5_nextName_15 : decode cX5_nextName 15 = .ok (.aload_n 0, 1) := by decide +kernel
theorem dX5_nextName_16 : decode cX5_nextName 16 = .ok (.getfield 58, 3) := by decide +kernel
theorem dX5_nextName_19 : decode cX5_nextName 19 = .ok (.iaload, 1) := by decide +kernel
theorem dX5_nextName_20 : decode cX5_nextName 20 = .ok (.invokestatic 61, 3) := by decide +kernel
theorem dX5_nextName_23 : decode cX5_nextName 23 = .ok (.ifCond .eq 16, 3) := by decide +kernel
theorem dX5_nextName_26 : decode cX5_nextName 26 = .ok (.aload_n 0, 1) := by decide +kernel
theorem dX5_nextName_27 : decode cX5_nextName 27 = .ok (.dup, 1) := by decide +kernel
theorem dX5_nextName_28 : decode cX5_nextName 28 = .ok (.getfield 58, 3) := by decide +kernel
theorem dX5_nextName_31 : decode cX5_nextName 31 = .ok (.iconst 1, 1) := by decide +kernel
theorem dX5_nextName_32 : decode cX5_nextName 32 = .ok (.iadd, 1) := by decide +kernel
theorem dX5_nextName_33 : decode cX5_nextName 33 = .ok (.putfield 58, 3) := by decide +kernel
theorem dX5_nextName_36 : decode cX5_nextName 36 = .ok (.goto (-36), 3) := by decide +kernel
theorem dX5_nextName_39 : decode cX5_nextName 39 = .ok (.aload_n 0, 1) := by decide +kernel
theorem dX5_nextName_40 : decode cX5_nextName 40 = .ok (.iconst (-1), 1) := by decide +kernel
theorem dX5_nextName_41 : decode cX5_nextName 41 = .ok (.putfield 42, 3) := by decide +kernel
theorem dX5_nextName_44 : decode cX5_nextName 44 = .ok (.iconst 0, 1) := by decide +kernel
theorem dX5_nextName_45 : decode cX5_nextName 45 = .ok (.istore_n 1, 1) := by decide +kernel
theorem dX5_nextName_46 : decode cX5_nextName 46 = .ok (.iconst 0, 1) := by decide +kernel
theorem dX5_nextName_47 : decode cX5_nextName 47 = .ok (.istore_n 2, 1) := by decide +kernel
theorem dX5_nextName_48 : decode cX5_nextName 48 = .ok (.iconst 0, 1) := by decide +kernel
theorem dX5_nextName_49 : decode cX5_nextName 49 = .ok (.istore_n 3, 1) := by decide +kernel
theorem dX5_nextName_50 : decode cX5_nextName 50 = .ok (.iload_n 3, 1) := by decide +kernel
theorem dX5_nextName_51 : decode cX5_nextName 51 = .ok (.ldc 77, 2) := by decide +kernel
theorem dX5_nextName_53 : decode cX5_nextName 53 = .ok (.invokevirtual 79, 3) := by decide +kernel
theorem dX5_nextName_56 : decode cX5_nextName 56 = .ok (.if_icmp .ge 51, 3) := by decide +kernel
theorem dX5_nextName_59 : decode cX5_nextName 59 = .ok (.aload_n 0, 1) := by decide +kernel
theorem dX5_nextName_60 : decode cX5_nextName 60 = .ok (.getfield 42, 3) := by decide +kernel
theorem dX5_nextName_63 : decode cX5_nextName 63 = .ok (.iconst (-1), 1) := by decide +kernel
theorem dX5_nextName_64 : decode cX5_nextName 64 = .ok (.if_icmp .ne 43, 3) := by decide +kernel
theorem dX5_nextName_67 : decode cX5_nextName 67 = .ok (.ldc 77, 2) := by decide +kernel
theorem dX5_nextName_69 : decode cX5_nextName 69 = .ok (.iload_n 3, 1) := by decide +kernel
theorem dX5_nextName_70 : decode cX5_nextName 70 = .ok (.invokevirtual 85, 3) := by decide +kernel
theorem dX5_nextName_73 : decode cX5_nextName 73 = .ok (.bipush 32, 2) := by decide +kernel
theorem dX5_nextName_75 : decode cX5_nextName 75 = .ok (.if_icmp .ne 26, 3) := by decide +kernel
theorem dX5_nextName_78 : decode cX5_nextName 78 = .ok (.aload_n 0, 1) := by decide +kernel
theorem dX5_nextName_79 : decode cX5_nextName 79 = .ok (.iload_n 2, 1) := by decide +kernel
theorem dX5_nextName_80 : decode cX5_nextName 80 = .ok (.iload_n 3, 1) := by decide +kernel
theorem dX5_nextName_81 : decode cX5_nextName 81 = .ok (.iload_n 2, 1) := by decide +kernel
theorem dX5_nextName_82 : decode cX5_nextName 82 = .ok (.isub, 1) := by decide +kernel
theorem dX5_nextName_83 : decode cX5_nextName 83 = .ok (.invokevirtual 89, 3) := by decide +kernel
theorem dX5_nextName_86 : decode cX5_nextName 86 = .ok (.ifCond .eq 8, 3) := by decide +kernel
theorem dX5_nextName_89 : decode cX5_nextName 89 = .ok (.aload_n 0, 1) := by decide +kernel
theorem dX5_nextName_90 : decode cX5_nextName 90 = .ok (.iload_n 1, 1) := by decide +kernel
theorem dX5_nextName_91 : decode cX5_nextName 91 = .ok (.putfield 42, 3) := by decide +kernel
theorem dX5_nextName_94 : decode cX5_nextName 94 = .ok (.iinc 1 1, 3) := by decide +kernel
theorem dX5_nextName_97 : decode cX5_nextName 97 = .ok (.iload_n 3, 1) := by decide +kernel
theorem dX5_nextName_98 : decode cX5_nextName 98 = .ok (.iconst 1, 1) := by decide +kernel
theorem dX5_nextName_99 : decode cX5_nextName 99 = .ok (.iadd, 1) := by decide +kernel
theorem dX5_nextName_100 : decode cX5_nextName 100 = .ok (.istore_n 2, 1) := by decide +kernel
theorem dX5_nextName_101 : decode cX5_nextName 101 = .ok (.iinc 3 1, 3) := by decide +kernel
theorem dX5_nextName_104 : decode cX5_nextName 104 = .ok (.goto (-54), 3) := by decide +kernel
theorem dX5_nextName_107 : decode cX5_nextName 107 = .ok (.return_, 1) := by decide +kernel
theorem dX5_isNamed_0 : decode cX5_isNamed 0 = .ok (.aload_n 0, 1) := by decide +kernel
theorem dX5_isNamed_1 : decode cX5_isNamed 1 = .ok (.getfield 58, 3) := by decide +kernel
theorem dX5_isNamed_4 : decode cX5_isNamed 4 = .ok (.aload_n 0, 1) := by decide +kernel
theorem dX5_isNamed_5 : decode cX5_isNamed 5 = .ok (.getfield 52, 3) := by decide +kernel
theorem dX5_isNamed_8 : decode cX5_isNamed 8 = .ok (.isub, 1) := by decide +kernel
theorem dX5_isNamed_9 : decode cX5_isNamed 9 = .ok (.iload_n 2, 1) := by decide +kernel
theorem dX5_isNamed_10 : decode cX5_isNamed 10 = .ok (.if_icmp .eq 5, 3) := by decide +kernel
theorem dX5_isNamed_13 : decode cX5_isNamed 13 = .ok (.iconst 0, 1) := by decide +kernel
theorem dX5_isNamed_14 : decode cX5_isNamed 14 = .ok (.ireturn, 1) := by decide +kernel
theorem dX5_isNamed_15 : decode cX5_isNamed 15 = .ok (.iconst 0, 1) := by decide +kernel
theorem dX5_isNamed_16 : decode cX5_isNamed 16 = .ok (.istore_n 3, 1) := by decide +kernel
theorem dX5_isNamed_17 : decode cX5_isNamed 17 = .ok (.iload_n 3, 1) := by decide +kernel
theorem dX5_isNamed_18 : decode cX5_isNamed 18 = .ok (.iload_n 2, 1) := by decide +kernel
theorem dX5_isNamed_19 : decode cX5_isNamed 19 = .ok (.if_icmp .ge 33, 3) := by decide +kernel
theorem dX5_isNamed_22 : decode cX5_isNamed 22 = .ok (.aload_n 0, 1) := by decide +kernel
theorem dX5_isNamed_23 : decode cX5_isNamed 23 = .ok (.getfield 9, 3) := by decide +kernel
theorem dX5_isNamed_26 : decode cX5_isNamed 26 = .ok (.aload_n 0, 1) := by decide +kernel
theorem dX5_isNamed_27 : decode cX5_isNamed 27 = .ok (.getfield 52, 3) := by decide +kernel
theorem dX5_isNamed_30 : decode cX5_isNamed 30 = .ok (.iload_n 3, 1) := by decide +kernel
theorem dX5_isNamed_31 : decode cX5_isNamed 31 = .ok (.iadd, 1) := by decide +kernel
theorem dX5_isNamed_32 : decode cX5_isNamed 32 = .ok (.iaload, 1) := by decide +kernel
theorem dX5_isNamed_33 : decode cX5_isNamed 33 = .ok (.ldc 77, 2) := by decide +kernel
theorem dX5_isNamed_35 : decode cX5_isNamed 35 = .ok (.iload_n 1, 1) := by decide +kernel
theorem dX5_isNamed_36 : decode cX5_isNamed 36 = .ok (.iload_n 3, 1) := by decide +kernel
theorem dX5_isNamed_37 : decode cX5_isNamed 37 = .ok (.iadd, 1) := by decide +kernel
theorem dX5_isNamed_38 : decode cX5_isNamed 38 = .ok (.invokevirtual 85, 3) := by decide +kernel
theorem dX5_isNamed_41 : decode cX5_isNamed 41 = .ok (.if_icmp .eq 5, 3) := by decide +kernel
theorem dX5_isNamed_44 : decode cX5_isNamed 44 = .ok (.iconst 0, 1) := by decide +kernel
theorem dX5_isNamed_45 : decode cX5_isNamed 45 = .ok (.ireturn, 1) := by decide +kernel
theorem dX5_isNamed_46 : decode cX5_isNamed 46 = .ok (.iinc 3 1, 3) := by decide +kernel
theorem dX5_isNamed_49 : decode cX5_isNamed 49 = .ok (.goto (-32), 3) := by decide +kernel
theorem dX5_isNamed_52 : decode cX5_isNamed 52 = .ok (.iconst 1, 1) := by decide +kernel
theorem dX5_isNamed_53 : decode cX5_isNamed 53 = .ok (.ireturn, 1) := by decide +kernel
theorem ws_ini : Cond.initialized "java/lang/String" ∈ gBIG := gm_at (l := tables_1_1) 15 (by decide +kernel) gs1
theorem ws_ini1 : Cond.initialized "java/lang/StringLatin1" ∈ gBIG := gm_at (l := tables_1_1) 16 (by decide +kernel) gs1
theorem ws_ini3 : Cond.initialized "jdk/internal/util/Preconditions" ∈ gBIG := gm_at (l := tables_1_1) 17 (by decide +kernel) gs1
theorem ws_code_length : Cond.code yJ0_length_8abf5 cJ0_length_8abf5 1 (some .int) ∈ gBIG := gm_at (l := tables_1_3) 90 (by decide +kernel) gs3
theorem ws_inst_length : Cond.instanceMethod yJ0_length_8abf5 ∈ gBIG := gm_at (l := tables_1_3) 88 (by decide +kernel) gs3
theorem ws_sel_length : Cond.selects "java/lang/String" yJ0_length_8abf5 yJ0_length_8abf5 ∈ gBIG := gm_at (l := tables_1_3) 89 (by decide +kernel) gs3
theorem cms_length : gcm mJ0_length_8abf5 0 := ⟨ws_code_length, ws_ini, by decide, by decide, by decide, by decide +kernel, by decide⟩
theorem ws_code_charAt : Cond.code yJ0_charAt_5068e cJ0_charAt_5068e 2 (some .char) ∈ gBIG := gm_at (l := tables_1_3) 100 (by decide +kernel) gs3
theorem ws_inst_charAt : Cond.instanceMethod yJ0_charAt_5068e ∈ gBIG := gm_at (l := tables_1_3) 98 (by decide +kernel) gs3
theorem ws_sel_charAt : Cond.selects "java/lang/String" yJ0_charAt_5068e yJ0_charAt_5068e ∈ gBIG := gm_at (l := tables_1_3) 99 (by decide +kernel) gs3
theorem cms_charAt : gcm mJ0_charAt_5068e 1 := ⟨ws_code_charAt, ws_ini, by decide, by decide, by decide, by decide +kernel, by decide⟩
theorem ws_code_coder : Cond.code yJ0_coder_7d493 cJ0_coder_7d493 1 (some .byte) ∈ gBIG := gm_at (l := tables_1_3) 94 (by decide +kernel) gs3
theorem ws_inst_coder : Cond.instanceMethod yJ0_coder_7d493 ∈ gBIG := gm_at (l := tables_1_3) 92 (by decide +kernel) gs3
theorem ws_sel_coder : Cond.selects "java/lang/String" yJ0_coder_7d493 yJ0_coder_7d493 ∈ gBIG := gm_at (l := tables_1_3) 93 (by decide +kernel) gs3
theorem cms_coder : gcm mJ0_coder_7d493 0 := ⟨ws_code_coder, ws_ini, by decide, by decide, by decide, by decide +kernel, by decide⟩
theorem ws_code_isLatin1 : Cond.code yJ0_isLatin1_aae02 cJ0_isLatin1_aae02 1 (some .boolean) ∈ gBIG := gm_at (l := tables_1_3) 104 (by decide +kernel) gs3
theorem ws_inst_isLatin1 : Cond.instanceMethod yJ0_isLatin1_aae02 ∈ gBIG := gm_at (l := tables_1_3) 102 (by decide +kernel) gs3
theorem ws_sel_isLatin1 : Cond.selects "java/lang/String" yJ0_isLatin1_aae02 yJ0_isLatin1_aae02 ∈ gBIG := gm_at (l := tables_1_3) 103 (by decide +kernel) gs3
theorem cms_isLatin1 : gcm mJ0_isLatin1_aae02 0 := ⟨ws_code_isLatin1, ws_ini, by decide, by decide, by decide, by decide +kernel, by decide⟩
theorem ws_code_check : Cond.code yJ0_checkIndex_df160 cJ0_checkIndex_df160 2 none ∈ gBIG := gm_at (l := tables_1_3) 110 (by decide +kernel) gs3
theorem ws_stat_check : Cond.static yJ0_checkIndex_df160 ∈ gBIG := gm_at (l := tables_1_3) 109 (by decide +kernel) gs3
theorem cms_check : gcm mJ0_checkIndex_df160 2 := ⟨ws_code_check, ws_ini, by decide, by decide, by decide, by decide +kernel, by decide⟩
theorem ws_code_l1 : Cond.code yJ1_charAt_3b067 cJ1_charAt_3b067 2 (some .char) ∈ gBIG := gm_at (l := tables_1_3) 107 (by decide +kernel) gs3
theorem ws_stat_l1 : Cond.static yJ1_charAt_3b067 ∈ gBIG := gm_at (l := tables_1_3) 106 (by decide +kernel) gs3
theorem cms_l1 : gcm mJ1_charAt_3b067 2 := ⟨ws_code_l1, ws_ini1, by decide, by decide, by decide, by decide +kernel, by decide⟩
theorem ws_code_pre : Cond.code yJ3_checkIndex_8e157 cJ3_checkIndex_8e157 3 (some .int) ∈ gBIG := gm_at (l := tables_1_3) 115 (by decide +kernel) gs3
theorem ws_stat_pre : Cond.static yJ3_checkIndex_8e157 ∈ gBIG := gm_at (l := tables_1_3) 114 (by decide +kernel) gs3
theorem cms_pre : gcm mJ3_checkIndex_8e157 3 := ⟨ws_code_pre, ws_ini3, by decide, by decide, by decide, by decide +kernel, by decide⟩
theorem ws_f_cs : Cond.fieldLink "java/lang/String" 38 "java/lang/String" "COMPACT_STRINGS" "Z" ∈ gBIG := gm_at (l := tables_1_3) 95 (by decide +kernel) gs3
theorem ws_f_coder : Cond.fieldLink "java/lang/String" 15 "java/lang/String" "coder" "B" ∈ gBIG := gm_at (l := tables_1_8) 79 (by decide +kernel) gs8
theorem ws_f_value : Cond.fieldLink "java/lang/String" 9 "java/lang/String" "value" "[B" ∈ gBIG := gm_at (l := tables_1_8) 78 (by decide +kernel) gs8
theorem ws_f_fmt : Cond.fieldLink "java/lang/String" 1053 "jdk/internal/util/Preconditions" "SIOOBE_FORMATTER" "Ljava/util/function/BiFunction;" ∈ gBIG := gm_at (l := tables_1_3) 111 (by decide +kernel) gs3
theorem ws_l_coder : Cond.methodLink "java/lang/String" 335 yJ0_coder_7d493 ∈ gBIG := gm_at (l := tables_1_3) 91 (by decide +kernel) gs3
theorem ws_l_isLatin1 : Cond.methodLink "java/lang/String" 492 yJ0_isLatin1_aae02 ∈ gBIG := gm_at (l := tables_1_3) 101 (by decide +kernel) gs3
theorem ws_l_l1 : Cond.methodLink "java/lang/String" 495 yJ1_charAt_3b067 ∈ gBIG := gm_at (l := tables_1_3) 105 (by decide +kernel) gs3
theorem ws_l_check : Cond.methodLink "java/lang/StringLatin1" 9 yJ0_checkIndex_df160 ∈ gBIG := gm_at (l := tables_1_3) 108 (by decide +kernel) gs3
theorem ws_l_pre : Cond.methodLink "java/lang/String" 1059 yJ3_checkIndex_8e157 ∈ gBIG := gm_at (l := tables_1_3) 113 (by decide +kernel) gs3
theorem ws_l_length : Cond.methodLink "IceKeys$Reader" 79 yJ0_length_8abf5 ∈ gBIG := gm_at (l := tables_1_3) 87 (by decide +kernel) gs3
theorem ws_l_charAt : Cond.methodLink "IceKeys$Reader" 85 yJ0_charAt_5068e ∈ gBIG := gm_at (l := tables_1_3) 97 (by decide +kernel) gs3
def gSx (b q v : Nat) (s : State) : Prop := va_Z "java/lang/String" "COMPACT_STRINGS" "Z" (.int 1) (gA b) s s.heap ∧ va_O "java/lang/String" q (gA b) s s.heap ∧ va_OF "java/lang/String" "coder" "B" (.int 0) q (gA b) s s.heap ∧ va_OF "java/lang/String" "value" "[B" (.ref v) q (gA b) s s.heap ∧ va_T .byte v 93 (fun j => .int (gwb.getD j 0)) (gA b) s s.heap ∧ va_Zq "jdk/internal/util/Preconditions" "SIOOBE_FORMATTER" "Ljava/util/function/BiFunction;" (gA b) s s.heap
theorem gSx.moved {b q v : Nat} {s U : State} (h : gSx b q v s) (hvm : s.vm.Alike U.vm) (hq : ∀ q : Nat, q < b → U.heap[q]? = s.heap[q]?) : gSx b q v U := by
  obtain ⟨h1, h2, h3, h4, h5, h6⟩ := h
  have hk : ∀ a : Nat, a < s.heap.size → ¬ gA b a → U.heap[a]? = s.heap[a]? := fun a _ ha => hq a (Nat.not_le.mp ha)
  exact ⟨(va_Z.moved hvm h1).kept hk, (va_O.moved hvm h2).kept hk, (va_OF.moved hvm h3).kept hk, (va_OF.moved hvm h4).kept hk, (va_T.moved hvm h5).kept hk, (va_Zq.moved hvm h6).kept hk⟩
section SX
variable {b q v d : Nat} {D : va_G} {cy : Nat → ClassId} {sh : List (Nat × Nat)} {R : gR} {I : gI}
/-- a method of the library's at its entry, its arguments as they lie -/
def gXM (d : Nat) (M : gM) (As : List Value) (b q v : Nat) (D : va_G) (cy : Nat → ClassId) (sh : List (Nat × Nat)) (R : gR) (I : gI) (Q : Option Value → gH → Prop) : Prop :=
  ∀ (p : Program) (l : Launch) (e : Env) (s : State) (m : MethodId) (args : Array Value) (below : List Frame) (meth : Method) (c : Code) (ls : Array Slot), gCx M p s m args meth c → gFx b D cy s → gWd b D cy (sh, R, I) s.heap → gSx b q v s → lv_has ls M.2.2.1 (lv_args 0 As) →
    W p l e (gRm d 0 0) s m args below meth c s.heap [] 0 0 (MQ below (gQC b D cy Q) args s 0 0 (gA b)) (F0 m 0 ls [])
theorem gXMet {M : gM} {As : List Value} {Q : Option Value → gH → Prop} (hy : plainName M.1.cls = true) (hn : (lg_sl As).length ≤ M.2.2.1) (hG : gXM d M As b q v D cy sh R I Q) (l : Launch) :
    Met l M.1 (.code M.1 M.2.1 M.2.2.1 M.2.2.2 :: gBIG) (gRm d 0 0) (va_Pc As (fun U => gFx b D cy U ∧ gWd b D cy (sh, R, I) U.heap ∧ gSx b q v U)) (gQC b D cy Q) 0 0 (gA b) := by
  refine Met.ofW (cc := M.2.1) (maxL := M.2.2.1) (ret := M.2.2.2) hy rfl ?_
  intro p e s m args below meth c s₁ B hml hv
  obtain ⟨rfl, hF, hW, hX⟩ := hv
  have hts := atoms_spec (ws := .code M.1 M.2.1 M.2.2.1 M.2.2.2 :: gBIG) B.pre
  rw [lg_entry_eq]
  exact hG p l e s m _ below meth c _ ⟨B.exec, B.bytes, hml, B.returns, B.notSynchronized, findClass_of_methodNamed B.named, (name_of_methodNamed B.named B.method).1, fun w hw => hts w (List.mem_cons_of_mem _ hw)⟩ hF hW hX (lv_entry As hn)
section SC
variable {p : Program} {l : Launch} {e : Env} {s : State} {m : MethodId} {args : Array Value} {below : List Frame} {meth : Method} {c : Code} {H : Heap} {locs : List Loc} {ls : Array Slot} {Qf : State → Prop} {M mj : gM} {mc ms k n pc i : Nat} {As S : List Value} {Q1 : Option Value → gH → Prop}
theorem gPreX (hF : gFx b D cy s) (hX : gSx b q v s) (hS : va_S (gA b) s.heap H locs) (hW : gWd b D cy (sh, R, I) H) : PreS s H (va_Pc As (fun U => gFx b D cy U ∧ gWd b D cy (sh, R, I) U.heap ∧ gSx b q v U)) As :=
  ⟨fun _ U _ _ z => ⟨z.1, gFx.same rfl rfl z.2.1, z.2.2.1, z.2.2.2.moved (Vm.Alike.refl _) (fun _ _ => rfl)⟩, fun U hU hWm => ⟨rfl, hF.moved hWm (by rw [hU]; exact Nat.le_trans hF.1 hS.1) (fun q hq => by rw [hU]; exact gA_old hF.1 hS q hq), by rw [hU]; exact hW, hX.moved hWm.alike (fun q hq => by rw [hU]; exact gA_old hF.1 hS q hq)⟩⟩
theorem x_callV (hC : gCx M p s m args meth c) (hF : gFx b D cy s) (hX : gSx b q v s) (hS : va_S (gA b) s.heap H locs) (hW : gWd b D cy (sh, R, I) H) (hls : ls.size = M.2.2.1) (hd : decode M.2.1 pc = .ok (.invokevirtual i, 3)) (hm : gcm mj As.length) (hw1 : Cond.methodLink M.1.cls i mj.1 ∈ gBIG) (hw2 : Cond.instanceMethod mj.1 ∈ gBIG) (hw3 : Cond.selects "java/lang/String" mj.1 mj.1 ∈ gBIG) (hcat : (S.map fun v => v.category).sum ≤ 8) (hlen : (lg_sl (.ref q :: As)).length ≤ mj.2.2.1) (hk : k ≤ mc) (hn : n ≤ ms) (hG : gXM d mj (.ref q :: As) b q v D cy sh R I Q1)
    (kk : ∀ (r : Option Value) (h' : gH) (H1 : Heap) (locs1 : List Loc), Q1 r h' → gWd b D cy h' H1 → va_S (gA b) s.heap H1 locs1 → W p l e (gRm (d + 1) mc ms) s m args below meth c H1 locs1 k n Qf (F0 m (pc + 3) ls ((r.map (gtr b)).toList ++ S))) : W p l e (gRm (d + 1) mc ms) s m args below meth c H locs k n Qf (F0 m pc ls (As.reverse ++ .ref q :: S)) := by
  obtain ⟨hm1, hm2, hm3, hm4, hm5, hm6, hm7⟩ := gcm_inv hm
  have hts := hC.2.2.2.2.2.2.2
  have hcw : CallW (gRm (d + 1) mc ms) s args M.1.cls "java/lang/String" i mj.1 mj.2.1 mj.2.2.1 mj.2.2.2 (.code mj.1 mj.2.1 mj.2.2.1 mj.2.2.2 :: gBIG) (gRm d 0 0) 0 0 As.length := ⟨callB_of As.length hts (gGood (gcode_in hm1)) rfl rfl rfl (hts _ hm2) (hts _ hw1) ⟨hm4, hm5, hm6⟩ ⟨Nat.le_refl _, by show 8 + (mj.2.2.1 + 11) + (64 * d + 64) ≤ 64 * (d + 1) + 64; omega⟩, hts _ hw2, hts _ hw3⟩
  obtain ⟨cell, h1, h2, h3, -⟩ := hX.2.1.kept hS.2.1
  exact gAfter (va_runV (b := q) (C := "java/lang/String") (As := As) (rest := S) ⟨hC.1, hC.2.1, hC.2.2.1, hC.2.2.2.2.2.1, hts⟩ (gXMet hm3 hlen hG l) hcw ⟨(gPreX (As := .ref q :: As) hF hX hS hW).1, ⟨cell, h1, h2, h3⟩, (gPreX (As := .ref q :: As) hF hX hS hW).2⟩ rfl rfl hls rfl (lv_room hcat) hd ⟨hk, hn⟩) hF.1 hS kk
theorem x_callS (hC : gCx M p s m args meth c) (hF : gFx b D cy s) (hX : gSx b q v s) (hS : va_S (gA b) s.heap H locs) (hW : gWd b D cy (sh, R, I) H) (hls : ls.size = M.2.2.1) (hd : decode M.2.1 pc = .ok (.invokestatic i, 3)) (hm : gcm mj As.length) (hw1 : Cond.methodLink M.1.cls i mj.1 ∈ gBIG) (hw2 : Cond.static mj.1 ∈ gBIG) (hcat : (S.map fun v => v.category).sum ≤ 8) (hlen : (lg_sl As).length ≤ mj.2.2.1) (hk : k ≤ mc) (hn : n ≤ ms) (hG : gXM d mj As b q v D cy sh R I Q1)
    (kk : ∀ (r : Option Value) (h' : gH) (H1 : Heap) (locs1 : List Loc), Q1 r h' → gWd b D cy h' H1 → va_S (gA b) s.heap H1 locs1 → W p l e (gRm (d + 1) mc ms) s m args below meth c H1 locs1 k n Qf (F0 m (pc + 3) ls ((r.map (gtr b)).toList ++ S))) : W p l e (gRm (d + 1) mc ms) s m args below meth c H locs k n Qf (F0 m pc ls (As.reverse ++ S)) := by
  obtain ⟨hm1, hm2, hm3, hm4, hm5, hm6, hm7⟩ := gcm_inv hm
  have hts := hC.2.2.2.2.2.2.2
  exact gAfter (va_runS (As := As) (rest := S) ⟨hC.1, hC.2.1, hC.2.2.1, hC.2.2.2.2.2.1, hts⟩ (gXMet hm3 hlen hG l) ⟨callB_of As.length hts (gGood (gcode_in hm1)) rfl rfl rfl (hts _ hm2) (hts _ hw1) ⟨hm4, hm5, hm6⟩ ⟨Nat.le_refl _, by show 8 + (mj.2.2.1 + 11) + (64 * d + 64) ≤ 64 * (d + 1) + 64; omega⟩, hts _ hw2⟩ (gPreX hF hX hS hW) rfl rfl hls rfl (lv_room hcat) hd ⟨hk, hn⟩) hF.1 hS kk
/-- a method's end -/
theorem x_ret {M : gM} {w : Int32} {ty : FieldType} (hC : gCx M p s m args meth c) (hF : gFx b D cy s) (hS : va_S (gA b) s.heap H locs) (hW : gWd b D cy (sh, R, I) H) (hr : M.2.2.2 = some ty) (hn : narrow ty (.int w) = .int w) (hd : decode M.2.1 pc = .ok (.ireturn, 1)) {Q : Option Value → gH → Prop} (hq : Q (some (.int w)) (sh, R, I)) : W p l e (gRm d 0 0) s m args below meth c H locs 0 0 (MQ below (gQC b D cy Q) args s 0 0 (gA b)) (F0 m pc ls [.int w]) :=
  W.zret (ty := ty) hC.1 hC.2.1 (hC.2.2.2.1.trans hr) hn (fun t ht _ => ⟨some (.int w), (sh, R, I), rfl, hq, by rw [ht]; exact hW, by rw [ht]; exact hS.1, fun q hq => by rw [ht]; exact gA_old hF.1 hS q hq⟩) hS.2.2 hd hC.2.2.2.2.1
end SC
/-- answers w, and nothing is changed -/
def xq (w : Option Value) (sh : List (Nat × Nat)) (R : gR) (I : gI) : Option Value → gH → Prop := fun r h => r = w ∧ h = (sh, R, I)

theorem xm_lt {i : Int32} (hi : vp_in i 93) : i < 93 := by
  have h0 : ¬ i < 0 := fun z => hi (Or.inl z)
  have h1 : i.toNatClampNeg < 93 := Nat.not_le.mp fun z => hi (Or.inr z)
  rw [a_nc] at h1
  rw [Int32.lt_iff_toInt_lt] at h0 ⊢
  have e : (93 : Int32).toInt = 93 := rfl
  have e0 : (0 : Int32).toInt = 0 := rfl
  omega
theorem xm_coder : gXM d mJ0_coder_7d493 [.ref q] b q v D cy sh R I (xq (some (.int 0)) sh R I) := by
  intro p l e s m args below meth c ls hC hF hW hX hl
  have hts := hC.2.2.2.2.2.2.2
  have hown := hC.2.2.2.2.2.1
  refine va_gets hC.1 hC.2.1 hX.1 va_S.rf hown (hts _ ws_f_cs) (fun _ hx => hx) dJ0_coder_7d493_0 ?_
  refine lv_if_eq hC.1 hC.2.1 (tgt := 13) dJ0_coder_7d493_3 (by decide) (fun z => absurd z (by decide)) (fun _ => ?_)
  refine lv_aload_n hC.1 hC.2.1 dJ0_coder_7d493_6 rfl (lv_at hl 0 rfl) ?_
  refine vk_getf hC.1 hC.2.1 hX.2.2.1 va_S.rf hown (hts _ ws_f_coder) (fun _ hx => hx) dJ0_coder_7d493_7 ?_
  refine lv_goto hC.1 hC.2.1 (tgt := 14) dJ0_coder_7d493_10 (by decide) ?_
  exact x_ret hC hF va_S.rf hW rfl (by decide) dJ0_coder_7d493_14 ⟨rfl, rfl⟩
theorem xm_isLatin1 : gXM d mJ0_isLatin1_aae02 [.ref q] b q v D cy sh R I (xq (some (.int 1)) sh R I) := by
  intro p l e s m args below meth c ls hC hF hW hX hl
  have hts := hC.2.2.2.2.2.2.2
  have hown := hC.2.2.2.2.2.1
  refine va_gets hC.1 hC.2.1 hX.1 va_S.rf hown (hts _ ws_f_cs) (fun _ hx => hx) dJ0_isLatin1_aae02_0 ?_
  refine lv_if_eq hC.1 hC.2.1 (tgt := 17) dJ0_isLatin1_aae02_3 (by decide) (fun z => absurd z (by decide)) (fun _ => ?_)
  refine lv_aload_n hC.1 hC.2.1 dJ0_isLatin1_aae02_6 rfl (lv_at hl 0 rfl) ?_
  refine vk_getf hC.1 hC.2.1 hX.2.2.1 va_S.rf hown (hts _ ws_f_coder) (fun _ hx => hx) dJ0_isLatin1_aae02_7 ?_
  refine lv_if_ne hC.1 hC.2.1 (tgt := 17) dJ0_isLatin1_aae02_10 (by decide) (fun z => absurd rfl z) (fun _ => ?_)
  refine lv_iconst hC.1 hC.2.1 dJ0_isLatin1_aae02_13 (v := 1) (by decide) ?_
  refine lv_goto hC.1 hC.2.1 (tgt := 18) dJ0_isLatin1_aae02_14 (by decide) ?_
  exact x_ret hC hF va_S.rf hW rfl (by decide) dJ0_isLatin1_aae02_18 ⟨rfl, rfl⟩
theorem xm_length : gXM (d + 1) mJ0_length_8abf5 [.ref q] b q v D cy sh R I (xq (some (.int 93)) sh R I) := by
  intro p l e s m args below meth c ls hC hF hW hX hl
  have hts := hC.2.2.2.2.2.2.2
  have hown := hC.2.2.2.2.2.1
  refine lv_aload_n hC.1 hC.2.1 dJ0_length_8abf5_0 rfl (lv_at hl 0 rfl) ?_
  refine vk_getf hC.1 hC.2.1 hX.2.2.2.1 va_S.rf hown (hts _ ws_f_value) (fun _ hx => hx) dJ0_length_8abf5_1 ?_
  refine va_tlen hC.1 hC.2.1 hX.2.2.2.2.1 va_S.rf (v := 93) rfl dJ0_length_8abf5_4 ?_
  refine lv_aload_n hC.1 hC.2.1 dJ0_length_8abf5_5 rfl (lv_at hl 0 rfl) ?_
  refine x_callV (As := []) (S := [.int 93]) (mj := mJ0_coder_7d493) (d := d) hC hF hX va_S.rf hW hl.1 dJ0_length_8abf5_6 cms_coder ws_l_coder ws_inst_coder ws_sel_coder (by decide) (by simp [lg_sl, Value.category]) (Nat.le_refl _) (Nat.le_refl _) xm_coder ?_
  rintro _ _ H1 locs1 ⟨rfl, rfl⟩ hW1 hS1
  refine lv_ishr (x := 93) (y := 0) (rest := []) hC.1 hC.2.1 dJ0_length_8abf5_9 ?_
  exact x_ret hC hF hS1 hW1 rfl (by decide) dJ0_length_8abf5_10 ⟨by decide, rfl⟩
theorem xm_pre {i : Int32} (hi : vp_in i 93) {w : Value} : gXM d mJ3_checkIndex_8e157 [.int i, .int 93, w] b q v D cy sh R I (xq (some (.int i)) sh R I) := by
  intro p l e s m args below meth c ls hC hF hW hX hl
  have hts := hC.2.2.2.2.2.2.2
  have hown := hC.2.2.2.2.2.1
  refine lv_iload_n hC.1 hC.2.1 dJ3_checkIndex_8e157_0 rfl (lv_at hl 0 rfl) ?_
  refine lv_if_lt hC.1 hC.2.1 (tgt := 9) dJ3_checkIndex_8e157_1 (by decide) (fun z => absurd (Or.inl z) hi) (fun _ => ?_)
  refine lv_iload_n hC.1 hC.2.1 dJ3_checkIndex_8e157_4 rfl (lv_at hl 0 rfl) ?_
  refine lv_iload_n hC.1 hC.2.1 dJ3_checkIndex_8e157_5 rfl (lv_at hl 1 rfl) ?_
  refine lv_icmp_lt hC.1 hC.2.1 (tgt := 16) dJ3_checkIndex_8e157_6 (by decide) (fun _ => ?_) (fun z => absurd (xm_lt hi) z)
  refine lv_iload_n hC.1 hC.2.1 dJ3_checkIndex_8e157_16 rfl (lv_at hl 0 rfl) ?_
  exact x_ret hC hF va_S.rf hW rfl rfl dJ3_checkIndex_8e157_17 ⟨rfl, rfl⟩
theorem xm_check {i : Int32} (hi : vp_in i 93) {w : Value} : gXM (d + 1) mJ0_checkIndex_df160 [.int i, .int 93] b q v D cy sh R I (xq none sh R I) := by
  intro p l e s m args below meth c ls hC hF hW hX hl
  have hts := hC.2.2.2.2.2.2.2
  have hown := hC.2.2.2.2.2.1
  have key : ∀ w : Value, w = .null ∨ (∃ t : Nat, w = .ref t) → W p l e (gRm (d + 1) 0 0) s m args below meth c s.heap [] 0 0 (MQ below (gQC b D cy (xq none sh R I)) args s 0 0 (gA b)) (F0 m 5 ls ([.int i, .int 93, w].reverse ++ [])) := by
    intro w hw
    refine x_callS (mj := mJ3_checkIndex_8e157) (d := d) hC hF hX va_S.rf hW hl.1 dJ0_checkIndex_df160_5 cms_pre ws_l_pre ws_stat_pre (by decide) (by rcases hw with rfl | ⟨t, rfl⟩ <;> simp [lg_sl, Value.category]) (Nat.le_refl _) (Nat.le_refl _) (xm_pre hi) ?_
    rintro _ _ H1 locs1 ⟨rfl, rfl⟩ hW1 hS1
    refine lv_pop (va := .int i) (rest := []) hC.1 hC.2.1 dJ0_checkIndex_df160_8 rfl ?_
    exact W.vret hC.1 hC.2.1 hC.2.2.2.1 (fun t ht _ => ⟨none, (sh, R, I), rfl, ⟨rfl, rfl⟩, by rw [ht]; exact hW1, by rw [ht]; exact hS1.1, fun q hq => by rw [ht]; exact gA_old hF.1 hS1 q hq⟩) hS1.2.2 dJ0_checkIndex_df160_9 hC.2.2.2.2.1
  refine lv_iload_n hC.1 hC.2.1 dJ0_checkIndex_df160_0 rfl (lv_at hl 0 rfl) ?_
  refine lv_iload_n hC.1 hC.2.1 dJ0_checkIndex_df160_1 rfl (lv_at hl 1 rfl) ?_
  rcases hX.2.2.2.2.2 with hz | ⟨t, hz⟩
  · exact va_gets hC.1 hC.2.1 hz va_S.rf hown (hts _ ws_f_fmt) (fun _ hx => hx) dJ0_checkIndex_df160_2 (key _ (Or.inl rfl))
  · exact va_gets hC.1 hC.2.1 hz va_S.rf hown (hts _ ws_f_fmt) (fun _ hx => hx) dJ0_checkIndex_df160_2 (key _ (Or.inr ⟨t, rfl⟩))
theorem xm_l1 {i : Int32} (hi : vp_in i 93) {w : Value} : gXM (d + 2) mJ1_charAt_3b067 [.ref v, .int i] b q v D cy sh R I (xq (some (.int (gwb.getD i.toNatClampNeg 0 &&& 255))) sh R I) := by
  intro p l e s m args below meth c ls hC hF hW hX hl
  have hts := hC.2.2.2.2.2.2.2
  have hown := hC.2.2.2.2.2.1
  refine lv_iload_n hC.1 hC.2.1 dJ1_charAt_3b067_0 rfl (lv_at hl 1 rfl) ?_
  refine lv_aload_n hC.1 hC.2.1 dJ1_charAt_3b067_1 rfl (lv_at hl 0 rfl) ?_
  refine va_tlen hC.1 hC.2.1 hX.2.2.2.2.1 va_S.rf (v := 93) rfl dJ1_charAt_3b067_2 ?_
  refine x_callS (As := [.int i, .int 93]) (S := []) (mj := mJ0_checkIndex_df160) (d := d + 1) hC hF hX va_S.rf hW hl.1 dJ1_charAt_3b067_3 cms_check ws_l_check ws_stat_check (by decide) (by simp [lg_sl, Value.category]) (Nat.le_refl _) (Nat.le_refl _) (xm_check hi (w := .null)) ?_
  rintro _ _ H1 locs1 ⟨rfl, rfl⟩ hW1 hS1
  refine lv_aload_n (rest := []) hC.1 hC.2.1 dJ1_charAt_3b067_6 rfl (lv_at hl 0 rfl) ?_
  refine lv_iload_n hC.1 hC.2.1 dJ1_charAt_3b067_7 rfl (lv_at hl 1 rfl) ?_
  refine va_tb hC.1 hC.2.1 hX.2.2.2.2.1 hS1 hi rfl dJ1_charAt_3b067_8 ?_
  refine lv_sipush hC.1 hC.2.1 dJ1_charAt_3b067_9 (v := 255) (by decide) ?_
  refine lv_iand hC.1 hC.2.1 dJ1_charAt_3b067_12 ?_
  refine lv_i2c hC.1 hC.2.1 dJ1_charAt_3b067_13 (sc_c2 _) ?_
  exact x_ret hC hF hS1 hW1 rfl (sc_nar _) dJ1_charAt_3b067_14 ⟨rfl, rfl⟩
theorem xm_charAt {i : Int32} (hi : vp_in i 93) {w : Value} : gXM (d + 3) mJ0_charAt_5068e [.ref q, .int i] b q v D cy sh R I (xq (some (.int (gwb.getD i.toNatClampNeg 0 &&& 255))) sh R I) := by
  intro p l e s m args below meth c ls hC hF hW hX hl
  have hts := hC.2.2.2.2.2.2.2
  have hown := hC.2.2.2.2.2.1
  refine lv_aload_n hC.1 hC.2.1 dJ0_charAt_5068e_0 rfl (lv_at hl 0 rfl) ?_
  refine x_callV (As := []) (S := []) (mj := mJ0_isLatin1_aae02) (d := d + 2) hC hF hX va_S.rf hW hl.1 dJ0_charAt_5068e_1 cms_isLatin1 ws_l_isLatin1 ws_inst_isLatin1 ws_sel_isLatin1 (by decide) (by simp [lg_sl, Value.category]) (Nat.le_refl _) (Nat.le_refl _) xm_isLatin1 ?_
  rintro _ _ H1 locs1 ⟨rfl, rfl⟩ hW1 hS1
  refine lv_if_eq (x := 1) (rest := []) hC.1 hC.2.1 (tgt := 16) dJ0_charAt_5068e_4 (by decide) (fun z => absurd z (by decide)) (fun _ => ?_)
  refine lv_aload_n hC.1 hC.2.1 dJ0_charAt_5068e_7 rfl (lv_at hl 0 rfl) ?_
  refine vk_getf hC.1 hC.2.1 hX.2.2.2.1 hS1 hown (hts _ ws_f_value) (fun _ hx => hx) dJ0_charAt_5068e_8 ?_
  refine lv_iload_n hC.1 hC.2.1 dJ0_charAt_5068e_11 rfl (lv_at hl 1 rfl) ?_
  refine x_callS (As := [.ref v, .int i]) (S := []) (mj := mJ1_charAt_3b067) (d := d + 2) hC hF hX hS1 hW1 hl.1 dJ0_charAt_5068e_12 cms_l1 ws_l_l1 ws_stat_l1 (by decide) (by simp [lg_sl, Value.category]) (Nat.le_refl _) (Nat.le_refl _) (xm_l1 hi (w := .null)) ?_
  rintro _ _ H2 locs2 ⟨rfl, rfl⟩ hW2 hS2
  exact x_ret hC hF hS2 hW2 rfl (sc_nar _) dJ0_charAt_5068e_15 ⟨rfl, rfl⟩
end SX
section GW
variable {d : Nat} {M : gM} {mc ms k n pc : Nat} {L : gL} {S : List Value} {sh : List (Nat × Nat)} {R : gR} {I : gI} {Q : Option Value → gH → Prop}
theorem gSx.of {b : Nat} {D : va_G} {cy : Nat → ClassId} {s : State} (hF : gFx b D cy s) : ∃ q v : Nat, gSx b q v s ∧ vk_R "IceKeys$Reader" 77 gwt q s := by
  obtain ⟨t, aK, aV, -, -, hz, hs, hr, hq⟩ := hF.2.2.2.2.2.2
  obtain ⟨h1, h2, h3, h4⟩ := hs.1 0 (by decide)
  exact ⟨aK 0, aV 0, ⟨hz, h1, h2, h3, h4, hq⟩, hr⟩
/-- WORDS.length() -/
theorem G_wlen (hown : M.1.cls = "IceKeys$Reader") (hd1 : decode M.2.1 pc = .ok (.ldc 77, 2)) (hd2 : decode M.2.1 (pc + 2) = .ok (.invokevirtual 79, 3)) (hk : k ≤ mc) (hn : n ≤ ms) (hcat : (S.map fun v => v.category).sum ≤ 8) (kk : G (d + 2) M mc ms k n (pc + 5) L (.int 93 :: S) sh R I Q) : G (d + 2) M mc ms k n pc L S sh R I Q := by
  intro p l e s m args below meth c H locs ls b D cy hC hF hS hW hl
  obtain ⟨q, v, hX, hr⟩ := gSx.of hF
  refine va_ldcS hC.1 hC.2.1 hC.2.2.2.2.2.1 (by rw [hown]; exact hr) hd1 ?_
  refine x_callV (As := []) (mj := mJ0_length_8abf5) (d := d + 1) hC hF hX hS hW hl.1 hd2 cms_length (by rw [hown]; exact ws_l_length) ws_inst_length ws_sel_length (g_cat hcat) (by simp [lg_sl, Value.category]) hk hn xm_length ?_
  rintro _ _ H1 locs1 ⟨rfl, rfl⟩ hW1 hS1
  exact kk p l e s m args below meth c H1 locs1 ls b D cy hC hF hS1 hW1 hl
/-- WORDS.charAt(a local) -/
theorem G_wat1 {a : Fin 4} {i : Int32} (hown : M.1.cls = "IceKeys$Reader") (hd1 : decode M.2.1 pc = .ok (.ldc 77, 2)) (hd2 : decode M.2.1 (pc + 2) = .ok (.iload_n a, 1)) (hd3 : decode M.2.1 (pc + 3) = .ok (.invokevirtual 85, 3)) (hL : L[a.val]? = some (some (.int i))) (hi : vp_in i 93) (hk : k ≤ mc) (hn : n ≤ ms) (hcat : (S.map fun v => v.category).sum ≤ 8) (kk : G (d + 4) M mc ms k n (pc + 6) L (.int (gwb.getD i.toNatClampNeg 0 &&& 255) :: S) sh R I Q) : G (d + 4) M mc ms k n pc L S sh R I Q := by
  intro p l e s m args below meth c H locs ls b D cy hC hF hS hW hl
  obtain ⟨q, v, hX, hr⟩ := gSx.of hF
  refine va_ldcS hC.1 hC.2.1 hC.2.2.2.2.2.1 (by rw [hown]; exact hr) hd1 ?_
  refine lv_iload_n hC.1 hC.2.1 hd2 rfl (gLV_at hl hL) ?_
  refine x_callV (As := [.int i]) (mj := mJ0_charAt_5068e) (d := d + 3) hC hF hX hS hW hl.1 hd3 cms_charAt (by rw [hown]; exact ws_l_charAt) ws_inst_charAt ws_sel_charAt (g_cat hcat) (by simp [lg_sl, Value.category]) hk hn (xm_charAt hi (w := .null)) ?_
  rintro _ _ H1 locs1 ⟨rfl, rfl⟩ hW1 hS1
  exact kk p l e s m args below meth c H1 locs1 ls b D cy hC hF hS1 hW1 hl
/-- WORDS.charAt(a local + a local) -/
theorem G_wat2 {a a2 : Fin 4} {i j z : Int32} (hown : M.1.cls = "IceKeys$Reader") (hd1 : decode M.2.1 pc = .ok (.ldc 77, 2)) (hd2 : decode M.2.1 (pc + 2) = .ok (.iload_n a, 1)) (hd3 : decode M.2.1 (pc + 3) = .ok (.iload_n a2, 1)) (hd4 : decode M.2.1 (pc + 4) = .ok (.iadd, 1)) (hd5 : decode M.2.1 (pc + 5) = .ok (.invokevirtual 85, 3)) (hL : L[a.val]? = some (some (.int i))) (hL2 : L[a2.val]? = some (some (.int j))) (hz : i + j = z) (hi : vp_in z 93) (hk : k ≤ mc) (hn : n ≤ ms) (hcat : (S.map fun v => v.category).sum ≤ 8) (kk : G (d + 4) M mc ms k n (pc + 8) L (.int (gwb.getD z.toNatClampNeg 0 &&& 255) :: S) sh R I Q) : G (d + 4) M mc ms k n pc L S sh R I Q := by
  subst hz
  intro p l e s m args below meth c H locs ls b D cy hC hF hS hW hl
  obtain ⟨q, v, hX, hr⟩ := gSx.of hF
  refine va_ldcS hC.1 hC.2.1 hC.2.2.2.2.2.1 (by rw [hown]; exact hr) hd1 ?_
  refine lv_iload_n hC.1 hC.2.1 hd2 rfl (gLV_at hl hL) ?_
  refine lv_iload_n hC.1 hC.2.1 hd3 rfl (gLV_at hl hL2) ?_
  refine lv_iadd hC.1 hC.2.1 hd4 ?_
  refine x_callV (As := [.int (i + j)]) (mj := mJ0_charAt_5068e) (d := d + 3) hC hF hX hS hW hl.1 hd5 cms_charAt (by rw [hown]; exact ws_l_charAt) ws_inst_charAt ws_sel_charAt (g_cat hcat) (by simp [lg_sl, Value.category]) hk hn (xm_charAt hi (w := .null)) ?_
  rintro _ _ H1 locs1 ⟨rfl, rfl⟩ hW1 hS1
  exact kk p l e s m args below meth c H1 locs1 ls b D cy hC hF hS1 hW1 hl
end GW
