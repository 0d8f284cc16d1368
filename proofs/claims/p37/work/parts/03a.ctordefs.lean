abbrev mX0_init : gM := (yX0_init, cX0_init, 1, none)
abbrev mX10_init : gM := (yX10_init, cX10_init, 1, none)
abbrev mX11_init : gM := (yX11_init, cX11_init, 4, none)
abbrev mX12_init : gM := (yX12_init, cX12_init, 2, none)
abbrev mX1_init : gM := (yX1_init, cX1_init, 3, none)
abbrev mX2_init : gM := (yX2_init, cX2_init, 1, none)
abbrev mX3_init : gM := (yX3_init, cX3_init, 1, none)
abbrev mX4_init : gM := (yX4_init, cX4_init, 2, none)
abbrev mX5_init : gM := (yX5_init, cX5_init, 1, none)
abbrev mX6_init : gM := (yX6_init, cX6_init, 1, none)
abbrev mX7_init : gM := (yX7_init, cX7_init, 1, none)
abbrev mX8_init : gM := (yX8_init, cX8_init, 1, none)
abbrev mX9_init : gM := (yX9_init, cX9_init, 1, none)
theorem dX0_init_0 : decode cX0_init 0 = .ok (.aload_n 0, 1) := by decide +kernel
theorem dX0_init_1 : decode cX0_init 1 = .ok (.invokespecial 3, 3) := by decide +kernel
theorem dX0_init_4 : decode cX0_init 4 = .ok (.aload_n 0, 1) := by decide +kernel
theorem dX0_init_5 : decode cX0_init 5 = .ok (.bipush 30, 2) := by decide +kernel
theorem dX0_init_7 : decode cX0_init 7 = .ok (.newarray .int, 2) := by decide +kernel
theorem dX0_init_9 : decode cX0_init 9 = .ok (.putfield 9, 3) := by decide +kernel
theorem dX0_init_12 : decode cX0_init 12 = .ok (.return_, 1) := by decide +kernel
theorem dX10_init_0 : decode cX10_init 0 = .ok (.aload_n 0, 1) := by decide +kernel
theorem dX10_init_1 : decode cX10_init 1 = .ok (.invokespecial 1, 3) := by decide +kernel
theorem dX10_init_4 : decode cX10_init 4 = .ok (.return_, 1) := by decide +kernel
theorem dX11_init_0 : decode cX11_init 0 = .ok (.aload_n 0, 1) := by decide +kernel
theorem dX11_init_1 : decode cX11_init 1 = .ok (.invokespecial 1, 3) := by decide +kernel
theorem dX11_init_4 : decode cX11_init 4 = .ok (.aload_n 0, 1) := by decide +kernel
theorem dX11_init_5 : decode cX11_init 5 = .ok (.bipush 12, 2) := by decide +kernel
theorem dX11_init_7 : decode cX11_init 7 = .ok (.newarray .int, 2) := by decide +kernel
theorem dX11_init_9 : decode cX11_init 9 = .ok (.putfield 9, 3) := by decide +kernel
theorem dX11_init_12 : decode cX11_init 12 = .ok (.aload_n 0, 1) := by decide +kernel
theorem dX11_init_13 : decode cX11_init 13 = .ok (.iconst 4, 1) := by decide +kernel
theorem dX11_init_14 : decode cX11_init 14 = .ok (.newarray .int, 2) := by decide +kernel
theorem dX11_init_16 : decode cX11_init 16 = .ok (.putfield 13, 3) := by decide +kernel
theorem dX11_init_19 : decode cX11_init 19 = .ok (.aload_n 0, 1) := by decide +kernel
theorem dX11_init_20 : decode cX11_init 20 = .ok (.iconst 4, 1) := by decide +kernel
theorem dX11_init_21 : decode cX11_init 21 = .ok (.newarray .int, 2) := by decide +kernel
theorem dX11_init_23 : decode cX11_init 23 = .ok (.putfield 16, 3) := by decide +kernel
theorem dX11_init_26 : decode cX11_init 26 = .ok (.aload_n 0, 1) := by decide +kernel
theorem dX11_init_27 : decode cX11_init 27 = .ok (.iconst 4, 1) := by decide +kernel
theorem dX11_init_28 : decode cX11_init 28 = .ok (.bipush 40, 2) := by decide +kernel
theorem dX11_init_30 : decode cX11_init 30 = .ok (.multianewarray 19 2, 4) := by decide +kernel
theorem dX11_init_34 : decode cX11_init 34 = .ok (.putfield 21, 3) := by decide +kernel
theorem dX11_init_37 : decode cX11_init 37 = .ok (.aload_n 0, 1) := by decide +kernel
theorem dX11_init_38 : decode cX11_init 38 = .ok (.iconst 4, 1) := by decide +kernel
theorem dX11_init_39 : decode cX11_init 39 = .ok (.newarray .int, 2) := by decide +kernel
theorem dX11_init_41 : decode cX11_init 41 = .ok (.putfield 24, 3) := by decide +kernel
theorem dX11_init_44 : decode cX11_init 44 = .ok (.aload_n 0, 1) := by decide +kernel
theorem dX11_init_45 : decode cX11_init 45 = .ok (.iconst 4, 1) := by decide +kernel
theorem dX11_init_46 : decode cX11_init 46 = .ok (.newarray .int, 2) := by decide +kernel
theorem dX11_init_48 : decode cX11_init 48 = .ok (.putfield 27, 3) := by decide +kernel
theorem dX11_init_51 : decode cX11_init 51 = .ok (.aload_n 0, 1) := by decide +kernel
theorem dX11_init_52 : decode cX11_init 52 = .ok (.iconst 4, 1) := by decide +kernel
theorem dX11_init_53 : decode cX11_init 53 = .ok (.newarray .int, 2) := by decide +kernel
theorem dX11_init_55 : decode cX11_init 55 = .ok (.putfield 30, 3) := by decide +kernel
theorem dX11_init_58 : decode cX11_init 58 = .ok (.bipush 6, 2) := by decide +kernel
theorem dX11_init_60 : decode cX11_init 60 = .ok (.anewarray 33, 3) := by decide +kernel
theorem dX11_init_63 : decode cX11_init 63 = .ok (.astore_n 1, 1) := by decide +kernel
theorem dX11_init_64 : decode cX11_init 64 = .ok (.aload_n 1, 1) := by decide +kernel
theorem dX11_init_65 : decode cX11_init 65 = .ok (.iconst 0, 1) := by decide +kernel
theorem dX11_init_66 : decode cX11_init 66 = .ok (.new 33, 3) := by decide +kernel
theorem dX11_init_69 : decode cX11_init 69 = .ok (.dup, 1) := by decide +kernel
theorem dX11_init_70 : decode cX11_init 70 = .ok (.invokespecial 35, 3) := by decide +kernel
theorem dX11_init_73 : decode cX11_init 73 = .ok (.aastore, 1) := by decide +kernel
theorem dX11_init_74 : decode cX11_init 74 = .ok (.aload_n 1, 1) := by decide +kernel
theorem dX11_init_75 : decode cX11_init 75 = .ok (.iconst 1, 1) := by decide +kernel
theorem dX11_init_76 : decode cX11_init 76 = .ok (.new 36, 3) := by decide +kernel
theorem dX11_init_79 : decode cX11_init 79 = .ok (.dup, 1) := by decide +kernel
theorem dX11_init_80 : decode cX11_init 80 = .ok (.invokespecial 38, 3) := by decide +kernel
theorem dX11_init_83 : decode cX11_init 83 = .ok (.aastore, 1) := by decide +kernel
theorem dX11_init_84 : decode cX11_init 84 = .ok (.aload_n 1, 1) := by decide +kernel
theorem dX11_init_85 : decode cX11_init 85 = .ok (.iconst 2, 1) := by decide +kernel
theorem dX11_init_86 : decode cX11_init 86 = .ok (.new 39, 3) := by decide +kernel
theorem dX11_init_89 : decode cX11_init 89 = .ok (.dup, 1) := by decide +kernel
theorem dX11_init_90 : decode cX11_init 90 = .ok (.invokespecial 41, 3) := by decide +kernel
theorem dX11_init_93 : decode cX11_init 93 = .ok (.aastore, 1) := by decide +kernel
theorem dX11_init_94 : decode cX11_init 94 = .ok (.aload_n 1, 1) := by decide +kernel
theorem dX11_init_95 : decode cX11_init 95 = .ok (.iconst 3, 1) := by decide +kernel
theorem dX11_init_96 : decode cX11_init 96 = .ok (.new 42, 3) := by decide +kernel
theorem dX11_init_99 : decode cX11_init 99 = .ok (.dup, 1) := by decide +kernel
theorem dX11_init_100 : decode cX11_init 100 = .ok (.invokespecial 44, 3) := by decide +kernel
theorem dX11_init_103 : decode cX11_init 103 = .ok (.aastore, 1) := by decide +kernel
theorem dX11_init_104 : decode cX11_init 104 = .ok (.aload_n 1, 1) := by decide +kernel
theorem dX11_init_105 : decode cX11_init 105 = .ok (.iconst 4, 1) := by decide +kernel
theorem dX11_init_106 : decode cX11_init 106 = .ok (.new 45, 3) := by decide +kernel
theorem dX11_init_109 : decode cX11_init 109 = .ok (.dup, 1) := by decide +kernel
theorem dX11_init_110 : decode cX11_init 110 = .ok (.invokespecial 47, 3) := by decide +kernel
theorem dX11_init_113 : decode cX11_init 113 = .ok (.aastore, 1) := by decide +kernel
theorem dX11_init_114 : decode cX11_init 114 = .ok (.aload_n 1, 1) := by decide +kernel
theorem dX11_init_115 : decode cX11_init 115 = .ok (.iconst 5, 1) := by decide +kernel
theorem dX11_init_116 : decode cX11_init 116 = .ok (.new 48, 3) := by decide +kernel
theorem dX11_init_119 : decode cX11_init 119 = .ok (.dup, 1) := by decide +kernel
theorem dX11_init_120 : decode cX11_init 120 = .ok (.invokespecial 50, 3) := by decide +kernel
theorem dX11_init_123 : decode cX11_init 123 = .ok (.aastore, 1) := by decide +kernel
theorem dX11_init_124 : decode cX11_init 124 = .ok (.new 51, 3) := by decide +kernel
theorem dX11_init_127 : decode cX11_init 127 = .ok (.dup, 1) := by decide +kernel
theorem dX11_init_128 : decode cX11_init 128 = .ok (.aload_n 1, 1) := by decide +kernel
theorem dX11_init_129 : decode cX11_init 129 = .ok (.invokespecial 53, 3) := by decide +kernel
theorem dX11_init_132 : decode cX11_init 132 = .ok (.astore_n 2, 1) := by decide +kernel
theorem dX11_init_133 : decode cX11_init 133 = .ok (.aload_n 0, 1) := by decide +kernel
theorem dX11_init_134 : decode cX11_init 134 = .ok (.aload_n 2, 1) := by decide +kernel
theorem dX11_init_135 : decode cX11_init 135 = .ok (.putfield 56, 3) := by decide +kernel
theorem dX11_init_138 : decode cX11_init 138 = .ok (.aload_n 0, 1) := by decide +kernel
theorem dX11_init_139 : decode cX11_init 139 = .ok (.new 51, 3) := by decide +kernel
theorem dX11_init_142 : decode cX11_init 142 = .ok (.dup, 1) := by decide +kernel
theorem dX11_init_143 : decode cX11_init 143 = .ok (.aload_n 1, 1) := by decide +kernel
theorem dX11_init_144 : decode cX11_init 144 = .ok (.invokespecial 53, 3) := by decide +kernel
theorem dX11_init_147 : decode cX11_init 147 = .ok (.putfield 60, 3) := by decide +kernel
theorem dX11_init_150 : decode cX11_init 150 = .ok (.aload_n 0, 1) := by decide +kernel
theorem dX11_init_151 : decode cX11_init 151 = .ok (.new 63, 3) := by decide +kernel
theorem dX11_init_154 : decode cX11_init 154 = .ok (.dup, 1) := by decide +kernel
theorem dX11_init_155 : decode cX11_init 155 = .ok (.aload_n 2, 1) := by decide +kernel
theorem dX11_init_156 : decode cX11_init 156 = .ok (.invokespecial 65, 3) := by decide +kernel
theorem dX11_init_159 : decode cX11_init 159 = .ok (.putfield 68, 3) := by decide +kernel
theorem dX11_init_162 : decode cX11_init 162 = .ok (.aload_n 0, 1) := by decide +kernel
theorem dX11_init_163 : decode cX11_init 163 = .ok (.new 72, 3) := by decide +kernel
theorem dX11_init_166 : decode cX11_init 166 = .ok (.dup, 1) := by decide +kernel
theorem dX11_init_167 : decode cX11_init 167 = .ok (.invokespecial 74, 3) := by decide +kernel
theorem dX11_init_170 : decode cX11_init 170 = .ok (.putfield 75, 3) := by decide +kernel
theorem dX11_init_173 : decode cX11_init 173 = .ok (.aload_n 0, 1) := by decide +kernel
theorem dX11_init_174 : decode cX11_init 174 = .ok (.new 79, 3) := by decide +kernel
theorem dX11_init_177 : decode cX11_init 177 = .ok (.dup, 1) := by decide +kernel
theorem dX11_init_178 : decode cX11_init 178 = .ok (.invokespecial 81, 3) := by decide +kernel
theorem dX11_init_181 : decode cX11_init 181 = .ok (.putfield 82, 3) := by decide +kernel
theorem dX11_init_184 : decode cX11_init 184 = .ok (.iconst 0, 1) := by decide +kernel
theorem dX11_init_185 : decode cX11_init 185 = .ok (.istore_n 3, 1) := by decide +kernel
theorem dX11_init_186 : decode cX11_init 186 = .ok (.iload_n 3, 1) := by decide +kernel
theorem dX11_init_187 : decode cX11_init 187 = .ok (.iconst 4, 1) := by decide +kernel
theorem dX11_init_188 : decode cX11_init 188 = .ok (.if_icmp .ge 23, 3) := by decide +kernel
theorem dX11_init_191 : decode cX11_init 191 = .ok (.aload_n 0, 1) := by decide +kernel
theorem dX11_init_192 : decode cX11_init 192 = .ok (.getfield 13, 3) := by decide +kernel
theorem dX11_init_195 : decode cX11_init 195 = .ok (.iload_n 3, 1) := by decide +kernel
theorem dX11_init_196 : decode cX11_init 196 = .ok (.iconst (-1), 1) := by decide +kernel
theorem dX11_init_197 : decode cX11_init 197 = .ok (.iastore, 1) := by decide +kernel
theorem dX11_init_198 : decode cX11_init 198 = .ok (.aload_n 0, 1) := by decide +kernel
theorem dX11_init_199 : decode cX11_init 199 = .ok (.getfield 24, 3) := by decide +kernel
theorem dX11_init_202 : decode cX11_init 202 = .ok (.iload_n 3, 1) := by decide +kernel
theorem dX11_init_203 : decode cX11_init 203 = .ok (.iconst 2, 1) := by decide +kernel
theorem dX11_init_204 : decode cX11_init 204 = .ok (.iastore, 1) := by decide +kernel
theorem dX11_init_205 : decode cX11_init 205 = .ok (.iinc 3 1, 3) := by decide +kernel
theorem dX11_init_208 : decode cX11_init 208 = .ok (.goto (-22), 3) := by decide +kernel
theorem dX11_init_211 : decode cX11_init 211 = .ok (.return_, 1) := by decide +kernel
theorem dX12_init_0 : decode cX12_init 0 = .ok (.aload_n 0, 1) := by decide +kernel
theorem dX12_init_1 : decode cX12_init 1 = .ok (.invokespecial 1, 3) := by decide +kernel
theorem dX12_init_4 : decode cX12_init 4 = .ok (.aload_n 0, 1) := by decide +kernel
theorem dX12_init_5 : decode cX12_init 5 = .ok (.sipush 313, 3) := by decide +kernel
theorem dX12_init_8 : decode cX12_init 8 = .ok (.newarray .int, 2) := by decide +kernel
theorem dX12_init_10 : decode cX12_init 10 = .ok (.putfield 9, 3) := by decide +kernel
theorem dX12_init_13 : decode cX12_init 13 = .ok (.aload_n 0, 1) := by decide +kernel
theorem dX12_init_14 : decode cX12_init 14 = .ok (.sipush 313, 3) := by decide +kernel
theorem dX12_init_17 : decode cX12_init 17 = .ok (.newarray .int, 2) := by decide +kernel
theorem dX12_init_19 : decode cX12_init 19 = .ok (.putfield 13, 3) := by decide +kernel
theorem dX12_init_22 : decode cX12_init 22 = .ok (.aload_n 0, 1) := by decide +kernel
theorem dX12_init_23 : decode cX12_init 23 = .ok (.bipush 65, 2) := by decide +kernel
theorem dX12_init_25 : decode cX12_init 25 = .ok (.newarray .int, 2) := by decide +kernel
theorem dX12_init_27 : decode cX12_init 27 = .ok (.putfield 16, 3) := by decide +kernel
theorem dX12_init_30 : decode cX12_init 30 = .ok (.aload_n 0, 1) := by decide +kernel
theorem dX12_init_31 : decode cX12_init 31 = .ok (.sipush 200, 3) := by decide +kernel
theorem dX12_init_34 : decode cX12_init 34 = .ok (.newarray .int, 2) := by decide +kernel
theorem dX12_init_36 : decode cX12_init 36 = .ok (.putfield 19, 3) := by decide +kernel
theorem dX12_init_39 : decode cX12_init 39 = .ok (.aload_n 0, 1) := by decide +kernel
theorem dX12_init_40 : decode cX12_init 40 = .ok (.sipush 200, 3) := by decide +kernel
theorem dX12_init_43 : decode cX12_init 43 = .ok (.newarray .int, 2) := by decide +kernel
theorem dX12_init_45 : decode cX12_init 45 = .ok (.putfield 22, 3) := by decide +kernel
theorem dX12_init_48 : decode cX12_init 48 = .ok (.aload_n 0, 1) := by decide +kernel
theorem dX12_init_49 : decode cX12_init 49 = .ok (.sipush 144, 3) := by decide +kernel
theorem dX12_init_52 : decode cX12_init 52 = .ok (.newarray .char, 2) := by decide +kernel
theorem dX12_init_54 : decode cX12_init 54 = .ok (.dup, 1) := by decide +kernel
theorem dX12_init_55 : decode cX12_init 55 = .ok (.iconst 0, 1) := by decide +kernel
theorem dX12_init_56 : decode cX12_init 56 = .ok (.bipush 107, 2) := by decide +kernel
theorem dX12_init_58 : decode cX12_init 58 = .ok (.castore, 1) := by decide +kernel
theorem dX12_init_59 : decode cX12_init 59 = .ok (.dup, 1) := by decide +kernel
theorem dX12_init_60 : decode cX12_init 60 = .ok (.iconst 1, 1) := by decide +kernel
theorem dX12_init_61 : decode cX12_init 61 = .ok (.bipush 101, 2) := by decide +kernel
theorem dX12_init_63 : decode cX12_init 63 = .ok (.castore, 1) := by decide +kernel
theorem dX12_init_64 : decode cX12_init 64 = .ok (.dup, 1) := by decide +kernel
theorem dX12_init_65 : decode cX12_init 65 = .ok (.iconst 2, 1) := by decide +kernel
theorem dX12_init_66 : decode cX12_init 66 = .ok (.bipush 121, 2) := by decide +kernel
theorem dX12_init_68 : decode cX12_init 68 = .ok (.castore, 1) := by decide +kernel
theorem dX12_init_69 : decode cX12_init 69 = .ok (.dup, 1) := by decide +kernel
theorem dX12_init_70 : decode cX12_init 70 = .ok (.iconst 3, 1) := by decide +kernel
theorem dX12_init_71 : decode cX12_init 71 = .ok (.bipush 32, 2) := by decide +kernel
theorem dX12_init_73 : decode cX12_init 73 = .ok (.castore, 1) := by decide +kernel
theorem dX12_init_74 : decode cX12_init 74 = .ok (.dup, 1) := by decide +kernel
theorem dX12_init_75 : decode cX12_init 75 = .ok (.iconst 4, 1) := by decide +kernel
theorem dX12_init_76 : decode cX12_init 76 = .ok (.bipush 32, 2) := by decide +kernel
theorem dX12_init_78 : decode cX12_init 78 = .ok (.castore, 1) := by decide +kernel
theorem dX12_init_79 : decode cX12_init 79 = .ok (.dup, 1) := by decide +kernel
theorem dX12_init_80 : decode cX12_init 80 = .ok (.iconst 5, 1) := by decide +kernel
theorem dX12_init_81 : decode cX12_init 81 = .ok (.bipush 32, 2) := by decide +kernel
theorem dX12_init_83 : decode cX12_init 83 = .ok (.castore, 1) := by decide +kernel
theorem dX12_init_84 : decode cX12_init 84 = .ok (.dup, 1) := by decide +kernel
theorem dX12_init_85 : decode cX12_init 85 = .ok (.bipush 6, 2) := by decide +kernel
theorem dX12_init_87 : decode cX12_init 87 = .ok (.bipush 32, 2) := by decide +kernel
theorem dX12_init_89 : decode cX12_init 89 = .ok (.castore, 1) := by decide +kernel
theorem dX12_init_90 : decode cX12_init 90 = .ok (.dup, 1) := by decide +kernel
theorem dX12_init_91 : decode cX12_init 91 = .ok (.bipush 7, 2) := by decide +kernel
theorem dX12_init_93 : decode cX12_init 93 = .ok (.bipush 32, 2) := by decide +kernel
theorem dX12_init_95 : decode cX12_init 95 = .ok (.castore, 1) := by decide +kernel
theorem dX12_init_96 : decode cX12_init 96 = .ok (.dup, 1) := by decide +kernel
theorem dX12_init_97 : decode cX12_init 97 = .ok (.bipush 8, 2) := by decide +kernel
theorem dX12_init_99 : decode cX12_init 99 = .ok (.bipush 105, 2) := by decide +kernel
theorem dX12_init_101 : decode cX12_init 101 = .ok (.castore, 1) := by decide +kernel
theorem dX12_init_102 : decode cX12_init 102 = .ok (.dup, 1) := by decide +kernel
theorem dX12_init_103 : decode cX12_init 103 = .ok (.bipush 9, 2) := by decide +kernel
theorem dX12_init_105 : decode cX12_init 105 = .ok (.bipush 114, 2) := by decide +kernel
theorem dX12_init_107 : decode cX12_init 107 = .ok (.castore, 1) := by decide +kernel
theorem dX12_init_108 : decode cX12_init 108 = .ok (.dup, 1) := by decide +kernel
theorem dX12_init_109 : decode cX12_init 109 = .ok (.bipush 10, 2) := by decide +kernel
theorem dX12_init_111 : decode cX12_init 111 = .ok (.bipush 111, 2) := by decide +kernel
theorem dX12_init_113 : decode cX12_init 113 = .ok (.castore, 1) := by decide +kernel
theorem dX12_init_114 : decode cX12_init 114 = .ok (.dup, 1) := by decide +kernel
theorem dX12_init_115 : decode cX12_init 115 = .ok (.bipush 11, 2) := by decide +kernel
theorem dX12_init_117 : decode cX12_init 117 = .ok (.bipush 110, 2) := by decide +kernel
theorem dX12_init_119 : decode cX12_init 119 = .ok (.castore, 1) := by decide +kernel
theorem dX12_init_120 : decode cX12_init 120 = .ok (.dup, 1) := by decide +kernel
theorem dX12_init_121 : decode cX12_init 121 = .ok (.bipush 12, 2) := by decide +kernel
theorem dX12_init_123 : decode cX12_init 123 = .ok (.bipush 32, 2) := by decide +kernel
theorem dX12_init_125 : decode cX12_init 125 = .ok (.castore, 1) := by decide +kernel
theorem dX12_init_126 : decode cX12_init 126 = .ok (.dup, 1) := by decide +kernel
theorem dX12_init_127 : decode cX12_init 127 = .ok (.bipush 13, 2) := by decide +kernel
theorem dX12_init_129 : decode cX12_init 129 = .ok (.bipush 32, 2) := by decide +kernel
theorem dX12_init_131 : decode cX12_init 131 = .ok (.castore, 1) := by decide +kernel
theorem dX12_init_132 : decode cX12_init 132 = .ok (.dup, 1) := by decide +kernel
theorem dX12_init_133 : decode cX12_init 133 = .ok (.bipush 14, 2) := by decide +kernel
theorem dX12_init_135 : decode cX12_init 135 = .ok (.bipush 32, 2) := by decide +kernel
theorem dX12_init_137 : decode cX12_init 137 = .ok (.castore, 1) := by decide +kernel
theorem dX12_init_138 : decode cX12_init 138 = .ok (.dup, 1) := by decide +kernel
theorem dX12_init_139 : decode cX12_init 139 = .ok (.bipush 15, 2) := by decide +kernel
theorem dX12_init_141 : decode cX12_init 141 = .ok (.bipush 32, 2) := by decide +kernel
theorem dX12_init_143 : decode cX12_init 143 = .ok (.castore, 1) := by decide +kernel
theorem dX12_init_144 : decode cX12_init 144 = .ok (.dup, 1) := by decide +kernel
theorem dX12_init_145 : decode cX12_init 145 = .ok (.bipush 16, 2) := by decide +kernel
theorem dX12_init_147 : decode cX12_init 147 = .ok (.bipush 115, 2) := by decide +kernel
theorem dX12_init_149 : decode cX12_init 149 = .ok (.castore, 1) := by decide +kernel
theorem dX12_init_150 : decode cX12_init 150 = .ok (.dup, 1) := by decide +kernel
theorem dX12_init_151 : decode cX12_init 151 = .ok (.bipush 17, 2) := by decide +kernel
theorem dX12_init_153 : decode cX12_init 153 = .ok (.bipush 108, 2) := by decide +kernel
theorem dX12_init_155 : decode cX12_init 155 = .ok (.castore, 1) := by decide +kernel
theorem dX12_init_156 : decode cX12_init 156 = .ok (.dup, 1) := by decide +kernel
theorem dX12_init_157 : decode cX12_init 157 = .ok (.bipush 18, 2) := by decide +kernel
theorem dX12_init_159 : decode cX12_init 159 = .ok (.bipush 101, 2) := by decide +kernel
theorem dX12_init_161 : decode cX12_init 161 = .ok (.castore, 1) := by decide +kernel
theorem dX12_init_162 : decode cX12_init 162 = .ok (.dup, 1) := by decide +kernel
theorem dX12_init_163 : decode cX12_init 163 = .ok (.bipush 19, 2) := by decide +kernel
theorem dX12_init_165 : decode cX12_init 165 = .ok (.bipush 101, 2) := by decide +kernel
theorem dX12_init_167 : decode cX12_init 167 = .ok (.castore, 1) := by decide +kernel
theorem dX12_init_168 : decode cX12_init 168 = .ok (.dup, 1) := by decide +kernel
theorem dX12_init_169 : decode cX12_init 169 = .ok (.bipush 20, 2) := by decide +kernel
theorem dX12_init_171 : decode cX12_init 171 = .ok (.bipush 118, 2) := by decide +kernel
theorem dX12_init_173 : decode cX12_init 173 = .ok (.castore, 1) := by decide +kernel
theorem dX12_init_174 : decode cX12_init 174 = .ok (.dup, 1) := by decide +kernel
theorem dX12_init_175 : decode cX12_init 175 = .ok (.bipush 21, 2) := by decide +kernel
theorem dX12_init_177 : decode cX12_init 177 = .ok (.bipush 101, 2) := by decide +kernel
theorem dX12_init_179 : decode cX12_init 179 = .ok (.castore, 1) := by decide +kernel
theorem dX12_init_180 : decode cX12_init 180 = .ok (.dup, 1) := by decide +kernel
theorem dX12_init_181 : decode cX12_init 181 = .ok (.bipush 22, 2) := by decide +kernel
theorem dX12_init_183 : decode cX12_init 183 = .ok (.bipush 32, 2) := by decide +kernel
theorem dX12_init_185 : decode cX12_init 185 = .ok (.castore, 1) := by decide +kernel
theorem dX12_init_186 : decode cX12_init 186 = .ok (.dup, 1) := by decide +kernel
theorem dX12_init_187 : decode cX12_init 187 = .ok (.bipush 23, 2) := by decide +kernel
theorem dX12_init_189 : decode cX12_init 189 = .ok (.bipush 32, 2) := by decide +kernel
theorem dX12_init_191 : decode cX12_init 191 = .ok (.castore, 1) := by decide +kernel
theorem dX12_init_192 : decode cX12_init 192 = .ok (.dup, 1) := by decide +kernel
theorem dX12_init_193 : decode cX12_init 193 = .ok (.bipush 24, 2) := by decide +kernel
theorem dX12_init_195 : decode cX12_init 195 = .ok (.bipush 116, 2) := by decide +kernel
theorem dX12_init_197 : decode cX12_init 197 = .ok (.castore, 1) := by decide +kernel
theorem dX12_init_198 : decode cX12_init 198 = .ok (.dup, 1) := by decide +kernel
theorem dX12_init_199 : decode cX12_init 199 = .ok (.bipush 25, 2) := by decide +kernel
theorem dX12_init_201 : decode cX12_init 201 = .ok (.bipush 104, 2) := by decide +kernel
theorem dX12_init_203 : decode cX12_init 203 = .ok (.castore, 1) := by decide +kernel
theorem dX12_init_204 : decode cX12_init 204 = .ok (.dup, 1) := by decide +kernel
theorem dX12_init_205 : decode cX12_init 205 = .ok (.bipush 26, 2) := by decide +kernel
theorem dX12_init_207 : decode cX12_init 207 = .ok (.bipush 105, 2) := by decide +kernel
theorem dX12_init_209 : decode cX12_init 209 = .ok (.castore, 1) := by decide +kernel
theorem dX12_init_210 : decode cX12_init 210 = .ok (.dup, 1) := by decide +kernel
theorem dX12_init_211 : decode cX12_init 211 = .ok (.bipush 27, 2) := by decide +kernel
theorem dX12_init_213 : decode cX12_init 213 = .ok (.bipush 114, 2) := by decide +kernel
theorem dX12_init_215 : decode cX12_init 215 = .ok (.castore, 1) := by decide +kernel
theorem dX12_init_216 : decode cX12_init 216 = .ok (.dup, 1) := by decide +kernel
theorem dX12_init_217 : decode cX12_init 217 = .ok (.bipush 28, 2) := by decide +kernel
theorem dX12_init_219 : decode cX12_init 219 = .ok (.bipush 100, 2) := by decide +kernel
theorem dX12_init_221 : decode cX12_init 221 = .ok (.castore, 1) := by decide +kernel
theorem dX12_init_222 : decode cX12_init 222 = .ok (.dup, 1) := by decide +kernel
theorem dX12_init_223 : decode cX12_init 223 = .ok (.bipush 29, 2) := by decide +kernel
theorem dX12_init_225 : decode cX12_init 225 = .ok (.bipush 32, 2) := by decide +kernel
theorem dX12_init_227 : decode cX12_init 227 = .ok (.castore, 1) := by decide +kernel
theorem dX12_init_228 : decode cX12_init 228 = .ok (.dup, 1) := by decide +kernel
theorem dX12_init_229 : decode cX12_init 229 = .ok (.bipush 30, 2) := by decide +kernel
theorem dX12_init_231 : decode cX12_init 231 = .ok (.bipush 32, 2) := by decide +kernel
theorem dX12_init_233 : decode cX12_init 233 = .ok (.castore, 1) := by decide +kernel
theorem dX12_init_234 : decode cX12_init 234 = .ok (.dup, 1) := by decide +kernel
theorem dX12_init_235 : decode cX12_init 235 = .ok (.bipush 31, 2) := by decide +kernel
theorem dX12_init_237 : decode cX12_init 237 = .ok (.bipush 32, 2) := by decide +kernel
theorem dX12_init_239 : decode cX12_init 239 = .ok (.castore, 1) := by decide +kernel
theorem dX12_init_240 : decode cX12_init 240 = .ok (.dup, 1) := by decide +kernel
theorem dX12_init_241 : decode cX12_init 241 = .ok (.bipush 32, 2) := by decide +kernel
theorem dX12_init_243 : decode cX12_init 243 = .ok (.bipush 115, 2) := by decide +kernel
theorem dX12_init_245 : decode cX12_init 245 = .ok (.castore, 1) := by decide +kernel
theorem dX12_init_246 : decode cX12_init 246 = .ok (.dup, 1) := by decide +kernel
theorem dX12_init_247 : decode cX12_init 247 = .ok (.bipush 33, 2) := by decide +kernel
theorem dX12_init_249 : decode cX12_init 249 = .ok (.bipush 97, 2) := by decide +kernel
theorem dX12_init_251 : decode cX12_init 251 = .ok (.castore, 1) := by decide +kernel
theorem dX12_init_252 : decode cX12_init 252 = .ok (.dup, 1) := by decide +kernel
theorem dX12_init_253 : decode cX12_init 253 = .ok (.bipush 34, 2) := by decide +kernel
theorem dX12_init_255 : decode cX12_init 255 = .ok (.bipush 108, 2) := by decide +kernel
theorem dX12_init_257 : decode cX12_init 257 = .ok (.castore, 1) := by decide +kernel
theorem dX12_init_258 : decode cX12_init 258 = .ok (.dup, 1) := by decide +kernel
theorem dX12_init_259 : decode cX12_init 259 = .ok (.bipush 35, 2) := by decide +kernel
theorem dX12_init_261 : decode cX12_init 261 = .ok (.bipush 116, 2) := by decide +kernel
theorem dX12_init_263 : decode cX12_init 263 = .ok (.castore, 1) := by decide +kernel
theorem dX12_init_264 : decode cX12_init 264 = .ok (.dup, 1) := by decide +kernel
theorem dX12_init_265 : decode cX12_init 265 = .ok (.bipush 36, 2) := by decide +kernel
theorem dX12_init_267 : decode cX12_init 267 = .ok (.bipush 32, 2) := by decide +kernel
theorem dX12_init_269 : decode cX12_init 269 = .ok (.castore, 1) := by decide +kernel
theorem dX12_init_270 : decode cX12_init 270 = .ok (.dup, 1) := by decide +kernel
theorem dX12_init_271 : decode cX12_init 271 = .ok (.bipush 37, 2) := by decide +kernel
theorem dX12_init_273 : decode cX12_init 273 = .ok (.bipush 32, 2) := by decide +kernel
theorem dX12_init_275 : decode cX12_init 275 = .ok (.castore, 1) := by decide +kernel
theorem dX12_init_276 : decode cX12_init 276 = .ok (.dup, 1) := by decide +kernel
theorem dX12_init_277 : decode cX12_init 277 = .ok (.bipush 38, 2) := by decide +kernel
theorem dX12_init_279 : decode cX12_init 279 = .ok (.bipush 32, 2) := by decide +kernel
theorem dX12_init_281 : decode cX12_init 281 = .ok (.castore, 1) := by decide +kernel
theorem dX12_init_282 : decode cX12_init 282 = .ok (.dup, 1) := by decide +kernel
theorem dX12_init_283 : decode cX12_init 283 = .ok (.bipush 39, 2) := by decide +kernel
theorem dX12_init_285 : decode cX12_init 285 = .ok (.bipush 32, 2) := by decide +kernel
theorem dX12_init_287 : decode cX12_init 287 = .ok (.castore, 1) := by decide +kernel
theorem dX12_init_288 : decode cX12_init 288 = .ok (.dup, 1) := by decide +kernel
theorem dX12_init_289 : decode cX12_init 289 = .ok (.bipush 40, 2) := by decide +kernel
theorem dX12_init_291 : decode cX12_init 291 = .ok (.bipush 115, 2) := by decide +kernel
theorem dX12_init_293 : decode cX12_init 293 = .ok (.castore, 1) := by decide +kernel
theorem dX12_init_294 : decode cX12_init 294 = .ok (.dup, 1) := by decide +kernel
theorem dX12_init_295 : decode cX12_init 295 = .ok (.bipush 41, 2) := by decide +kernel
theorem dX12_init_297 : decode cX12_init 297 = .ok (.bipush 112, 2) := by decide +kernel
theorem dX12_init_299 : decode cX12_init 299 = .ok (.castore, 1) := by decide +kernel
theorem dX12_init_300 : decode cX12_init 300 = .ok (.dup, 1) := by decide +kernel
theorem dX12_init_301 : decode cX12_init 301 = .ok (.bipush 42, 2) := by decide +kernel
theorem dX12_init_303 : decode cX12_init 303 = .ok (.bipush 97, 2) := by decide +kernel
theorem dX12_init_305 : decode cX12_init 305 = .ok (.castore, 1) := by decide +kernel
theorem dX12_init_306 : decode cX12_init 306 = .ok (.dup, 1) := by decide +kernel
theorem dX12_init_307 : decode cX12_init 307 = .ok (.bipush 43, 2) := by decide +kernel
theorem dX12_init_309 : decode cX12_init 309 = .ok (.bipush 114, 2) := by decide +kernel
theorem dX12_init_311 : decode cX12_init 311 = .ok (.castore, 1) := by decide +kernel
theorem dX12_init_312 : decode cX12_init 312 = .ok (.dup, 1) := by decide +kernel
theorem dX12_init_313 : decode cX12_init 313 = .ok (.bipush 44, 2) := by decide +kernel
theorem dX12_init_315 : decode cX12_init 315 = .ok (.bipush 101, 2) := by decide +kernel
theorem dX12_init_317 : decode cX12_init 317 = .ok (.castore, 1) := by decide +kernel
theorem dX12_init_318 : decode cX12_init 318 = .ok (.dup, 1) := by decide +kernel
theorem dX12_init_319 : decode cX12_init 319 = .ok (.bipush 45, 2) := by decide +kernel
theorem dX12_init_321 : decode cX12_init 321 = .ok (.bipush 32, 2) := by decide +kernel
theorem dX12_init_323 : decode cX12_init 323 = .ok (.castore, 1) := by decide +kernel
theorem dX12_init_324 : decode cX12_init 324 = .ok (.dup, 1) := by decide +kernel
theorem dX12_init_325 : decode cX12_init 325 = .ok (.bipush 46, 2) := by decide +kernel
theorem dX12_init_327 : decode cX12_init 327 = .ok (.bipush 32, 2) := by decide +kernel
theorem dX12_init_329 : decode cX12_init 329 = .ok (.castore, 1) := by decide +kernel
theorem dX12_init_330 : decode cX12_init 330 = .ok (.dup, 1) := by decide +kernel
theorem dX12_init_331 : decode cX12_init 331 = .ok (.bipush 47, 2) := by decide +kernel
theorem dX12_init_333 : decode cX12_init 333 = .ok (.bipush 32, 2) := by decide +kernel
theorem dX12_init_335 : decode cX12_init 335 = .ok (.castore, 1) := by decide +kernel
theorem dX12_init_336 : decode cX12_init 336 = .ok (.dup, 1) := by decide +kernel
theorem dX12_init_337 : decode cX12_init 337 = .ok (.bipush 48, 2) := by decide +kernel
theorem dX12_init_339 : decode cX12_init 339 = .ok (.bipush 116, 2) := by decide +kernel
theorem dX12_init_341 : decode cX12_init 341 = .ok (.castore, 1) := by decide +kernel
theorem dX12_init_342 : decode cX12_init 342 = .ok (.dup, 1) := by decide +kernel
theorem dX12_init_343 : decode cX12_init 343 = .ok (.bipush 49, 2) := by decide +kernel
theorem dX12_init_345 : decode cX12_init 345 = .ok (.bipush 117, 2) := by decide +kernel
theorem dX12_init_347 : decode cX12_init 347 = .ok (.castore, 1) := by decide +kernel
theorem dX12_init_348 : decode cX12_init 348 = .ok (.dup, 1) := by decide +kernel
theorem dX12_init_349 : decode cX12_init 349 = .ok (.bipush 50, 2) := by decide +kernel
theorem dX12_init_351 : decode cX12_init 351 = .ok (.bipush 114, 2) := by decide +kernel
theorem dX12_init_353 : decode cX12_init 353 = .ok (.castore, 1) := by decide +kernel
theorem dX12_init_354 : decode cX12_init 354 = .ok (.dup, 1) := by decide +kernel
theorem dX12_init_355 : decode cX12_init 355 = .ok (.bipush 51, 2) := by decide +kernel
theorem dX12_init_357 : decode cX12_init 357 = .ok (.bipush 110, 2) := by decide +kernel
theorem dX12_init_359 : decode cX12_init 359 = .ok (.castore, 1) := by decide +kernel
theorem dX12_init_360 : decode cX12_init 360 = .ok (.dup, 1) := by decide +kernel
theorem dX12_init_361 : decode cX12_init 361 = .ok (.bipush 52, 2) := by decide +kernel
theorem dX12_init_363 : decode cX12_init 363 = .ok (.bipush 32, 2) := by decide +kernel
theorem dX12_init_365 : decode cX12_init 365 = .ok (.castore, 1) := by decide +kernel
theorem dX12_init_366 : decode cX12_init 366 = .ok (.dup, 1) := by decide +kernel
theorem dX12_init_367 : decode cX12_init 367 = .ok (.bipush 53, 2) := by decide +kernel
theorem dX12_init_369 : decode cX12_init 369 = .ok (.bipush 32, 2) := by decide +kernel
theorem dX12_init_371 : decode cX12_init 371 = .ok (.castore, 1) := by decide +kernel
theorem dX12_init_372 : decode cX12_init 372 = .ok (.dup, 1) := by decide +kernel
theorem dX12_init_373 : decode cX12_init 373 = .ok (.bipush 54, 2) := by decide +kernel
theorem dX12_init_375 : decode cX12_init 375 = .ok (.bipush 32, 2) := by decide +kernel
theorem dX12_init_377 : decode cX12_init 377 = .ok (.castore, 1) := by decide +kernel
theorem dX12_init_378 : decode cX12_init 378 = .ok (.dup, 1) := by decide +kernel
theorem dX12_init_379 : decode cX12_init 379 = .ok (.bipush 55, 2) := by decide +kernel
theorem dX12_init_381 : decode cX12_init 381 = .ok (.bipush 32, 2) := by decide +kernel
theorem dX12_init_383 : decode cX12_init 383 = .ok (.castore, 1) := by decide +kernel
theorem dX12_init_384 : decode cX12_init 384 = .ok (.dup, 1) := by decide +kernel
theorem dX12_init_385 : decode cX12_init 385 = .ok (.bipush 56, 2) := by decide +kernel
theorem dX12_init_387 : decode cX12_init 387 = .ok (.bipush 99, 2) := by decide +kernel
theorem dX12_init_389 : decode cX12_init 389 = .ok (.castore, 1) := by decide +kernel
theorem dX12_init_390 : decode cX12_init 390 = .ok (.dup, 1) := by decide +kernel
theorem dX12_init_391 : decode cX12_init 391 = .ok (.bipush 57, 2) := by decide +kernel
theorem dX12_init_393 : decode cX12_init 393 = .ok (.bipush 97, 2) := by decide +kernel
theorem dX12_init_395 : decode cX12_init 395 = .ok (.castore, 1) := by decide +kernel
theorem dX12_init_396 : decode cX12_init 396 = .ok (.dup, 1) := by decide +kernel
theorem dX12_init_397 : decode cX12_init 397 = .ok (.bipush 58, 2) := by decide +kernel
theorem dX12_init_399 : decode cX12_init 399 = .ok (.bipush 114, 2) := by decide +kernel
theorem dX12_init_401 : decode cX12_init 401 = .ok (.castore, 1) := by decide +kernel
theorem dX12_init_402 : decode cX12_init 402 = .ok (.dup, 1) := by decide +kernel
theorem dX12_init_403 : decode cX12_init 403 = .ok (.bipush 59, 2) := by decide +kernel
theorem dX12_init_405 : decode cX12_init 405 = .ok (.bipush 114, 2) := by decide +kernel
theorem dX12_init_407 : decode cX12_init 407 = .ok (.castore, 1) := by decide +kernel
theorem dX12_init_408 : decode cX12_init 408 = .ok (.dup, 1) := by decide +kernel
theorem dX12_init_409 : decode cX12_init 409 = .ok (.bipush 60, 2) := by decide +kernel
theorem dX12_init_411 : decode cX12_init 411 = .ok (.bipush 121, 2) := by decide +kernel
theorem dX12_init_413 : decode cX12_init 413 = .ok (.castore, 1) := by decide +kernel
theorem dX12_init_414 : decode cX12_init 414 = .ok (.dup, 1) := by decide +kernel
theorem dX12_init_415 : decode cX12_init 415 = .ok (.bipush 61, 2) := by decide +kernel
theorem dX12_init_417 : decode cX12_init 417 = .ok (.bipush 32, 2) := by decide +kernel
theorem dX12_init_419 : decode cX12_init 419 = .ok (.castore, 1) := by decide +kernel
theorem dX12_init_420 : decode cX12_init 420 = .ok (.dup, 1) := by decide +kernel
theorem dX12_init_421 : decode cX12_init 421 = .ok (.bipush 62, 2) := by decide +kernel
theorem dX12_init_423 : decode cX12_init 423 = .ok (.bipush 32, 2) := by decide +kernel
theorem dX12_init_425 : decode cX12_init 425 = .ok (.castore, 1) := by decide +kernel
theorem dX12_init_426 : decode cX12_init 426 = .ok (.dup, 1) := by decide +kernel
theorem dX12_init_427 : decode cX12_init 427 = .ok (.bipush 63, 2) := by decide +kernel
theorem dX12_init_429 : decode cX12_init 429 = .ok (.bipush 32, 2) := by decide +kernel
theorem dX12_init_431 : decode cX12_init 431 = .ok (.castore, 1) := by decide +kernel
theorem dX12_init_432 : decode cX12_init 432 = .ok (.dup, 1) := by decide +kernel
theorem dX12_init_433 : decode cX12_init 433 = .ok (.bipush 64, 2) := by decide +kernel
theorem dX12_init_435 : decode cX12_init 435 = .ok (.bipush 99, 2) := by decide +kernel
theorem dX12_init_437 : decode cX12_init 437 = .ok (.castore, 1) := by decide +kernel
theorem dX12_init_438 : decode cX12_init 438 = .ok (.dup, 1) := by decide +kernel
theorem dX12_init_439 : decode cX12_init 439 = .ok (.bipush 65, 2) := by decide +kernel
theorem dX12_init_441 : decode cX12_init 441 = .ok (.bipush 104, 2) := by decide +kernel
theorem dX12_init_443 : decode cX12_init 443 = .ok (.castore, 1) := by decide +kernel
theorem dX12_init_444 : decode cX12_init 444 = .ok (.dup, 1) := by decide +kernel
theorem dX12_init_445 : decode cX12_init 445 = .ok (.bipush 66, 2) := by decide +kernel
theorem dX12_init_447 : decode cX12_init 447 = .ok (.bipush 105, 2) := by decide +kernel
theorem dX12_init_449 : decode cX12_init 449 = .ok (.castore, 1) := by decide +kernel
theorem dX12_init_450 : decode cX12_init 450 = .ok (.dup, 1) := by decide +kernel
theorem dX12_init_451 : decode cX12_init 451 = .ok (.bipush 67, 2) := by decide +kernel
theorem dX12_init_453 : decode cX12_init 453 = .ok (.bipush 108, 2) := by decide +kernel
theorem dX12_init_455 : decode cX12_init 455 = .ok (.castore, 1) := by decide +kernel
theorem dX12_init_456 : decode cX12_init 456 = .ok (.dup, 1) := by decide +kernel
theorem dX12_init_457 : decode cX12_init 457 = .ok (.bipush 68, 2) := by decide +kernel
theorem dX12_init_459 : decode cX12_init 459 = .ok (.bipush 108, 2) := by decide +kernel
theorem dX12_init_461 : decode cX12_init 461 = .ok (.castore, 1) := by decide +kernel
theorem dX12_init_462 : decode cX12_init 462 = .ok (.dup, 1) := by decide +kernel
theorem dX12_init_463 : decode cX12_init 463 = .ok (.bipush 69, 2) := by decide +kernel
theorem dX12_init_465 : decode cX12_init 465 = .ok (.bipush 32, 2) := by decide +kernel
theorem dX12_init_467 : decode cX12_init 467 = .ok (.castore, 1) := by decide +kernel
theorem dX12_init_468 : decode cX12_init 468 = .ok (.dup, 1) := by decide +kernel
theorem dX12_init_469 : decode cX12_init 469 = .ok (.bipush 70, 2) := by decide +kernel
theorem dX12_init_471 : decode cX12_init 471 = .ok (.bipush 32, 2) := by decide +kernel
theorem dX12_init_473 : decode cX12_init 473 = .ok (.castore, 1) := by decide +kernel
theorem dX12_init_474 : decode cX12_init 474 = .ok (.dup, 1) := by decide +kernel
theorem dX12_init_475 : decode cX12_init 475 = .ok (.bipush 71, 2) := by decide +kernel
theorem dX12_init_477 : decode cX12_init 477 = .ok (.bipush 32, 2) := by decide +kernel
theorem dX12_init_479 : decode cX12_init 479 = .ok (.castore, 1) := by decide +kernel
theorem dX12_init_480 : decode cX12_init 480 = .ok (.dup, 1) := by decide +kernel
theorem dX12_init_481 : decode cX12_init 481 = .ok (.bipush 72, 2) := by decide +kernel
theorem dX12_init_483 : decode cX12_init 483 = .ok (.bipush 105, 2) := by decide +kernel
theorem dX12_init_485 : decode cX12_init 485 = .ok (.castore, 1) := by decide +kernel
theorem dX12_init_486 : decode cX12_init 486 = .ok (.dup, 1) := by decide +kernel
theorem dX12_init_487 : decode cX12_init 487 = .ok (.bipush 73, 2) := by decide +kernel
theorem dX12_init_489 : decode cX12_init 489 = .ok (.bipush 102, 2) := by decide +kernel
theorem dX12_init_491 : decode cX12_init 491 = .ok (.castore, 1) := by decide +kernel
theorem dX12_init_492 : decode cX12_init 492 = .ok (.dup, 1) := by decide +kernel
theorem dX12_init_493 : decode cX12_init 493 = .ok (.bipush 74, 2) := by decide +kernel
theorem dX12_init_495 : decode cX12_init 495 = .ok (.bipush 32, 2) := by decide +kernel
theorem dX12_init_497 : decode cX12_init 497 = .ok (.castore, 1) := by decide +kernel
theorem dX12_init_498 : decode cX12_init 498 = .ok (.dup, 1) := by decide +kernel
theorem dX12_init_499 : decode cX12_init 499 = .ok (.bipush 75, 2) := by decide +kernel
theorem dX12_init_501 : decode cX12_init 501 = .ok (.bipush 32, 2) := by decide +kernel
theorem dX12_init_503 : decode cX12_init 503 = .ok (.castore, 1) := by decide +kernel
theorem dX12_init_504 : decode cX12_init 504 = .ok (.dup, 1) := by decide +kernel
theorem dX12_init_505 : decode cX12_init 505 = .ok (.bipush 76, 2) := by decide +kernel
theorem dX12_init_507 : decode cX12_init 507 = .ok (.bipush 32, 2) := by decide +kernel
theorem dX12_init_509 : decode cX12_init 509 = .ok (.castore, 1) := by decide +kernel
theorem dX12_init_510 : decode cX12_init 510 = .ok (.dup, 1) := by decide +kernel
theorem dX12_init_511 : decode cX12_init 511 = .ok (.bipush 77, 2) := by decide +kernel
theorem dX12_init_513 : decode cX12_init 513 = .ok (.bipush 32, 2) := by decide +kernel
theorem dX12_init_515 : decode cX12_init 515 = .ok (.castore, 1) := by decide +kernel
theorem dX12_init_516 : decode cX12_init 516 = .ok (.dup, 1) := by decide +kernel
theorem dX12_init_517 : decode cX12_init 517 = .ok (.bipush 78, 2) := by decide +kernel
theorem dX12_init_519 : decode cX12_init 519 = .ok (.bipush 32, 2) := by decide +kernel
theorem dX12_init_521 : decode cX12_init 521 = .ok (.castore, 1) := by decide +kernel
theorem dX12_init_522 : decode cX12_init 522 = .ok (.dup, 1) := by decide +kernel
theorem dX12_init_523 : decode cX12_init 523 = .ok (.bipush 79, 2) := by decide +kernel
theorem dX12_init_525 : decode cX12_init 525 = .ok (.bipush 32, 2) := by decide +kernel
theorem dX12_init_527 : decode cX12_init 527 = .ok (.castore, 1) := by decide +kernel
theorem dX12_init_528 : decode cX12_init 528 = .ok (.dup, 1) := by decide +kernel
theorem dX12_init_529 : decode cX12_init 529 = .ok (.bipush 80, 2) := by decide +kernel
theorem dX12_init_531 : decode cX12_init 531 = .ok (.bipush 110, 2) := by decide +kernel
theorem dX12_init_533 : decode cX12_init 533 = .ok (.castore, 1) := by decide +kernel
theorem dX12_init_534 : decode cX12_init 534 = .ok (.dup, 1) := by decide +kernel
theorem dX12_init_535 : decode cX12_init 535 = .ok (.bipush 81, 2) := by decide +kernel
theorem dX12_init_537 : decode cX12_init 537 = .ok (.bipush 111, 2) := by decide +kernel
theorem dX12_init_539 : decode cX12_init 539 = .ok (.castore, 1) := by decide +kernel
theorem dX12_init_540 : decode cX12_init 540 = .ok (.dup, 1) := by decide +kernel
theorem dX12_init_541 : decode cX12_init 541 = .ok (.bipush 82, 2) := by decide +kernel
theorem dX12_init_543 : decode cX12_init 543 = .ok (.bipush 116, 2) := by decide +kernel
theorem dX12_init_545 : decode cX12_init 545 = .ok (.castore, 1) := by decide +kernel
theorem dX12_init_546 : decode cX12_init 546 = .ok (.dup, 1) := by decide +kernel
theorem dX12_init_547 : decode cX12_init 547 = .ok (.bipush 83, 2) := by decide +kernel
theorem dX12_init_549 : decode cX12_init 549 = .ok (.bipush 32, 2) := by decide +kernel
theorem dX12_init_551 : decode cX12_init 551 = .ok (.castore, 1) := by decide +kernel
theorem dX12_init_552 : decode cX12_init 552 = .ok (.dup, 1) := by decide +kernel
theorem dX12_init_553 : decode cX12_init 553 = .ok (.bipush 84, 2) := by decide +kernel
theorem dX12_init_555 : decode cX12_init 555 = .ok (.bipush 32, 2) := by decide +kernel
theorem dX12_init_557 : decode cX12_init 557 = .ok (.castore, 1) := by decide +kernel
theorem dX12_init_558 : decode cX12_init 558 = .ok (.dup, 1) := by decide +kernel
theorem dX12_init_559 : decode cX12_init 559 = .ok (.bipush 85, 2) := by decide +kernel
theorem dX12_init_561 : decode cX12_init 561 = .ok (.bipush 32, 2) := by decide +kernel
theorem dX12_init_563 : decode cX12_init 563 = .ok (.castore, 1) := by decide +kernel
theorem dX12_init_564 : decode cX12_init 564 = .ok (.dup, 1) := by decide +kernel
theorem dX12_init_565 : decode cX12_init 565 = .ok (.bipush 86, 2) := by decide +kernel
theorem dX12_init_567 : decode cX12_init 567 = .ok (.bipush 32, 2) := by decide +kernel
theorem dX12_init_569 : decode cX12_init 569 = .ok (.castore, 1) := by decide +kernel
theorem dX12_init_570 : decode cX12_init 570 = .ok (.dup, 1) := by decide +kernel
theorem dX12_init_571 : decode cX12_init 571 = .ok (.bipush 87, 2) := by decide +kernel
theorem dX12_init_573 : decode cX12_init 573 = .ok (.bipush 32, 2) := by decide +kernel
theorem dX12_init_575 : decode cX12_init 575 = .ok (.castore, 1) := by decide +kernel
theorem dX12_init_576 : decode cX12_init 576 = .ok (.dup, 1) := by decide +kernel
theorem dX12_init_577 : decode cX12_init 577 = .ok (.bipush 88, 2) := by decide +kernel
theorem dX12_init_579 : decode cX12_init 579 = .ok (.bipush 97, 2) := by decide +kernel
theorem dX12_init_581 : decode cX12_init 581 = .ok (.castore, 1) := by decide +kernel
theorem dX12_init_582 : decode cX12_init 582 = .ok (.dup, 1) := by decide +kernel
theorem dX12_init_583 : decode cX12_init 583 = .ok (.bipush 89, 2) := by decide +kernel
theorem dX12_init_585 : decode cX12_init 585 = .ok (.bipush 110, 2) := by decide +kernel
theorem dX12_init_587 : decode cX12_init 587 = .ok (.castore, 1) := by decide +kernel
theorem dX12_init_588 : decode cX12_init 588 = .ok (.dup, 1) := by decide +kernel
theorem dX12_init_589 : decode cX12_init 589 = .ok (.bipush 90, 2) := by decide +kernel
theorem dX12_init_591 : decode cX12_init 591 = .ok (.bipush 100, 2) := by decide +kernel
theorem dX12_init_593 : decode cX12_init 593 = .ok (.castore, 1) := by decide +kernel
theorem dX12_init_594 : decode cX12_init 594 = .ok (.dup, 1) := by decide +kernel
theorem dX12_init_595 : decode cX12_init 595 = .ok (.bipush 91, 2) := by decide +kernel
theorem dX12_init_597 : decode cX12_init 597 = .ok (.bipush 32, 2) := by decide +kernel
theorem dX12_init_599 : decode cX12_init 599 = .ok (.castore, 1) := by decide +kernel
theorem dX12_init_600 : decode cX12_init 600 = .ok (.dup, 1) := by decide +kernel
theorem dX12_init_601 : decode cX12_init 601 = .ok (.bipush 92, 2) := by decide +kernel
theorem dX12_init_603 : decode cX12_init 603 = .ok (.bipush 32, 2) := by decide +kernel
theorem dX12_init_605 : decode cX12_init 605 = .ok (.castore, 1) := by decide +kernel
theorem dX12_init_606 : decode cX12_init 606 = .ok (.dup, 1) := by decide +kernel
theorem dX12_init_607 : decode cX12_init 607 = .ok (.bipush 93, 2) := by decide +kernel
theorem dX12_init_609 : decode cX12_init 609 = .ok (.bipush 32, 2) := by decide +kernel
theorem dX12_init_611 : decode cX12_init 611 = .ok (.castore, 1) := by decide +kernel
theorem dX12_init_612 : decode cX12_init 612 = .ok (.dup, 1) := by decide +kernel
theorem dX12_init_613 : decode cX12_init 613 = .ok (.bipush 94, 2) := by decide +kernel
theorem dX12_init_615 : decode cX12_init 615 = .ok (.bipush 32, 2) := by decide +kernel
theorem dX12_init_617 : decode cX12_init 617 = .ok (.castore, 1) := by decide +kernel
theorem dX12_init_618 : decode cX12_init 618 = .ok (.dup, 1) := by decide +kernel
theorem dX12_init_619 : decode cX12_init 619 = .ok (.bipush 95, 2) := by decide +kernel
theorem dX12_init_621 : decode cX12_init 621 = .ok (.bipush 32, 2) := by decide +kernel
theorem dX12_init_623 : decode cX12_init 623 = .ok (.castore, 1) := by decide +kernel
theorem dX12_init_624 : decode cX12_init 624 = .ok (.dup, 1) := by decide +kernel
theorem dX12_init_625 : decode cX12_init 625 = .ok (.bipush 96, 2) := by decide +kernel
theorem dX12_init_627 : decode cX12_init 627 = .ok (.bipush 111, 2) := by decide +kernel
theorem dX12_init_629 : decode cX12_init 629 = .ok (.castore, 1) := by decide +kernel
theorem dX12_init_630 : decode cX12_init 630 = .ok (.dup, 1) := by decide +kernel
theorem dX12_init_631 : decode cX12_init 631 = .ok (.bipush 97, 2) := by decide +kernel
theorem dX12_init_633 : decode cX12_init 633 = .ok (.bipush 114, 2) := by decide +kernel
theorem dX12_init_635 : decode cX12_init 635 = .ok (.castore, 1) := by decide +kernel
theorem dX12_init_636 : decode cX12_init 636 = .ok (.dup, 1) := by decide +kernel
theorem dX12_init_637 : decode cX12_init 637 = .ok (.bipush 98, 2) := by decide +kernel
theorem dX12_init_639 : decode cX12_init 639 = .ok (.bipush 32, 2) := by decide +kernel
theorem dX12_init_641 : decode cX12_init 641 = .ok (.castore, 1) := by decide +kernel
theorem dX12_init_642 : decode cX12_init 642 = .ok (.dup, 1) := by decide +kernel
theorem dX12_init_643 : decode cX12_init 643 = .ok (.bipush 99, 2) := by decide +kernel
theorem dX12_init_645 : decode cX12_init 645 = .ok (.bipush 32, 2) := by decide +kernel
theorem dX12_init_647 : decode cX12_init 647 = .ok (.castore, 1) := by decide +kernel
theorem dX12_init_648 : decode cX12_init 648 = .ok (.dup, 1) := by decide +kernel
theorem dX12_init_649 : decode cX12_init 649 = .ok (.bipush 100, 2) := by decide +kernel
theorem dX12_init_651 : decode cX12_init 651 = .ok (.bipush 32, 2) := by decide +kernel
theorem dX12_init_653 : decode cX12_init 653 = .ok (.castore, 1) := by decide +kernel
theorem dX12_init_654 : decode cX12_init 654 = .ok (.dup, 1) := by decide +kernel
theorem dX12_init_655 : decode cX12_init 655 = .ok (.bipush 101, 2) := by decide +kernel
theorem dX12_init_657 : decode cX12_init 657 = .ok (.bipush 32, 2) := by decide +kernel
theorem dX12_init_659 : decode cX12_init 659 = .ok (.castore, 1) := by decide +kernel
theorem dX12_init_660 : decode cX12_init 660 = .ok (.dup, 1) := by decide +kernel
theorem dX12_init_661 : decode cX12_init 661 = .ok (.bipush 102, 2) := by decide +kernel
theorem dX12_init_663 : decode cX12_init 663 = .ok (.bipush 32, 2) := by decide +kernel
theorem dX12_init_665 : decode cX12_init 665 = .ok (.castore, 1) := by decide +kernel
theorem dX12_init_666 : decode cX12_init 666 = .ok (.dup, 1) := by decide +kernel
theorem dX12_init_667 : decode cX12_init 667 = .ok (.bipush 103, 2) := by decide +kernel
theorem dX12_init_669 : decode cX12_init 669 = .ok (.bipush 32, 2) := by decide +kernel
theorem dX12_init_671 : decode cX12_init 671 = .ok (.castore, 1) := by decide +kernel
theorem dX12_init_672 : decode cX12_init 672 = .ok (.dup, 1) := by decide +kernel
theorem dX12_init_673 : decode cX12_init 673 = .ok (.bipush 104, 2) := by decide +kernel
theorem dX12_init_675 : decode cX12_init 675 = .ok (.bipush 104, 2) := by decide +kernel
theorem dX12_init_677 : decode cX12_init 677 = .ok (.castore, 1) := by decide +kernel
theorem dX12_init_678 : decode cX12_init 678 = .ok (.dup, 1) := by decide +kernel
theorem dX12_init_679 : decode cX12_init 679 = .ok (.bipush 105, 2) := by decide +kernel
theorem dX12_init_681 : decode cX12_init 681 = .ok (.bipush 97, 2) := by decide +kernel
theorem dX12_init_683 : decode cX12_init 683 = .ok (.castore, 1) := by decide +kernel
theorem dX12_init_684 : decode cX12_init 684 = .ok (.dup, 1) := by decide +kernel
theorem dX12_init_685 : decode cX12_init 685 = .ok (.bipush 106, 2) := by decide +kernel
theorem dX12_init_687 : decode cX12_init 687 = .ok (.bipush 108, 2) := by decide +kernel
theorem dX12_init_689 : decode cX12_init 689 = .ok (.castore, 1) := by decide +kernel
theorem dX12_init_690 : decode cX12_init 690 = .ok (.dup, 1) := by decide +kernel
theorem dX12_init_691 : decode cX12_init 691 = .ok (.bipush 107, 2) := by decide +kernel
theorem dX12_init_693 : decode cX12_init 693 = .ok (.bipush 116, 2) := by decide +kernel
theorem dX12_init_695 : decode cX12_init 695 = .ok (.castore, 1) := by decide +kernel
theorem dX12_init_696 : decode cX12_init 696 = .ok (.dup, 1) := by decide +kernel
theorem dX12_init_697 : decode cX12_init 697 = .ok (.bipush 108, 2) := by decide +kernel
theorem dX12_init_699 : decode cX12_init 699 = .ok (.bipush 32, 2) := by decide +kernel
theorem dX12_init_701 : decode cX12_init 701 = .ok (.castore, 1) := by decide +kernel
theorem dX12_init_702 : decode cX12_init 702 = .ok (.dup, 1) := by decide +kernel
theorem dX12_init_703 : decode cX12_init 703 = .ok (.bipush 109, 2) := by decide +kernel
theorem dX12_init_705 : decode cX12_init 705 = .ok (.bipush 32, 2) := by decide +kernel
theorem dX12_init_707 : decode cX12_init 707 = .ok (.castore, 1) := by decide +kernel
theorem dX12_init_708 : decode cX12_init 708 = .ok (.dup, 1) := by decide +kernel
theorem dX12_init_709 : decode cX12_init 709 = .ok (.bipush 110, 2) := by decide +kernel
theorem dX12_init_711 : decode cX12_init 711 = .ok (.bipush 32, 2) := by decide +kernel
theorem dX12_init_713 : decode cX12_init 713 = .ok (.castore, 1) := by decide +kernel
theorem dX12_init_714 : decode cX12_init 714 = .ok (.dup, 1) := by decide +kernel
theorem dX12_init_715 : decode cX12_init 715 = .ok (.bipush 111, 2) := by decide +kernel
theorem dX12_init_717 : decode cX12_init 717 = .ok (.bipush 32, 2) := by decide +kernel
theorem dX12_init_719 : decode cX12_init 719 = .ok (.castore, 1) := by decide +kernel
theorem dX12_init_720 : decode cX12_init 720 = .ok (.dup, 1) := by decide +kernel
theorem dX12_init_721 : decode cX12_init 721 = .ok (.bipush 112, 2) := by decide +kernel
theorem dX12_init_723 : decode cX12_init 723 = .ok (.bipush 116, 2) := by decide +kernel
theorem dX12_init_725 : decode cX12_init 725 = .ok (.castore, 1) := by decide +kernel
theorem dX12_init_726 : decode cX12_init 726 = .ok (.dup, 1) := by decide +kernel
theorem dX12_init_727 : decode cX12_init 727 = .ok (.bipush 113, 2) := by decide +kernel
theorem dX12_init_729 : decode cX12_init 729 = .ok (.bipush 101, 2) := by decide +kernel
theorem dX12_init_731 : decode cX12_init 731 = .ok (.castore, 1) := by decide +kernel
theorem dX12_init_732 : decode cX12_init 732 = .ok (.dup, 1) := by decide +kernel
theorem dX12_init_733 : decode cX12_init 733 = .ok (.bipush 114, 2) := by decide +kernel
theorem dX12_init_735 : decode cX12_init 735 = .ok (.bipush 101, 2) := by decide +kernel
theorem dX12_init_737 : decode cX12_init 737 = .ok (.castore, 1) := by decide +kernel
theorem dX12_init_738 : decode cX12_init 738 = .ok (.dup, 1) := by decide +kernel
theorem dX12_init_739 : decode cX12_init 739 = .ok (.bipush 115, 2) := by decide +kernel
theorem dX12_init_741 : decode cX12_init 741 = .ok (.bipush 116, 2) := by decide +kernel
theorem dX12_init_743 : decode cX12_init 743 = .ok (.castore, 1) := by decide +kernel
theorem dX12_init_744 : decode cX12_init 744 = .ok (.dup, 1) := by decide +kernel
theorem dX12_init_745 : decode cX12_init 745 = .ok (.bipush 116, 2) := by decide +kernel
theorem dX12_init_747 : decode cX12_init 747 = .ok (.bipush 104, 2) := by decide +kernel
theorem dX12_init_749 : decode cX12_init 749 = .ok (.castore, 1) := by decide +kernel
theorem dX12_init_750 : decode cX12_init 750 = .ok (.dup, 1) := by decide +kernel
theorem dX12_init_751 : decode cX12_init 751 = .ok (.bipush 117, 2) := by decide +kernel
theorem dX12_init_753 : decode cX12_init 753 = .ok (.bipush 32, 2) := by decide +kernel
theorem dX12_init_755 : decode cX12_init 755 = .ok (.castore, 1) := by decide +kernel
theorem dX12_init_756 : decode cX12_init 756 = .ok (.dup, 1) := by decide +kernel
theorem dX12_init_757 : decode cX12_init 757 = .ok (.bipush 118, 2) := by decide +kernel
theorem dX12_init_759 : decode cX12_init 759 = .ok (.bipush 32, 2) := by decide +kernel
theorem dX12_init_761 : decode cX12_init 761 = .ok (.castore, 1) := by decide +kernel
theorem dX12_init_762 : decode cX12_init 762 = .ok (.dup, 1) := by decide +kernel
theorem dX12_init_763 : decode cX12_init 763 = .ok (.bipush 119, 2) := by decide +kernel
theorem dX12_init_765 : decode cX12_init 765 = .ok (.bipush 32, 2) := by decide +kernel
theorem dX12_init_767 : decode cX12_init 767 = .ok (.castore, 1) := by decide +kernel
theorem dX12_init_768 : decode cX12_init 768 = .ok (.dup, 1) := by decide +kernel
theorem dX12_init_769 : decode cX12_init 769 = .ok (.bipush 120, 2) := by decide +kernel
theorem dX12_init_771 : decode cX12_init 771 = .ok (.bipush 115, 2) := by decide +kernel
theorem dX12_init_773 : decode cX12_init 773 = .ok (.castore, 1) := by decide +kernel
theorem dX12_init_774 : decode cX12_init 774 = .ok (.dup, 1) := by decide +kernel
theorem dX12_init_775 : decode cX12_init 775 = .ok (.bipush 121, 2) := by decide +kernel
theorem dX12_init_777 : decode cX12_init 777 = .ok (.bipush 116, 2) := by decide +kernel
theorem dX12_init_779 : decode cX12_init 779 = .ok (.castore, 1) := by decide +kernel
theorem dX12_init_780 : decode cX12_init 780 = .ok (.dup, 1) := by decide +kernel
theorem dX12_init_781 : decode cX12_init 781 = .ok (.bipush 122, 2) := by decide +kernel
theorem dX12_init_783 : decode cX12_init 783 = .ok (.bipush 114, 2) := by decide +kernel
theorem dX12_init_785 : decode cX12_init 785 = .ok (.castore, 1) := by decide +kernel
theorem dX12_init_786 : decode cX12_init 786 = .ok (.dup, 1) := by decide +kernel
theorem dX12_init_787 : decode cX12_init 787 = .ok (.bipush 123, 2) := by decide +kernel
theorem dX12_init_789 : decode cX12_init 789 = .ok (.bipush 97, 2) := by decide +kernel
theorem dX12_init_791 : decode cX12_init 791 = .ok (.castore, 1) := by decide +kernel
theorem dX12_init_792 : decode cX12_init 792 = .ok (.dup, 1) := by decide +kernel
theorem dX12_init_793 : decode cX12_init 793 = .ok (.bipush 124, 2) := by decide +kernel
theorem dX12_init_795 : decode cX12_init 795 = .ok (.bipush 119, 2) := by decide +kernel
theorem dX12_init_797 : decode cX12_init 797 = .ok (.castore, 1) := by decide +kernel
theorem dX12_init_798 : decode cX12_init 798 = .ok (.dup, 1) := by decide +kernel
theorem dX12_init_799 : decode cX12_init 799 = .ok (.bipush 125, 2) := by decide +kernel
theorem dX12_init_801 : decode cX12_init 801 = .ok (.bipush 32, 2) := by decide +kernel
theorem dX12_init_803 : decode cX12_init 803 = .ok (.castore, 1) := by decide +kernel
theorem dX12_init_804 : decode cX12_init 804 = .ok (.dup, 1) := by decide +kernel
theorem dX12_init_805 : decode cX12_init 805 = .ok (.bipush 126, 2) := by decide +kernel
theorem dX12_init_807 : decode cX12_init 807 = .ok (.bipush 32, 2) := by decide +kernel
theorem dX12_init_809 : decode cX12_init 809 = .ok (.castore, 1) := by decide +kernel
theorem dX12_init_810 : decode cX12_init 810 = .ok (.dup, 1) := by decide +kernel
theorem dX12_init_811 : decode cX12_init 811 = .ok (.bipush 127, 2) := by decide +kernel
theorem dX12_init_813 : decode cX12_init 813 = .ok (.bipush 32, 2) := by decide +kernel
theorem dX12_init_815 : decode cX12_init 815 = .ok (.castore, 1) := by decide +kernel
theorem dX12_init_816 : decode cX12_init 816 = .ok (.dup, 1) := by decide +kernel
theorem dX12_init_817 : decode cX12_init 817 = .ok (.sipush 128, 3) := by decide +kernel
theorem dX12_init_820 : decode cX12_init 820 = .ok (.bipush 104, 2) := by decide +kernel
theorem dX12_init_822 : decode cX12_init 822 = .ok (.castore, 1) := by decide +kernel
theorem dX12_init_823 : decode cX12_init 823 = .ok (.dup, 1) := by decide +kernel
theorem dX12_init_824 : decode cX12_init 824 = .ok (.sipush 129, 3) := by decide +kernel
theorem dX12_init_827 : decode cX12_init 827 = .ok (.bipush 101, 2) := by decide +kernel
theorem dX12_init_829 : decode cX12_init 829 = .ok (.castore, 1) := by decide +kernel
theorem dX12_init_830 : decode cX12_init 830 = .ok (.dup, 1) := by decide +kernel
theorem dX12_init_831 : decode cX12_init 831 = .ok (.sipush 130, 3) := by decide +kernel
theorem dX12_init_834 : decode cX12_init 834 = .ok (.bipush 97, 2) := by decide +kernel
theorem dX12_init_836 : decode cX12_init 836 = .ok (.castore, 1) := by decide +kernel
theorem dX12_init_837 : decode cX12_init 837 = .ok (.dup, 1) := by decide +kernel
theorem dX12_init_838 : decode cX12_init 838 = .ok (.sipush 131, 3) := by decide +kernel
theorem dX12_init_841 : decode cX12_init 841 = .ok (.bipush 116, 2) := by decide +kernel
theorem dX12_init_843 : decode cX12_init 843 = .ok (.castore, 1) := by decide +kernel
theorem dX12_init_844 : decode cX12_init 844 = .ok (.dup, 1) := by decide +kernel
theorem dX12_init_845 : decode cX12_init 845 = .ok (.sipush 132, 3) := by decide +kernel
theorem dX12_init_848 : decode cX12_init 848 = .ok (.bipush 32, 2) := by decide +kernel
theorem dX12_init_850 : decode cX12_init 850 = .ok (.castore, 1) := by decide +kernel
theorem dX12_init_851 : decode cX12_init 851 = .ok (.dup, 1) := by decide +kernel
theorem dX12_init_852 : decode cX12_init 852 = .ok (.sipush 133, 3) := by decide +kernel
theorem dX12_init_855 : decode cX12_init 855 = .ok (.bipush 32, 2) := by decide +kernel
theorem dX12_init_857 : decode cX12_init 857 = .ok (.castore, 1) := by decide +kernel
theorem dX12_init_858 : decode cX12_init 858 = .ok (.dup, 1) := by decide +kernel
theorem dX12_init_859 : decode cX12_init 859 = .ok (.sipush 134, 3) := by decide +kernel
theorem dX12_init_862 : decode cX12_init 862 = .ok (.bipush 32, 2) := by decide +kernel
theorem dX12_init_864 : decode cX12_init 864 = .ok (.castore, 1) := by decide +kernel
theorem dX12_init_865 : decode cX12_init 865 = .ok (.dup, 1) := by decide +kernel
theorem dX12_init_866 : decode cX12_init 866 = .ok (.sipush 135, 3) := by decide +kernel
theorem dX12_init_869 : decode cX12_init 869 = .ok (.bipush 32, 2) := by decide +kernel
theorem dX12_init_871 : decode cX12_init 871 = .ok (.castore, 1) := by decide +kernel
theorem dX12_init_872 : decode cX12_init 872 = .ok (.dup, 1) := by decide +kernel
theorem dX12_init_873 : decode cX12_init 873 = .ok (.sipush 136, 3) := by decide +kernel
theorem dX12_init_876 : decode cX12_init 876 = .ok (.bipush 110, 2) := by decide +kernel
theorem dX12_init_878 : decode cX12_init 878 = .ok (.castore, 1) := by decide +kernel
theorem dX12_init_879 : decode cX12_init 879 = .ok (.dup, 1) := by decide +kernel
theorem dX12_init_880 : decode cX12_init 880 = .ok (.sipush 137, 3) := by decide +kernel
theorem dX12_init_883 : decode cX12_init 883 = .ok (.bipush 117, 2) := by decide +kernel
theorem dX12_init_885 : decode cX12_init 885 = .ok (.castore, 1) := by decide +kernel
theorem dX12_init_886 : decode cX12_init 886 = .ok (.dup, 1) := by decide +kernel
theorem dX12_init_887 : decode cX12_init 887 = .ok (.sipush 138, 3) := by decide +kernel
theorem dX12_init_890 : decode cX12_init 890 = .ok (.bipush 109, 2) := by decide +kernel
theorem dX12_init_892 : decode cX12_init 892 = .ok (.castore, 1) := by decide +kernel
theorem dX12_init_893 : decode cX12_init 893 = .ok (.dup, 1) := by decide +kernel
theorem dX12_init_894 : decode cX12_init 894 = .ok (.sipush 139, 3) := by decide +kernel
theorem dX12_init_897 : decode cX12_init 897 = .ok (.bipush 98, 2) := by decide +kernel
theorem dX12_init_899 : decode cX12_init 899 = .ok (.castore, 1) := by decide +kernel
theorem dX12_init_900 : decode cX12_init 900 = .ok (.dup, 1) := by decide +kernel
theorem dX12_init_901 : decode cX12_init 901 = .ok (.sipush 140, 3) := by decide +kernel
theorem dX12_init_904 : decode cX12_init 904 = .ok (.bipush 101, 2) := by decide +kernel
theorem dX12_init_906 : decode cX12_init 906 = .ok (.castore, 1) := by decide +kernel
theorem dX12_init_907 : decode cX12_init 907 = .ok (.dup, 1) := by decide +kernel
theorem dX12_init_908 : decode cX12_init 908 = .ok (.sipush 141, 3) := by decide +kernel
theorem dX12_init_911 : decode cX12_init 911 = .ok (.bipush 114, 2) := by decide +kernel
theorem dX12_init_913 : decode cX12_init 913 = .ok (.castore, 1) := by decide +kernel
theorem dX12_init_914 : decode cX12_init 914 = .ok (.dup, 1) := by decide +kernel
theorem dX12_init_915 : decode cX12_init 915 = .ok (.sipush 142, 3) := by decide +kernel
theorem dX12_init_918 : decode cX12_init 918 = .ok (.bipush 32, 2) := by decide +kernel
theorem dX12_init_920 : decode cX12_init 920 = .ok (.castore, 1) := by decide +kernel
theorem dX12_init_921 : decode cX12_init 921 = .ok (.dup, 1) := by decide +kernel
theorem dX12_init_922 : decode cX12_init 922 = .ok (.sipush 143, 3) := by decide +kernel
theorem dX12_init_925 : decode cX12_init 925 = .ok (.bipush 32, 2) := by decide +kernel
theorem dX12_init_927 : decode cX12_init 927 = .ok (.castore, 1) := by decide +kernel
theorem dX12_init_928 : decode cX12_init 928 = .ok (.putfield 25, 3) := by decide +kernel
theorem dX12_init_931 : decode cX12_init 931 = .ok (.aload_n 0, 1) := by decide +kernel
theorem dX12_init_932 : decode cX12_init 932 = .ok (.sipush 200, 3) := by decide +kernel
theorem dX12_init_935 : decode cX12_init 935 = .ok (.newarray .int, 2) := by decide +kernel
theorem dX12_init_937 : decode cX12_init 937 = .ok (.putfield 29, 3) := by decide +kernel
theorem dX12_init_940 : decode cX12_init 940 = .ok (.aload_n 0, 1) := by decide +kernel
theorem dX12_init_941 : decode cX12_init 941 = .ok (.bipush 24, 2) := by decide +kernel
theorem dX12_init_943 : decode cX12_init 943 = .ok (.newarray .int, 2) := by decide +kernel
theorem dX12_init_945 : decode cX12_init 945 = .ok (.putfield 32, 3) := by decide +kernel
theorem dX12_init_948 : decode cX12_init 948 = .ok (.aload_n 0, 1) := by decide +kernel
theorem dX12_init_949 : decode cX12_init 949 = .ok (.sipush 325, 3) := by decide +kernel
theorem dX12_init_952 : decode cX12_init 952 = .ok (.newarray .int, 2) := by decide +kernel
theorem dX12_init_954 : decode cX12_init 954 = .ok (.putfield 35, 3) := by decide +kernel
theorem dX12_init_957 : decode cX12_init 957 = .ok (.aload_n 0, 1) := by decide +kernel
theorem dX12_init_958 : decode cX12_init 958 = .ok (.iconst 4, 1) := by decide +kernel
theorem dX12_init_959 : decode cX12_init 959 = .ok (.newarray .int, 2) := by decide +kernel
theorem dX12_init_961 : decode cX12_init 961 = .ok (.putfield 38, 3) := by decide +kernel
theorem dX12_init_964 : decode cX12_init 964 = .ok (.aload_n 0, 1) := by decide +kernel
theorem dX12_init_965 : decode cX12_init 965 = .ok (.iconst 4, 1) := by decide +kernel
theorem dX12_init_966 : decode cX12_init 966 = .ok (.newarray .int, 2) := by decide +kernel
theorem dX12_init_968 : decode cX12_init 968 = .ok (.putfield 41, 3) := by decide +kernel
theorem dX12_init_971 : decode cX12_init 971 = .ok (.aload_n 0, 1) := by decide +kernel
theorem dX12_init_972 : decode cX12_init 972 = .ok (.bipush 16, 2) := by decide +kernel
theorem dX12_init_974 : decode cX12_init 974 = .ok (.newarray .int, 2) := by decide +kernel
theorem dX12_init_976 : decode cX12_init 976 = .ok (.putfield 44, 3) := by decide +kernel
theorem dX12_init_979 : decode cX12_init 979 = .ok (.aload_n 0, 1) := by decide +kernel
theorem dX12_init_980 : decode cX12_init 980 = .ok (.bipush 16, 2) := by decide +kernel
theorem dX12_init_982 : decode cX12_init 982 = .ok (.newarray .int, 2) := by decide +kernel
theorem dX12_init_984 : decode cX12_init 984 = .ok (.putfield 47, 3) := by decide +kernel
theorem dX12_init_987 : decode cX12_init 987 = .ok (.aload_n 0, 1) := by decide +kernel
theorem dX12_init_988 : decode cX12_init 988 = .ok (.bipush 12, 2) := by decide +kernel
theorem dX12_init_990 : decode cX12_init 990 = .ok (.newarray .int, 2) := by decide +kernel
theorem dX12_init_992 : decode cX12_init 992 = .ok (.putfield 50, 3) := by decide +kernel
theorem dX12_init_995 : decode cX12_init 995 = .ok (.aload_n 0, 1) := by decide +kernel
theorem dX12_init_996 : decode cX12_init 996 = .ok (.iconst 4, 1) := by decide +kernel
theorem dX12_init_997 : decode cX12_init 997 = .ok (.newarray .int, 2) := by decide +kernel
theorem dX12_init_999 : decode cX12_init 999 = .ok (.dup, 1) := by decide +kernel
theorem dX12_init_1000 : decode cX12_init 1000 = .ok (.iconst 0, 1) := by decide +kernel
theorem dX12_init_1001 : decode cX12_init 1001 = .ok (.iconst (-1), 1) := by decide +kernel
theorem dX12_init_1002 : decode cX12_init 1002 = .ok (.iastore, 1) := by decide +kernel
theorem dX12_init_1003 : decode cX12_init 1003 = .ok (.dup, 1) := by decide +kernel
theorem dX12_init_1004 : decode cX12_init 1004 = .ok (.iconst 1, 1) := by decide +kernel
theorem dX12_init_1005 : decode cX12_init 1005 = .ok (.iconst (-1), 1) := by decide +kernel
theorem dX12_init_1006 : decode cX12_init 1006 = .ok (.iastore, 1) := by decide +kernel
theorem dX12_init_1007 : decode cX12_init 1007 = .ok (.dup, 1) := by decide +kernel
theorem dX12_init_1008 : decode cX12_init 1008 = .ok (.iconst 2, 1) := by decide +kernel
theorem dX12_init_1009 : decode cX12_init 1009 = .ok (.iconst (-1), 1) := by decide +kernel
theorem dX12_init_1010 : decode cX12_init 1010 = .ok (.iastore, 1) := by decide +kernel
theorem dX12_init_1011 : decode cX12_init 1011 = .ok (.dup, 1) := by decide +kernel
theorem dX12_init_1012 : decode cX12_init 1012 = .ok (.iconst 3, 1) := by decide +kernel
theorem dX12_init_1013 : decode cX12_init 1013 = .ok (.iconst (-1), 1) := by decide +kernel
theorem dX12_init_1014 : decode cX12_init 1014 = .ok (.iastore, 1) := by decide +kernel
theorem dX12_init_1015 : decode cX12_init 1015 = .ok (.putfield 53, 3) := by decide +kernel
theorem dX12_init_1018 : decode cX12_init 1018 = .ok (.aload_n 0, 1) := by decide +kernel
theorem dX12_init_1019 : decode cX12_init 1019 = .ok (.iconst 4, 1) := by decide +kernel
theorem dX12_init_1020 : decode cX12_init 1020 = .ok (.newarray .int, 2) := by decide +kernel
theorem dX12_init_1022 : decode cX12_init 1022 = .ok (.putfield 56, 3) := by decide +kernel
theorem dX12_init_1025 : decode cX12_init 1025 = .ok (.aload_n 0, 1) := by decide +kernel
theorem dX12_init_1026 : decode cX12_init 1026 = .ok (.sipush 160, 3) := by decide +kernel
theorem dX12_init_1029 : decode cX12_init 1029 = .ok (.newarray .int, 2) := by decide +kernel
theorem dX12_init_1031 : decode cX12_init 1031 = .ok (.putfield 59, 3) := by decide +kernel
theorem dX12_init_1034 : decode cX12_init 1034 = .ok (.aload_n 0, 1) := by decide +kernel
theorem dX12_init_1035 : decode cX12_init 1035 = .ok (.iconst 4, 1) := by decide +kernel
theorem dX12_init_1036 : decode cX12_init 1036 = .ok (.newarray .int, 2) := by decide +kernel
theorem dX12_init_1038 : decode cX12_init 1038 = .ok (.dup, 1) := by decide +kernel
theorem dX12_init_1039 : decode cX12_init 1039 = .ok (.iconst 0, 1) := by decide +kernel
theorem dX12_init_1040 : decode cX12_init 1040 = .ok (.iconst (-1), 1) := by decide +kernel
theorem dX12_init_1041 : decode cX12_init 1041 = .ok (.iastore, 1) := by decide +kernel
theorem dX12_init_1042 : decode cX12_init 1042 = .ok (.dup, 1) := by decide +kernel
theorem dX12_init_1043 : decode cX12_init 1043 = .ok (.iconst 1, 1) := by decide +kernel
theorem dX12_init_1044 : decode cX12_init 1044 = .ok (.iconst (-1), 1) := by decide +kernel
theorem dX12_init_1045 : decode cX12_init 1045 = .ok (.iastore, 1) := by decide +kernel
theorem dX12_init_1046 : decode cX12_init 1046 = .ok (.dup, 1) := by decide +kernel
theorem dX12_init_1047 : decode cX12_init 1047 = .ok (.iconst 2, 1) := by decide +kernel
theorem dX12_init_1048 : decode cX12_init 1048 = .ok (.iconst (-1), 1) := by decide +kernel
theorem dX12_init_1049 : decode cX12_init 1049 = .ok (.iastore, 1) := by decide +kernel
theorem dX12_init_1050 : decode cX12_init 1050 = .ok (.dup, 1) := by decide +kernel
theorem dX12_init_1051 : decode cX12_init 1051 = .ok (.iconst 3, 1) := by decide +kernel
theorem dX12_init_1052 : decode cX12_init 1052 = .ok (.iconst (-1), 1) := by decide +kernel
theorem dX12_init_1053 : decode cX12_init 1053 = .ok (.iastore, 1) := by decide +kernel
theorem dX12_init_1054 : decode cX12_init 1054 = .ok (.putfield 62, 3) := by decide +kernel
theorem dX12_init_1057 : decode cX12_init 1057 = .ok (.aload_n 0, 1) := by decide +kernel
theorem dX12_init_1058 : decode cX12_init 1058 = .ok (.iconst 4, 1) := by decide +kernel
theorem dX12_init_1059 : decode cX12_init 1059 = .ok (.newarray .int, 2) := by decide +kernel
theorem dX12_init_1061 : decode cX12_init 1061 = .ok (.putfield 65, 3) := by decide +kernel
theorem dX12_init_1064 : decode cX12_init 1064 = .ok (.aload_n 0, 1) := by decide +kernel
theorem dX12_init_1065 : decode cX12_init 1065 = .ok (.bipush 30, 2) := by decide +kernel
theorem dX12_init_1067 : decode cX12_init 1067 = .ok (.newarray .int, 2) := by decide +kernel
theorem dX12_init_1069 : decode cX12_init 1069 = .ok (.putfield 68, 3) := by decide +kernel
theorem dX12_init_1072 : decode cX12_init 1072 = .ok (.aload_n 0, 1) := by decide +kernel
theorem dX12_init_1073 : decode cX12_init 1073 = .ok (.getfield 9, 3) := by decide +kernel
theorem dX12_init_1076 : decode cX12_init 1076 = .ok (.iconst 1, 1) := by decide +kernel
theorem dX12_init_1077 : decode cX12_init 1077 = .ok (.bipush 12, 2) := by decide +kernel
theorem dX12_init_1079 : decode cX12_init 1079 = .ok (.iastore, 1) := by decide +kernel
theorem dX12_init_1080 : decode cX12_init 1080 = .ok (.aload_n 0, 1) := by decide +kernel
theorem dX12_init_1081 : decode cX12_init 1081 = .ok (.getfield 9, 3) := by decide +kernel
theorem dX12_init_1084 : decode cX12_init 1084 = .ok (.iconst 3, 1) := by decide +kernel
theorem dX12_init_1085 : decode cX12_init 1085 = .ok (.iconst 1, 1) := by decide +kernel
theorem dX12_init_1086 : decode cX12_init 1086 = .ok (.iastore, 1) := by decide +kernel
theorem dX12_init_1087 : decode cX12_init 1087 = .ok (.iconst 0, 1) := by decide +kernel
theorem dX12_init_1088 : decode cX12_init 1088 = .ok (.istore_n 1, 1) := by decide +kernel
theorem dX12_init_1089 : decode cX12_init 1089 = .ok (.iload_n 1, 1) := by decide +kernel
theorem dX12_init_1090 : decode cX12_init 1090 = .ok (.bipush 16, 2) := by decide +kernel
theorem dX12_init_1092 : decode cX12_init 1092 = .ok (.if_icmp .ge 19, 3) := by decide +kernel
theorem dX12_init_1095 : decode cX12_init 1095 = .ok (.aload_n 0, 1) := by decide +kernel
theorem dX12_init_1096 : decode cX12_init 1096 = .ok (.getfield 9, 3) := by decide +kernel
theorem dX12_init_1099 : decode cX12_init 1099 = .ok (.bipush 7, 2) := by decide +kernel
theorem dX12_init_1101 : decode cX12_init 1101 = .ok (.iload_n 1, 1) := by decide +kernel
theorem dX12_init_1102 : decode cX12_init 1102 = .ok (.iadd, 1) := by decide +kernel
theorem dX12_init_1103 : decode cX12_init 1103 = .ok (.iconst 5, 1) := by decide +kernel
theorem dX12_init_1104 : decode cX12_init 1104 = .ok (.iastore, 1) := by decide +kernel
theorem dX12_init_1105 : decode cX12_init 1105 = .ok (.iinc 1 1, 3) := by decide +kernel
theorem dX12_init_1108 : decode cX12_init 1108 = .ok (.goto (-19), 3) := by decide +kernel
theorem dX12_init_1111 : decode cX12_init 1111 = .ok (.return_, 1) := by decide +kernel
theorem dX1_init_0 : decode cX1_init 0 = .ok (.aload_n 0, 1) := by decide +kernel
theorem dX1_init_1 : decode cX1_init 1 = .ok (.invokespecial 3, 3) := by decide +kernel
theorem dX1_init_4 : decode cX1_init 4 = .ok (.aload_n 0, 1) := by decide +kernel
theorem dX1_init_5 : decode cX1_init 5 = .ok (.bipush 12, 2) := by decide +kernel
theorem dX1_init_7 : decode cX1_init 7 = .ok (.putfield 9, 3) := by decide +kernel
theorem dX1_init_10 : decode cX1_init 10 = .ok (.aload_n 0, 1) := by decide +kernel
theorem dX1_init_11 : decode cX1_init 11 = .ok (.iconst 1, 1) := by decide +kernel
theorem dX1_init_12 : decode cX1_init 12 = .ok (.putfield 15, 3) := by decide +kernel
theorem dX1_init_15 : decode cX1_init 15 = .ok (.aload_n 0, 1) := by decide +kernel
theorem dX1_init_16 : decode cX1_init 16 = .ok (.bipush 16, 2) := by decide +kernel
theorem dX1_init_18 : decode cX1_init 18 = .ok (.newarray .int, 2) := by decide +kernel
theorem dX1_init_20 : decode cX1_init 20 = .ok (.putfield 18, 3) := by decide +kernel
theorem dX1_init_23 : decode cX1_init 23 = .ok (.aload_n 0, 1) := by decide +kernel
theorem dX1_init_24 : decode cX1_init 24 = .ok (.bipush 6, 2) := by decide +kernel
theorem dX1_init_26 : decode cX1_init 26 = .ok (.newarray .int, 2) := by decide +kernel
theorem dX1_init_28 : decode cX1_init 28 = .ok (.putfield 22, 3) := by decide +kernel
theorem dX1_init_31 : decode cX1_init 31 = .ok (.aload_n 0, 1) := by decide +kernel
theorem dX1_init_32 : decode cX1_init 32 = .ok (.bipush 6, 2) := by decide +kernel
theorem dX1_init_34 : decode cX1_init 34 = .ok (.newarray .int, 2) := by decide +kernel
theorem dX1_init_36 : decode cX1_init 36 = .ok (.putfield 25, 3) := by decide +kernel
theorem dX1_init_39 : decode cX1_init 39 = .ok (.aload_n 0, 1) := by decide +kernel
theorem dX1_init_40 : decode cX1_init 40 = .ok (.bipush 6, 2) := by decide +kernel
theorem dX1_init_42 : decode cX1_init 42 = .ok (.newarray .int, 2) := by decide +kernel
theorem dX1_init_44 : decode cX1_init 44 = .ok (.putfield 28, 3) := by decide +kernel
theorem dX1_init_47 : decode cX1_init 47 = .ok (.aload_n 0, 1) := by decide +kernel
theorem dX1_init_48 : decode cX1_init 48 = .ok (.bipush 6, 2) := by decide +kernel
theorem dX1_init_50 : decode cX1_init 50 = .ok (.newarray .int, 2) := by decide +kernel
theorem dX1_init_52 : decode cX1_init 52 = .ok (.putfield 31, 3) := by decide +kernel
theorem dX1_init_55 : decode cX1_init 55 = .ok (.aload_n 0, 1) := by decide +kernel
theorem dX1_init_56 : decode cX1_init 56 = .ok (.bipush 6, 2) := by decide +kernel
theorem dX1_init_58 : decode cX1_init 58 = .ok (.newarray .int, 2) := by decide +kernel
theorem dX1_init_60 : decode cX1_init 60 = .ok (.putfield 34, 3) := by decide +kernel
theorem dX1_init_63 : decode cX1_init 63 = .ok (.aload_n 0, 1) := by decide +kernel
theorem dX1_init_64 : decode cX1_init 64 = .ok (.bipush 6, 2) := by decide +kernel
theorem dX1_init_66 : decode cX1_init 66 = .ok (.newarray .int, 2) := by decide +kernel
theorem dX1_init_68 : decode cX1_init 68 = .ok (.putfield 37, 3) := by decide +kernel
theorem dX1_init_71 : decode cX1_init 71 = .ok (.aload_n 0, 1) := by decide +kernel
theorem dX1_init_72 : decode cX1_init 72 = .ok (.new 40, 3) := by decide +kernel
theorem dX1_init_75 : decode cX1_init 75 = .ok (.dup, 1) := by decide +kernel
theorem dX1_init_76 : decode cX1_init 76 = .ok (.invokespecial 42, 3) := by decide +kernel
theorem dX1_init_79 : decode cX1_init 79 = .ok (.putfield 43, 3) := by decide +kernel
theorem dX1_init_82 : decode cX1_init 82 = .ok (.aload_n 0, 1) := by decide +kernel
theorem dX1_init_83 : decode cX1_init 83 = .ok (.bipush 24, 2) := by decide +kernel
theorem dX1_init_85 : decode cX1_init 85 = .ok (.newarray .int, 2) := by decide +kernel
theorem dX1_init_87 : decode cX1_init 87 = .ok (.putfield 47, 3) := by decide +kernel
theorem dX1_init_90 : decode cX1_init 90 = .ok (.aload_n 0, 1) := by decide +kernel
theorem dX1_init_91 : decode cX1_init 91 = .ok (.iconst 5, 1) := by decide +kernel
theorem dX1_init_92 : decode cX1_init 92 = .ok (.newarray .int, 2) := by decide +kernel
theorem dX1_init_94 : decode cX1_init 94 = .ok (.putfield 50, 3) := by decide +kernel
theorem dX1_init_97 : decode cX1_init 97 = .ok (.aload_n 0, 1) := by decide +kernel
theorem dX1_init_98 : decode cX1_init 98 = .ok (.bipush 40, 2) := by decide +kernel
theorem dX1_init_100 : decode cX1_init 100 = .ok (.newarray .int, 2) := by decide +kernel
theorem dX1_init_102 : decode cX1_init 102 = .ok (.putfield 53, 3) := by decide +kernel
theorem dX1_init_105 : decode cX1_init 105 = .ok (.aload_n 0, 1) := by decide +kernel
theorem dX1_init_106 : decode cX1_init 106 = .ok (.aload_n 1, 1) := by decide +kernel
theorem dX1_init_107 : decode cX1_init 107 = .ok (.putfield 56, 3) := by decide +kernel
theorem dX1_init_110 : decode cX1_init 110 = .ok (.iconst 0, 1) := by decide +kernel
theorem dX1_init_111 : decode cX1_init 111 = .ok (.istore_n 2, 1) := by decide +kernel
theorem dX1_init_112 : decode cX1_init 112 = .ok (.iload_n 2, 1) := by decide +kernel
theorem dX1_init_113 : decode cX1_init 113 = .ok (.bipush 16, 2) := by decide +kernel
theorem dX1_init_115 : decode cX1_init 115 = .ok (.if_icmp .ge 16, 3) := by decide +kernel
theorem dX1_init_118 : decode cX1_init 118 = .ok (.aload_n 0, 1) := by decide +kernel
theorem dX1_init_119 : decode cX1_init 119 = .ok (.getfield 18, 3) := by decide +kernel
theorem dX1_init_122 : decode cX1_init 122 = .ok (.iload_n 2, 1) := by decide +kernel
theorem dX1_init_123 : decode cX1_init 123 = .ok (.iconst 5, 1) := by decide +kernel
theorem dX1_init_124 : decode cX1_init 124 = .ok (.iastore, 1) := by decide +kernel
theorem dX1_init_125 : decode cX1_init 125 = .ok (.iinc 2 1, 3) := by decide +kernel
theorem dX1_init_128 : decode cX1_init 128 = .ok (.goto (-16), 3) := by decide +kernel
theorem dX1_init_131 : decode cX1_init 131 = .ok (.return_, 1) := by decide +kernel
theorem dX2_init_0 : decode cX2_init 0 = .ok (.aload_n 0, 1) := by decide +kernel
theorem dX2_init_1 : decode cX2_init 1 = .ok (.invokespecial 1, 3) := by decide +kernel
theorem dX2_init_4 : decode cX2_init 4 = .ok (.return_, 1) := by decide +kernel
theorem dX3_init_0 : decode cX3_init 0 = .ok (.aload_n 0, 1) := by decide +kernel
theorem dX3_init_1 : decode cX3_init 1 = .ok (.invokespecial 1, 3) := by decide +kernel
theorem dX3_init_4 : decode cX3_init 4 = .ok (.return_, 1) := by decide +kernel
theorem dX4_init_0 : decode cX4_init 0 = .ok (.aload_n 0, 1) := by decide +kernel
theorem dX4_init_1 : decode cX4_init 1 = .ok (.invokespecial 3, 3) := by decide +kernel
theorem dX4_init_4 : decode cX4_init 4 = .ok (.aload_n 0, 1) := by decide +kernel
theorem dX4_init_5 : decode cX4_init 5 = .ok (.iconst 5, 1) := by decide +kernel
theorem dX4_init_6 : decode cX4_init 6 = .ok (.newarray .int, 2) := by decide +kernel
theorem dX4_init_8 : decode cX4_init 8 = .ok (.putfield 9, 3) := by decide +kernel
theorem dX4_init_11 : decode cX4_init 11 = .ok (.aload_n 0, 1) := by decide +kernel
theorem dX4_init_12 : decode cX4_init 12 = .ok (.iconst 5, 1) := by decide +kernel
theorem dX4_init_13 : decode cX4_init 13 = .ok (.newarray .int, 2) := by decide +kernel
theorem dX4_init_15 : decode cX4_init 15 = .ok (.putfield 15, 3) := by decide +kernel
theorem dX4_init_18 : decode cX4_init 18 = .ok (.aload_n 0, 1) := by decide +kernel
theorem dX4_init_19 : decode cX4_init 19 = .ok (.iconst 5, 1) := by decide +kernel
theorem dX4_init_20 : decode cX4_init 20 = .ok (.newarray .int, 2) := by decide +kernel
theorem dX4_init_22 : decode cX4_init 22 = .ok (.putfield 18, 3) := by decide +kernel
theorem dX4_init_25 : decode cX4_init 25 = .ok (.aload_n 0, 1) := by decide +kernel
theorem dX4_init_26 : decode cX4_init 26 = .ok (.aload_n 1, 1) := by decide +kernel
theorem dX4_init_27 : decode cX4_init 27 = .ok (.putfield 21, 3) := by decide +kernel
theorem dX4_init_30 : decode cX4_init 30 = .ok (.return_, 1) := by decide +kernel
theorem dX5_init_0 : decode cX5_init 0 = .ok (.aload_n 0, 1) := by decide +kernel
theorem dX5_init_1 : decode cX5_init 1 = .ok (.invokespecial 3, 3) := by decide +kernel
theorem dX5_init_4 : decode cX5_init 4 = .ok (.aload_n 0, 1) := by decide +kernel
theorem dX5_init_5 : decode cX5_init 5 = .ok (.sipush 200, 3) := by decide +kernel
theorem dX5_init_8 : decode cX5_init 8 = .ok (.newarray .int, 2) := by decide +kernel
theorem dX5_init_10 : decode cX5_init 10 = .ok (.putfield 9, 3) := by decide +kernel
theorem dX5_init_13 : decode cX5_init 13 = .ok (.aload_n 0, 1) := by decide +kernel
theorem dX5_init_14 : decode cX5_init 14 = .ok (.new 15, 3) := by decide +kernel
theorem dX5_init_17 : decode cX5_init 17 = .ok (.dup, 1) := by decide +kernel
theorem dX5_init_18 : decode cX5_init 18 = .ok (.invokespecial 17, 3) := by decide +kernel
theorem dX5_init_21 : decode cX5_init 21 = .ok (.putfield 18, 3) := by decide +kernel
theorem dX5_init_24 : decode cX5_init 24 = .ok (.aload_n 0, 1) := by decide +kernel
theorem dX5_init_25 : decode cX5_init 25 = .ok (.iconst 4, 1) := by decide +kernel
theorem dX5_init_26 : decode cX5_init 26 = .ok (.newarray .boolean, 2) := by decide +kernel
theorem dX5_init_28 : decode cX5_init 28 = .ok (.putfield 22, 3) := by decide +kernel
theorem dX5_init_31 : decode cX5_init 31 = .ok (.aload_n 0, 1) := by decide +kernel
theorem dX5_init_32 : decode cX5_init 32 = .ok (.iconst 4, 1) := by decide +kernel
theorem dX5_init_33 : decode cX5_init 33 = .ok (.newarray .boolean, 2) := by decide +kernel
theorem dX5_init_35 : decode cX5_init 35 = .ok (.putfield 26, 3) := by decide +kernel
theorem dX5_init_38 : decode cX5_init 38 = .ok (.aload_n 0, 1) := by decide +kernel
theorem dX5_init_39 : decode cX5_init 39 = .ok (.iconst 4, 1) := by decide +kernel
theorem dX5_init_40 : decode cX5_init 40 = .ok (.newarray .boolean, 2) := by decide +kernel
theorem dX5_init_42 : decode cX5_init 42 = .ok (.putfield 29, 3) := by decide +kernel
theorem dX5_init_45 : decode cX5_init 45 = .ok (.return_, 1) := by decide +kernel
theorem dX6_init_0 : decode cX6_init 0 = .ok (.aload_n 0, 1) := by decide +kernel
theorem dX6_init_1 : decode cX6_init 1 = .ok (.invokespecial 3, 3) := by decide +kernel
theorem dX6_init_4 : decode cX6_init 4 = .ok (.aload_n 0, 1) := by decide +kernel
theorem dX6_init_5 : decode cX6_init 5 = .ok (.bipush 8, 2) := by decide +kernel
theorem dX6_init_7 : decode cX6_init 7 = .ok (.newarray .int, 2) := by decide +kernel
theorem dX6_init_9 : decode cX6_init 9 = .ok (.putfield 9, 3) := by decide +kernel
theorem dX6_init_12 : decode cX6_init 12 = .ok (.aload_n 0, 1) := by decide +kernel
theorem dX6_init_13 : decode cX6_init 13 = .ok (.bipush 8, 2) := by decide +kernel
theorem dX6_init_15 : decode cX6_init 15 = .ok (.newarray .int, 2) := by decide +kernel
theorem dX6_init_17 : decode cX6_init 17 = .ok (.putfield 15, 3) := by decide +kernel
theorem dX6_init_20 : decode cX6_init 20 = .ok (.aload_n 0, 1) := by decide +kernel
theorem dX6_init_21 : decode cX6_init 21 = .ok (.bipush 8, 2) := by decide +kernel
theorem dX6_init_23 : decode cX6_init 23 = .ok (.newarray .int, 2) := by decide +kernel
theorem dX6_init_25 : decode cX6_init 25 = .ok (.putfield 18, 3) := by decide +kernel
theorem dX6_init_28 : decode cX6_init 28 = .ok (.aload_n 0, 1) := by decide +kernel
theorem dX6_init_29 : decode cX6_init 29 = .ok (.sipush 200, 3) := by decide +kernel
theorem dX6_init_32 : decode cX6_init 32 = .ok (.newarray .int, 2) := by decide +kernel
theorem dX6_init_34 : decode cX6_init 34 = .ok (.putfield 21, 3) := by decide +kernel
theorem dX6_init_37 : decode cX6_init 37 = .ok (.return_, 1) := by decide +kernel
theorem dX7_init_0 : decode cX7_init 0 = .ok (.aload_n 0, 1) := by decide +kernel
theorem dX7_init_1 : decode cX7_init 1 = .ok (.invokespecial 1, 3) := by decide +kernel
theorem dX7_init_4 : decode cX7_init 4 = .ok (.return_, 1) := by decide +kernel
theorem dX8_init_0 : decode cX8_init 0 = .ok (.aload_n 0, 1) := by decide +kernel
theorem dX8_init_1 : decode cX8_init 1 = .ok (.invokespecial 1, 3) := by decide +kernel
theorem dX8_init_4 : decode cX8_init 4 = .ok (.return_, 1) := by decide +kernel
theorem dX9_init_0 : decode cX9_init 0 = .ok (.aload_n 0, 1) := by decide +kernel
theorem dX9_init_1 : decode cX9_init 1 = .ok (.invokespecial 1, 3) := by decide +kernel
theorem dX9_init_4 : decode cX9_init 4 = .ok (.return_, 1) := by decide +kernel
theorem lk_RX0_9 : Cond.fieldLink RX0 9 (TX0 4).1 (TX0 4).2.1 (TX0 4).2.2.1 ∈ gBIG := gm_at (l := tables_1_2) 40 (by decide +kernel) gs2
theorem lk_RX1_9 : Cond.fieldLink RX1 9 (TX1 2).1 (TX1 2).2.1 (TX1 2).2.2.1 ∈ gBIG := gm_at (l := tables_1_1) 112 (by decide +kernel) gs1
theorem lk_RX1_15 : Cond.fieldLink RX1 15 (TX1 4).1 (TX1 4).2.1 (TX1 4).2.2.1 ∈ gBIG := gm_at (l := tables_1_1) 116 (by decide +kernel) gs1
theorem lk_RX1_18 : Cond.fieldLink RX1 18 (TX1 5).1 (TX1 5).2.1 (TX1 5).2.2.1 ∈ gBIG := gm_at (l := tables_1_1) 118 (by decide +kernel) gs1
theorem lk_RX1_22 : Cond.fieldLink RX1 22 (TX1 6).1 (TX1 6).2.1 (TX1 6).2.2.1 ∈ gBIG := gm_at (l := tables_1_1) 120 (by decide +kernel) gs1
theorem lk_RX1_25 : Cond.fieldLink RX1 25 (TX1 7).1 (TX1 7).2.1 (TX1 7).2.2.1 ∈ gBIG := gm_at (l := tables_1_1) 122 (by decide +kernel) gs1
theorem lk_RX1_28 : Cond.fieldLink RX1 28 (TX1 10).1 (TX1 10).2.1 (TX1 10).2.2.1 ∈ gBIG := gm_at (l := tables_1_1) 130 (by decide +kernel) gs1
theorem lk_RX1_31 : Cond.fieldLink RX1 31 (TX1 11).1 (TX1 11).2.1 (TX1 11).2.2.1 ∈ gBIG := gm_at (l := tables_1_1) 132 (by decide +kernel) gs1
theorem lk_RX1_34 : Cond.fieldLink RX1 34 (TX1 12).1 (TX1 12).2.1 (TX1 12).2.2.1 ∈ gBIG := gm_at (l := tables_1_1) 134 (by decide +kernel) gs1
theorem lk_RX1_37 : Cond.fieldLink RX1 37 (TX1 13).1 (TX1 13).2.1 (TX1 13).2.2.1 ∈ gBIG := gm_at (l := tables_1_1) 136 (by decide +kernel) gs1
theorem lk_RX1_43 : Cond.fieldLink RX1 43 (TX1 14).1 (TX1 14).2.1 (TX1 14).2.2.1 ∈ gBIG := gm_at (l := tables_1_1) 138 (by decide +kernel) gs1
theorem lk_RX1_47 : Cond.fieldLink RX1 47 (TX1 15).1 (TX1 15).2.1 (TX1 15).2.2.1 ∈ gBIG := gm_at (l := tables_1_1) 140 (by decide +kernel) gs1
theorem lk_RX1_50 : Cond.fieldLink RX1 50 (TX1 17).1 (TX1 17).2.1 (TX1 17).2.2.1 ∈ gBIG := gm_at (l := tables_1_1) 144 (by decide +kernel) gs1
theorem lk_RX1_53 : Cond.fieldLink RX1 53 (TX1 18).1 (TX1 18).2.1 (TX1 18).2.2.1 ∈ gBIG := gm_at (l := tables_1_1) 145 (by decide +kernel) gs1
theorem lk_RX1_56 : Cond.fieldLink RX1 56 (TX1 0).1 (TX1 0).2.1 (TX1 0).2.2.1 ∈ gBIG := gm_at (l := tables_1_1) 108 (by decide +kernel) gs1
theorem lk_RX11_9 : Cond.fieldLink RX11 9 (TX11 6).1 (TX11 6).2.1 (TX11 6).2.2.1 ∈ gBIG := gm_at (l := tables_1_2) 59 (by decide +kernel) gs2
theorem lk_RX11_13 : Cond.fieldLink RX11 13 (TX11 8).1 (TX11 8).2.1 (TX11 8).2.2.1 ∈ gBIG := gm_at (l := tables_1_2) 61 (by decide +kernel) gs2
theorem lk_RX11_16 : Cond.fieldLink RX11 16 (TX11 9).1 (TX11 9).2.1 (TX11 9).2.2.1 ∈ gBIG := gm_at (l := tables_1_2) 62 (by decide +kernel) gs2
theorem lk_RX11_21 : Cond.fieldLink RX11 21 (TX11 10).1 (TX11 10).2.1 (TX11 10).2.2.1 ∈ gBIG := gm_at (l := tables_1_2) 63 (by decide +kernel) gs2
theorem lk_RX11_24 : Cond.fieldLink RX11 24 (TX11 11).1 (TX11 11).2.1 (TX11 11).2.2.1 ∈ gBIG := gm_at (l := tables_1_2) 64 (by decide +kernel) gs2
theorem lk_RX11_27 : Cond.fieldLink RX11 27 (TX11 12).1 (TX11 12).2.1 (TX11 12).2.2.1 ∈ gBIG := gm_at (l := tables_1_2) 65 (by decide +kernel) gs2
theorem lk_RX11_30 : Cond.fieldLink RX11 30 (TX11 13).1 (TX11 13).2.1 (TX11 13).2.2.1 ∈ gBIG := gm_at (l := tables_1_2) 66 (by decide +kernel) gs2
theorem lk_RX11_56 : Cond.fieldLink RX11 56 (TX11 0).1 (TX11 0).2.1 (TX11 0).2.2.1 ∈ gBIG := gm_at (l := tables_1_2) 53 (by decide +kernel) gs2
theorem lk_RX11_60 : Cond.fieldLink RX11 60 (TX11 1).1 (TX11 1).2.1 (TX11 1).2.2.1 ∈ gBIG := gm_at (l := tables_1_2) 54 (by decide +kernel) gs2
theorem lk_RX11_68 : Cond.fieldLink RX11 68 (TX11 3).1 (TX11 3).2.1 (TX11 3).2.2.1 ∈ gBIG := gm_at (l := tables_1_2) 56 (by decide +kernel) gs2
theorem lk_RX11_75 : Cond.fieldLink RX11 75 (TX11 4).1 (TX11 4).2.1 (TX11 4).2.2.1 ∈ gBIG := gm_at (l := tables_1_2) 57 (by decide +kernel) gs2
theorem lk_RX11_82 : Cond.fieldLink RX11 82 (TX11 5).1 (TX11 5).2.1 (TX11 5).2.2.1 ∈ gBIG := gm_at (l := tables_1_2) 58 (by decide +kernel) gs2
theorem lk_RX12_9 : Cond.fieldLink RX12 9 (TX12 0).1 (TX12 0).2.1 (TX12 0).2.2.1 ∈ gBIG := gm_at (l := tables_1_5) 174 (by decide +kernel) gs5
theorem lk_RX12_13 : Cond.fieldLink RX12 13 (TX12 1).1 (TX12 1).2.1 (TX12 1).2.2.1 ∈ gBIG := gm_at (l := tables_1_5) 175 (by decide +kernel) gs5
theorem lk_RX12_16 : Cond.fieldLink RX12 16 (TX12 2).1 (TX12 2).2.1 (TX12 2).2.2.1 ∈ gBIG := gm_at (l := tables_1_5) 176 (by decide +kernel) gs5
theorem lk_RX12_19 : Cond.fieldLink RX12 19 (TX12 4).1 (TX12 4).2.1 (TX12 4).2.2.1 ∈ gBIG := gm_at (l := tables_1_5) 178 (by decide +kernel) gs5
theorem lk_RX12_22 : Cond.fieldLink RX12 22 (TX12 5).1 (TX12 5).2.1 (TX12 5).2.2.1 ∈ gBIG := gm_at (l := tables_1_5) 179 (by decide +kernel) gs5
theorem lk_RX12_25 : Cond.fieldLink RX12 25 (TX12 7).1 (TX12 7).2.1 (TX12 7).2.2.1 ∈ gBIG := gm_at (l := tables_1_5) 181 (by decide +kernel) gs5
theorem lk_RX12_29 : Cond.fieldLink RX12 29 (TX12 14).1 (TX12 14).2.1 (TX12 14).2.2.1 ∈ gBIG := gm_at (l := tables_1_5) 188 (by decide +kernel) gs5
theorem lk_RX12_32 : Cond.fieldLink RX12 32 (TX12 15).1 (TX12 15).2.1 (TX12 15).2.2.1 ∈ gBIG := gm_at (l := tables_1_5) 189 (by decide +kernel) gs5
theorem lk_RX12_35 : Cond.fieldLink RX12 35 (TX12 16).1 (TX12 16).2.1 (TX12 16).2.2.1 ∈ gBIG := gm_at (l := tables_1_5) 190 (by decide +kernel) gs5
theorem lk_RX12_38 : Cond.fieldLink RX12 38 (TX12 17).1 (TX12 17).2.1 (TX12 17).2.2.1 ∈ gBIG := gm_at (l := tables_1_5) 191 (by decide +kernel) gs5
theorem lk_RX12_41 : Cond.fieldLink RX12 41 (TX12 18).1 (TX12 18).2.1 (TX12 18).2.2.1 ∈ gBIG := gm_at (l := tables_1_5) 192 (by decide +kernel) gs5
theorem lk_RX12_44 : Cond.fieldLink RX12 44 (TX12 23).1 (TX12 23).2.1 (TX12 23).2.2.1 ∈ gBIG := gm_at (l := tables_1_5) 197 (by decide +kernel) gs5
theorem lk_RX12_47 : Cond.fieldLink RX12 47 (TX12 24).1 (TX12 24).2.1 (TX12 24).2.2.1 ∈ gBIG := gm_at (l := tables_1_5) 198 (by decide +kernel) gs5
theorem lk_RX12_50 : Cond.fieldLink RX12 50 (TX12 26).1 (TX12 26).2.1 (TX12 26).2.2.1 ∈ gBIG := gm_at (l := tables_1_5) 200 (by decide +kernel) gs5
theorem lk_RX12_53 : Cond.fieldLink RX12 53 (TX12 28).1 (TX12 28).2.1 (TX12 28).2.2.1 ∈ gBIG := gm_at (l := tables_1_5) 202 (by decide +kernel) gs5
theorem lk_RX12_56 : Cond.fieldLink RX12 56 (TX12 29).1 (TX12 29).2.1 (TX12 29).2.2.1 ∈ gBIG := gm_at (l := tables_1_5) 203 (by decide +kernel) gs5
theorem lk_RX12_59 : Cond.fieldLink RX12 59 (TX12 30).1 (TX12 30).2.1 (TX12 30).2.2.1 ∈ gBIG := gm_at (l := tables_1_5) 204 (by decide +kernel) gs5
theorem lk_RX12_62 : Cond.fieldLink RX12 62 (TX12 31).1 (TX12 31).2.1 (TX12 31).2.2.1 ∈ gBIG := gm_at (l := tables_1_5) 205 (by decide +kernel) gs5
theorem lk_RX12_65 : Cond.fieldLink RX12 65 (TX12 32).1 (TX12 32).2.1 (TX12 32).2.2.1 ∈ gBIG := gm_at (l := tables_1_5) 206 (by decide +kernel) gs5
theorem lk_RX12_68 : Cond.fieldLink RX12 68 (TX12 33).1 (TX12 33).2.1 (TX12 33).2.2.1 ∈ gBIG := gm_at (l := tables_1_5) 207 (by decide +kernel) gs5
theorem lk_RX4_9 : Cond.fieldLink RX4 9 (TX4 1).1 (TX4 1).2.1 (TX4 1).2.2.1 ∈ gBIG := gm_at (l := tables_1_1) 192 (by decide +kernel) gs1
theorem lk_RX4_15 : Cond.fieldLink RX4 15 (TX4 2).1 (TX4 2).2.1 (TX4 2).2.2.1 ∈ gBIG := gm_at (l := tables_1_1) 194 (by decide +kernel) gs1
theorem lk_RX4_18 : Cond.fieldLink RX4 18 (TX4 3).1 (TX4 3).2.1 (TX4 3).2.2.1 ∈ gBIG := gm_at (l := tables_1_1) 196 (by decide +kernel) gs1
theorem lk_RX4_21 : Cond.fieldLink RX4 21 (TX4 0).1 (TX4 0).2.1 (TX4 0).2.2.1 ∈ gBIG := gm_at (l := tables_1_1) 191 (by decide +kernel) gs1
theorem lk_RX5_9 : Cond.fieldLink RX5 9 (TX5 0).1 (TX5 0).2.1 (TX5 0).2.2.1 ∈ gBIG := gm_at (l := tables_1_1) 215 (by decide +kernel) gs1
theorem lk_RX5_18 : Cond.fieldLink RX5 18 (TX5 2).1 (TX5 2).2.1 (TX5 2).2.2.1 ∈ gBIG := gm_at (l := tables_1_1) 218 (by decide +kernel) gs1
theorem lk_RX5_22 : Cond.fieldLink RX5 22 (TX5 12).1 (TX5 12).2.1 (TX5 12).2.2.1 ∈ gBIG := gm_at (l := tables_1_1) 229 (by decide +kernel) gs1
theorem lk_RX5_26 : Cond.fieldLink RX5 26 (TX5 13).1 (TX5 13).2.1 (TX5 13).2.2.1 ∈ gBIG := gm_at (l := tables_1_1) 230 (by decide +kernel) gs1
theorem lk_RX5_29 : Cond.fieldLink RX5 29 (TX5 14).1 (TX5 14).2.1 (TX5 14).2.2.1 ∈ gBIG := gm_at (l := tables_1_1) 231 (by decide +kernel) gs1
theorem lk_RX6_9 : Cond.fieldLink RX6 9 (TX6 2).1 (TX6 2).2.1 (TX6 2).2.2.1 ∈ gBIG := gm_at (l := tables_1_1) 91 (by decide +kernel) gs1
theorem lk_RX6_15 : Cond.fieldLink RX6 15 (TX6 3).1 (TX6 3).2.1 (TX6 3).2.2.1 ∈ gBIG := gm_at (l := tables_1_1) 92 (by decide +kernel) gs1
theorem lk_RX6_18 : Cond.fieldLink RX6 18 (TX6 4).1 (TX6 4).2.1 (TX6 4).2.2.1 ∈ gBIG := gm_at (l := tables_1_1) 93 (by decide +kernel) gs1
theorem lk_RX6_21 : Cond.fieldLink RX6 21 (TX6 5).1 (TX6 5).2.1 (TX6 5).2.2.1 ∈ gBIG := gm_at (l := tables_1_1) 94 (by decide +kernel) gs1
theorem wd_0 : Cond.methodLink RX11 1 objectInit ∈ gBIG := gm_at (l := tables_1_1) 26 (by decide +kernel) gs1
theorem wd_1 : Cond.instanceMethod objectInit ∈ gBIG := gm_at (l := tables_1_1) 27 (by decide +kernel) gs1
theorem wd_2 : Cond.code objectInit ⟨#[0xb1]⟩ 1 none ∈ gBIG := gm_at (l := tables_1_1) 28 (by decide +kernel) gs1
theorem wd_3 : Cond.arrayClass .int ∈ gBIG := gm_at (l := tables_1_1) 39 (by decide +kernel) gs1
theorem wd_4 : Cond.classLink RX11 19 "[[I" ∈ gBIG := gm_at (l := tables_1_1) 29 (by decide +kernel) gs1
theorem wd_5 : Cond.classLink RX11 33 "IceKeys$Key" ∈ gBIG := gm_at (l := tables_1_1) 31 (by decide +kernel) gs1
theorem wd_6 : Cond.classLink RX11 33 RX3 ∈ gBIG := gm_at (l := tables_1_1) 31 (by decide +kernel) gs1
theorem wd_7 : Cond.instantiable RX3 0 ∈ gBIG := gm_at (l := tables_1_1) 33 (by decide +kernel) gs1
theorem wd_8 : Cond.initialized RX3 ∈ gBIG := gm_at (l := tables_1_1) 2 (by decide +kernel) gs1
theorem wd_9 : Cond.methodLink RX3 1 objectInit ∈ gBIG := gm_at (l := tables_1_1) 37 (by decide +kernel) gs1
theorem wd_10 : Cond.code yX3_init cX3_init 1 none ∈ gBIG := gm_at (l := tables_1_1) 36 (by decide +kernel) gs1
theorem wd_11 : Cond.instanceMethod yX3_init ∈ gBIG := gm_at (l := tables_1_1) 35 (by decide +kernel) gs1
theorem wd_12 : Cond.classLink RX11 36 RX2 ∈ gBIG := gm_at (l := tables_1_1) 40 (by decide +kernel) gs1
theorem wd_13 : Cond.instantiable RX2 0 ∈ gBIG := gm_at (l := tables_1_1) 41 (by decide +kernel) gs1
theorem wd_14 : Cond.initialized RX2 ∈ gBIG := gm_at (l := tables_1_1) 3 (by decide +kernel) gs1
theorem wd_15 : Cond.code yX2_init cX2_init 1 none ∈ gBIG := gm_at (l := tables_1_1) 44 (by decide +kernel) gs1
theorem wd_16 : Cond.instanceMethod yX2_init ∈ gBIG := gm_at (l := tables_1_1) 43 (by decide +kernel) gs1
theorem wd_17 : Cond.classLink RX11 39 RX8 ∈ gBIG := gm_at (l := tables_1_1) 47 (by decide +kernel) gs1
theorem wd_18 : Cond.instantiable RX8 0 ∈ gBIG := gm_at (l := tables_1_1) 48 (by decide +kernel) gs1
theorem wd_19 : Cond.initialized RX8 ∈ gBIG := gm_at (l := tables_1_1) 4 (by decide +kernel) gs1
theorem wd_20 : Cond.code yX8_init cX8_init 1 none ∈ gBIG := gm_at (l := tables_1_1) 51 (by decide +kernel) gs1
theorem wd_21 : Cond.instanceMethod yX8_init ∈ gBIG := gm_at (l := tables_1_1) 50 (by decide +kernel) gs1
theorem wd_22 : Cond.classLink RX11 42 RX10 ∈ gBIG := gm_at (l := tables_1_1) 54 (by decide +kernel) gs1
theorem wd_23 : Cond.instantiable RX10 0 ∈ gBIG := gm_at (l := tables_1_1) 55 (by decide +kernel) gs1
theorem wd_24 : Cond.initialized RX10 ∈ gBIG := gm_at (l := tables_1_1) 5 (by decide +kernel) gs1
theorem wd_25 : Cond.code yX10_init cX10_init 1 none ∈ gBIG := gm_at (l := tables_1_1) 58 (by decide +kernel) gs1
theorem wd_26 : Cond.instanceMethod yX10_init ∈ gBIG := gm_at (l := tables_1_1) 57 (by decide +kernel) gs1
theorem wd_27 : Cond.classLink RX11 45 RX7 ∈ gBIG := gm_at (l := tables_1_1) 61 (by decide +kernel) gs1
theorem wd_28 : Cond.instantiable RX7 0 ∈ gBIG := gm_at (l := tables_1_1) 62 (by decide +kernel) gs1
theorem wd_29 : Cond.initialized RX7 ∈ gBIG := gm_at (l := tables_1_1) 6 (by decide +kernel) gs1
theorem wd_30 : Cond.code yX7_init cX7_init 1 none ∈ gBIG := gm_at (l := tables_1_1) 65 (by decide +kernel) gs1
theorem wd_31 : Cond.instanceMethod yX7_init ∈ gBIG := gm_at (l := tables_1_1) 64 (by decide +kernel) gs1
theorem wd_32 : Cond.classLink RX11 48 RX9 ∈ gBIG := gm_at (l := tables_1_1) 68 (by decide +kernel) gs1
theorem wd_33 : Cond.instantiable RX9 0 ∈ gBIG := gm_at (l := tables_1_1) 69 (by decide +kernel) gs1
theorem wd_34 : Cond.initialized RX9 ∈ gBIG := gm_at (l := tables_1_1) 7 (by decide +kernel) gs1
theorem wd_35 : Cond.code yX9_init cX9_init 1 none ∈ gBIG := gm_at (l := tables_1_1) 72 (by decide +kernel) gs1
theorem wd_36 : Cond.instanceMethod yX9_init ∈ gBIG := gm_at (l := tables_1_1) 71 (by decide +kernel) gs1
theorem wd_37 : Cond.classLink RX11 51 RX1 ∈ gBIG := gm_at (l := tables_1_1) 75 (by decide +kernel) gs1
theorem wd_38 : Cond.instantiable RX1 19 ∈ gBIG := gm_at (l := tables_1_1) 76 (by decide +kernel) gs1
theorem wd_39 : Cond.initialized RX1 ∈ gBIG := gm_at (l := tables_1_1) 8 (by decide +kernel) gs1
theorem wd_40 : Cond.methodLink RX1 3 objectInit ∈ gBIG := gm_at (l := tables_1_1) 80 (by decide +kernel) gs1
theorem wd_41 : Cond.classLink RX1 40 RX6 ∈ gBIG := gm_at (l := tables_1_1) 81 (by decide +kernel) gs1
theorem wd_42 : Cond.instantiable RX6 6 ∈ gBIG := gm_at (l := tables_1_1) 82 (by decide +kernel) gs1
theorem wd_43 : Cond.initialized RX6 ∈ gBIG := gm_at (l := tables_1_1) 9 (by decide +kernel) gs1
theorem wd_44 : Cond.methodLink RX6 3 objectInit ∈ gBIG := gm_at (l := tables_1_1) 86 (by decide +kernel) gs1
theorem wd_45 : Cond.code yX6_init cX6_init 1 none ∈ gBIG := gm_at (l := tables_1_1) 85 (by decide +kernel) gs1
theorem wd_46 : Cond.instanceMethod yX6_init ∈ gBIG := gm_at (l := tables_1_1) 84 (by decide +kernel) gs1
theorem wd_47 : Cond.code yX1_init cX1_init 3 none ∈ gBIG := gm_at (l := tables_1_1) 79 (by decide +kernel) gs1
theorem wd_48 : Cond.methodLink RX11 53 yX1_init ∈ gBIG := gm_at (l := tables_1_1) 77 (by decide +kernel) gs1
theorem wd_49 : Cond.instanceMethod yX1_init ∈ gBIG := gm_at (l := tables_1_1) 78 (by decide +kernel) gs1
theorem wd_50 : Cond.classLink RX11 63 RX4 ∈ gBIG := gm_at (l := tables_1_1) 185 (by decide +kernel) gs1
theorem wd_51 : Cond.instantiable RX4 4 ∈ gBIG := gm_at (l := tables_1_1) 186 (by decide +kernel) gs1
theorem wd_52 : Cond.initialized RX4 ∈ gBIG := gm_at (l := tables_1_1) 10 (by decide +kernel) gs1
theorem wd_53 : Cond.methodLink RX4 3 objectInit ∈ gBIG := gm_at (l := tables_1_1) 190 (by decide +kernel) gs1
theorem wd_54 : Cond.code yX4_init cX4_init 2 none ∈ gBIG := gm_at (l := tables_1_1) 189 (by decide +kernel) gs1
theorem wd_55 : Cond.methodLink RX11 65 yX4_init ∈ gBIG := gm_at (l := tables_1_1) 187 (by decide +kernel) gs1
theorem wd_56 : Cond.instanceMethod yX4_init ∈ gBIG := gm_at (l := tables_1_1) 188 (by decide +kernel) gs1
theorem wd_57 : Cond.classLink RX11 72 RX5 ∈ gBIG := gm_at (l := tables_1_1) 207 (by decide +kernel) gs1
theorem wd_58 : Cond.instantiable RX5 15 ∈ gBIG := gm_at (l := tables_1_1) 208 (by decide +kernel) gs1
theorem wd_59 : Cond.initialized RX5 ∈ gBIG := gm_at (l := tables_1_1) 11 (by decide +kernel) gs1
theorem wd_60 : Cond.methodLink RX5 3 objectInit ∈ gBIG := gm_at (l := tables_1_1) 212 (by decide +kernel) gs1
theorem wd_61 : Cond.classLink RX5 15 RX6 ∈ gBIG := gm_at (l := tables_1_1) 213 (by decide +kernel) gs1
theorem wd_62 : Cond.arrayClass .boolean ∈ gBIG := gm_at (l := tables_1_2) 23 (by decide +kernel) gs2
theorem wd_63 : Cond.code yX5_init cX5_init 1 none ∈ gBIG := gm_at (l := tables_1_1) 211 (by decide +kernel) gs1
theorem wd_64 : Cond.instanceMethod yX5_init ∈ gBIG := gm_at (l := tables_1_1) 210 (by decide +kernel) gs1
theorem wd_65 : Cond.classLink RX11 79 RX0 ∈ gBIG := gm_at (l := tables_1_2) 24 (by decide +kernel) gs2
theorem wd_66 : Cond.instantiable RX0 5 ∈ gBIG := gm_at (l := tables_1_2) 25 (by decide +kernel) gs2
theorem wd_67 : Cond.initialized RX0 ∈ gBIG := gm_at (l := tables_1_1) 12 (by decide +kernel) gs1
theorem wd_68 : Cond.methodLink RX0 3 objectInit ∈ gBIG := gm_at (l := tables_1_2) 29 (by decide +kernel) gs2
theorem wd_69 : Cond.code yX0_init cX0_init 1 none ∈ gBIG := gm_at (l := tables_1_2) 28 (by decide +kernel) gs2
theorem wd_70 : Cond.instanceMethod yX0_init ∈ gBIG := gm_at (l := tables_1_2) 27 (by decide +kernel) gs2
theorem wd_71 : Cond.methodLink RX12 1 objectInit ∈ gBIG := gm_at (l := tables_1_5) 173 (by decide +kernel) gs5
theorem wd_72 : Cond.arrayClass .char ∈ gBIG := gm_at (l := tables_1_6) 46 (by decide +kernel) gs6
theorem cm_X3_init : gcm mX3_init 0 := ⟨wd_10, wd_8, by decide, by decide, by decide, by decide +kernel, by decide⟩
theorem cm_X2_init : gcm mX2_init 0 := ⟨wd_15, wd_14, by decide, by decide, by decide, by decide +kernel, by decide⟩
theorem cm_X8_init : gcm mX8_init 0 := ⟨wd_20, wd_19, by decide, by decide, by decide, by decide +kernel, by decide⟩
theorem cm_X10_init : gcm mX10_init 0 := ⟨wd_25, wd_24, by decide, by decide, by decide, by decide +kernel, by decide⟩
theorem cm_X7_init : gcm mX7_init 0 := ⟨wd_30, wd_29, by decide, by decide, by decide, by decide +kernel, by decide⟩
theorem cm_X9_init : gcm mX9_init 0 := ⟨wd_35, wd_34, by decide, by decide, by decide, by decide +kernel, by decide⟩
theorem cm_X6_init : gcm mX6_init 0 := ⟨wd_45, wd_43, by decide, by decide, by decide, by decide +kernel, by decide⟩
theorem cm_X1_init : gcm mX1_init 1 := ⟨wd_47, wd_39, by decide, by decide, by decide, by decide +kernel, by decide⟩
theorem cm_X4_init : gcm mX4_init 1 := ⟨wd_54, wd_52, by decide, by decide, by decide, by decide +kernel, by decide⟩
theorem cm_X5_init : gcm mX5_init 0 := ⟨wd_63, wd_59, by decide, by decide, by decide, by decide +kernel, by decide⟩
theorem cm_X0_init : gcm mX0_init 0 := ⟨wd_69, wd_67, by decide, by decide, by decide, by decide +kernel, by decide⟩
