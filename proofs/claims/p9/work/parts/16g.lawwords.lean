theorem wl_0 : Cond.code yX11_key cX11_key 6 (some .int) ∈ gBIG := gm_at (l := tables_1_2) 99 (by decide +kernel) gs2
theorem wl_1 : Cond.initialized RX11 ∈ gBIG := gm_at (l := tables_1_1) 1 (by decide +kernel) gs1
theorem wl_2 : Cond.methodLink R_law 13 yX11_key ∈ gBIG := gm_at (l := tables_1_2) 96 (by decide +kernel) gs2
theorem wl_3 : Cond.instanceMethod yX11_key ∈ gBIG := gm_at (l := tables_1_2) 97 (by decide +kernel) gs2
theorem wl_4 : Cond.selects RX11 yX11_key yX11_key ∈ gBIG := gm_at (l := tables_1_2) 98 (by decide +kernel) gs2
theorem wl_5 : Cond.code yX12_key cX12_key 6 (some .int) ∈ gBIG := gm_at (l := tables_1_6) 118 (by decide +kernel) gs6
theorem wl_6 : Cond.initialized RX12 ∈ gBIG := gm_at (l := tables_1_1) 13 (by decide +kernel) gs1
theorem wl_7 : Cond.methodLink R_law 17 yX12_key ∈ gBIG := gm_at (l := tables_1_6) 115 (by decide +kernel) gs6
theorem wl_8 : Cond.instanceMethod yX12_key ∈ gBIG := gm_at (l := tables_1_6) 116 (by decide +kernel) gs6
theorem wl_9 : Cond.selects RX12 yX12_key yX12_key ∈ gBIG := gm_at (l := tables_1_6) 117 (by decide +kernel) gs6
theorem wl_10 : Cond.code yX11_keyOf cX11_keyOf 3 (some .int) ∈ gBIG := gm_at (l := tables_1_2) 112 (by decide +kernel) gs2
theorem wl_11 : Cond.methodLink R_law 18 yX11_keyOf ∈ gBIG := gm_at (l := tables_1_2) 109 (by decide +kernel) gs2
theorem wl_12 : Cond.instanceMethod yX11_keyOf ∈ gBIG := gm_at (l := tables_1_2) 110 (by decide +kernel) gs2
theorem wl_13 : Cond.selects RX11 yX11_keyOf yX11_keyOf ∈ gBIG := gm_at (l := tables_1_2) 111 (by decide +kernel) gs2
theorem wl_14 : Cond.code yX12_keyOf cX12_keyOf 3 (some .int) ∈ gBIG := gm_at (l := tables_1_6) 132 (by decide +kernel) gs6
theorem wl_15 : Cond.methodLink R_law 22 yX12_keyOf ∈ gBIG := gm_at (l := tables_1_6) 129 (by decide +kernel) gs6
theorem wl_16 : Cond.instanceMethod yX12_keyOf ∈ gBIG := gm_at (l := tables_1_6) 130 (by decide +kernel) gs6
theorem wl_17 : Cond.selects RX12 yX12_keyOf yX12_keyOf ∈ gBIG := gm_at (l := tables_1_6) 131 (by decide +kernel) gs6
theorem wl_18 : Cond.code yX11_change cX11_change 4 (some .int) ∈ gBIG := gm_at (l := tables_1_3) 2 (by decide +kernel) gs3
theorem wl_19 : Cond.methodLink R_law 23 yX11_change ∈ gBIG := gm_at (l := tables_1_2) 239 (by decide +kernel) gs2
theorem wl_20 : Cond.instanceMethod yX11_change ∈ gBIG := gm_at (l := tables_1_3) 0 (by decide +kernel) gs3
theorem wl_21 : Cond.selects RX11 yX11_change yX11_change ∈ gBIG := gm_at (l := tables_1_3) 1 (by decide +kernel) gs3
theorem wl_22 : Cond.code yX12_change cX12_change 5 (some .int) ∈ gBIG := gm_at (l := tables_1_6) 202 (by decide +kernel) gs6
theorem wl_23 : Cond.methodLink R_law 27 yX12_change ∈ gBIG := gm_at (l := tables_1_6) 199 (by decide +kernel) gs6
theorem wl_24 : Cond.instanceMethod yX12_change ∈ gBIG := gm_at (l := tables_1_6) 200 (by decide +kernel) gs6
theorem wl_25 : Cond.selects RX12 yX12_change yX12_change ∈ gBIG := gm_at (l := tables_1_6) 201 (by decide +kernel) gs6
theorem wl_26 : Cond.code yX11_remake cX11_remake 4 (some .int) ∈ gBIG := gm_at (l := tables_1_3) 17 (by decide +kernel) gs3
theorem wl_27 : Cond.methodLink R_law 28 yX11_remake ∈ gBIG := gm_at (l := tables_1_3) 14 (by decide +kernel) gs3
theorem wl_28 : Cond.instanceMethod yX11_remake ∈ gBIG := gm_at (l := tables_1_3) 15 (by decide +kernel) gs3
theorem wl_29 : Cond.selects RX11 yX11_remake yX11_remake ∈ gBIG := gm_at (l := tables_1_3) 16 (by decide +kernel) gs3
theorem wl_30 : Cond.code yX12_remake cX12_remake 3 (some .int) ∈ gBIG := gm_at (l := tables_1_6) 210 (by decide +kernel) gs6
theorem wl_31 : Cond.methodLink R_law 31 yX12_remake ∈ gBIG := gm_at (l := tables_1_6) 207 (by decide +kernel) gs6
theorem wl_32 : Cond.instanceMethod yX12_remake ∈ gBIG := gm_at (l := tables_1_6) 208 (by decide +kernel) gs6
theorem wl_33 : Cond.selects RX12 yX12_remake yX12_remake ∈ gBIG := gm_at (l := tables_1_6) 209 (by decide +kernel) gs6
theorem wl_34 : Cond.code yX11_sun cX11_sun 3 (some .int) ∈ gBIG := gm_at (l := tables_1_3) 21 (by decide +kernel) gs3
theorem wl_35 : Cond.methodLink R_law 32 yX11_sun ∈ gBIG := gm_at (l := tables_1_3) 18 (by decide +kernel) gs3
theorem wl_36 : Cond.instanceMethod yX11_sun ∈ gBIG := gm_at (l := tables_1_3) 19 (by decide +kernel) gs3
theorem wl_37 : Cond.selects RX11 yX11_sun yX11_sun ∈ gBIG := gm_at (l := tables_1_3) 20 (by decide +kernel) gs3
theorem wl_38 : Cond.code yX12_sun cX12_sun 3 (some .int) ∈ gBIG := gm_at (l := tables_1_6) 214 (by decide +kernel) gs6
theorem wl_39 : Cond.methodLink R_law 35 yX12_sun ∈ gBIG := gm_at (l := tables_1_6) 211 (by decide +kernel) gs6
theorem wl_40 : Cond.instanceMethod yX12_sun ∈ gBIG := gm_at (l := tables_1_6) 212 (by decide +kernel) gs6
theorem wl_41 : Cond.selects RX12 yX12_sun yX12_sun ∈ gBIG := gm_at (l := tables_1_6) 213 (by decide +kernel) gs6
theorem wl_42 : Cond.code yX11_gate cX11_gate 4 (some .int) ∈ gBIG := gm_at (l := tables_1_3) 25 (by decide +kernel) gs3
theorem wl_43 : Cond.methodLink R_law 36 yX11_gate ∈ gBIG := gm_at (l := tables_1_3) 22 (by decide +kernel) gs3
theorem wl_44 : Cond.instanceMethod yX11_gate ∈ gBIG := gm_at (l := tables_1_3) 23 (by decide +kernel) gs3
theorem wl_45 : Cond.selects RX11 yX11_gate yX11_gate ∈ gBIG := gm_at (l := tables_1_3) 24 (by decide +kernel) gs3
theorem wl_46 : Cond.code yX12_gate cX12_gate 4 (some .int) ∈ gBIG := gm_at (l := tables_1_6) 218 (by decide +kernel) gs6
theorem wl_47 : Cond.methodLink R_law 39 yX12_gate ∈ gBIG := gm_at (l := tables_1_6) 215 (by decide +kernel) gs6
theorem wl_48 : Cond.instanceMethod yX12_gate ∈ gBIG := gm_at (l := tables_1_6) 216 (by decide +kernel) gs6
theorem wl_49 : Cond.selects RX12 yX12_gate yX12_gate ∈ gBIG := gm_at (l := tables_1_6) 217 (by decide +kernel) gs6
theorem wl_50 : Cond.code yX11_gateOf cX11_gateOf 3 (some .int) ∈ gBIG := gm_at (l := tables_1_3) 29 (by decide +kernel) gs3
theorem wl_51 : Cond.methodLink R_law 40 yX11_gateOf ∈ gBIG := gm_at (l := tables_1_3) 26 (by decide +kernel) gs3
theorem wl_52 : Cond.instanceMethod yX11_gateOf ∈ gBIG := gm_at (l := tables_1_3) 27 (by decide +kernel) gs3
theorem wl_53 : Cond.selects RX11 yX11_gateOf yX11_gateOf ∈ gBIG := gm_at (l := tables_1_3) 28 (by decide +kernel) gs3
theorem wl_54 : Cond.code yX12_gateOf cX12_gateOf 3 (some .int) ∈ gBIG := gm_at (l := tables_1_6) 222 (by decide +kernel) gs6
theorem wl_55 : Cond.methodLink R_law 43 yX12_gateOf ∈ gBIG := gm_at (l := tables_1_6) 219 (by decide +kernel) gs6
theorem wl_56 : Cond.instanceMethod yX12_gateOf ∈ gBIG := gm_at (l := tables_1_6) 220 (by decide +kernel) gs6
theorem wl_57 : Cond.selects RX12 yX12_gateOf yX12_gateOf ∈ gBIG := gm_at (l := tables_1_6) 221 (by decide +kernel) gs6
theorem wl_58 : Cond.code yX11_ends cX11_ends 3 (some .int) ∈ gBIG := gm_at (l := tables_1_3) 33 (by decide +kernel) gs3
theorem wl_59 : Cond.methodLink R_law 44 yX11_ends ∈ gBIG := gm_at (l := tables_1_3) 30 (by decide +kernel) gs3
theorem wl_60 : Cond.instanceMethod yX11_ends ∈ gBIG := gm_at (l := tables_1_3) 31 (by decide +kernel) gs3
theorem wl_61 : Cond.selects RX11 yX11_ends yX11_ends ∈ gBIG := gm_at (l := tables_1_3) 32 (by decide +kernel) gs3
theorem wl_62 : Cond.code yX12_ends cX12_ends 2 (some .int) ∈ gBIG := gm_at (l := tables_1_6) 226 (by decide +kernel) gs6
theorem wl_63 : Cond.methodLink R_law 48 yX12_ends ∈ gBIG := gm_at (l := tables_1_6) 223 (by decide +kernel) gs6
theorem wl_64 : Cond.instanceMethod yX12_ends ∈ gBIG := gm_at (l := tables_1_6) 224 (by decide +kernel) gs6
theorem wl_65 : Cond.selects RX12 yX12_ends yX12_ends ∈ gBIG := gm_at (l := tables_1_6) 225 (by decide +kernel) gs6
theorem wl_66 : Cond.code yX11_anew cX11_anew 2 (some .int) ∈ gBIG := gm_at (l := tables_1_3) 37 (by decide +kernel) gs3
theorem wl_67 : Cond.methodLink R_law 49 yX11_anew ∈ gBIG := gm_at (l := tables_1_3) 34 (by decide +kernel) gs3
theorem wl_68 : Cond.instanceMethod yX11_anew ∈ gBIG := gm_at (l := tables_1_3) 35 (by decide +kernel) gs3
theorem wl_69 : Cond.selects RX11 yX11_anew yX11_anew ∈ gBIG := gm_at (l := tables_1_3) 36 (by decide +kernel) gs3
theorem wl_70 : Cond.code yX12_anew cX12_anew 2 (some .int) ∈ gBIG := gm_at (l := tables_1_6) 230 (by decide +kernel) gs6
theorem wl_71 : Cond.methodLink R_law 53 yX12_anew ∈ gBIG := gm_at (l := tables_1_6) 227 (by decide +kernel) gs6
theorem wl_72 : Cond.instanceMethod yX12_anew ∈ gBIG := gm_at (l := tables_1_6) 228 (by decide +kernel) gs6
theorem wl_73 : Cond.selects RX12 yX12_anew yX12_anew ∈ gBIG := gm_at (l := tables_1_6) 229 (by decide +kernel) gs6
theorem wl_74 : Cond.code yX11_state cX11_state 2 (some .int) ∈ gBIG := gm_at (l := tables_1_3) 41 (by decide +kernel) gs3
theorem wl_75 : Cond.methodLink R_law 54 yX11_state ∈ gBIG := gm_at (l := tables_1_3) 38 (by decide +kernel) gs3
theorem wl_76 : Cond.instanceMethod yX11_state ∈ gBIG := gm_at (l := tables_1_3) 39 (by decide +kernel) gs3
theorem wl_77 : Cond.selects RX11 yX11_state yX11_state ∈ gBIG := gm_at (l := tables_1_3) 40 (by decide +kernel) gs3
theorem wl_78 : Cond.code yX12_state cX12_state 2 (some .int) ∈ gBIG := gm_at (l := tables_1_6) 234 (by decide +kernel) gs6
theorem wl_79 : Cond.methodLink R_law 57 yX12_state ∈ gBIG := gm_at (l := tables_1_6) 231 (by decide +kernel) gs6
theorem wl_80 : Cond.instanceMethod yX12_state ∈ gBIG := gm_at (l := tables_1_6) 232 (by decide +kernel) gs6
theorem wl_81 : Cond.selects RX12 yX12_state yX12_state ∈ gBIG := gm_at (l := tables_1_6) 233 (by decide +kernel) gs6
theorem wl_82 : Cond.code yX11_feed cX11_feed 5 (some .int) ∈ gBIG := gm_at (l := tables_1_3) 54 (by decide +kernel) gs3
theorem wl_83 : Cond.methodLink R_law 60 yX11_feed ∈ gBIG := gm_at (l := tables_1_3) 51 (by decide +kernel) gs3
theorem wl_84 : Cond.instanceMethod yX11_feed ∈ gBIG := gm_at (l := tables_1_3) 52 (by decide +kernel) gs3
theorem wl_85 : Cond.selects RX11 yX11_feed yX11_feed ∈ gBIG := gm_at (l := tables_1_3) 53 (by decide +kernel) gs3
theorem wl_86 : Cond.code yX12_feed cX12_feed 5 (some .int) ∈ gBIG := gm_at (l := tables_1_6) 50 (by decide +kernel) gs6
theorem wl_87 : Cond.methodLink R_law 64 yX12_feed ∈ gBIG := gm_at (l := tables_1_6) 47 (by decide +kernel) gs6
theorem wl_88 : Cond.instanceMethod yX12_feed ∈ gBIG := gm_at (l := tables_1_6) 48 (by decide +kernel) gs6
theorem wl_89 : Cond.selects RX12 yX12_feed yX12_feed ∈ gBIG := gm_at (l := tables_1_6) 49 (by decide +kernel) gs6
theorem wl_90 : Cond.code yX11_rules cX11_rules 2 (some .int) ∈ gBIG := gm_at (l := tables_1_3) 62 (by decide +kernel) gs3
theorem wl_91 : Cond.methodLink R_law 65 yX11_rules ∈ gBIG := gm_at (l := tables_1_3) 59 (by decide +kernel) gs3
theorem wl_92 : Cond.instanceMethod yX11_rules ∈ gBIG := gm_at (l := tables_1_3) 60 (by decide +kernel) gs3
theorem wl_93 : Cond.selects RX11 yX11_rules yX11_rules ∈ gBIG := gm_at (l := tables_1_3) 61 (by decide +kernel) gs3
theorem wl_94 : Cond.code yX12_rules cX12_rules 4 (some .int) ∈ gBIG := gm_at (l := tables_1_6) 58 (by decide +kernel) gs6
theorem wl_95 : Cond.methodLink R_law 68 yX12_rules ∈ gBIG := gm_at (l := tables_1_6) 55 (by decide +kernel) gs6
theorem wl_96 : Cond.instanceMethod yX12_rules ∈ gBIG := gm_at (l := tables_1_6) 56 (by decide +kernel) gs6
theorem wl_97 : Cond.selects RX12 yX12_rules yX12_rules ∈ gBIG := gm_at (l := tables_1_6) 57 (by decide +kernel) gs6
theorem wl_98 : Cond.code yX11_halt cX11_halt 1 (some .int) ∈ gBIG := gm_at (l := tables_1_3) 221 (by decide +kernel) gs3
theorem wl_99 : Cond.methodLink R_law 69 yX11_halt ∈ gBIG := gm_at (l := tables_1_3) 218 (by decide +kernel) gs3
theorem wl_100 : Cond.instanceMethod yX11_halt ∈ gBIG := gm_at (l := tables_1_3) 219 (by decide +kernel) gs3
theorem wl_101 : Cond.selects RX11 yX11_halt yX11_halt ∈ gBIG := gm_at (l := tables_1_3) 220 (by decide +kernel) gs3
theorem wl_102 : Cond.code yX12_halt cX12_halt 1 (some .int) ∈ gBIG := gm_at (l := tables_1_7) 10 (by decide +kernel) gs7
theorem wl_103 : Cond.methodLink R_law 72 yX12_halt ∈ gBIG := gm_at (l := tables_1_7) 7 (by decide +kernel) gs7
theorem wl_104 : Cond.instanceMethod yX12_halt ∈ gBIG := gm_at (l := tables_1_7) 8 (by decide +kernel) gs7
theorem wl_105 : Cond.selects RX12 yX12_halt yX12_halt ∈ gBIG := gm_at (l := tables_1_7) 9 (by decide +kernel) gs7
theorem wl_106 : Cond.code yX11_on cX11_on 3 (some .int) ∈ gBIG := gm_at (l := tables_1_4) 9 (by decide +kernel) gs4
theorem wl_107 : Cond.methodLink R_law 73 yX11_on ∈ gBIG := gm_at (l := tables_1_4) 6 (by decide +kernel) gs4
theorem wl_108 : Cond.instanceMethod yX11_on ∈ gBIG := gm_at (l := tables_1_4) 7 (by decide +kernel) gs4
theorem wl_109 : Cond.selects RX11 yX11_on yX11_on ∈ gBIG := gm_at (l := tables_1_4) 8 (by decide +kernel) gs4
theorem wl_110 : Cond.code yX12_on cX12_on 3 (some .int) ∈ gBIG := gm_at (l := tables_1_7) 33 (by decide +kernel) gs7
theorem wl_111 : Cond.methodLink R_law 76 yX12_on ∈ gBIG := gm_at (l := tables_1_7) 30 (by decide +kernel) gs7
theorem wl_112 : Cond.instanceMethod yX12_on ∈ gBIG := gm_at (l := tables_1_7) 31 (by decide +kernel) gs7
theorem wl_113 : Cond.selects RX12 yX12_on yX12_on ∈ gBIG := gm_at (l := tables_1_7) 32 (by decide +kernel) gs7
theorem wl_114 : Cond.code yX11_when cX11_when 5 (some .int) ∈ gBIG := gm_at (l := tables_1_4) 28 (by decide +kernel) gs4
theorem wl_115 : Cond.methodLink R_law 77 yX11_when ∈ gBIG := gm_at (l := tables_1_4) 25 (by decide +kernel) gs4
theorem wl_116 : Cond.instanceMethod yX11_when ∈ gBIG := gm_at (l := tables_1_4) 26 (by decide +kernel) gs4
theorem wl_117 : Cond.selects RX11 yX11_when yX11_when ∈ gBIG := gm_at (l := tables_1_4) 27 (by decide +kernel) gs4
theorem wl_118 : Cond.code yX12_when cX12_when 5 (some .int) ∈ gBIG := gm_at (l := tables_1_7) 49 (by decide +kernel) gs7
theorem wl_119 : Cond.methodLink R_law 80 yX12_when ∈ gBIG := gm_at (l := tables_1_7) 46 (by decide +kernel) gs7
theorem wl_120 : Cond.instanceMethod yX12_when ∈ gBIG := gm_at (l := tables_1_7) 47 (by decide +kernel) gs7
theorem wl_121 : Cond.selects RX12 yX12_when yX12_when ∈ gBIG := gm_at (l := tables_1_7) 48 (by decide +kernel) gs7
theorem wl_122 : Cond.code yX11_strawFor cX11_strawFor 2 (some .int) ∈ gBIG := gm_at (l := tables_1_4) 32 (by decide +kernel) gs4
theorem wl_123 : Cond.methodLink R_law 81 yX11_strawFor ∈ gBIG := gm_at (l := tables_1_4) 29 (by decide +kernel) gs4
theorem wl_124 : Cond.instanceMethod yX11_strawFor ∈ gBIG := gm_at (l := tables_1_4) 30 (by decide +kernel) gs4
theorem wl_125 : Cond.selects RX11 yX11_strawFor yX11_strawFor ∈ gBIG := gm_at (l := tables_1_4) 31 (by decide +kernel) gs4
theorem wl_126 : Cond.code yX12_strawFor cX12_strawFor 2 (some .int) ∈ gBIG := gm_at (l := tables_1_7) 53 (by decide +kernel) gs7
theorem wl_127 : Cond.methodLink R_law 84 yX12_strawFor ∈ gBIG := gm_at (l := tables_1_7) 50 (by decide +kernel) gs7
theorem wl_128 : Cond.instanceMethod yX12_strawFor ∈ gBIG := gm_at (l := tables_1_7) 51 (by decide +kernel) gs7
theorem wl_129 : Cond.selects RX12 yX12_strawFor yX12_strawFor ∈ gBIG := gm_at (l := tables_1_7) 52 (by decide +kernel) gs7
theorem wl_130 : Cond.code yX11_gateFor cX11_gateFor 2 (some .int) ∈ gBIG := gm_at (l := tables_1_4) 40 (by decide +kernel) gs4
theorem wl_131 : Cond.methodLink R_law 85 yX11_gateFor ∈ gBIG := gm_at (l := tables_1_4) 37 (by decide +kernel) gs4
theorem wl_132 : Cond.instanceMethod yX11_gateFor ∈ gBIG := gm_at (l := tables_1_4) 38 (by decide +kernel) gs4
theorem wl_133 : Cond.selects RX11 yX11_gateFor yX11_gateFor ∈ gBIG := gm_at (l := tables_1_4) 39 (by decide +kernel) gs4
theorem wl_134 : Cond.code yX12_gateFor cX12_gateFor 2 (some .int) ∈ gBIG := gm_at (l := tables_1_7) 61 (by decide +kernel) gs7
theorem wl_135 : Cond.methodLink R_law 88 yX12_gateFor ∈ gBIG := gm_at (l := tables_1_7) 58 (by decide +kernel) gs7
theorem wl_136 : Cond.instanceMethod yX12_gateFor ∈ gBIG := gm_at (l := tables_1_7) 59 (by decide +kernel) gs7
theorem wl_137 : Cond.selects RX12 yX12_gateFor yX12_gateFor ∈ gBIG := gm_at (l := tables_1_7) 60 (by decide +kernel) gs7
theorem wl_138 : Cond.code yX11_gone cX11_gone 3 (some .int) ∈ gBIG := gm_at (l := tables_1_4) 44 (by decide +kernel) gs4
theorem wl_139 : Cond.methodLink R_law 89 yX11_gone ∈ gBIG := gm_at (l := tables_1_4) 41 (by decide +kernel) gs4
theorem wl_140 : Cond.instanceMethod yX11_gone ∈ gBIG := gm_at (l := tables_1_4) 42 (by decide +kernel) gs4
theorem wl_141 : Cond.selects RX11 yX11_gone yX11_gone ∈ gBIG := gm_at (l := tables_1_4) 43 (by decide +kernel) gs4
theorem wl_142 : Cond.code yX12_gone cX12_gone 4 (some .int) ∈ gBIG := gm_at (l := tables_1_7) 65 (by decide +kernel) gs7
theorem wl_143 : Cond.methodLink R_law 92 yX12_gone ∈ gBIG := gm_at (l := tables_1_7) 62 (by decide +kernel) gs7
theorem wl_144 : Cond.instanceMethod yX12_gone ∈ gBIG := gm_at (l := tables_1_7) 63 (by decide +kernel) gs7
theorem wl_145 : Cond.selects RX12 yX12_gone yX12_gone ∈ gBIG := gm_at (l := tables_1_7) 64 (by decide +kernel) gs7
theorem wl_146 : Cond.code yX11_opens cX11_opens 4 (some .int) ∈ gBIG := gm_at (l := tables_1_4) 48 (by decide +kernel) gs4
theorem wl_147 : Cond.methodLink R_law 93 yX11_opens ∈ gBIG := gm_at (l := tables_1_4) 45 (by decide +kernel) gs4
theorem wl_148 : Cond.instanceMethod yX11_opens ∈ gBIG := gm_at (l := tables_1_4) 46 (by decide +kernel) gs4
theorem wl_149 : Cond.selects RX11 yX11_opens yX11_opens ∈ gBIG := gm_at (l := tables_1_4) 47 (by decide +kernel) gs4
theorem wl_150 : Cond.code yX12_opens cX12_opens 4 (some .int) ∈ gBIG := gm_at (l := tables_1_7) 69 (by decide +kernel) gs7
theorem wl_151 : Cond.methodLink R_law 96 yX12_opens ∈ gBIG := gm_at (l := tables_1_7) 66 (by decide +kernel) gs7
theorem wl_152 : Cond.instanceMethod yX12_opens ∈ gBIG := gm_at (l := tables_1_7) 67 (by decide +kernel) gs7
theorem wl_153 : Cond.selects RX12 yX12_opens yX12_opens ∈ gBIG := gm_at (l := tables_1_7) 68 (by decide +kernel) gs7
theorem wl_154 : Cond.code yX11_left cX11_left 4 (some .int) ∈ gBIG := gm_at (l := tables_1_4) 53 (by decide +kernel) gs4
theorem wl_155 : Cond.methodLink R_law 97 yX11_left ∈ gBIG := gm_at (l := tables_1_4) 50 (by decide +kernel) gs4
theorem wl_156 : Cond.instanceMethod yX11_left ∈ gBIG := gm_at (l := tables_1_4) 51 (by decide +kernel) gs4
theorem wl_157 : Cond.selects RX11 yX11_left yX11_left ∈ gBIG := gm_at (l := tables_1_4) 52 (by decide +kernel) gs4
theorem wl_158 : Cond.code yX12_left cX12_left 5 (some .int) ∈ gBIG := gm_at (l := tables_1_7) 73 (by decide +kernel) gs7
theorem wl_159 : Cond.methodLink R_law 100 yX12_left ∈ gBIG := gm_at (l := tables_1_7) 70 (by decide +kernel) gs7
theorem wl_160 : Cond.instanceMethod yX12_left ∈ gBIG := gm_at (l := tables_1_7) 71 (by decide +kernel) gs7
theorem wl_161 : Cond.selects RX12 yX12_left yX12_left ∈ gBIG := gm_at (l := tables_1_7) 72 (by decide +kernel) gs7
theorem wl_162 : Cond.code yX11_bunches cX11_bunches 2 (some .int) ∈ gBIG := gm_at (l := tables_1_4) 57 (by decide +kernel) gs4
theorem wl_163 : Cond.methodLink R_law 101 yX11_bunches ∈ gBIG := gm_at (l := tables_1_4) 54 (by decide +kernel) gs4
theorem wl_164 : Cond.instanceMethod yX11_bunches ∈ gBIG := gm_at (l := tables_1_4) 55 (by decide +kernel) gs4
theorem wl_165 : Cond.selects RX11 yX11_bunches yX11_bunches ∈ gBIG := gm_at (l := tables_1_4) 56 (by decide +kernel) gs4
theorem wl_166 : Cond.code yX12_bunches cX12_bunches 5 (some .int) ∈ gBIG := gm_at (l := tables_1_7) 77 (by decide +kernel) gs7
theorem wl_167 : Cond.methodLink R_law 104 yX12_bunches ∈ gBIG := gm_at (l := tables_1_7) 74 (by decide +kernel) gs7
theorem wl_168 : Cond.instanceMethod yX12_bunches ∈ gBIG := gm_at (l := tables_1_7) 75 (by decide +kernel) gs7
theorem wl_169 : Cond.selects RX12 yX12_bunches yX12_bunches ∈ gBIG := gm_at (l := tables_1_7) 76 (by decide +kernel) gs7
theorem wl_170 : Cond.code yX11_best cX11_best 2 (some .int) ∈ gBIG := gm_at (l := tables_1_4) 83 (by decide +kernel) gs4
theorem wl_171 : Cond.methodLink R_law 105 yX11_best ∈ gBIG := gm_at (l := tables_1_4) 80 (by decide +kernel) gs4
theorem wl_172 : Cond.instanceMethod yX11_best ∈ gBIG := gm_at (l := tables_1_4) 81 (by decide +kernel) gs4
theorem wl_173 : Cond.selects RX11 yX11_best yX11_best ∈ gBIG := gm_at (l := tables_1_4) 82 (by decide +kernel) gs4
theorem wl_174 : Cond.code yX12_best cX12_best 2 (some .int) ∈ gBIG := gm_at (l := tables_1_7) 89 (by decide +kernel) gs7
theorem wl_175 : Cond.methodLink R_law 108 yX12_best ∈ gBIG := gm_at (l := tables_1_7) 86 (by decide +kernel) gs7
theorem wl_176 : Cond.instanceMethod yX12_best ∈ gBIG := gm_at (l := tables_1_7) 87 (by decide +kernel) gs7
theorem wl_177 : Cond.selects RX12 yX12_best yX12_best ∈ gBIG := gm_at (l := tables_1_7) 88 (by decide +kernel) gs7
theorem wl_178 : Cond.code yX11_ith cX11_ith 3 (some .int) ∈ gBIG := gm_at (l := tables_1_4) 108 (by decide +kernel) gs4
theorem wl_179 : Cond.methodLink R_law 109 yX11_ith ∈ gBIG := gm_at (l := tables_1_4) 105 (by decide +kernel) gs4
theorem wl_180 : Cond.instanceMethod yX11_ith ∈ gBIG := gm_at (l := tables_1_4) 106 (by decide +kernel) gs4
theorem wl_181 : Cond.selects RX11 yX11_ith yX11_ith ∈ gBIG := gm_at (l := tables_1_4) 107 (by decide +kernel) gs4
theorem wl_182 : Cond.code yX12_ith cX12_ith 3 (some .int) ∈ gBIG := gm_at (l := tables_1_7) 120 (by decide +kernel) gs7
theorem wl_183 : Cond.methodLink R_law 112 yX12_ith ∈ gBIG := gm_at (l := tables_1_7) 117 (by decide +kernel) gs7
theorem wl_184 : Cond.instanceMethod yX12_ith ∈ gBIG := gm_at (l := tables_1_7) 118 (by decide +kernel) gs7
theorem wl_185 : Cond.selects RX12 yX12_ith yX12_ith ∈ gBIG := gm_at (l := tables_1_7) 119 (by decide +kernel) gs7
theorem wl_186 : Cond.code yX11_ways cX11_ways 2 (some .int) ∈ gBIG := gm_at (l := tables_1_4) 116 (by decide +kernel) gs4
theorem wl_187 : Cond.methodLink R_law 113 yX11_ways ∈ gBIG := gm_at (l := tables_1_4) 113 (by decide +kernel) gs4
theorem wl_188 : Cond.instanceMethod yX11_ways ∈ gBIG := gm_at (l := tables_1_4) 114 (by decide +kernel) gs4
theorem wl_189 : Cond.selects RX11 yX11_ways yX11_ways ∈ gBIG := gm_at (l := tables_1_4) 115 (by decide +kernel) gs4
theorem wl_190 : Cond.code yX12_ways cX12_ways 2 (some .int) ∈ gBIG := gm_at (l := tables_1_7) 124 (by decide +kernel) gs7
theorem wl_191 : Cond.methodLink R_law 116 yX12_ways ∈ gBIG := gm_at (l := tables_1_7) 121 (by decide +kernel) gs7
theorem wl_192 : Cond.instanceMethod yX12_ways ∈ gBIG := gm_at (l := tables_1_7) 122 (by decide +kernel) gs7
theorem wl_193 : Cond.selects RX12 yX12_ways yX12_ways ∈ gBIG := gm_at (l := tables_1_7) 123 (by decide +kernel) gs7
theorem wl_194 : Cond.code yX11_order cX11_order 4 (some .int) ∈ gBIG := gm_at (l := tables_1_4) 120 (by decide +kernel) gs4
theorem wl_195 : Cond.methodLink R_law 117 yX11_order ∈ gBIG := gm_at (l := tables_1_4) 117 (by decide +kernel) gs4
theorem wl_196 : Cond.instanceMethod yX11_order ∈ gBIG := gm_at (l := tables_1_4) 118 (by decide +kernel) gs4
theorem wl_197 : Cond.selects RX11 yX11_order yX11_order ∈ gBIG := gm_at (l := tables_1_4) 119 (by decide +kernel) gs4
theorem wl_198 : Cond.code yX12_order cX12_order 3 (some .int) ∈ gBIG := gm_at (l := tables_1_7) 128 (by decide +kernel) gs7
theorem wl_199 : Cond.methodLink R_law 120 yX12_order ∈ gBIG := gm_at (l := tables_1_7) 125 (by decide +kernel) gs7
theorem wl_200 : Cond.instanceMethod yX12_order ∈ gBIG := gm_at (l := tables_1_7) 126 (by decide +kernel) gs7
theorem wl_201 : Cond.selects RX12 yX12_order yX12_order ∈ gBIG := gm_at (l := tables_1_7) 127 (by decide +kernel) gs7
theorem wl_202 : Cond.code yX11_bars cX11_bars 4 (some .int) ∈ gBIG := gm_at (l := tables_1_4) 134 (by decide +kernel) gs4
theorem wl_203 : Cond.methodLink R_law 121 yX11_bars ∈ gBIG := gm_at (l := tables_1_4) 131 (by decide +kernel) gs4
theorem wl_204 : Cond.instanceMethod yX11_bars ∈ gBIG := gm_at (l := tables_1_4) 132 (by decide +kernel) gs4
theorem wl_205 : Cond.selects RX11 yX11_bars yX11_bars ∈ gBIG := gm_at (l := tables_1_4) 133 (by decide +kernel) gs4
theorem wl_206 : Cond.code yX12_bars cX12_bars 5 (some .int) ∈ gBIG := gm_at (l := tables_1_7) 136 (by decide +kernel) gs7
theorem wl_207 : Cond.methodLink R_law 124 yX12_bars ∈ gBIG := gm_at (l := tables_1_7) 133 (by decide +kernel) gs7
theorem wl_208 : Cond.instanceMethod yX12_bars ∈ gBIG := gm_at (l := tables_1_7) 134 (by decide +kernel) gs7
theorem wl_209 : Cond.selects RX12 yX12_bars yX12_bars ∈ gBIG := gm_at (l := tables_1_7) 135 (by decide +kernel) gs7
theorem wl_210 : Cond.code yX11_game cX11_game 2 (some .int) ∈ gBIG := gm_at (l := tables_1_4) 143 (by decide +kernel) gs4
theorem wl_211 : Cond.methodLink R_law 125 yX11_game ∈ gBIG := gm_at (l := tables_1_4) 140 (by decide +kernel) gs4
theorem wl_212 : Cond.instanceMethod yX11_game ∈ gBIG := gm_at (l := tables_1_4) 141 (by decide +kernel) gs4
theorem wl_213 : Cond.selects RX11 yX11_game yX11_game ∈ gBIG := gm_at (l := tables_1_4) 142 (by decide +kernel) gs4
theorem wl_214 : Cond.code yX12_game cX12_game 2 (some .int) ∈ gBIG := gm_at (l := tables_1_7) 140 (by decide +kernel) gs7
theorem wl_215 : Cond.methodLink R_law 128 yX12_game ∈ gBIG := gm_at (l := tables_1_7) 137 (by decide +kernel) gs7
theorem wl_216 : Cond.instanceMethod yX12_game ∈ gBIG := gm_at (l := tables_1_7) 138 (by decide +kernel) gs7
theorem wl_217 : Cond.selects RX12 yX12_game yX12_game ∈ gBIG := gm_at (l := tables_1_7) 139 (by decide +kernel) gs7
theorem wl_218 : Cond.code yX11_play cX11_play 2 (some .int) ∈ gBIG := gm_at (l := tables_1_4) 152 (by decide +kernel) gs4
theorem wl_219 : Cond.methodLink R_law 129 yX11_play ∈ gBIG := gm_at (l := tables_1_4) 149 (by decide +kernel) gs4
theorem wl_220 : Cond.instanceMethod yX11_play ∈ gBIG := gm_at (l := tables_1_4) 150 (by decide +kernel) gs4
theorem wl_221 : Cond.selects RX11 yX11_play yX11_play ∈ gBIG := gm_at (l := tables_1_4) 151 (by decide +kernel) gs4
theorem wl_222 : Cond.code yX12_play cX12_play 3 (some .int) ∈ gBIG := gm_at (l := tables_1_7) 148 (by decide +kernel) gs7
theorem wl_223 : Cond.methodLink R_law 132 yX12_play ∈ gBIG := gm_at (l := tables_1_7) 145 (by decide +kernel) gs7
theorem wl_224 : Cond.instanceMethod yX12_play ∈ gBIG := gm_at (l := tables_1_7) 146 (by decide +kernel) gs7
theorem wl_225 : Cond.selects RX12 yX12_play yX12_play ∈ gBIG := gm_at (l := tables_1_7) 147 (by decide +kernel) gs7
theorem wl_226 : Cond.code yX11_report cX11_report 8 (some .int) ∈ gBIG := gm_at (l := tables_1_4) 156 (by decide +kernel) gs4
theorem wl_227 : Cond.methodLink R_law 133 yX11_report ∈ gBIG := gm_at (l := tables_1_4) 153 (by decide +kernel) gs4
theorem wl_228 : Cond.instanceMethod yX11_report ∈ gBIG := gm_at (l := tables_1_4) 154 (by decide +kernel) gs4
theorem wl_229 : Cond.selects RX11 yX11_report yX11_report ∈ gBIG := gm_at (l := tables_1_4) 155 (by decide +kernel) gs4
theorem wl_230 : Cond.code yX12_report cX12_report 7 (some .int) ∈ gBIG := gm_at (l := tables_1_7) 152 (by decide +kernel) gs7
theorem wl_231 : Cond.methodLink R_law 136 yX12_report ∈ gBIG := gm_at (l := tables_1_7) 149 (by decide +kernel) gs7
theorem wl_232 : Cond.instanceMethod yX12_report ∈ gBIG := gm_at (l := tables_1_7) 150 (by decide +kernel) gs7
theorem wl_233 : Cond.selects RX12 yX12_report yX12_report ∈ gBIG := gm_at (l := tables_1_7) 151 (by decide +kernel) gs7
theorem wl_234 : Cond.code yX11_forget cX11_forget 2 (some .int) ∈ gBIG := gm_at (l := tables_1_4) 160 (by decide +kernel) gs4
theorem wl_235 : Cond.methodLink R_law 137 yX11_forget ∈ gBIG := gm_at (l := tables_1_4) 157 (by decide +kernel) gs4
theorem wl_236 : Cond.instanceMethod yX11_forget ∈ gBIG := gm_at (l := tables_1_4) 158 (by decide +kernel) gs4
theorem wl_237 : Cond.selects RX11 yX11_forget yX11_forget ∈ gBIG := gm_at (l := tables_1_4) 159 (by decide +kernel) gs4
theorem wl_238 : Cond.code yX12_forget cX12_forget 1 (some .int) ∈ gBIG := gm_at (l := tables_1_7) 156 (by decide +kernel) gs7
theorem wl_239 : Cond.methodLink R_law 140 yX12_forget ∈ gBIG := gm_at (l := tables_1_7) 153 (by decide +kernel) gs7
theorem wl_240 : Cond.instanceMethod yX12_forget ∈ gBIG := gm_at (l := tables_1_7) 154 (by decide +kernel) gs7
theorem wl_241 : Cond.selects RX12 yX12_forget yX12_forget ∈ gBIG := gm_at (l := tables_1_7) 155 (by decide +kernel) gs7
theorem wl_242 : Cond.code yX11_lone cX11_lone 4 (some .int) ∈ gBIG := gm_at (l := tables_1_4) 164 (by decide +kernel) gs4
theorem wl_243 : Cond.methodLink R_law 141 yX11_lone ∈ gBIG := gm_at (l := tables_1_4) 161 (by decide +kernel) gs4
theorem wl_244 : Cond.instanceMethod yX11_lone ∈ gBIG := gm_at (l := tables_1_4) 162 (by decide +kernel) gs4
theorem wl_245 : Cond.selects RX11 yX11_lone yX11_lone ∈ gBIG := gm_at (l := tables_1_4) 163 (by decide +kernel) gs4
theorem wl_246 : Cond.code yX12_lone cX12_lone 3 (some .int) ∈ gBIG := gm_at (l := tables_1_7) 160 (by decide +kernel) gs7
theorem wl_247 : Cond.methodLink R_law 144 yX12_lone ∈ gBIG := gm_at (l := tables_1_7) 157 (by decide +kernel) gs7
theorem wl_248 : Cond.instanceMethod yX12_lone ∈ gBIG := gm_at (l := tables_1_7) 158 (by decide +kernel) gs7
theorem wl_249 : Cond.selects RX12 yX12_lone yX12_lone ∈ gBIG := gm_at (l := tables_1_7) 159 (by decide +kernel) gs7
theorem wl_250 : Cond.code yX11_liar cX11_liar 4 (some .int) ∈ gBIG := gm_at (l := tables_1_4) 186 (by decide +kernel) gs4
theorem wl_251 : Cond.methodLink R_law 145 yX11_liar ∈ gBIG := gm_at (l := tables_1_4) 183 (by decide +kernel) gs4
theorem wl_252 : Cond.instanceMethod yX11_liar ∈ gBIG := gm_at (l := tables_1_4) 184 (by decide +kernel) gs4
theorem wl_253 : Cond.selects RX11 yX11_liar yX11_liar ∈ gBIG := gm_at (l := tables_1_4) 185 (by decide +kernel) gs4
theorem wl_254 : Cond.code yX12_liar cX12_liar 2 (some .int) ∈ gBIG := gm_at (l := tables_1_7) 176 (by decide +kernel) gs7
theorem wl_255 : Cond.methodLink R_law 148 yX12_liar ∈ gBIG := gm_at (l := tables_1_7) 173 (by decide +kernel) gs7
theorem wl_256 : Cond.instanceMethod yX12_liar ∈ gBIG := gm_at (l := tables_1_7) 174 (by decide +kernel) gs7
theorem wl_257 : Cond.selects RX12 yX12_liar yX12_liar ∈ gBIG := gm_at (l := tables_1_7) 175 (by decide +kernel) gs7
theorem wl_258 : Cond.code yX11_seed cX11_seed 3 (some .int) ∈ gBIG := gm_at (l := tables_1_4) 191 (by decide +kernel) gs4
theorem wl_259 : Cond.methodLink R_law 149 yX11_seed ∈ gBIG := gm_at (l := tables_1_4) 188 (by decide +kernel) gs4
theorem wl_260 : Cond.instanceMethod yX11_seed ∈ gBIG := gm_at (l := tables_1_4) 189 (by decide +kernel) gs4
theorem wl_261 : Cond.selects RX11 yX11_seed yX11_seed ∈ gBIG := gm_at (l := tables_1_4) 190 (by decide +kernel) gs4
theorem wl_262 : Cond.code yX12_seed cX12_seed 2 (some .int) ∈ gBIG := gm_at (l := tables_1_7) 180 (by decide +kernel) gs7
theorem wl_263 : Cond.methodLink R_law 152 yX12_seed ∈ gBIG := gm_at (l := tables_1_7) 177 (by decide +kernel) gs7
theorem wl_264 : Cond.instanceMethod yX12_seed ∈ gBIG := gm_at (l := tables_1_7) 178 (by decide +kernel) gs7
theorem wl_265 : Cond.selects RX12 yX12_seed yX12_seed ∈ gBIG := gm_at (l := tables_1_7) 179 (by decide +kernel) gs7
theorem wl_266 : Cond.code yX11_lot cX11_lot 1 (some .int) ∈ gBIG := gm_at (l := tables_1_4) 195 (by decide +kernel) gs4
theorem wl_267 : Cond.methodLink R_law 153 yX11_lot ∈ gBIG := gm_at (l := tables_1_4) 192 (by decide +kernel) gs4
theorem wl_268 : Cond.instanceMethod yX11_lot ∈ gBIG := gm_at (l := tables_1_4) 193 (by decide +kernel) gs4
theorem wl_269 : Cond.selects RX11 yX11_lot yX11_lot ∈ gBIG := gm_at (l := tables_1_4) 194 (by decide +kernel) gs4
theorem wl_270 : Cond.code yX12_lot cX12_lot 1 (some .int) ∈ gBIG := gm_at (l := tables_1_7) 184 (by decide +kernel) gs7
theorem wl_271 : Cond.methodLink R_law 156 yX12_lot ∈ gBIG := gm_at (l := tables_1_7) 181 (by decide +kernel) gs7
theorem wl_272 : Cond.instanceMethod yX12_lot ∈ gBIG := gm_at (l := tables_1_7) 182 (by decide +kernel) gs7
theorem wl_273 : Cond.selects RX12 yX12_lot yX12_lot ∈ gBIG := gm_at (l := tables_1_7) 183 (by decide +kernel) gs7
theorem wl_274 : Cond.code yX11_times cX11_times 6 (some .int) ∈ gBIG := gm_at (l := tables_1_4) 204 (by decide +kernel) gs4
theorem wl_275 : Cond.methodLink R_law 157 yX11_times ∈ gBIG := gm_at (l := tables_1_4) 201 (by decide +kernel) gs4
theorem wl_276 : Cond.instanceMethod yX11_times ∈ gBIG := gm_at (l := tables_1_4) 202 (by decide +kernel) gs4
theorem wl_277 : Cond.selects RX11 yX11_times yX11_times ∈ gBIG := gm_at (l := tables_1_4) 203 (by decide +kernel) gs4
theorem wl_278 : Cond.code yX12_times cX12_times 7 (some .int) ∈ gBIG := gm_at (l := tables_1_7) 193 (by decide +kernel) gs7
theorem wl_279 : Cond.methodLink R_law 160 yX12_times ∈ gBIG := gm_at (l := tables_1_7) 190 (by decide +kernel) gs7
theorem wl_280 : Cond.instanceMethod yX12_times ∈ gBIG := gm_at (l := tables_1_7) 191 (by decide +kernel) gs7
theorem wl_281 : Cond.selects RX12 yX12_times yX12_times ∈ gBIG := gm_at (l := tables_1_7) 192 (by decide +kernel) gs7
theorem wl_282 : Cond.code yX11_prove cX11_prove 5 (some .int) ∈ gBIG := gm_at (l := tables_1_4) 213 (by decide +kernel) gs4
theorem wl_283 : Cond.methodLink R_law 161 yX11_prove ∈ gBIG := gm_at (l := tables_1_4) 210 (by decide +kernel) gs4
theorem wl_284 : Cond.instanceMethod yX11_prove ∈ gBIG := gm_at (l := tables_1_4) 211 (by decide +kernel) gs4
theorem wl_285 : Cond.selects RX11 yX11_prove yX11_prove ∈ gBIG := gm_at (l := tables_1_4) 212 (by decide +kernel) gs4
theorem wl_286 : Cond.code yX12_prove cX12_prove 3 (some .int) ∈ gBIG := gm_at (l := tables_1_7) 197 (by decide +kernel) gs7
theorem wl_287 : Cond.methodLink R_law 164 yX12_prove ∈ gBIG := gm_at (l := tables_1_7) 194 (by decide +kernel) gs7
theorem wl_288 : Cond.instanceMethod yX12_prove ∈ gBIG := gm_at (l := tables_1_7) 195 (by decide +kernel) gs7
theorem wl_289 : Cond.selects RX12 yX12_prove yX12_prove ∈ gBIG := gm_at (l := tables_1_7) 196 (by decide +kernel) gs7
theorem wl_290 : Cond.code yX11_row cX11_row 3 (some .int) ∈ gBIG := gm_at (l := tables_1_4) 217 (by decide +kernel) gs4
theorem wl_291 : Cond.methodLink R_law 165 yX11_row ∈ gBIG := gm_at (l := tables_1_4) 214 (by decide +kernel) gs4
theorem wl_292 : Cond.instanceMethod yX11_row ∈ gBIG := gm_at (l := tables_1_4) 215 (by decide +kernel) gs4
theorem wl_293 : Cond.selects RX11 yX11_row yX11_row ∈ gBIG := gm_at (l := tables_1_4) 216 (by decide +kernel) gs4
theorem wl_294 : Cond.code yX12_row cX12_row 3 (some .int) ∈ gBIG := gm_at (l := tables_1_7) 201 (by decide +kernel) gs7
theorem wl_295 : Cond.methodLink R_law 168 yX12_row ∈ gBIG := gm_at (l := tables_1_7) 198 (by decide +kernel) gs7
theorem wl_296 : Cond.instanceMethod yX12_row ∈ gBIG := gm_at (l := tables_1_7) 199 (by decide +kernel) gs7
theorem wl_297 : Cond.selects RX12 yX12_row yX12_row ∈ gBIG := gm_at (l := tables_1_7) 200 (by decide +kernel) gs7
theorem wl_298 : Cond.code yX11_alterRow cX11_alterRow 5 (some .int) ∈ gBIG := gm_at (l := tables_1_4) 225 (by decide +kernel) gs4
theorem wl_299 : Cond.methodLink R_law 169 yX11_alterRow ∈ gBIG := gm_at (l := tables_1_4) 222 (by decide +kernel) gs4
theorem wl_300 : Cond.instanceMethod yX11_alterRow ∈ gBIG := gm_at (l := tables_1_4) 223 (by decide +kernel) gs4
theorem wl_301 : Cond.selects RX11 yX11_alterRow yX11_alterRow ∈ gBIG := gm_at (l := tables_1_4) 224 (by decide +kernel) gs4
theorem wl_302 : Cond.code yX12_alterRow cX12_alterRow 5 (some .int) ∈ gBIG := gm_at (l := tables_1_7) 209 (by decide +kernel) gs7
theorem wl_303 : Cond.methodLink R_law 172 yX12_alterRow ∈ gBIG := gm_at (l := tables_1_7) 206 (by decide +kernel) gs7
theorem wl_304 : Cond.instanceMethod yX12_alterRow ∈ gBIG := gm_at (l := tables_1_7) 207 (by decide +kernel) gs7
theorem wl_305 : Cond.selects RX12 yX12_alterRow yX12_alterRow ∈ gBIG := gm_at (l := tables_1_7) 208 (by decide +kernel) gs7
theorem wl_306 : Cond.code yX11_judge cX11_judge 3 (some .int) ∈ gBIG := gm_at (l := tables_1_4) 229 (by decide +kernel) gs4
theorem wl_307 : Cond.methodLink R_law 173 yX11_judge ∈ gBIG := gm_at (l := tables_1_4) 226 (by decide +kernel) gs4
theorem wl_308 : Cond.instanceMethod yX11_judge ∈ gBIG := gm_at (l := tables_1_4) 227 (by decide +kernel) gs4
theorem wl_309 : Cond.selects RX11 yX11_judge yX11_judge ∈ gBIG := gm_at (l := tables_1_4) 228 (by decide +kernel) gs4
theorem wl_310 : Cond.code yX12_judge cX12_judge 6 (some .int) ∈ gBIG := gm_at (l := tables_1_7) 213 (by decide +kernel) gs7
theorem wl_311 : Cond.methodLink R_law 176 yX12_judge ∈ gBIG := gm_at (l := tables_1_7) 210 (by decide +kernel) gs7
theorem wl_312 : Cond.instanceMethod yX12_judge ∈ gBIG := gm_at (l := tables_1_7) 211 (by decide +kernel) gs7
theorem wl_313 : Cond.selects RX12 yX12_judge yX12_judge ∈ gBIG := gm_at (l := tables_1_7) 212 (by decide +kernel) gs7
theorem wl_314 : Cond.code yX11_sheet cX11_sheet 5 (some .int) ∈ gBIG := gm_at (l := tables_1_5) 1 (by decide +kernel) gs5
theorem wl_315 : Cond.methodLink R_law 177 yX11_sheet ∈ gBIG := gm_at (l := tables_1_4) 238 (by decide +kernel) gs4
theorem wl_316 : Cond.instanceMethod yX11_sheet ∈ gBIG := gm_at (l := tables_1_4) 239 (by decide +kernel) gs4
theorem wl_317 : Cond.selects RX11 yX11_sheet yX11_sheet ∈ gBIG := gm_at (l := tables_1_5) 0 (by decide +kernel) gs5
theorem wl_318 : Cond.code yX12_sheet cX12_sheet 5 (some .int) ∈ gBIG := gm_at (l := tables_1_7) 221 (by decide +kernel) gs7
theorem wl_319 : Cond.methodLink R_law 180 yX12_sheet ∈ gBIG := gm_at (l := tables_1_7) 218 (by decide +kernel) gs7
theorem wl_320 : Cond.instanceMethod yX12_sheet ∈ gBIG := gm_at (l := tables_1_7) 219 (by decide +kernel) gs7
theorem wl_321 : Cond.selects RX12 yX12_sheet yX12_sheet ∈ gBIG := gm_at (l := tables_1_7) 220 (by decide +kernel) gs7
theorem wl_322 : Cond.code yX11_write cX11_write 4 (some .int) ∈ gBIG := gm_at (l := tables_1_5) 8 (by decide +kernel) gs5
theorem wl_323 : Cond.methodLink R_law 181 yX11_write ∈ gBIG := gm_at (l := tables_1_5) 5 (by decide +kernel) gs5
theorem wl_324 : Cond.instanceMethod yX11_write ∈ gBIG := gm_at (l := tables_1_5) 6 (by decide +kernel) gs5
theorem wl_325 : Cond.selects RX11 yX11_write yX11_write ∈ gBIG := gm_at (l := tables_1_5) 7 (by decide +kernel) gs5
theorem wl_326 : Cond.code yX12_write cX12_write 4 (some .int) ∈ gBIG := gm_at (l := tables_1_7) 228 (by decide +kernel) gs7
theorem wl_327 : Cond.methodLink R_law 184 yX12_write ∈ gBIG := gm_at (l := tables_1_7) 225 (by decide +kernel) gs7
theorem wl_328 : Cond.instanceMethod yX12_write ∈ gBIG := gm_at (l := tables_1_7) 226 (by decide +kernel) gs7
theorem wl_329 : Cond.selects RX12 yX12_write yX12_write ∈ gBIG := gm_at (l := tables_1_7) 227 (by decide +kernel) gs7
theorem wl_330 : Cond.code yX11_item cX11_item 5 (some .int) ∈ gBIG := gm_at (l := tables_1_5) 19 (by decide +kernel) gs5
theorem wl_331 : Cond.methodLink R_law 185 yX11_item ∈ gBIG := gm_at (l := tables_1_5) 16 (by decide +kernel) gs5
theorem wl_332 : Cond.instanceMethod yX11_item ∈ gBIG := gm_at (l := tables_1_5) 17 (by decide +kernel) gs5
theorem wl_333 : Cond.selects RX11 yX11_item yX11_item ∈ gBIG := gm_at (l := tables_1_5) 18 (by decide +kernel) gs5
theorem wl_334 : Cond.code yX12_item cX12_item 5 (some .int) ∈ gBIG := gm_at (l := tables_1_7) 235 (by decide +kernel) gs7
theorem wl_335 : Cond.methodLink R_law 188 yX12_item ∈ gBIG := gm_at (l := tables_1_7) 232 (by decide +kernel) gs7
theorem wl_336 : Cond.instanceMethod yX12_item ∈ gBIG := gm_at (l := tables_1_7) 233 (by decide +kernel) gs7
theorem wl_337 : Cond.selects RX12 yX12_item yX12_item ∈ gBIG := gm_at (l := tables_1_7) 234 (by decide +kernel) gs7
theorem wl_338 : Cond.code yX11_goAll cX11_goAll 8 (some .int) ∈ gBIG := gm_at (l := tables_1_5) 27 (by decide +kernel) gs5
theorem wl_339 : Cond.methodLink R_law 189 yX11_goAll ∈ gBIG := gm_at (l := tables_1_5) 24 (by decide +kernel) gs5
theorem wl_340 : Cond.instanceMethod yX11_goAll ∈ gBIG := gm_at (l := tables_1_5) 25 (by decide +kernel) gs5
theorem wl_341 : Cond.selects RX11 yX11_goAll yX11_goAll ∈ gBIG := gm_at (l := tables_1_5) 26 (by decide +kernel) gs5
theorem wl_342 : Cond.code yX12_goAll cX12_goAll 8 (some .int) ∈ gBIG := gm_at (l := tables_1_8) 3 (by decide +kernel) gs8
theorem wl_343 : Cond.methodLink R_law 192 yX12_goAll ∈ gBIG := gm_at (l := tables_1_8) 0 (by decide +kernel) gs8
theorem wl_344 : Cond.instanceMethod yX12_goAll ∈ gBIG := gm_at (l := tables_1_8) 1 (by decide +kernel) gs8
theorem wl_345 : Cond.selects RX12 yX12_goAll yX12_goAll ∈ gBIG := gm_at (l := tables_1_8) 2 (by decide +kernel) gs8
theorem wl_346 : Cond.code yX11_wouldBe cX11_wouldBe 6 (some .int) ∈ gBIG := gm_at (l := tables_1_5) 31 (by decide +kernel) gs5
theorem wl_347 : Cond.methodLink R_law 193 yX11_wouldBe ∈ gBIG := gm_at (l := tables_1_5) 28 (by decide +kernel) gs5
theorem wl_348 : Cond.instanceMethod yX11_wouldBe ∈ gBIG := gm_at (l := tables_1_5) 29 (by decide +kernel) gs5
theorem wl_349 : Cond.selects RX11 yX11_wouldBe yX11_wouldBe ∈ gBIG := gm_at (l := tables_1_5) 30 (by decide +kernel) gs5
theorem wl_350 : Cond.code yX12_wouldBe cX12_wouldBe 8 (some .int) ∈ gBIG := gm_at (l := tables_1_8) 11 (by decide +kernel) gs8
theorem wl_351 : Cond.methodLink R_law 196 yX12_wouldBe ∈ gBIG := gm_at (l := tables_1_8) 8 (by decide +kernel) gs8
theorem wl_352 : Cond.instanceMethod yX12_wouldBe ∈ gBIG := gm_at (l := tables_1_8) 9 (by decide +kernel) gs8
theorem wl_353 : Cond.selects RX12 yX12_wouldBe yX12_wouldBe ∈ gBIG := gm_at (l := tables_1_8) 10 (by decide +kernel) gs8
theorem wl_354 : Cond.code yX11_shelf cX11_shelf 4 (some .int) ∈ gBIG := gm_at (l := tables_1_5) 39 (by decide +kernel) gs5
theorem wl_355 : Cond.methodLink R_law 197 yX11_shelf ∈ gBIG := gm_at (l := tables_1_5) 36 (by decide +kernel) gs5
theorem wl_356 : Cond.instanceMethod yX11_shelf ∈ gBIG := gm_at (l := tables_1_5) 37 (by decide +kernel) gs5
theorem wl_357 : Cond.selects RX11 yX11_shelf yX11_shelf ∈ gBIG := gm_at (l := tables_1_5) 38 (by decide +kernel) gs5
theorem wl_358 : Cond.code yX12_shelf cX12_shelf 4 (some .int) ∈ gBIG := gm_at (l := tables_1_8) 15 (by decide +kernel) gs8
theorem wl_359 : Cond.methodLink R_law 200 yX12_shelf ∈ gBIG := gm_at (l := tables_1_8) 12 (by decide +kernel) gs8
theorem wl_360 : Cond.instanceMethod yX12_shelf ∈ gBIG := gm_at (l := tables_1_8) 13 (by decide +kernel) gs8
theorem wl_361 : Cond.selects RX12 yX12_shelf yX12_shelf ∈ gBIG := gm_at (l := tables_1_8) 14 (by decide +kernel) gs8
theorem wl_362 : Cond.code yX11_taken cX11_taken 5 (some .int) ∈ gBIG := gm_at (l := tables_1_5) 43 (by decide +kernel) gs5
theorem wl_363 : Cond.methodLink R_law 201 yX11_taken ∈ gBIG := gm_at (l := tables_1_5) 40 (by decide +kernel) gs5
theorem wl_364 : Cond.instanceMethod yX11_taken ∈ gBIG := gm_at (l := tables_1_5) 41 (by decide +kernel) gs5
theorem wl_365 : Cond.selects RX11 yX11_taken yX11_taken ∈ gBIG := gm_at (l := tables_1_5) 42 (by decide +kernel) gs5
theorem wl_366 : Cond.code yX12_taken cX12_taken 5 (some .int) ∈ gBIG := gm_at (l := tables_1_8) 19 (by decide +kernel) gs8
theorem wl_367 : Cond.methodLink R_law 204 yX12_taken ∈ gBIG := gm_at (l := tables_1_8) 16 (by decide +kernel) gs8
theorem wl_368 : Cond.instanceMethod yX12_taken ∈ gBIG := gm_at (l := tables_1_8) 17 (by decide +kernel) gs8
theorem wl_369 : Cond.selects RX12 yX12_taken yX12_taken ∈ gBIG := gm_at (l := tables_1_8) 18 (by decide +kernel) gs8
theorem wl_370 : Cond.code yX11_act cX11_act 7 (some .int) ∈ gBIG := gm_at (l := tables_1_5) 52 (by decide +kernel) gs5
theorem wl_371 : Cond.methodLink R_law 205 yX11_act ∈ gBIG := gm_at (l := tables_1_5) 49 (by decide +kernel) gs5
theorem wl_372 : Cond.instanceMethod yX11_act ∈ gBIG := gm_at (l := tables_1_5) 50 (by decide +kernel) gs5
theorem wl_373 : Cond.selects RX11 yX11_act yX11_act ∈ gBIG := gm_at (l := tables_1_5) 51 (by decide +kernel) gs5
theorem wl_374 : Cond.code yX12_act cX12_act 6 (some .int) ∈ gBIG := gm_at (l := tables_1_8) 27 (by decide +kernel) gs8
theorem wl_375 : Cond.methodLink R_law 208 yX12_act ∈ gBIG := gm_at (l := tables_1_8) 24 (by decide +kernel) gs8
theorem wl_376 : Cond.instanceMethod yX12_act ∈ gBIG := gm_at (l := tables_1_8) 25 (by decide +kernel) gs8
theorem wl_377 : Cond.selects RX12 yX12_act yX12_act ∈ gBIG := gm_at (l := tables_1_8) 26 (by decide +kernel) gs8
theorem wl_378 : Cond.code yX11_trace cX11_trace 2 (some .int) ∈ gBIG := gm_at (l := tables_1_5) 150 (by decide +kernel) gs5
theorem wl_379 : Cond.methodLink R_law 209 yX11_trace ∈ gBIG := gm_at (l := tables_1_5) 147 (by decide +kernel) gs5
theorem wl_380 : Cond.instanceMethod yX11_trace ∈ gBIG := gm_at (l := tables_1_5) 148 (by decide +kernel) gs5
theorem wl_381 : Cond.selects RX11 yX11_trace yX11_trace ∈ gBIG := gm_at (l := tables_1_5) 149 (by decide +kernel) gs5
theorem wl_382 : Cond.code yX12_trace cX12_trace 2 (some .int) ∈ gBIG := gm_at (l := tables_1_8) 51 (by decide +kernel) gs8
theorem wl_383 : Cond.methodLink R_law 212 yX12_trace ∈ gBIG := gm_at (l := tables_1_8) 48 (by decide +kernel) gs8
theorem wl_384 : Cond.instanceMethod yX12_trace ∈ gBIG := gm_at (l := tables_1_8) 49 (by decide +kernel) gs8
theorem wl_385 : Cond.selects RX12 yX12_trace yX12_trace ∈ gBIG := gm_at (l := tables_1_8) 50 (by decide +kernel) gs8
theorem wl_386 : Cond.code yX11_many cX11_many 2 (some .int) ∈ gBIG := gm_at (l := tables_1_5) 154 (by decide +kernel) gs5
theorem wl_387 : Cond.methodLink R_law 213 yX11_many ∈ gBIG := gm_at (l := tables_1_5) 151 (by decide +kernel) gs5
theorem wl_388 : Cond.instanceMethod yX11_many ∈ gBIG := gm_at (l := tables_1_5) 152 (by decide +kernel) gs5
theorem wl_389 : Cond.selects RX11 yX11_many yX11_many ∈ gBIG := gm_at (l := tables_1_5) 153 (by decide +kernel) gs5
theorem wl_390 : Cond.code yX12_many cX12_many 2 (some .int) ∈ gBIG := gm_at (l := tables_1_8) 55 (by decide +kernel) gs8
theorem wl_391 : Cond.methodLink R_law 216 yX12_many ∈ gBIG := gm_at (l := tables_1_8) 52 (by decide +kernel) gs8
theorem wl_392 : Cond.instanceMethod yX12_many ∈ gBIG := gm_at (l := tables_1_8) 53 (by decide +kernel) gs8
theorem wl_393 : Cond.selects RX12 yX12_many yX12_many ∈ gBIG := gm_at (l := tables_1_8) 54 (by decide +kernel) gs8
theorem wl_394 : Cond.code yX11_keep cX11_keep 1 (some .int) ∈ gBIG := gm_at (l := tables_1_5) 158 (by decide +kernel) gs5
theorem wl_395 : Cond.methodLink R_law 217 yX11_keep ∈ gBIG := gm_at (l := tables_1_5) 155 (by decide +kernel) gs5
theorem wl_396 : Cond.instanceMethod yX11_keep ∈ gBIG := gm_at (l := tables_1_5) 156 (by decide +kernel) gs5
theorem wl_397 : Cond.selects RX11 yX11_keep yX11_keep ∈ gBIG := gm_at (l := tables_1_5) 157 (by decide +kernel) gs5
theorem wl_398 : Cond.code yX12_keep cX12_keep 2 (some .int) ∈ gBIG := gm_at (l := tables_1_8) 62 (by decide +kernel) gs8
theorem wl_399 : Cond.methodLink R_law 220 yX12_keep ∈ gBIG := gm_at (l := tables_1_8) 59 (by decide +kernel) gs8
theorem wl_400 : Cond.instanceMethod yX12_keep ∈ gBIG := gm_at (l := tables_1_8) 60 (by decide +kernel) gs8
theorem wl_401 : Cond.selects RX12 yX12_keep yX12_keep ∈ gBIG := gm_at (l := tables_1_8) 61 (by decide +kernel) gs8
theorem wl_402 : Cond.code yX11_again cX11_again 1 (some .int) ∈ gBIG := gm_at (l := tables_1_5) 167 (by decide +kernel) gs5
theorem wl_403 : Cond.methodLink R_law 221 yX11_again ∈ gBIG := gm_at (l := tables_1_5) 164 (by decide +kernel) gs5
theorem wl_404 : Cond.instanceMethod yX11_again ∈ gBIG := gm_at (l := tables_1_5) 165 (by decide +kernel) gs5
theorem wl_405 : Cond.selects RX11 yX11_again yX11_again ∈ gBIG := gm_at (l := tables_1_5) 166 (by decide +kernel) gs5
theorem wl_406 : Cond.code yX12_again cX12_again 2 (some .int) ∈ gBIG := gm_at (l := tables_1_8) 66 (by decide +kernel) gs8
theorem wl_407 : Cond.methodLink R_law 224 yX12_again ∈ gBIG := gm_at (l := tables_1_8) 63 (by decide +kernel) gs8
theorem wl_408 : Cond.instanceMethod yX12_again ∈ gBIG := gm_at (l := tables_1_8) 64 (by decide +kernel) gs8
theorem wl_409 : Cond.selects RX12 yX12_again yX12_again ∈ gBIG := gm_at (l := tables_1_8) 65 (by decide +kernel) gs8
theorem wl_410 : Cond.classLink R_law 7 RX11 ∈ gBIG := gm_at (l := tables_1_1) 21 (by decide +kernel) gs1
theorem wl_411 : Cond.instantiable RX11 14 ∈ gBIG := gm_at (l := tables_1_1) 22 (by decide +kernel) gs1
theorem wl_412 : Cond.code yX11_init cX11_init 4 none ∈ gBIG := gm_of (gs1 _ (List.mem_of_getElem? (l := tables_1_1) (i := 25) rfl)) rfl
theorem wl_413 : Cond.methodLink R_law 9 yX11_init ∈ gBIG := gm_at (l := tables_1_1) 23 (by decide +kernel) gs1
theorem wl_414 : Cond.instanceMethod yX11_init ∈ gBIG := gm_at (l := tables_1_1) 24 (by decide +kernel) gs1
theorem wl_415 : Cond.classLink R_law 10 RX12 ∈ gBIG := gm_at (l := tables_1_5) 168 (by decide +kernel) gs5
theorem wl_416 : Cond.instantiable RX12 37 ∈ gBIG := gm_at (l := tables_1_5) 169 (by decide +kernel) gs5
theorem wl_417 : Cond.code yX12_init cX12_init 2 none ∈ gBIG := gm_of (gs5 _ (List.mem_of_getElem? (l := tables_1_5) (i := 172) rfl)) rfl
theorem wl_418 : Cond.methodLink R_law 12 yX12_init ∈ gBIG := gm_at (l := tables_1_5) 170 (by decide +kernel) gs5
theorem wl_419 : Cond.instanceMethod yX12_init ∈ gBIG := gm_at (l := tables_1_5) 171 (by decide +kernel) gs5
theorem cml_X11_key : gcm mX11_key 4 := ⟨wl_0, wl_1, by decide, by decide, by decide, by decide +kernel, by decide⟩
theorem cml_X12_key : gcm mX12_key 4 := ⟨wl_5, wl_6, by decide, by decide, by decide, by decide +kernel, by decide⟩
theorem cml_X11_keyOf : gcm mX11_keyOf 2 := ⟨wl_10, wl_1, by decide, by decide, by decide, by decide +kernel, by decide⟩
theorem cml_X12_keyOf : gcm mX12_keyOf 2 := ⟨wl_14, wl_6, by decide, by decide, by decide, by decide +kernel, by decide⟩
theorem cml_X11_change : gcm mX11_change 3 := ⟨wl_18, wl_1, by decide, by decide, by decide, by decide +kernel, by decide⟩
theorem cml_X12_change : gcm mX12_change 3 := ⟨wl_22, wl_6, by decide, by decide, by decide, by decide +kernel, by decide⟩
theorem cml_X11_remake : gcm mX11_remake 2 := ⟨wl_26, wl_1, by decide, by decide, by decide, by decide +kernel, by decide⟩
theorem cml_X12_remake : gcm mX12_remake 2 := ⟨wl_30, wl_6, by decide, by decide, by decide, by decide +kernel, by decide⟩
theorem cml_X11_sun : gcm mX11_sun 2 := ⟨wl_34, wl_1, by decide, by decide, by decide, by decide +kernel, by decide⟩
theorem cml_X12_sun : gcm mX12_sun 2 := ⟨wl_38, wl_6, by decide, by decide, by decide, by decide +kernel, by decide⟩
theorem cml_X11_gate : gcm mX11_gate 3 := ⟨wl_42, wl_1, by decide, by decide, by decide, by decide +kernel, by decide⟩
theorem cml_X12_gate : gcm mX12_gate 3 := ⟨wl_46, wl_6, by decide, by decide, by decide, by decide +kernel, by decide⟩
theorem cml_X11_gateOf : gcm mX11_gateOf 2 := ⟨wl_50, wl_1, by decide, by decide, by decide, by decide +kernel, by decide⟩
theorem cml_X12_gateOf : gcm mX12_gateOf 2 := ⟨wl_54, wl_6, by decide, by decide, by decide, by decide +kernel, by decide⟩
theorem cml_X11_ends : gcm mX11_ends 1 := ⟨wl_58, wl_1, by decide, by decide, by decide, by decide +kernel, by decide⟩
theorem cml_X12_ends : gcm mX12_ends 1 := ⟨wl_62, wl_6, by decide, by decide, by decide, by decide +kernel, by decide⟩
theorem cml_X11_anew : gcm mX11_anew 0 := ⟨wl_66, wl_1, by decide, by decide, by decide, by decide +kernel, by decide⟩
theorem cml_X12_anew : gcm mX12_anew 0 := ⟨wl_70, wl_6, by decide, by decide, by decide, by decide +kernel, by decide⟩
theorem cml_X11_state : gcm mX11_state 1 := ⟨wl_74, wl_1, by decide, by decide, by decide, by decide +kernel, by decide⟩
theorem cml_X12_state : gcm mX12_state 1 := ⟨wl_78, wl_6, by decide, by decide, by decide, by decide +kernel, by decide⟩
theorem cml_X11_feed : gcm mX11_feed 2 := ⟨wl_82, wl_1, by decide, by decide, by decide, by decide +kernel, by decide⟩
theorem cml_X12_feed : gcm mX12_feed 2 := ⟨wl_86, wl_6, by decide, by decide, by decide, by decide +kernel, by decide⟩
theorem cml_X11_rules : gcm mX11_rules 0 := ⟨wl_90, wl_1, by decide, by decide, by decide, by decide +kernel, by decide⟩
theorem cml_X12_rules : gcm mX12_rules 0 := ⟨wl_94, wl_6, by decide, by decide, by decide, by decide +kernel, by decide⟩
theorem cml_X11_halt : gcm mX11_halt 0 := ⟨wl_98, wl_1, by decide, by decide, by decide, by decide +kernel, by decide⟩
theorem cml_X12_halt : gcm mX12_halt 0 := ⟨wl_102, wl_6, by decide, by decide, by decide, by decide +kernel, by decide⟩
theorem cml_X11_on : gcm mX11_on 1 := ⟨wl_106, wl_1, by decide, by decide, by decide, by decide +kernel, by decide⟩
theorem cml_X12_on : gcm mX12_on 1 := ⟨wl_110, wl_6, by decide, by decide, by decide, by decide +kernel, by decide⟩
theorem cml_X11_when : gcm mX11_when 1 := ⟨wl_114, wl_1, by decide, by decide, by decide, by decide +kernel, by decide⟩
theorem cml_X12_when : gcm mX12_when 1 := ⟨wl_118, wl_6, by decide, by decide, by decide, by decide +kernel, by decide⟩
theorem cml_X11_strawFor : gcm mX11_strawFor 1 := ⟨wl_122, wl_1, by decide, by decide, by decide, by decide +kernel, by decide⟩
theorem cml_X12_strawFor : gcm mX12_strawFor 1 := ⟨wl_126, wl_6, by decide, by decide, by decide, by decide +kernel, by decide⟩
theorem cml_X11_gateFor : gcm mX11_gateFor 1 := ⟨wl_130, wl_1, by decide, by decide, by decide, by decide +kernel, by decide⟩
theorem cml_X12_gateFor : gcm mX12_gateFor 1 := ⟨wl_134, wl_6, by decide, by decide, by decide, by decide +kernel, by decide⟩
theorem cml_X11_gone : gcm mX11_gone 1 := ⟨wl_138, wl_1, by decide, by decide, by decide, by decide +kernel, by decide⟩
theorem cml_X12_gone : gcm mX12_gone 1 := ⟨wl_142, wl_6, by decide, by decide, by decide, by decide +kernel, by decide⟩
theorem cml_X11_opens : gcm mX11_opens 1 := ⟨wl_146, wl_1, by decide, by decide, by decide, by decide +kernel, by decide⟩
theorem cml_X12_opens : gcm mX12_opens 1 := ⟨wl_150, wl_6, by decide, by decide, by decide, by decide +kernel, by decide⟩
theorem cml_X11_left : gcm mX11_left 2 := ⟨wl_154, wl_1, by decide, by decide, by decide, by decide +kernel, by decide⟩
theorem cml_X12_left : gcm mX12_left 2 := ⟨wl_158, wl_6, by decide, by decide, by decide, by decide +kernel, by decide⟩
theorem cml_X11_bunches : gcm mX11_bunches 1 := ⟨wl_162, wl_1, by decide, by decide, by decide, by decide +kernel, by decide⟩
theorem cml_X12_bunches : gcm mX12_bunches 1 := ⟨wl_166, wl_6, by decide, by decide, by decide, by decide +kernel, by decide⟩
theorem cml_X11_best : gcm mX11_best 1 := ⟨wl_170, wl_1, by decide, by decide, by decide, by decide +kernel, by decide⟩
theorem cml_X12_best : gcm mX12_best 1 := ⟨wl_174, wl_6, by decide, by decide, by decide, by decide +kernel, by decide⟩
theorem cml_X11_ith : gcm mX11_ith 2 := ⟨wl_178, wl_1, by decide, by decide, by decide, by decide +kernel, by decide⟩
theorem cml_X12_ith : gcm mX12_ith 2 := ⟨wl_182, wl_6, by decide, by decide, by decide, by decide +kernel, by decide⟩
theorem cml_X11_ways : gcm mX11_ways 1 := ⟨wl_186, wl_1, by decide, by decide, by decide, by decide +kernel, by decide⟩
theorem cml_X12_ways : gcm mX12_ways 1 := ⟨wl_190, wl_6, by decide, by decide, by decide, by decide +kernel, by decide⟩
theorem cml_X11_order : gcm mX11_order 2 := ⟨wl_194, wl_1, by decide, by decide, by decide, by decide +kernel, by decide⟩
theorem cml_X12_order : gcm mX12_order 2 := ⟨wl_198, wl_6, by decide, by decide, by decide, by decide +kernel, by decide⟩
theorem cml_X11_bars : gcm mX11_bars 2 := ⟨wl_202, wl_1, by decide, by decide, by decide, by decide +kernel, by decide⟩
theorem cml_X12_bars : gcm mX12_bars 2 := ⟨wl_206, wl_6, by decide, by decide, by decide, by decide +kernel, by decide⟩
theorem cml_X11_game : gcm mX11_game 1 := ⟨wl_210, wl_1, by decide, by decide, by decide, by decide +kernel, by decide⟩
theorem cml_X12_game : gcm mX12_game 1 := ⟨wl_214, wl_6, by decide, by decide, by decide, by decide +kernel, by decide⟩
theorem cml_X11_play : gcm mX11_play 1 := ⟨wl_218, wl_1, by decide, by decide, by decide, by decide +kernel, by decide⟩
theorem cml_X12_play : gcm mX12_play 1 := ⟨wl_222, wl_6, by decide, by decide, by decide, by decide +kernel, by decide⟩
theorem cml_X11_report : gcm mX11_report 4 := ⟨wl_226, wl_1, by decide, by decide, by decide, by decide +kernel, by decide⟩
theorem cml_X12_report : gcm mX12_report 4 := ⟨wl_230, wl_6, by decide, by decide, by decide, by decide +kernel, by decide⟩
theorem cml_X11_forget : gcm mX11_forget 0 := ⟨wl_234, wl_1, by decide, by decide, by decide, by decide +kernel, by decide⟩
theorem cml_X12_forget : gcm mX12_forget 0 := ⟨wl_238, wl_6, by decide, by decide, by decide, by decide +kernel, by decide⟩
theorem cml_X11_lone : gcm mX11_lone 1 := ⟨wl_242, wl_1, by decide, by decide, by decide, by decide +kernel, by decide⟩
theorem cml_X12_lone : gcm mX12_lone 1 := ⟨wl_246, wl_6, by decide, by decide, by decide, by decide +kernel, by decide⟩
theorem cml_X11_liar : gcm mX11_liar 0 := ⟨wl_250, wl_1, by decide, by decide, by decide, by decide +kernel, by decide⟩
theorem cml_X12_liar : gcm mX12_liar 0 := ⟨wl_254, wl_6, by decide, by decide, by decide, by decide +kernel, by decide⟩
theorem cml_X11_seed : gcm mX11_seed 1 := ⟨wl_258, wl_1, by decide, by decide, by decide, by decide +kernel, by decide⟩
theorem cml_X12_seed : gcm mX12_seed 1 := ⟨wl_262, wl_6, by decide, by decide, by decide, by decide +kernel, by decide⟩
theorem cml_X11_lot : gcm mX11_lot 0 := ⟨wl_266, wl_1, by decide, by decide, by decide, by decide +kernel, by decide⟩
theorem cml_X12_lot : gcm mX12_lot 0 := ⟨wl_270, wl_6, by decide, by decide, by decide, by decide +kernel, by decide⟩
theorem cml_X11_times : gcm mX11_times 2 := ⟨wl_274, wl_1, by decide, by decide, by decide, by decide +kernel, by decide⟩
theorem cml_X12_times : gcm mX12_times 2 := ⟨wl_278, wl_6, by decide, by decide, by decide, by decide +kernel, by decide⟩
theorem cml_X11_prove : gcm mX11_prove 1 := ⟨wl_282, wl_1, by decide, by decide, by decide, by decide +kernel, by decide⟩
theorem cml_X12_prove : gcm mX12_prove 1 := ⟨wl_286, wl_6, by decide, by decide, by decide, by decide +kernel, by decide⟩
theorem cml_X11_row : gcm mX11_row 2 := ⟨wl_290, wl_1, by decide, by decide, by decide, by decide +kernel, by decide⟩
theorem cml_X12_row : gcm mX12_row 2 := ⟨wl_294, wl_6, by decide, by decide, by decide, by decide +kernel, by decide⟩
theorem cml_X11_alterRow : gcm mX11_alterRow 3 := ⟨wl_298, wl_1, by decide, by decide, by decide, by decide +kernel, by decide⟩
theorem cml_X12_alterRow : gcm mX12_alterRow 3 := ⟨wl_302, wl_6, by decide, by decide, by decide, by decide +kernel, by decide⟩
theorem cml_X11_judge : gcm mX11_judge 0 := ⟨wl_306, wl_1, by decide, by decide, by decide, by decide +kernel, by decide⟩
theorem cml_X12_judge : gcm mX12_judge 0 := ⟨wl_310, wl_6, by decide, by decide, by decide, by decide +kernel, by decide⟩
theorem cml_X11_sheet : gcm mX11_sheet 3 := ⟨wl_314, wl_1, by decide, by decide, by decide, by decide +kernel, by decide⟩
theorem cml_X12_sheet : gcm mX12_sheet 3 := ⟨wl_318, wl_6, by decide, by decide, by decide, by decide +kernel, by decide⟩
theorem cml_X11_write : gcm mX11_write 3 := ⟨wl_322, wl_1, by decide, by decide, by decide, by decide +kernel, by decide⟩
theorem cml_X12_write : gcm mX12_write 3 := ⟨wl_326, wl_6, by decide, by decide, by decide, by decide +kernel, by decide⟩
theorem cml_X11_item : gcm mX11_item 3 := ⟨wl_330, wl_1, by decide, by decide, by decide, by decide +kernel, by decide⟩
theorem cml_X12_item : gcm mX12_item 3 := ⟨wl_334, wl_6, by decide, by decide, by decide, by decide +kernel, by decide⟩
theorem cml_X11_goAll : gcm mX11_goAll 3 := ⟨wl_338, wl_1, by decide, by decide, by decide, by decide +kernel, by decide⟩
theorem cml_X12_goAll : gcm mX12_goAll 3 := ⟨wl_342, wl_6, by decide, by decide, by decide, by decide +kernel, by decide⟩
theorem cml_X11_wouldBe : gcm mX11_wouldBe 3 := ⟨wl_346, wl_1, by decide, by decide, by decide, by decide +kernel, by decide⟩
theorem cml_X12_wouldBe : gcm mX12_wouldBe 3 := ⟨wl_350, wl_6, by decide, by decide, by decide, by decide +kernel, by decide⟩
theorem cml_X11_shelf : gcm mX11_shelf 3 := ⟨wl_354, wl_1, by decide, by decide, by decide, by decide +kernel, by decide⟩
theorem cml_X12_shelf : gcm mX12_shelf 3 := ⟨wl_358, wl_6, by decide, by decide, by decide, by decide +kernel, by decide⟩
theorem cml_X11_taken : gcm mX11_taken 2 := ⟨wl_362, wl_1, by decide, by decide, by decide, by decide +kernel, by decide⟩
theorem cml_X12_taken : gcm mX12_taken 2 := ⟨wl_366, wl_6, by decide, by decide, by decide, by decide +kernel, by decide⟩
theorem cml_X11_act : gcm mX11_act 3 := ⟨wl_370, wl_1, by decide, by decide, by decide, by decide +kernel, by decide⟩
theorem cml_X12_act : gcm mX12_act 3 := ⟨wl_374, wl_6, by decide, by decide, by decide, by decide +kernel, by decide⟩
theorem cml_X11_trace : gcm mX11_trace 1 := ⟨wl_378, wl_1, by decide, by decide, by decide, by decide +kernel, by decide⟩
theorem cml_X12_trace : gcm mX12_trace 1 := ⟨wl_382, wl_6, by decide, by decide, by decide, by decide +kernel, by decide⟩
theorem cml_X11_many : gcm mX11_many 1 := ⟨wl_386, wl_1, by decide, by decide, by decide, by decide +kernel, by decide⟩
theorem cml_X12_many : gcm mX12_many 1 := ⟨wl_390, wl_6, by decide, by decide, by decide, by decide +kernel, by decide⟩
theorem cml_X11_keep : gcm mX11_keep 0 := ⟨wl_394, wl_1, by decide, by decide, by decide, by decide +kernel, by decide⟩
theorem cml_X12_keep : gcm mX12_keep 0 := ⟨wl_398, wl_6, by decide, by decide, by decide, by decide +kernel, by decide⟩
theorem cml_X11_again : gcm mX11_again 0 := ⟨wl_402, wl_1, by decide, by decide, by decide, by decide +kernel, by decide⟩
theorem cml_X12_again : gcm mX12_again 0 := ⟨wl_406, wl_6, by decide, by decide, by decide, by decide +kernel, by decide⟩
theorem cml_X11_init : gcm mX11_init 0 := ⟨wl_412, wl_1, by decide, by decide, by decide, by decide +kernel, by decide⟩
theorem cml_X12_init : gcm mX12_init 0 := ⟨wl_417, wl_6, by decide, by decide, by decide, by decide +kernel, by decide⟩
