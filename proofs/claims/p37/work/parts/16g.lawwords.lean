theorem wl_0 : Cond.code yX11_key cX11_key 6 (some .int) ∈ gBIG := gm_of (gs2 _ (List.mem_of_getElem? (l := tables_1_2) (i := 99) rfl)) rfl
theorem wl_1 : Cond.initialized RX11 ∈ gBIG := gm_of (gs1 _ (List.mem_of_getElem? (l := tables_1_1) (i := 1) rfl)) rfl
theorem wl_2 : Cond.methodLink R_law 13 yX11_key ∈ gBIG := gm_of (gs2 _ (List.mem_of_getElem? (l := tables_1_2) (i := 96) rfl)) rfl
theorem wl_3 : Cond.instanceMethod yX11_key ∈ gBIG := gm_of (gs2 _ (List.mem_of_getElem? (l := tables_1_2) (i := 97) rfl)) rfl
theorem wl_4 : Cond.selects RX11 yX11_key yX11_key ∈ gBIG := gm_of (gs2 _ (List.mem_of_getElem? (l := tables_1_2) (i := 98) rfl)) rfl
theorem wl_5 : Cond.code yX12_key cX12_key 6 (some .int) ∈ gBIG := gm_of (gs6 _ (List.mem_of_getElem? (l := tables_1_6) (i := 118) rfl)) rfl
theorem wl_6 : Cond.initialized RX12 ∈ gBIG := gm_of (gs1 _ (List.mem_of_getElem? (l := tables_1_1) (i := 13) rfl)) rfl
theorem wl_7 : Cond.methodLink R_law 17 yX12_key ∈ gBIG := gm_of (gs6 _ (List.mem_of_getElem? (l := tables_1_6) (i := 115) rfl)) rfl
theorem wl_8 : Cond.instanceMethod yX12_key ∈ gBIG := gm_of (gs6 _ (List.mem_of_getElem? (l := tables_1_6) (i := 116) rfl)) rfl
theorem wl_9 : Cond.selects RX12 yX12_key yX12_key ∈ gBIG := gm_of (gs6 _ (List.mem_of_getElem? (l := tables_1_6) (i := 117) rfl)) rfl
theorem wl_10 : Cond.code yX11_keyOf cX11_keyOf 3 (some .int) ∈ gBIG := gm_of (gs2 _ (List.mem_of_getElem? (l := tables_1_2) (i := 112) rfl)) rfl
theorem wl_11 : Cond.methodLink R_law 18 yX11_keyOf ∈ gBIG := gm_of (gs2 _ (List.mem_of_getElem? (l := tables_1_2) (i := 109) rfl)) rfl
theorem wl_12 : Cond.instanceMethod yX11_keyOf ∈ gBIG := gm_of (gs2 _ (List.mem_of_getElem? (l := tables_1_2) (i := 110) rfl)) rfl
theorem wl_13 : Cond.selects RX11 yX11_keyOf yX11_keyOf ∈ gBIG := gm_of (gs2 _ (List.mem_of_getElem? (l := tables_1_2) (i := 111) rfl)) rfl
theorem wl_14 : Cond.code yX12_keyOf cX12_keyOf 3 (some .int) ∈ gBIG := gm_of (gs6 _ (List.mem_of_getElem? (l := tables_1_6) (i := 132) rfl)) rfl
theorem wl_15 : Cond.methodLink R_law 22 yX12_keyOf ∈ gBIG := gm_of (gs6 _ (List.mem_of_getElem? (l := tables_1_6) (i := 129) rfl)) rfl
theorem wl_16 : Cond.instanceMethod yX12_keyOf ∈ gBIG := gm_of (gs6 _ (List.mem_of_getElem? (l := tables_1_6) (i := 130) rfl)) rfl
theorem wl_17 : Cond.selects RX12 yX12_keyOf yX12_keyOf ∈ gBIG := gm_of (gs6 _ (List.mem_of_getElem? (l := tables_1_6) (i := 131) rfl)) rfl
theorem wl_18 : Cond.code yX11_change cX11_change 4 (some .int) ∈ gBIG := gm_of (gs3 _ (List.mem_of_getElem? (l := tables_1_3) (i := 2) rfl)) rfl
theorem wl_19 : Cond.methodLink R_law 23 yX11_change ∈ gBIG := gm_of (gs2 _ (List.mem_of_getElem? (l := tables_1_2) (i := 239) rfl)) rfl
theorem wl_20 : Cond.instanceMethod yX11_change ∈ gBIG := gm_of (gs3 _ (List.mem_of_getElem? (l := tables_1_3) (i := 0) rfl)) rfl
theorem wl_21 : Cond.selects RX11 yX11_change yX11_change ∈ gBIG := gm_of (gs3 _ (List.mem_of_getElem? (l := tables_1_3) (i := 1) rfl)) rfl
theorem wl_22 : Cond.code yX12_change cX12_change 5 (some .int) ∈ gBIG := gm_of (gs6 _ (List.mem_of_getElem? (l := tables_1_6) (i := 202) rfl)) rfl
theorem wl_23 : Cond.methodLink R_law 27 yX12_change ∈ gBIG := gm_of (gs6 _ (List.mem_of_getElem? (l := tables_1_6) (i := 199) rfl)) rfl
theorem wl_24 : Cond.instanceMethod yX12_change ∈ gBIG := gm_of (gs6 _ (List.mem_of_getElem? (l := tables_1_6) (i := 200) rfl)) rfl
theorem wl_25 : Cond.selects RX12 yX12_change yX12_change ∈ gBIG := gm_of (gs6 _ (List.mem_of_getElem? (l := tables_1_6) (i := 201) rfl)) rfl
theorem wl_26 : Cond.code yX11_remake cX11_remake 4 (some .int) ∈ gBIG := gm_of (gs3 _ (List.mem_of_getElem? (l := tables_1_3) (i := 17) rfl)) rfl
theorem wl_27 : Cond.methodLink R_law 28 yX11_remake ∈ gBIG := gm_of (gs3 _ (List.mem_of_getElem? (l := tables_1_3) (i := 14) rfl)) rfl
theorem wl_28 : Cond.instanceMethod yX11_remake ∈ gBIG := gm_of (gs3 _ (List.mem_of_getElem? (l := tables_1_3) (i := 15) rfl)) rfl
theorem wl_29 : Cond.selects RX11 yX11_remake yX11_remake ∈ gBIG := gm_of (gs3 _ (List.mem_of_getElem? (l := tables_1_3) (i := 16) rfl)) rfl
theorem wl_30 : Cond.code yX12_remake cX12_remake 3 (some .int) ∈ gBIG := gm_of (gs6 _ (List.mem_of_getElem? (l := tables_1_6) (i := 210) rfl)) rfl
theorem wl_31 : Cond.methodLink R_law 31 yX12_remake ∈ gBIG := gm_of (gs6 _ (List.mem_of_getElem? (l := tables_1_6) (i := 207) rfl)) rfl
theorem wl_32 : Cond.instanceMethod yX12_remake ∈ gBIG := gm_of (gs6 _ (List.mem_of_getElem? (l := tables_1_6) (i := 208) rfl)) rfl
theorem wl_33 : Cond.selects RX12 yX12_remake yX12_remake ∈ gBIG := gm_of (gs6 _ (List.mem_of_getElem? (l := tables_1_6) (i := 209) rfl)) rfl
theorem wl_34 : Cond.code yX11_sun cX11_sun 3 (some .int) ∈ gBIG := gm_of (gs3 _ (List.mem_of_getElem? (l := tables_1_3) (i := 21) rfl)) rfl
theorem wl_35 : Cond.methodLink R_law 32 yX11_sun ∈ gBIG := gm_of (gs3 _ (List.mem_of_getElem? (l := tables_1_3) (i := 18) rfl)) rfl
theorem wl_36 : Cond.instanceMethod yX11_sun ∈ gBIG := gm_of (gs3 _ (List.mem_of_getElem? (l := tables_1_3) (i := 19) rfl)) rfl
theorem wl_37 : Cond.selects RX11 yX11_sun yX11_sun ∈ gBIG := gm_of (gs3 _ (List.mem_of_getElem? (l := tables_1_3) (i := 20) rfl)) rfl
theorem wl_38 : Cond.code yX12_sun cX12_sun 3 (some .int) ∈ gBIG := gm_of (gs6 _ (List.mem_of_getElem? (l := tables_1_6) (i := 214) rfl)) rfl
theorem wl_39 : Cond.methodLink R_law 35 yX12_sun ∈ gBIG := gm_of (gs6 _ (List.mem_of_getElem? (l := tables_1_6) (i := 211) rfl)) rfl
theorem wl_40 : Cond.instanceMethod yX12_sun ∈ gBIG := gm_of (gs6 _ (List.mem_of_getElem? (l := tables_1_6) (i := 212) rfl)) rfl
theorem wl_41 : Cond.selects RX12 yX12_sun yX12_sun ∈ gBIG := gm_of (gs6 _ (List.mem_of_getElem? (l := tables_1_6) (i := 213) rfl)) rfl
theorem wl_42 : Cond.code yX11_gate cX11_gate 4 (some .int) ∈ gBIG := gm_of (gs3 _ (List.mem_of_getElem? (l := tables_1_3) (i := 25) rfl)) rfl
theorem wl_43 : Cond.methodLink R_law 36 yX11_gate ∈ gBIG := gm_of (gs3 _ (List.mem_of_getElem? (l := tables_1_3) (i := 22) rfl)) rfl
theorem wl_44 : Cond.instanceMethod yX11_gate ∈ gBIG := gm_of (gs3 _ (List.mem_of_getElem? (l := tables_1_3) (i := 23) rfl)) rfl
theorem wl_45 : Cond.selects RX11 yX11_gate yX11_gate ∈ gBIG := gm_of (gs3 _ (List.mem_of_getElem? (l := tables_1_3) (i := 24) rfl)) rfl
theorem wl_46 : Cond.code yX12_gate cX12_gate 4 (some .int) ∈ gBIG := gm_of (gs6 _ (List.mem_of_getElem? (l := tables_1_6) (i := 218) rfl)) rfl
theorem wl_47 : Cond.methodLink R_law 39 yX12_gate ∈ gBIG := gm_of (gs6 _ (List.mem_of_getElem? (l := tables_1_6) (i := 215) rfl)) rfl
theorem wl_48 : Cond.instanceMethod yX12_gate ∈ gBIG := gm_of (gs6 _ (List.mem_of_getElem? (l := tables_1_6) (i := 216) rfl)) rfl
theorem wl_49 : Cond.selects RX12 yX12_gate yX12_gate ∈ gBIG := gm_of (gs6 _ (List.mem_of_getElem? (l := tables_1_6) (i := 217) rfl)) rfl
theorem wl_50 : Cond.code yX11_gateOf cX11_gateOf 3 (some .int) ∈ gBIG := gm_of (gs3 _ (List.mem_of_getElem? (l := tables_1_3) (i := 29) rfl)) rfl
theorem wl_51 : Cond.methodLink R_law 40 yX11_gateOf ∈ gBIG := gm_of (gs3 _ (List.mem_of_getElem? (l := tables_1_3) (i := 26) rfl)) rfl
theorem wl_52 : Cond.instanceMethod yX11_gateOf ∈ gBIG := gm_of (gs3 _ (List.mem_of_getElem? (l := tables_1_3) (i := 27) rfl)) rfl
theorem wl_53 : Cond.selects RX11 yX11_gateOf yX11_gateOf ∈ gBIG := gm_of (gs3 _ (List.mem_of_getElem? (l := tables_1_3) (i := 28) rfl)) rfl
theorem wl_54 : Cond.code yX12_gateOf cX12_gateOf 3 (some .int) ∈ gBIG := gm_of (gs6 _ (List.mem_of_getElem? (l := tables_1_6) (i := 222) rfl)) rfl
theorem wl_55 : Cond.methodLink R_law 43 yX12_gateOf ∈ gBIG := gm_of (gs6 _ (List.mem_of_getElem? (l := tables_1_6) (i := 219) rfl)) rfl
theorem wl_56 : Cond.instanceMethod yX12_gateOf ∈ gBIG := gm_of (gs6 _ (List.mem_of_getElem? (l := tables_1_6) (i := 220) rfl)) rfl
theorem wl_57 : Cond.selects RX12 yX12_gateOf yX12_gateOf ∈ gBIG := gm_of (gs6 _ (List.mem_of_getElem? (l := tables_1_6) (i := 221) rfl)) rfl
theorem wl_58 : Cond.code yX11_ends cX11_ends 3 (some .int) ∈ gBIG := gm_of (gs3 _ (List.mem_of_getElem? (l := tables_1_3) (i := 33) rfl)) rfl
theorem wl_59 : Cond.methodLink R_law 44 yX11_ends ∈ gBIG := gm_of (gs3 _ (List.mem_of_getElem? (l := tables_1_3) (i := 30) rfl)) rfl
theorem wl_60 : Cond.instanceMethod yX11_ends ∈ gBIG := gm_of (gs3 _ (List.mem_of_getElem? (l := tables_1_3) (i := 31) rfl)) rfl
theorem wl_61 : Cond.selects RX11 yX11_ends yX11_ends ∈ gBIG := gm_of (gs3 _ (List.mem_of_getElem? (l := tables_1_3) (i := 32) rfl)) rfl
theorem wl_62 : Cond.code yX12_ends cX12_ends 2 (some .int) ∈ gBIG := gm_of (gs6 _ (List.mem_of_getElem? (l := tables_1_6) (i := 226) rfl)) rfl
theorem wl_63 : Cond.methodLink R_law 48 yX12_ends ∈ gBIG := gm_of (gs6 _ (List.mem_of_getElem? (l := tables_1_6) (i := 223) rfl)) rfl
theorem wl_64 : Cond.instanceMethod yX12_ends ∈ gBIG := gm_of (gs6 _ (List.mem_of_getElem? (l := tables_1_6) (i := 224) rfl)) rfl
theorem wl_65 : Cond.selects RX12 yX12_ends yX12_ends ∈ gBIG := gm_of (gs6 _ (List.mem_of_getElem? (l := tables_1_6) (i := 225) rfl)) rfl
theorem wl_66 : Cond.code yX11_anew cX11_anew 2 (some .int) ∈ gBIG := gm_of (gs3 _ (List.mem_of_getElem? (l := tables_1_3) (i := 37) rfl)) rfl
theorem wl_67 : Cond.methodLink R_law 49 yX11_anew ∈ gBIG := gm_of (gs3 _ (List.mem_of_getElem? (l := tables_1_3) (i := 34) rfl)) rfl
theorem wl_68 : Cond.instanceMethod yX11_anew ∈ gBIG := gm_of (gs3 _ (List.mem_of_getElem? (l := tables_1_3) (i := 35) rfl)) rfl
theorem wl_69 : Cond.selects RX11 yX11_anew yX11_anew ∈ gBIG := gm_of (gs3 _ (List.mem_of_getElem? (l := tables_1_3) (i := 36) rfl)) rfl
theorem wl_70 : Cond.code yX12_anew cX12_anew 2 (some .int) ∈ gBIG := gm_of (gs6 _ (List.mem_of_getElem? (l := tables_1_6) (i := 230) rfl)) rfl
theorem wl_71 : Cond.methodLink R_law 53 yX12_anew ∈ gBIG := gm_of (gs6 _ (List.mem_of_getElem? (l := tables_1_6) (i := 227) rfl)) rfl
theorem wl_72 : Cond.instanceMethod yX12_anew ∈ gBIG := gm_of (gs6 _ (List.mem_of_getElem? (l := tables_1_6) (i := 228) rfl)) rfl
theorem wl_73 : Cond.selects RX12 yX12_anew yX12_anew ∈ gBIG := gm_of (gs6 _ (List.mem_of_getElem? (l := tables_1_6) (i := 229) rfl)) rfl
theorem wl_74 : Cond.code yX11_state cX11_state 2 (some .int) ∈ gBIG := gm_of (gs3 _ (List.mem_of_getElem? (l := tables_1_3) (i := 41) rfl)) rfl
theorem wl_75 : Cond.methodLink R_law 54 yX11_state ∈ gBIG := gm_of (gs3 _ (List.mem_of_getElem? (l := tables_1_3) (i := 38) rfl)) rfl
theorem wl_76 : Cond.instanceMethod yX11_state ∈ gBIG := gm_of (gs3 _ (List.mem_of_getElem? (l := tables_1_3) (i := 39) rfl)) rfl
theorem wl_77 : Cond.selects RX11 yX11_state yX11_state ∈ gBIG := gm_of (gs3 _ (List.mem_of_getElem? (l := tables_1_3) (i := 40) rfl)) rfl
theorem wl_78 : Cond.code yX12_state cX12_state 2 (some .int) ∈ gBIG := gm_of (gs6 _ (List.mem_of_getElem? (l := tables_1_6) (i := 234) rfl)) rfl
theorem wl_79 : Cond.methodLink R_law 57 yX12_state ∈ gBIG := gm_of (gs6 _ (List.mem_of_getElem? (l := tables_1_6) (i := 231) rfl)) rfl
theorem wl_80 : Cond.instanceMethod yX12_state ∈ gBIG := gm_of (gs6 _ (List.mem_of_getElem? (l := tables_1_6) (i := 232) rfl)) rfl
theorem wl_81 : Cond.selects RX12 yX12_state yX12_state ∈ gBIG := gm_of (gs6 _ (List.mem_of_getElem? (l := tables_1_6) (i := 233) rfl)) rfl
theorem wl_82 : Cond.code yX11_feed cX11_feed 5 (some .int) ∈ gBIG := gm_of (gs3 _ (List.mem_of_getElem? (l := tables_1_3) (i := 54) rfl)) rfl
theorem wl_83 : Cond.methodLink R_law 60 yX11_feed ∈ gBIG := gm_of (gs3 _ (List.mem_of_getElem? (l := tables_1_3) (i := 51) rfl)) rfl
theorem wl_84 : Cond.instanceMethod yX11_feed ∈ gBIG := gm_of (gs3 _ (List.mem_of_getElem? (l := tables_1_3) (i := 52) rfl)) rfl
theorem wl_85 : Cond.selects RX11 yX11_feed yX11_feed ∈ gBIG := gm_of (gs3 _ (List.mem_of_getElem? (l := tables_1_3) (i := 53) rfl)) rfl
theorem wl_86 : Cond.code yX12_feed cX12_feed 5 (some .int) ∈ gBIG := gm_of (gs6 _ (List.mem_of_getElem? (l := tables_1_6) (i := 50) rfl)) rfl
theorem wl_87 : Cond.methodLink R_law 64 yX12_feed ∈ gBIG := gm_of (gs6 _ (List.mem_of_getElem? (l := tables_1_6) (i := 47) rfl)) rfl
theorem wl_88 : Cond.instanceMethod yX12_feed ∈ gBIG := gm_of (gs6 _ (List.mem_of_getElem? (l := tables_1_6) (i := 48) rfl)) rfl
theorem wl_89 : Cond.selects RX12 yX12_feed yX12_feed ∈ gBIG := gm_of (gs6 _ (List.mem_of_getElem? (l := tables_1_6) (i := 49) rfl)) rfl
theorem wl_90 : Cond.code yX11_rules cX11_rules 2 (some .int) ∈ gBIG := gm_of (gs3 _ (List.mem_of_getElem? (l := tables_1_3) (i := 62) rfl)) rfl
theorem wl_91 : Cond.methodLink R_law 65 yX11_rules ∈ gBIG := gm_of (gs3 _ (List.mem_of_getElem? (l := tables_1_3) (i := 59) rfl)) rfl
theorem wl_92 : Cond.instanceMethod yX11_rules ∈ gBIG := gm_of (gs3 _ (List.mem_of_getElem? (l := tables_1_3) (i := 60) rfl)) rfl
theorem wl_93 : Cond.selects RX11 yX11_rules yX11_rules ∈ gBIG := gm_of (gs3 _ (List.mem_of_getElem? (l := tables_1_3) (i := 61) rfl)) rfl
theorem wl_94 : Cond.code yX12_rules cX12_rules 4 (some .int) ∈ gBIG := gm_of (gs6 _ (List.mem_of_getElem? (l := tables_1_6) (i := 58) rfl)) rfl
theorem wl_95 : Cond.methodLink R_law 68 yX12_rules ∈ gBIG := gm_of (gs6 _ (List.mem_of_getElem? (l := tables_1_6) (i := 55) rfl)) rfl
theorem wl_96 : Cond.instanceMethod yX12_rules ∈ gBIG := gm_of (gs6 _ (List.mem_of_getElem? (l := tables_1_6) (i := 56) rfl)) rfl
theorem wl_97 : Cond.selects RX12 yX12_rules yX12_rules ∈ gBIG := gm_of (gs6 _ (List.mem_of_getElem? (l := tables_1_6) (i := 57) rfl)) rfl
theorem wl_98 : Cond.code yX11_halt cX11_halt 1 (some .int) ∈ gBIG := gm_of (gs3 _ (List.mem_of_getElem? (l := tables_1_3) (i := 221) rfl)) rfl
theorem wl_99 : Cond.methodLink R_law 69 yX11_halt ∈ gBIG := gm_of (gs3 _ (List.mem_of_getElem? (l := tables_1_3) (i := 218) rfl)) rfl
theorem wl_100 : Cond.instanceMethod yX11_halt ∈ gBIG := gm_of (gs3 _ (List.mem_of_getElem? (l := tables_1_3) (i := 219) rfl)) rfl
theorem wl_101 : Cond.selects RX11 yX11_halt yX11_halt ∈ gBIG := gm_of (gs3 _ (List.mem_of_getElem? (l := tables_1_3) (i := 220) rfl)) rfl
theorem wl_102 : Cond.code yX12_halt cX12_halt 1 (some .int) ∈ gBIG := gm_of (gs7 _ (List.mem_of_getElem? (l := tables_1_7) (i := 10) rfl)) rfl
theorem wl_103 : Cond.methodLink R_law 72 yX12_halt ∈ gBIG := gm_of (gs7 _ (List.mem_of_getElem? (l := tables_1_7) (i := 7) rfl)) rfl
theorem wl_104 : Cond.instanceMethod yX12_halt ∈ gBIG := gm_of (gs7 _ (List.mem_of_getElem? (l := tables_1_7) (i := 8) rfl)) rfl
theorem wl_105 : Cond.selects RX12 yX12_halt yX12_halt ∈ gBIG := gm_of (gs7 _ (List.mem_of_getElem? (l := tables_1_7) (i := 9) rfl)) rfl
theorem wl_106 : Cond.code yX11_on cX11_on 3 (some .int) ∈ gBIG := gm_of (gs4 _ (List.mem_of_getElem? (l := tables_1_4) (i := 9) rfl)) rfl
theorem wl_107 : Cond.methodLink R_law 73 yX11_on ∈ gBIG := gm_of (gs4 _ (List.mem_of_getElem? (l := tables_1_4) (i := 6) rfl)) rfl
theorem wl_108 : Cond.instanceMethod yX11_on ∈ gBIG := gm_of (gs4 _ (List.mem_of_getElem? (l := tables_1_4) (i := 7) rfl)) rfl
theorem wl_109 : Cond.selects RX11 yX11_on yX11_on ∈ gBIG := gm_of (gs4 _ (List.mem_of_getElem? (l := tables_1_4) (i := 8) rfl)) rfl
theorem wl_110 : Cond.code yX12_on cX12_on 3 (some .int) ∈ gBIG := gm_of (gs7 _ (List.mem_of_getElem? (l := tables_1_7) (i := 33) rfl)) rfl
theorem wl_111 : Cond.methodLink R_law 76 yX12_on ∈ gBIG := gm_of (gs7 _ (List.mem_of_getElem? (l := tables_1_7) (i := 30) rfl)) rfl
theorem wl_112 : Cond.instanceMethod yX12_on ∈ gBIG := gm_of (gs7 _ (List.mem_of_getElem? (l := tables_1_7) (i := 31) rfl)) rfl
theorem wl_113 : Cond.selects RX12 yX12_on yX12_on ∈ gBIG := gm_of (gs7 _ (List.mem_of_getElem? (l := tables_1_7) (i := 32) rfl)) rfl
theorem wl_114 : Cond.code yX11_when cX11_when 5 (some .int) ∈ gBIG := gm_of (gs4 _ (List.mem_of_getElem? (l := tables_1_4) (i := 28) rfl)) rfl
theorem wl_115 : Cond.methodLink R_law 77 yX11_when ∈ gBIG := gm_of (gs4 _ (List.mem_of_getElem? (l := tables_1_4) (i := 25) rfl)) rfl
theorem wl_116 : Cond.instanceMethod yX11_when ∈ gBIG := gm_of (gs4 _ (List.mem_of_getElem? (l := tables_1_4) (i := 26) rfl)) rfl
theorem wl_117 : Cond.selects RX11 yX11_when yX11_when ∈ gBIG := gm_of (gs4 _ (List.mem_of_getElem? (l := tables_1_4) (i := 27) rfl)) rfl
theorem wl_118 : Cond.code yX12_when cX12_when 5 (some .int) ∈ gBIG := gm_of (gs7 _ (List.mem_of_getElem? (l := tables_1_7) (i := 49) rfl)) rfl
theorem wl_119 : Cond.methodLink R_law 80 yX12_when ∈ gBIG := gm_of (gs7 _ (List.mem_of_getElem? (l := tables_1_7) (i := 46) rfl)) rfl
theorem wl_120 : Cond.instanceMethod yX12_when ∈ gBIG := gm_of (gs7 _ (List.mem_of_getElem? (l := tables_1_7) (i := 47) rfl)) rfl
theorem wl_121 : Cond.selects RX12 yX12_when yX12_when ∈ gBIG := gm_of (gs7 _ (List.mem_of_getElem? (l := tables_1_7) (i := 48) rfl)) rfl
theorem wl_122 : Cond.code yX11_strawFor cX11_strawFor 2 (some .int) ∈ gBIG := gm_of (gs4 _ (List.mem_of_getElem? (l := tables_1_4) (i := 32) rfl)) rfl
theorem wl_123 : Cond.methodLink R_law 81 yX11_strawFor ∈ gBIG := gm_of (gs4 _ (List.mem_of_getElem? (l := tables_1_4) (i := 29) rfl)) rfl
theorem wl_124 : Cond.instanceMethod yX11_strawFor ∈ gBIG := gm_of (gs4 _ (List.mem_of_getElem? (l := tables_1_4) (i := 30) rfl)) rfl
theorem wl_125 : Cond.selects RX11 yX11_strawFor yX11_strawFor ∈ gBIG := gm_of (gs4 _ (List.mem_of_getElem? (l := tables_1_4) (i := 31) rfl)) rfl
theorem wl_126 : Cond.code yX12_strawFor cX12_strawFor 2 (some .int) ∈ gBIG := gm_of (gs7 _ (List.mem_of_getElem? (l := tables_1_7) (i := 53) rfl)) rfl
theorem wl_127 : Cond.methodLink R_law 84 yX12_strawFor ∈ gBIG := gm_of (gs7 _ (List.mem_of_getElem? (l := tables_1_7) (i := 50) rfl)) rfl
theorem wl_128 : Cond.instanceMethod yX12_strawFor ∈ gBIG := gm_of (gs7 _ (List.mem_of_getElem? (l := tables_1_7) (i := 51) rfl)) rfl
theorem wl_129 : Cond.selects RX12 yX12_strawFor yX12_strawFor ∈ gBIG := gm_of (gs7 _ (List.mem_of_getElem? (l := tables_1_7) (i := 52) rfl)) rfl
theorem wl_130 : Cond.code yX11_gateFor cX11_gateFor 2 (some .int) ∈ gBIG := gm_of (gs4 _ (List.mem_of_getElem? (l := tables_1_4) (i := 40) rfl)) rfl
theorem wl_131 : Cond.methodLink R_law 85 yX11_gateFor ∈ gBIG := gm_of (gs4 _ (List.mem_of_getElem? (l := tables_1_4) (i := 37) rfl)) rfl
theorem wl_132 : Cond.instanceMethod yX11_gateFor ∈ gBIG := gm_of (gs4 _ (List.mem_of_getElem? (l := tables_1_4) (i := 38) rfl)) rfl
theorem wl_133 : Cond.selects RX11 yX11_gateFor yX11_gateFor ∈ gBIG := gm_of (gs4 _ (List.mem_of_getElem? (l := tables_1_4) (i := 39) rfl)) rfl
theorem wl_134 : Cond.code yX12_gateFor cX12_gateFor 2 (some .int) ∈ gBIG := gm_of (gs7 _ (List.mem_of_getElem? (l := tables_1_7) (i := 61) rfl)) rfl
theorem wl_135 : Cond.methodLink R_law 88 yX12_gateFor ∈ gBIG := gm_of (gs7 _ (List.mem_of_getElem? (l := tables_1_7) (i := 58) rfl)) rfl
theorem wl_136 : Cond.instanceMethod yX12_gateFor ∈ gBIG := gm_of (gs7 _ (List.mem_of_getElem? (l := tables_1_7) (i := 59) rfl)) rfl
theorem wl_137 : Cond.selects RX12 yX12_gateFor yX12_gateFor ∈ gBIG := gm_of (gs7 _ (List.mem_of_getElem? (l := tables_1_7) (i := 60) rfl)) rfl
theorem wl_138 : Cond.code yX11_gone cX11_gone 3 (some .int) ∈ gBIG := gm_of (gs4 _ (List.mem_of_getElem? (l := tables_1_4) (i := 44) rfl)) rfl
theorem wl_139 : Cond.methodLink R_law 89 yX11_gone ∈ gBIG := gm_of (gs4 _ (List.mem_of_getElem? (l := tables_1_4) (i := 41) rfl)) rfl
theorem wl_140 : Cond.instanceMethod yX11_gone ∈ gBIG := gm_of (gs4 _ (List.mem_of_getElem? (l := tables_1_4) (i := 42) rfl)) rfl
theorem wl_141 : Cond.selects RX11 yX11_gone yX11_gone ∈ gBIG := gm_of (gs4 _ (List.mem_of_getElem? (l := tables_1_4) (i := 43) rfl)) rfl
theorem wl_142 : Cond.code yX12_gone cX12_gone 4 (some .int) ∈ gBIG := gm_of (gs7 _ (List.mem_of_getElem? (l := tables_1_7) (i := 65) rfl)) rfl
theorem wl_143 : Cond.methodLink R_law 92 yX12_gone ∈ gBIG := gm_of (gs7 _ (List.mem_of_getElem? (l := tables_1_7) (i := 62) rfl)) rfl
theorem wl_144 : Cond.instanceMethod yX12_gone ∈ gBIG := gm_of (gs7 _ (List.mem_of_getElem? (l := tables_1_7) (i := 63) rfl)) rfl
theorem wl_145 : Cond.selects RX12 yX12_gone yX12_gone ∈ gBIG := gm_of (gs7 _ (List.mem_of_getElem? (l := tables_1_7) (i := 64) rfl)) rfl
theorem wl_146 : Cond.code yX11_opens cX11_opens 4 (some .int) ∈ gBIG := gm_of (gs4 _ (List.mem_of_getElem? (l := tables_1_4) (i := 48) rfl)) rfl
theorem wl_147 : Cond.methodLink R_law 93 yX11_opens ∈ gBIG := gm_of (gs4 _ (List.mem_of_getElem? (l := tables_1_4) (i := 45) rfl)) rfl
theorem wl_148 : Cond.instanceMethod yX11_opens ∈ gBIG := gm_of (gs4 _ (List.mem_of_getElem? (l := tables_1_4) (i := 46) rfl)) rfl
theorem wl_149 : Cond.selects RX11 yX11_opens yX11_opens ∈ gBIG := gm_of (gs4 _ (List.mem_of_getElem? (l := tables_1_4) (i := 47) rfl)) rfl
theorem wl_150 : Cond.code yX12_opens cX12_opens 4 (some .int) ∈ gBIG := gm_of (gs7 _ (List.mem_of_getElem? (l := tables_1_7) (i := 69) rfl)) rfl
theorem wl_151 : Cond.methodLink R_law 96 yX12_opens ∈ gBIG := gm_of (gs7 _ (List.mem_of_getElem? (l := tables_1_7) (i := 66) rfl)) rfl
theorem wl_152 : Cond.instanceMethod yX12_opens ∈ gBIG := gm_of (gs7 _ (List.mem_of_getElem? (l := tables_1_7) (i := 67) rfl)) rfl
theorem wl_153 : Cond.selects RX12 yX12_opens yX12_opens ∈ gBIG := gm_of (gs7 _ (List.mem_of_getElem? (l := tables_1_7) (i := 68) rfl)) rfl
theorem wl_154 : Cond.code yX11_left cX11_left 4 (some .int) ∈ gBIG := gm_of (gs4 _ (List.mem_of_getElem? (l := tables_1_4) (i := 53) rfl)) rfl
theorem wl_155 : Cond.methodLink R_law 97 yX11_left ∈ gBIG := gm_of (gs4 _ (List.mem_of_getElem? (l := tables_1_4) (i := 50) rfl)) rfl
theorem wl_156 : Cond.instanceMethod yX11_left ∈ gBIG := gm_of (gs4 _ (List.mem_of_getElem? (l := tables_1_4) (i := 51) rfl)) rfl
theorem wl_157 : Cond.selects RX11 yX11_left yX11_left ∈ gBIG := gm_of (gs4 _ (List.mem_of_getElem? (l := tables_1_4) (i := 52) rfl)) rfl
theorem wl_158 : Cond.code yX12_left cX12_left 5 (some .int) ∈ gBIG := gm_of (gs7 _ (List.mem_of_getElem? (l := tables_1_7) (i := 73) rfl)) rfl
theorem wl_159 : Cond.methodLink R_law 100 yX12_left ∈ gBIG := gm_of (gs7 _ (List.mem_of_getElem? (l := tables_1_7) (i := 70) rfl)) rfl
theorem wl_160 : Cond.instanceMethod yX12_left ∈ gBIG := gm_of (gs7 _ (List.mem_of_getElem? (l := tables_1_7) (i := 71) rfl)) rfl
theorem wl_161 : Cond.selects RX12 yX12_left yX12_left ∈ gBIG := gm_of (gs7 _ (List.mem_of_getElem? (l := tables_1_7) (i := 72) rfl)) rfl
theorem wl_162 : Cond.code yX11_bunches cX11_bunches 2 (some .int) ∈ gBIG := gm_of (gs4 _ (List.mem_of_getElem? (l := tables_1_4) (i := 57) rfl)) rfl
theorem wl_163 : Cond.methodLink R_law 101 yX11_bunches ∈ gBIG := gm_of (gs4 _ (List.mem_of_getElem? (l := tables_1_4) (i := 54) rfl)) rfl
theorem wl_164 : Cond.instanceMethod yX11_bunches ∈ gBIG := gm_of (gs4 _ (List.mem_of_getElem? (l := tables_1_4) (i := 55) rfl)) rfl
theorem wl_165 : Cond.selects RX11 yX11_bunches yX11_bunches ∈ gBIG := gm_of (gs4 _ (List.mem_of_getElem? (l := tables_1_4) (i := 56) rfl)) rfl
theorem wl_166 : Cond.code yX12_bunches cX12_bunches 5 (some .int) ∈ gBIG := gm_of (gs7 _ (List.mem_of_getElem? (l := tables_1_7) (i := 77) rfl)) rfl
theorem wl_167 : Cond.methodLink R_law 104 yX12_bunches ∈ gBIG := gm_of (gs7 _ (List.mem_of_getElem? (l := tables_1_7) (i := 74) rfl)) rfl
theorem wl_168 : Cond.instanceMethod yX12_bunches ∈ gBIG := gm_of (gs7 _ (List.mem_of_getElem? (l := tables_1_7) (i := 75) rfl)) rfl
theorem wl_169 : Cond.selects RX12 yX12_bunches yX12_bunches ∈ gBIG := gm_of (gs7 _ (List.mem_of_getElem? (l := tables_1_7) (i := 76) rfl)) rfl
theorem wl_170 : Cond.code yX11_best cX11_best 2 (some .int) ∈ gBIG := gm_of (gs4 _ (List.mem_of_getElem? (l := tables_1_4) (i := 83) rfl)) rfl
theorem wl_171 : Cond.methodLink R_law 105 yX11_best ∈ gBIG := gm_of (gs4 _ (List.mem_of_getElem? (l := tables_1_4) (i := 80) rfl)) rfl
theorem wl_172 : Cond.instanceMethod yX11_best ∈ gBIG := gm_of (gs4 _ (List.mem_of_getElem? (l := tables_1_4) (i := 81) rfl)) rfl
theorem wl_173 : Cond.selects RX11 yX11_best yX11_best ∈ gBIG := gm_of (gs4 _ (List.mem_of_getElem? (l := tables_1_4) (i := 82) rfl)) rfl
theorem wl_174 : Cond.code yX12_best cX12_best 2 (some .int) ∈ gBIG := gm_of (gs7 _ (List.mem_of_getElem? (l := tables_1_7) (i := 89) rfl)) rfl
theorem wl_175 : Cond.methodLink R_law 108 yX12_best ∈ gBIG := gm_of (gs7 _ (List.mem_of_getElem? (l := tables_1_7) (i := 86) rfl)) rfl
theorem wl_176 : Cond.instanceMethod yX12_best ∈ gBIG := gm_of (gs7 _ (List.mem_of_getElem? (l := tables_1_7) (i := 87) rfl)) rfl
theorem wl_177 : Cond.selects RX12 yX12_best yX12_best ∈ gBIG := gm_of (gs7 _ (List.mem_of_getElem? (l := tables_1_7) (i := 88) rfl)) rfl
theorem wl_178 : Cond.code yX11_ith cX11_ith 3 (some .int) ∈ gBIG := gm_of (gs4 _ (List.mem_of_getElem? (l := tables_1_4) (i := 108) rfl)) rfl
theorem wl_179 : Cond.methodLink R_law 109 yX11_ith ∈ gBIG := gm_of (gs4 _ (List.mem_of_getElem? (l := tables_1_4) (i := 105) rfl)) rfl
theorem wl_180 : Cond.instanceMethod yX11_ith ∈ gBIG := gm_of (gs4 _ (List.mem_of_getElem? (l := tables_1_4) (i := 106) rfl)) rfl
theorem wl_181 : Cond.selects RX11 yX11_ith yX11_ith ∈ gBIG := gm_of (gs4 _ (List.mem_of_getElem? (l := tables_1_4) (i := 107) rfl)) rfl
theorem wl_182 : Cond.code yX12_ith cX12_ith 3 (some .int) ∈ gBIG := gm_of (gs7 _ (List.mem_of_getElem? (l := tables_1_7) (i := 120) rfl)) rfl
theorem wl_183 : Cond.methodLink R_law 112 yX12_ith ∈ gBIG := gm_of (gs7 _ (List.mem_of_getElem? (l := tables_1_7) (i := 117) rfl)) rfl
theorem wl_184 : Cond.instanceMethod yX12_ith ∈ gBIG := gm_of (gs7 _ (List.mem_of_getElem? (l := tables_1_7) (i := 118) rfl)) rfl
theorem wl_185 : Cond.selects RX12 yX12_ith yX12_ith ∈ gBIG := gm_of (gs7 _ (List.mem_of_getElem? (l := tables_1_7) (i := 119) rfl)) rfl
theorem wl_186 : Cond.code yX11_ways cX11_ways 2 (some .int) ∈ gBIG := gm_of (gs4 _ (List.mem_of_getElem? (l := tables_1_4) (i := 116) rfl)) rfl
theorem wl_187 : Cond.methodLink R_law 113 yX11_ways ∈ gBIG := gm_of (gs4 _ (List.mem_of_getElem? (l := tables_1_4) (i := 113) rfl)) rfl
theorem wl_188 : Cond.instanceMethod yX11_ways ∈ gBIG := gm_of (gs4 _ (List.mem_of_getElem? (l := tables_1_4) (i := 114) rfl)) rfl
theorem wl_189 : Cond.selects RX11 yX11_ways yX11_ways ∈ gBIG := gm_of (gs4 _ (List.mem_of_getElem? (l := tables_1_4) (i := 115) rfl)) rfl
theorem wl_190 : Cond.code yX12_ways cX12_ways 2 (some .int) ∈ gBIG := gm_of (gs7 _ (List.mem_of_getElem? (l := tables_1_7) (i := 124) rfl)) rfl
theorem wl_191 : Cond.methodLink R_law 116 yX12_ways ∈ gBIG := gm_of (gs7 _ (List.mem_of_getElem? (l := tables_1_7) (i := 121) rfl)) rfl
theorem wl_192 : Cond.instanceMethod yX12_ways ∈ gBIG := gm_of (gs7 _ (List.mem_of_getElem? (l := tables_1_7) (i := 122) rfl)) rfl
theorem wl_193 : Cond.selects RX12 yX12_ways yX12_ways ∈ gBIG := gm_of (gs7 _ (List.mem_of_getElem? (l := tables_1_7) (i := 123) rfl)) rfl
theorem wl_194 : Cond.code yX11_order cX11_order 4 (some .int) ∈ gBIG := gm_of (gs4 _ (List.mem_of_getElem? (l := tables_1_4) (i := 120) rfl)) rfl
theorem wl_195 : Cond.methodLink R_law 117 yX11_order ∈ gBIG := gm_of (gs4 _ (List.mem_of_getElem? (l := tables_1_4) (i := 117) rfl)) rfl
theorem wl_196 : Cond.instanceMethod yX11_order ∈ gBIG := gm_of (gs4 _ (List.mem_of_getElem? (l := tables_1_4) (i := 118) rfl)) rfl
theorem wl_197 : Cond.selects RX11 yX11_order yX11_order ∈ gBIG := gm_of (gs4 _ (List.mem_of_getElem? (l := tables_1_4) (i := 119) rfl)) rfl
theorem wl_198 : Cond.code yX12_order cX12_order 3 (some .int) ∈ gBIG := gm_of (gs7 _ (List.mem_of_getElem? (l := tables_1_7) (i := 128) rfl)) rfl
theorem wl_199 : Cond.methodLink R_law 120 yX12_order ∈ gBIG := gm_of (gs7 _ (List.mem_of_getElem? (l := tables_1_7) (i := 125) rfl)) rfl
theorem wl_200 : Cond.instanceMethod yX12_order ∈ gBIG := gm_of (gs7 _ (List.mem_of_getElem? (l := tables_1_7) (i := 126) rfl)) rfl
theorem wl_201 : Cond.selects RX12 yX12_order yX12_order ∈ gBIG := gm_of (gs7 _ (List.mem_of_getElem? (l := tables_1_7) (i := 127) rfl)) rfl
theorem wl_202 : Cond.code yX11_bars cX11_bars 4 (some .int) ∈ gBIG := gm_of (gs4 _ (List.mem_of_getElem? (l := tables_1_4) (i := 134) rfl)) rfl
theorem wl_203 : Cond.methodLink R_law 121 yX11_bars ∈ gBIG := gm_of (gs4 _ (List.mem_of_getElem? (l := tables_1_4) (i := 131) rfl)) rfl
theorem wl_204 : Cond.instanceMethod yX11_bars ∈ gBIG := gm_of (gs4 _ (List.mem_of_getElem? (l := tables_1_4) (i := 132) rfl)) rfl
theorem wl_205 : Cond.selects RX11 yX11_bars yX11_bars ∈ gBIG := gm_of (gs4 _ (List.mem_of_getElem? (l := tables_1_4) (i := 133) rfl)) rfl
theorem wl_206 : Cond.code yX12_bars cX12_bars 5 (some .int) ∈ gBIG := gm_of (gs7 _ (List.mem_of_getElem? (l := tables_1_7) (i := 136) rfl)) rfl
theorem wl_207 : Cond.methodLink R_law 124 yX12_bars ∈ gBIG := gm_of (gs7 _ (List.mem_of_getElem? (l := tables_1_7) (i := 133) rfl)) rfl
theorem wl_208 : Cond.instanceMethod yX12_bars ∈ gBIG := gm_of (gs7 _ (List.mem_of_getElem? (l := tables_1_7) (i := 134) rfl)) rfl
theorem wl_209 : Cond.selects RX12 yX12_bars yX12_bars ∈ gBIG := gm_of (gs7 _ (List.mem_of_getElem? (l := tables_1_7) (i := 135) rfl)) rfl
theorem wl_210 : Cond.code yX11_game cX11_game 2 (some .int) ∈ gBIG := gm_of (gs4 _ (List.mem_of_getElem? (l := tables_1_4) (i := 143) rfl)) rfl
theorem wl_211 : Cond.methodLink R_law 125 yX11_game ∈ gBIG := gm_of (gs4 _ (List.mem_of_getElem? (l := tables_1_4) (i := 140) rfl)) rfl
theorem wl_212 : Cond.instanceMethod yX11_game ∈ gBIG := gm_of (gs4 _ (List.mem_of_getElem? (l := tables_1_4) (i := 141) rfl)) rfl
theorem wl_213 : Cond.selects RX11 yX11_game yX11_game ∈ gBIG := gm_of (gs4 _ (List.mem_of_getElem? (l := tables_1_4) (i := 142) rfl)) rfl
theorem wl_214 : Cond.code yX12_game cX12_game 2 (some .int) ∈ gBIG := gm_of (gs7 _ (List.mem_of_getElem? (l := tables_1_7) (i := 140) rfl)) rfl
theorem wl_215 : Cond.methodLink R_law 128 yX12_game ∈ gBIG := gm_of (gs7 _ (List.mem_of_getElem? (l := tables_1_7) (i := 137) rfl)) rfl
theorem wl_216 : Cond.instanceMethod yX12_game ∈ gBIG := gm_of (gs7 _ (List.mem_of_getElem? (l := tables_1_7) (i := 138) rfl)) rfl
theorem wl_217 : Cond.selects RX12 yX12_game yX12_game ∈ gBIG := gm_of (gs7 _ (List.mem_of_getElem? (l := tables_1_7) (i := 139) rfl)) rfl
theorem wl_218 : Cond.code yX11_play cX11_play 2 (some .int) ∈ gBIG := gm_of (gs4 _ (List.mem_of_getElem? (l := tables_1_4) (i := 152) rfl)) rfl
theorem wl_219 : Cond.methodLink R_law 129 yX11_play ∈ gBIG := gm_of (gs4 _ (List.mem_of_getElem? (l := tables_1_4) (i := 149) rfl)) rfl
theorem wl_220 : Cond.instanceMethod yX11_play ∈ gBIG := gm_of (gs4 _ (List.mem_of_getElem? (l := tables_1_4) (i := 150) rfl)) rfl
theorem wl_221 : Cond.selects RX11 yX11_play yX11_play ∈ gBIG := gm_of (gs4 _ (List.mem_of_getElem? (l := tables_1_4) (i := 151) rfl)) rfl
theorem wl_222 : Cond.code yX12_play cX12_play 3 (some .int) ∈ gBIG := gm_of (gs7 _ (List.mem_of_getElem? (l := tables_1_7) (i := 148) rfl)) rfl
theorem wl_223 : Cond.methodLink R_law 132 yX12_play ∈ gBIG := gm_of (gs7 _ (List.mem_of_getElem? (l := tables_1_7) (i := 145) rfl)) rfl
theorem wl_224 : Cond.instanceMethod yX12_play ∈ gBIG := gm_of (gs7 _ (List.mem_of_getElem? (l := tables_1_7) (i := 146) rfl)) rfl
theorem wl_225 : Cond.selects RX12 yX12_play yX12_play ∈ gBIG := gm_of (gs7 _ (List.mem_of_getElem? (l := tables_1_7) (i := 147) rfl)) rfl
theorem wl_226 : Cond.code yX11_report cX11_report 8 (some .int) ∈ gBIG := gm_of (gs4 _ (List.mem_of_getElem? (l := tables_1_4) (i := 156) rfl)) rfl
theorem wl_227 : Cond.methodLink R_law 133 yX11_report ∈ gBIG := gm_of (gs4 _ (List.mem_of_getElem? (l := tables_1_4) (i := 153) rfl)) rfl
theorem wl_228 : Cond.instanceMethod yX11_report ∈ gBIG := gm_of (gs4 _ (List.mem_of_getElem? (l := tables_1_4) (i := 154) rfl)) rfl
theorem wl_229 : Cond.selects RX11 yX11_report yX11_report ∈ gBIG := gm_of (gs4 _ (List.mem_of_getElem? (l := tables_1_4) (i := 155) rfl)) rfl
theorem wl_230 : Cond.code yX12_report cX12_report 7 (some .int) ∈ gBIG := gm_of (gs7 _ (List.mem_of_getElem? (l := tables_1_7) (i := 152) rfl)) rfl
theorem wl_231 : Cond.methodLink R_law 136 yX12_report ∈ gBIG := gm_of (gs7 _ (List.mem_of_getElem? (l := tables_1_7) (i := 149) rfl)) rfl
theorem wl_232 : Cond.instanceMethod yX12_report ∈ gBIG := gm_of (gs7 _ (List.mem_of_getElem? (l := tables_1_7) (i := 150) rfl)) rfl
theorem wl_233 : Cond.selects RX12 yX12_report yX12_report ∈ gBIG := gm_of (gs7 _ (List.mem_of_getElem? (l := tables_1_7) (i := 151) rfl)) rfl
theorem wl_234 : Cond.code yX11_forget cX11_forget 2 (some .int) ∈ gBIG := gm_of (gs4 _ (List.mem_of_getElem? (l := tables_1_4) (i := 160) rfl)) rfl
theorem wl_235 : Cond.methodLink R_law 137 yX11_forget ∈ gBIG := gm_of (gs4 _ (List.mem_of_getElem? (l := tables_1_4) (i := 157) rfl)) rfl
theorem wl_236 : Cond.instanceMethod yX11_forget ∈ gBIG := gm_of (gs4 _ (List.mem_of_getElem? (l := tables_1_4) (i := 158) rfl)) rfl
theorem wl_237 : Cond.selects RX11 yX11_forget yX11_forget ∈ gBIG := gm_of (gs4 _ (List.mem_of_getElem? (l := tables_1_4) (i := 159) rfl)) rfl
theorem wl_238 : Cond.code yX12_forget cX12_forget 1 (some .int) ∈ gBIG := gm_of (gs7 _ (List.mem_of_getElem? (l := tables_1_7) (i := 156) rfl)) rfl
theorem wl_239 : Cond.methodLink R_law 140 yX12_forget ∈ gBIG := gm_of (gs7 _ (List.mem_of_getElem? (l := tables_1_7) (i := 153) rfl)) rfl
theorem wl_240 : Cond.instanceMethod yX12_forget ∈ gBIG := gm_of (gs7 _ (List.mem_of_getElem? (l := tables_1_7) (i := 154) rfl)) rfl
theorem wl_241 : Cond.selects RX12 yX12_forget yX12_forget ∈ gBIG := gm_of (gs7 _ (List.mem_of_getElem? (l := tables_1_7) (i := 155) rfl)) rfl
theorem wl_242 : Cond.code yX11_lone cX11_lone 4 (some .int) ∈ gBIG := gm_of (gs4 _ (List.mem_of_getElem? (l := tables_1_4) (i := 164) rfl)) rfl
theorem wl_243 : Cond.methodLink R_law 141 yX11_lone ∈ gBIG := gm_of (gs4 _ (List.mem_of_getElem? (l := tables_1_4) (i := 161) rfl)) rfl
theorem wl_244 : Cond.instanceMethod yX11_lone ∈ gBIG := gm_of (gs4 _ (List.mem_of_getElem? (l := tables_1_4) (i := 162) rfl)) rfl
theorem wl_245 : Cond.selects RX11 yX11_lone yX11_lone ∈ gBIG := gm_of (gs4 _ (List.mem_of_getElem? (l := tables_1_4) (i := 163) rfl)) rfl
theorem wl_246 : Cond.code yX12_lone cX12_lone 3 (some .int) ∈ gBIG := gm_of (gs7 _ (List.mem_of_getElem? (l := tables_1_7) (i := 160) rfl)) rfl
theorem wl_247 : Cond.methodLink R_law 144 yX12_lone ∈ gBIG := gm_of (gs7 _ (List.mem_of_getElem? (l := tables_1_7) (i := 157) rfl)) rfl
theorem wl_248 : Cond.instanceMethod yX12_lone ∈ gBIG := gm_of (gs7 _ (List.mem_of_getElem? (l := tables_1_7) (i := 158) rfl)) rfl
theorem wl_249 : Cond.selects RX12 yX12_lone yX12_lone ∈ gBIG := gm_of (gs7 _ (List.mem_of_getElem? (l := tables_1_7) (i := 159) rfl)) rfl
theorem wl_250 : Cond.code yX11_liar cX11_liar 4 (some .int) ∈ gBIG := gm_of (gs4 _ (List.mem_of_getElem? (l := tables_1_4) (i := 186) rfl)) rfl
theorem wl_251 : Cond.methodLink R_law 145 yX11_liar ∈ gBIG := gm_of (gs4 _ (List.mem_of_getElem? (l := tables_1_4) (i := 183) rfl)) rfl
theorem wl_252 : Cond.instanceMethod yX11_liar ∈ gBIG := gm_of (gs4 _ (List.mem_of_getElem? (l := tables_1_4) (i := 184) rfl)) rfl
theorem wl_253 : Cond.selects RX11 yX11_liar yX11_liar ∈ gBIG := gm_of (gs4 _ (List.mem_of_getElem? (l := tables_1_4) (i := 185) rfl)) rfl
theorem wl_254 : Cond.code yX12_liar cX12_liar 2 (some .int) ∈ gBIG := gm_of (gs7 _ (List.mem_of_getElem? (l := tables_1_7) (i := 176) rfl)) rfl
theorem wl_255 : Cond.methodLink R_law 148 yX12_liar ∈ gBIG := gm_of (gs7 _ (List.mem_of_getElem? (l := tables_1_7) (i := 173) rfl)) rfl
theorem wl_256 : Cond.instanceMethod yX12_liar ∈ gBIG := gm_of (gs7 _ (List.mem_of_getElem? (l := tables_1_7) (i := 174) rfl)) rfl
theorem wl_257 : Cond.selects RX12 yX12_liar yX12_liar ∈ gBIG := gm_of (gs7 _ (List.mem_of_getElem? (l := tables_1_7) (i := 175) rfl)) rfl
theorem wl_258 : Cond.code yX11_seed cX11_seed 3 (some .int) ∈ gBIG := gm_of (gs4 _ (List.mem_of_getElem? (l := tables_1_4) (i := 191) rfl)) rfl
theorem wl_259 : Cond.methodLink R_law 149 yX11_seed ∈ gBIG := gm_of (gs4 _ (List.mem_of_getElem? (l := tables_1_4) (i := 188) rfl)) rfl
theorem wl_260 : Cond.instanceMethod yX11_seed ∈ gBIG := gm_of (gs4 _ (List.mem_of_getElem? (l := tables_1_4) (i := 189) rfl)) rfl
theorem wl_261 : Cond.selects RX11 yX11_seed yX11_seed ∈ gBIG := gm_of (gs4 _ (List.mem_of_getElem? (l := tables_1_4) (i := 190) rfl)) rfl
theorem wl_262 : Cond.code yX12_seed cX12_seed 2 (some .int) ∈ gBIG := gm_of (gs7 _ (List.mem_of_getElem? (l := tables_1_7) (i := 180) rfl)) rfl
theorem wl_263 : Cond.methodLink R_law 152 yX12_seed ∈ gBIG := gm_of (gs7 _ (List.mem_of_getElem? (l := tables_1_7) (i := 177) rfl)) rfl
theorem wl_264 : Cond.instanceMethod yX12_seed ∈ gBIG := gm_of (gs7 _ (List.mem_of_getElem? (l := tables_1_7) (i := 178) rfl)) rfl
theorem wl_265 : Cond.selects RX12 yX12_seed yX12_seed ∈ gBIG := gm_of (gs7 _ (List.mem_of_getElem? (l := tables_1_7) (i := 179) rfl)) rfl
theorem wl_266 : Cond.code yX11_lot cX11_lot 1 (some .int) ∈ gBIG := gm_of (gs4 _ (List.mem_of_getElem? (l := tables_1_4) (i := 195) rfl)) rfl
theorem wl_267 : Cond.methodLink R_law 153 yX11_lot ∈ gBIG := gm_of (gs4 _ (List.mem_of_getElem? (l := tables_1_4) (i := 192) rfl)) rfl
theorem wl_268 : Cond.instanceMethod yX11_lot ∈ gBIG := gm_of (gs4 _ (List.mem_of_getElem? (l := tables_1_4) (i := 193) rfl)) rfl
theorem wl_269 : Cond.selects RX11 yX11_lot yX11_lot ∈ gBIG := gm_of (gs4 _ (List.mem_of_getElem? (l := tables_1_4) (i := 194) rfl)) rfl
theorem wl_270 : Cond.code yX12_lot cX12_lot 1 (some .int) ∈ gBIG := gm_of (gs7 _ (List.mem_of_getElem? (l := tables_1_7) (i := 184) rfl)) rfl
theorem wl_271 : Cond.methodLink R_law 156 yX12_lot ∈ gBIG := gm_of (gs7 _ (List.mem_of_getElem? (l := tables_1_7) (i := 181) rfl)) rfl
theorem wl_272 : Cond.instanceMethod yX12_lot ∈ gBIG := gm_of (gs7 _ (List.mem_of_getElem? (l := tables_1_7) (i := 182) rfl)) rfl
theorem wl_273 : Cond.selects RX12 yX12_lot yX12_lot ∈ gBIG := gm_of (gs7 _ (List.mem_of_getElem? (l := tables_1_7) (i := 183) rfl)) rfl
theorem wl_274 : Cond.code yX11_times cX11_times 6 (some .int) ∈ gBIG := gm_of (gs4 _ (List.mem_of_getElem? (l := tables_1_4) (i := 204) rfl)) rfl
theorem wl_275 : Cond.methodLink R_law 157 yX11_times ∈ gBIG := gm_of (gs4 _ (List.mem_of_getElem? (l := tables_1_4) (i := 201) rfl)) rfl
theorem wl_276 : Cond.instanceMethod yX11_times ∈ gBIG := gm_of (gs4 _ (List.mem_of_getElem? (l := tables_1_4) (i := 202) rfl)) rfl
theorem wl_277 : Cond.selects RX11 yX11_times yX11_times ∈ gBIG := gm_of (gs4 _ (List.mem_of_getElem? (l := tables_1_4) (i := 203) rfl)) rfl
theorem wl_278 : Cond.code yX12_times cX12_times 7 (some .int) ∈ gBIG := gm_of (gs7 _ (List.mem_of_getElem? (l := tables_1_7) (i := 193) rfl)) rfl
theorem wl_279 : Cond.methodLink R_law 160 yX12_times ∈ gBIG := gm_of (gs7 _ (List.mem_of_getElem? (l := tables_1_7) (i := 190) rfl)) rfl
theorem wl_280 : Cond.instanceMethod yX12_times ∈ gBIG := gm_of (gs7 _ (List.mem_of_getElem? (l := tables_1_7) (i := 191) rfl)) rfl
theorem wl_281 : Cond.selects RX12 yX12_times yX12_times ∈ gBIG := gm_of (gs7 _ (List.mem_of_getElem? (l := tables_1_7) (i := 192) rfl)) rfl
theorem wl_282 : Cond.code yX11_prove cX11_prove 5 (some .int) ∈ gBIG := gm_of (gs4 _ (List.mem_of_getElem? (l := tables_1_4) (i := 213) rfl)) rfl
theorem wl_283 : Cond.methodLink R_law 161 yX11_prove ∈ gBIG := gm_of (gs4 _ (List.mem_of_getElem? (l := tables_1_4) (i := 210) rfl)) rfl
theorem wl_284 : Cond.instanceMethod yX11_prove ∈ gBIG := gm_of (gs4 _ (List.mem_of_getElem? (l := tables_1_4) (i := 211) rfl)) rfl
theorem wl_285 : Cond.selects RX11 yX11_prove yX11_prove ∈ gBIG := gm_of (gs4 _ (List.mem_of_getElem? (l := tables_1_4) (i := 212) rfl)) rfl
theorem wl_286 : Cond.code yX12_prove cX12_prove 3 (some .int) ∈ gBIG := gm_of (gs7 _ (List.mem_of_getElem? (l := tables_1_7) (i := 197) rfl)) rfl
theorem wl_287 : Cond.methodLink R_law 164 yX12_prove ∈ gBIG := gm_of (gs7 _ (List.mem_of_getElem? (l := tables_1_7) (i := 194) rfl)) rfl
theorem wl_288 : Cond.instanceMethod yX12_prove ∈ gBIG := gm_of (gs7 _ (List.mem_of_getElem? (l := tables_1_7) (i := 195) rfl)) rfl
theorem wl_289 : Cond.selects RX12 yX12_prove yX12_prove ∈ gBIG := gm_of (gs7 _ (List.mem_of_getElem? (l := tables_1_7) (i := 196) rfl)) rfl
theorem wl_290 : Cond.code yX11_row cX11_row 3 (some .int) ∈ gBIG := gm_of (gs4 _ (List.mem_of_getElem? (l := tables_1_4) (i := 217) rfl)) rfl
theorem wl_291 : Cond.methodLink R_law 165 yX11_row ∈ gBIG := gm_of (gs4 _ (List.mem_of_getElem? (l := tables_1_4) (i := 214) rfl)) rfl
theorem wl_292 : Cond.instanceMethod yX11_row ∈ gBIG := gm_of (gs4 _ (List.mem_of_getElem? (l := tables_1_4) (i := 215) rfl)) rfl
theorem wl_293 : Cond.selects RX11 yX11_row yX11_row ∈ gBIG := gm_of (gs4 _ (List.mem_of_getElem? (l := tables_1_4) (i := 216) rfl)) rfl
theorem wl_294 : Cond.code yX12_row cX12_row 3 (some .int) ∈ gBIG := gm_of (gs7 _ (List.mem_of_getElem? (l := tables_1_7) (i := 201) rfl)) rfl
theorem wl_295 : Cond.methodLink R_law 168 yX12_row ∈ gBIG := gm_of (gs7 _ (List.mem_of_getElem? (l := tables_1_7) (i := 198) rfl)) rfl
theorem wl_296 : Cond.instanceMethod yX12_row ∈ gBIG := gm_of (gs7 _ (List.mem_of_getElem? (l := tables_1_7) (i := 199) rfl)) rfl
theorem wl_297 : Cond.selects RX12 yX12_row yX12_row ∈ gBIG := gm_of (gs7 _ (List.mem_of_getElem? (l := tables_1_7) (i := 200) rfl)) rfl
theorem wl_298 : Cond.code yX11_alterRow cX11_alterRow 5 (some .int) ∈ gBIG := gm_of (gs4 _ (List.mem_of_getElem? (l := tables_1_4) (i := 225) rfl)) rfl
theorem wl_299 : Cond.methodLink R_law 169 yX11_alterRow ∈ gBIG := gm_of (gs4 _ (List.mem_of_getElem? (l := tables_1_4) (i := 222) rfl)) rfl
theorem wl_300 : Cond.instanceMethod yX11_alterRow ∈ gBIG := gm_of (gs4 _ (List.mem_of_getElem? (l := tables_1_4) (i := 223) rfl)) rfl
theorem wl_301 : Cond.selects RX11 yX11_alterRow yX11_alterRow ∈ gBIG := gm_of (gs4 _ (List.mem_of_getElem? (l := tables_1_4) (i := 224) rfl)) rfl
theorem wl_302 : Cond.code yX12_alterRow cX12_alterRow 5 (some .int) ∈ gBIG := gm_of (gs7 _ (List.mem_of_getElem? (l := tables_1_7) (i := 209) rfl)) rfl
theorem wl_303 : Cond.methodLink R_law 172 yX12_alterRow ∈ gBIG := gm_of (gs7 _ (List.mem_of_getElem? (l := tables_1_7) (i := 206) rfl)) rfl
theorem wl_304 : Cond.instanceMethod yX12_alterRow ∈ gBIG := gm_of (gs7 _ (List.mem_of_getElem? (l := tables_1_7) (i := 207) rfl)) rfl
theorem wl_305 : Cond.selects RX12 yX12_alterRow yX12_alterRow ∈ gBIG := gm_of (gs7 _ (List.mem_of_getElem? (l := tables_1_7) (i := 208) rfl)) rfl
theorem wl_306 : Cond.code yX11_judge cX11_judge 3 (some .int) ∈ gBIG := gm_of (gs4 _ (List.mem_of_getElem? (l := tables_1_4) (i := 229) rfl)) rfl
theorem wl_307 : Cond.methodLink R_law 173 yX11_judge ∈ gBIG := gm_of (gs4 _ (List.mem_of_getElem? (l := tables_1_4) (i := 226) rfl)) rfl
theorem wl_308 : Cond.instanceMethod yX11_judge ∈ gBIG := gm_of (gs4 _ (List.mem_of_getElem? (l := tables_1_4) (i := 227) rfl)) rfl
theorem wl_309 : Cond.selects RX11 yX11_judge yX11_judge ∈ gBIG := gm_of (gs4 _ (List.mem_of_getElem? (l := tables_1_4) (i := 228) rfl)) rfl
theorem wl_310 : Cond.code yX12_judge cX12_judge 6 (some .int) ∈ gBIG := gm_of (gs7 _ (List.mem_of_getElem? (l := tables_1_7) (i := 213) rfl)) rfl
theorem wl_311 : Cond.methodLink R_law 176 yX12_judge ∈ gBIG := gm_of (gs7 _ (List.mem_of_getElem? (l := tables_1_7) (i := 210) rfl)) rfl
theorem wl_312 : Cond.instanceMethod yX12_judge ∈ gBIG := gm_of (gs7 _ (List.mem_of_getElem? (l := tables_1_7) (i := 211) rfl)) rfl
theorem wl_313 : Cond.selects RX12 yX12_judge yX12_judge ∈ gBIG := gm_of (gs7 _ (List.mem_of_getElem? (l := tables_1_7) (i := 212) rfl)) rfl
theorem wl_314 : Cond.code yX11_sheet cX11_sheet 5 (some .int) ∈ gBIG := gm_of (gs5 _ (List.mem_of_getElem? (l := tables_1_5) (i := 1) rfl)) rfl
theorem wl_315 : Cond.methodLink R_law 177 yX11_sheet ∈ gBIG := gm_of (gs4 _ (List.mem_of_getElem? (l := tables_1_4) (i := 238) rfl)) rfl
theorem wl_316 : Cond.instanceMethod yX11_sheet ∈ gBIG := gm_of (gs4 _ (List.mem_of_getElem? (l := tables_1_4) (i := 239) rfl)) rfl
theorem wl_317 : Cond.selects RX11 yX11_sheet yX11_sheet ∈ gBIG := gm_of (gs5 _ (List.mem_of_getElem? (l := tables_1_5) (i := 0) rfl)) rfl
theorem wl_318 : Cond.code yX12_sheet cX12_sheet 5 (some .int) ∈ gBIG := gm_of (gs7 _ (List.mem_of_getElem? (l := tables_1_7) (i := 221) rfl)) rfl
theorem wl_319 : Cond.methodLink R_law 180 yX12_sheet ∈ gBIG := gm_of (gs7 _ (List.mem_of_getElem? (l := tables_1_7) (i := 218) rfl)) rfl
theorem wl_320 : Cond.instanceMethod yX12_sheet ∈ gBIG := gm_of (gs7 _ (List.mem_of_getElem? (l := tables_1_7) (i := 219) rfl)) rfl
theorem wl_321 : Cond.selects RX12 yX12_sheet yX12_sheet ∈ gBIG := gm_of (gs7 _ (List.mem_of_getElem? (l := tables_1_7) (i := 220) rfl)) rfl
theorem wl_322 : Cond.code yX11_write cX11_write 4 (some .int) ∈ gBIG := gm_of (gs5 _ (List.mem_of_getElem? (l := tables_1_5) (i := 8) rfl)) rfl
theorem wl_323 : Cond.methodLink R_law 181 yX11_write ∈ gBIG := gm_of (gs5 _ (List.mem_of_getElem? (l := tables_1_5) (i := 5) rfl)) rfl
theorem wl_324 : Cond.instanceMethod yX11_write ∈ gBIG := gm_of (gs5 _ (List.mem_of_getElem? (l := tables_1_5) (i := 6) rfl)) rfl
theorem wl_325 : Cond.selects RX11 yX11_write yX11_write ∈ gBIG := gm_of (gs5 _ (List.mem_of_getElem? (l := tables_1_5) (i := 7) rfl)) rfl
theorem wl_326 : Cond.code yX12_write cX12_write 4 (some .int) ∈ gBIG := gm_of (gs7 _ (List.mem_of_getElem? (l := tables_1_7) (i := 228) rfl)) rfl
theorem wl_327 : Cond.methodLink R_law 184 yX12_write ∈ gBIG := gm_of (gs7 _ (List.mem_of_getElem? (l := tables_1_7) (i := 225) rfl)) rfl
theorem wl_328 : Cond.instanceMethod yX12_write ∈ gBIG := gm_of (gs7 _ (List.mem_of_getElem? (l := tables_1_7) (i := 226) rfl)) rfl
theorem wl_329 : Cond.selects RX12 yX12_write yX12_write ∈ gBIG := gm_of (gs7 _ (List.mem_of_getElem? (l := tables_1_7) (i := 227) rfl)) rfl
theorem wl_330 : Cond.code yX11_item cX11_item 5 (some .int) ∈ gBIG := gm_of (gs5 _ (List.mem_of_getElem? (l := tables_1_5) (i := 19) rfl)) rfl
theorem wl_331 : Cond.methodLink R_law 185 yX11_item ∈ gBIG := gm_of (gs5 _ (List.mem_of_getElem? (l := tables_1_5) (i := 16) rfl)) rfl
theorem wl_332 : Cond.instanceMethod yX11_item ∈ gBIG := gm_of (gs5 _ (List.mem_of_getElem? (l := tables_1_5) (i := 17) rfl)) rfl
theorem wl_333 : Cond.selects RX11 yX11_item yX11_item ∈ gBIG := gm_of (gs5 _ (List.mem_of_getElem? (l := tables_1_5) (i := 18) rfl)) rfl
theorem wl_334 : Cond.code yX12_item cX12_item 5 (some .int) ∈ gBIG := gm_of (gs7 _ (List.mem_of_getElem? (l := tables_1_7) (i := 235) rfl)) rfl
theorem wl_335 : Cond.methodLink R_law 188 yX12_item ∈ gBIG := gm_of (gs7 _ (List.mem_of_getElem? (l := tables_1_7) (i := 232) rfl)) rfl
theorem wl_336 : Cond.instanceMethod yX12_item ∈ gBIG := gm_of (gs7 _ (List.mem_of_getElem? (l := tables_1_7) (i := 233) rfl)) rfl
theorem wl_337 : Cond.selects RX12 yX12_item yX12_item ∈ gBIG := gm_of (gs7 _ (List.mem_of_getElem? (l := tables_1_7) (i := 234) rfl)) rfl
theorem wl_338 : Cond.code yX11_goAll cX11_goAll 8 (some .int) ∈ gBIG := gm_of (gs5 _ (List.mem_of_getElem? (l := tables_1_5) (i := 27) rfl)) rfl
theorem wl_339 : Cond.methodLink R_law 189 yX11_goAll ∈ gBIG := gm_of (gs5 _ (List.mem_of_getElem? (l := tables_1_5) (i := 24) rfl)) rfl
theorem wl_340 : Cond.instanceMethod yX11_goAll ∈ gBIG := gm_of (gs5 _ (List.mem_of_getElem? (l := tables_1_5) (i := 25) rfl)) rfl
theorem wl_341 : Cond.selects RX11 yX11_goAll yX11_goAll ∈ gBIG := gm_of (gs5 _ (List.mem_of_getElem? (l := tables_1_5) (i := 26) rfl)) rfl
theorem wl_342 : Cond.code yX12_goAll cX12_goAll 8 (some .int) ∈ gBIG := gm_of (gs8 _ (List.mem_of_getElem? (l := tables_1_8) (i := 3) rfl)) rfl
theorem wl_343 : Cond.methodLink R_law 192 yX12_goAll ∈ gBIG := gm_of (gs8 _ (List.mem_of_getElem? (l := tables_1_8) (i := 0) rfl)) rfl
theorem wl_344 : Cond.instanceMethod yX12_goAll ∈ gBIG := gm_of (gs8 _ (List.mem_of_getElem? (l := tables_1_8) (i := 1) rfl)) rfl
theorem wl_345 : Cond.selects RX12 yX12_goAll yX12_goAll ∈ gBIG := gm_of (gs8 _ (List.mem_of_getElem? (l := tables_1_8) (i := 2) rfl)) rfl
theorem wl_346 : Cond.code yX11_wouldBe cX11_wouldBe 6 (some .int) ∈ gBIG := gm_of (gs5 _ (List.mem_of_getElem? (l := tables_1_5) (i := 31) rfl)) rfl
theorem wl_347 : Cond.methodLink R_law 193 yX11_wouldBe ∈ gBIG := gm_of (gs5 _ (List.mem_of_getElem? (l := tables_1_5) (i := 28) rfl)) rfl
theorem wl_348 : Cond.instanceMethod yX11_wouldBe ∈ gBIG := gm_of (gs5 _ (List.mem_of_getElem? (l := tables_1_5) (i := 29) rfl)) rfl
theorem wl_349 : Cond.selects RX11 yX11_wouldBe yX11_wouldBe ∈ gBIG := gm_of (gs5 _ (List.mem_of_getElem? (l := tables_1_5) (i := 30) rfl)) rfl
theorem wl_350 : Cond.code yX12_wouldBe cX12_wouldBe 8 (some .int) ∈ gBIG := gm_of (gs8 _ (List.mem_of_getElem? (l := tables_1_8) (i := 11) rfl)) rfl
theorem wl_351 : Cond.methodLink R_law 196 yX12_wouldBe ∈ gBIG := gm_of (gs8 _ (List.mem_of_getElem? (l := tables_1_8) (i := 8) rfl)) rfl
theorem wl_352 : Cond.instanceMethod yX12_wouldBe ∈ gBIG := gm_of (gs8 _ (List.mem_of_getElem? (l := tables_1_8) (i := 9) rfl)) rfl
theorem wl_353 : Cond.selects RX12 yX12_wouldBe yX12_wouldBe ∈ gBIG := gm_of (gs8 _ (List.mem_of_getElem? (l := tables_1_8) (i := 10) rfl)) rfl
theorem wl_354 : Cond.code yX11_shelf cX11_shelf 4 (some .int) ∈ gBIG := gm_of (gs5 _ (List.mem_of_getElem? (l := tables_1_5) (i := 39) rfl)) rfl
theorem wl_355 : Cond.methodLink R_law 197 yX11_shelf ∈ gBIG := gm_of (gs5 _ (List.mem_of_getElem? (l := tables_1_5) (i := 36) rfl)) rfl
theorem wl_356 : Cond.instanceMethod yX11_shelf ∈ gBIG := gm_of (gs5 _ (List.mem_of_getElem? (l := tables_1_5) (i := 37) rfl)) rfl
theorem wl_357 : Cond.selects RX11 yX11_shelf yX11_shelf ∈ gBIG := gm_of (gs5 _ (List.mem_of_getElem? (l := tables_1_5) (i := 38) rfl)) rfl
theorem wl_358 : Cond.code yX12_shelf cX12_shelf 4 (some .int) ∈ gBIG := gm_of (gs8 _ (List.mem_of_getElem? (l := tables_1_8) (i := 15) rfl)) rfl
theorem wl_359 : Cond.methodLink R_law 200 yX12_shelf ∈ gBIG := gm_of (gs8 _ (List.mem_of_getElem? (l := tables_1_8) (i := 12) rfl)) rfl
theorem wl_360 : Cond.instanceMethod yX12_shelf ∈ gBIG := gm_of (gs8 _ (List.mem_of_getElem? (l := tables_1_8) (i := 13) rfl)) rfl
theorem wl_361 : Cond.selects RX12 yX12_shelf yX12_shelf ∈ gBIG := gm_of (gs8 _ (List.mem_of_getElem? (l := tables_1_8) (i := 14) rfl)) rfl
theorem wl_362 : Cond.code yX11_taken cX11_taken 5 (some .int) ∈ gBIG := gm_of (gs5 _ (List.mem_of_getElem? (l := tables_1_5) (i := 43) rfl)) rfl
theorem wl_363 : Cond.methodLink R_law 201 yX11_taken ∈ gBIG := gm_of (gs5 _ (List.mem_of_getElem? (l := tables_1_5) (i := 40) rfl)) rfl
theorem wl_364 : Cond.instanceMethod yX11_taken ∈ gBIG := gm_of (gs5 _ (List.mem_of_getElem? (l := tables_1_5) (i := 41) rfl)) rfl
theorem wl_365 : Cond.selects RX11 yX11_taken yX11_taken ∈ gBIG := gm_of (gs5 _ (List.mem_of_getElem? (l := tables_1_5) (i := 42) rfl)) rfl
theorem wl_366 : Cond.code yX12_taken cX12_taken 5 (some .int) ∈ gBIG := gm_of (gs8 _ (List.mem_of_getElem? (l := tables_1_8) (i := 19) rfl)) rfl
theorem wl_367 : Cond.methodLink R_law 204 yX12_taken ∈ gBIG := gm_of (gs8 _ (List.mem_of_getElem? (l := tables_1_8) (i := 16) rfl)) rfl
theorem wl_368 : Cond.instanceMethod yX12_taken ∈ gBIG := gm_of (gs8 _ (List.mem_of_getElem? (l := tables_1_8) (i := 17) rfl)) rfl
theorem wl_369 : Cond.selects RX12 yX12_taken yX12_taken ∈ gBIG := gm_of (gs8 _ (List.mem_of_getElem? (l := tables_1_8) (i := 18) rfl)) rfl
theorem wl_370 : Cond.code yX11_act cX11_act 7 (some .int) ∈ gBIG := gm_of (gs5 _ (List.mem_of_getElem? (l := tables_1_5) (i := 52) rfl)) rfl
theorem wl_371 : Cond.methodLink R_law 205 yX11_act ∈ gBIG := gm_of (gs5 _ (List.mem_of_getElem? (l := tables_1_5) (i := 49) rfl)) rfl
theorem wl_372 : Cond.instanceMethod yX11_act ∈ gBIG := gm_of (gs5 _ (List.mem_of_getElem? (l := tables_1_5) (i := 50) rfl)) rfl
theorem wl_373 : Cond.selects RX11 yX11_act yX11_act ∈ gBIG := gm_of (gs5 _ (List.mem_of_getElem? (l := tables_1_5) (i := 51) rfl)) rfl
theorem wl_374 : Cond.code yX12_act cX12_act 6 (some .int) ∈ gBIG := gm_of (gs8 _ (List.mem_of_getElem? (l := tables_1_8) (i := 27) rfl)) rfl
theorem wl_375 : Cond.methodLink R_law 208 yX12_act ∈ gBIG := gm_of (gs8 _ (List.mem_of_getElem? (l := tables_1_8) (i := 24) rfl)) rfl
theorem wl_376 : Cond.instanceMethod yX12_act ∈ gBIG := gm_of (gs8 _ (List.mem_of_getElem? (l := tables_1_8) (i := 25) rfl)) rfl
theorem wl_377 : Cond.selects RX12 yX12_act yX12_act ∈ gBIG := gm_of (gs8 _ (List.mem_of_getElem? (l := tables_1_8) (i := 26) rfl)) rfl
theorem wl_378 : Cond.code yX11_trace cX11_trace 2 (some .int) ∈ gBIG := gm_of (gs5 _ (List.mem_of_getElem? (l := tables_1_5) (i := 150) rfl)) rfl
theorem wl_379 : Cond.methodLink R_law 209 yX11_trace ∈ gBIG := gm_of (gs5 _ (List.mem_of_getElem? (l := tables_1_5) (i := 147) rfl)) rfl
theorem wl_380 : Cond.instanceMethod yX11_trace ∈ gBIG := gm_of (gs5 _ (List.mem_of_getElem? (l := tables_1_5) (i := 148) rfl)) rfl
theorem wl_381 : Cond.selects RX11 yX11_trace yX11_trace ∈ gBIG := gm_of (gs5 _ (List.mem_of_getElem? (l := tables_1_5) (i := 149) rfl)) rfl
theorem wl_382 : Cond.code yX12_trace cX12_trace 2 (some .int) ∈ gBIG := gm_of (gs8 _ (List.mem_of_getElem? (l := tables_1_8) (i := 51) rfl)) rfl
theorem wl_383 : Cond.methodLink R_law 212 yX12_trace ∈ gBIG := gm_of (gs8 _ (List.mem_of_getElem? (l := tables_1_8) (i := 48) rfl)) rfl
theorem wl_384 : Cond.instanceMethod yX12_trace ∈ gBIG := gm_of (gs8 _ (List.mem_of_getElem? (l := tables_1_8) (i := 49) rfl)) rfl
theorem wl_385 : Cond.selects RX12 yX12_trace yX12_trace ∈ gBIG := gm_of (gs8 _ (List.mem_of_getElem? (l := tables_1_8) (i := 50) rfl)) rfl
theorem wl_386 : Cond.code yX11_many cX11_many 2 (some .int) ∈ gBIG := gm_of (gs5 _ (List.mem_of_getElem? (l := tables_1_5) (i := 154) rfl)) rfl
theorem wl_387 : Cond.methodLink R_law 213 yX11_many ∈ gBIG := gm_of (gs5 _ (List.mem_of_getElem? (l := tables_1_5) (i := 151) rfl)) rfl
theorem wl_388 : Cond.instanceMethod yX11_many ∈ gBIG := gm_of (gs5 _ (List.mem_of_getElem? (l := tables_1_5) (i := 152) rfl)) rfl
theorem wl_389 : Cond.selects RX11 yX11_many yX11_many ∈ gBIG := gm_of (gs5 _ (List.mem_of_getElem? (l := tables_1_5) (i := 153) rfl)) rfl
theorem wl_390 : Cond.code yX12_many cX12_many 2 (some .int) ∈ gBIG := gm_of (gs8 _ (List.mem_of_getElem? (l := tables_1_8) (i := 55) rfl)) rfl
theorem wl_391 : Cond.methodLink R_law 216 yX12_many ∈ gBIG := gm_of (gs8 _ (List.mem_of_getElem? (l := tables_1_8) (i := 52) rfl)) rfl
theorem wl_392 : Cond.instanceMethod yX12_many ∈ gBIG := gm_of (gs8 _ (List.mem_of_getElem? (l := tables_1_8) (i := 53) rfl)) rfl
theorem wl_393 : Cond.selects RX12 yX12_many yX12_many ∈ gBIG := gm_of (gs8 _ (List.mem_of_getElem? (l := tables_1_8) (i := 54) rfl)) rfl
theorem wl_394 : Cond.code yX11_keep cX11_keep 1 (some .int) ∈ gBIG := gm_of (gs5 _ (List.mem_of_getElem? (l := tables_1_5) (i := 158) rfl)) rfl
theorem wl_395 : Cond.methodLink R_law 217 yX11_keep ∈ gBIG := gm_of (gs5 _ (List.mem_of_getElem? (l := tables_1_5) (i := 155) rfl)) rfl
theorem wl_396 : Cond.instanceMethod yX11_keep ∈ gBIG := gm_of (gs5 _ (List.mem_of_getElem? (l := tables_1_5) (i := 156) rfl)) rfl
theorem wl_397 : Cond.selects RX11 yX11_keep yX11_keep ∈ gBIG := gm_of (gs5 _ (List.mem_of_getElem? (l := tables_1_5) (i := 157) rfl)) rfl
theorem wl_398 : Cond.code yX12_keep cX12_keep 2 (some .int) ∈ gBIG := gm_of (gs8 _ (List.mem_of_getElem? (l := tables_1_8) (i := 62) rfl)) rfl
theorem wl_399 : Cond.methodLink R_law 220 yX12_keep ∈ gBIG := gm_of (gs8 _ (List.mem_of_getElem? (l := tables_1_8) (i := 59) rfl)) rfl
theorem wl_400 : Cond.instanceMethod yX12_keep ∈ gBIG := gm_of (gs8 _ (List.mem_of_getElem? (l := tables_1_8) (i := 60) rfl)) rfl
theorem wl_401 : Cond.selects RX12 yX12_keep yX12_keep ∈ gBIG := gm_of (gs8 _ (List.mem_of_getElem? (l := tables_1_8) (i := 61) rfl)) rfl
theorem wl_402 : Cond.code yX11_again cX11_again 1 (some .int) ∈ gBIG := gm_of (gs5 _ (List.mem_of_getElem? (l := tables_1_5) (i := 167) rfl)) rfl
theorem wl_403 : Cond.methodLink R_law 221 yX11_again ∈ gBIG := gm_of (gs5 _ (List.mem_of_getElem? (l := tables_1_5) (i := 164) rfl)) rfl
theorem wl_404 : Cond.instanceMethod yX11_again ∈ gBIG := gm_of (gs5 _ (List.mem_of_getElem? (l := tables_1_5) (i := 165) rfl)) rfl
theorem wl_405 : Cond.selects RX11 yX11_again yX11_again ∈ gBIG := gm_of (gs5 _ (List.mem_of_getElem? (l := tables_1_5) (i := 166) rfl)) rfl
theorem wl_406 : Cond.code yX12_again cX12_again 2 (some .int) ∈ gBIG := gm_of (gs8 _ (List.mem_of_getElem? (l := tables_1_8) (i := 66) rfl)) rfl
theorem wl_407 : Cond.methodLink R_law 224 yX12_again ∈ gBIG := gm_of (gs8 _ (List.mem_of_getElem? (l := tables_1_8) (i := 63) rfl)) rfl
theorem wl_408 : Cond.instanceMethod yX12_again ∈ gBIG := gm_of (gs8 _ (List.mem_of_getElem? (l := tables_1_8) (i := 64) rfl)) rfl
theorem wl_409 : Cond.selects RX12 yX12_again yX12_again ∈ gBIG := gm_of (gs8 _ (List.mem_of_getElem? (l := tables_1_8) (i := 65) rfl)) rfl
theorem wl_410 : Cond.classLink R_law 7 RX11 ∈ gBIG := gm_of (gs1 _ (List.mem_of_getElem? (l := tables_1_1) (i := 21) rfl)) rfl
theorem wl_411 : Cond.instantiable RX11 14 ∈ gBIG := gm_of (gs1 _ (List.mem_of_getElem? (l := tables_1_1) (i := 22) rfl)) rfl
theorem wl_412 : Cond.code yX11_init cX11_init 4 none ∈ gBIG := gm_of (gs1 _ (List.mem_of_getElem? (l := tables_1_1) (i := 25) rfl)) rfl
theorem wl_413 : Cond.methodLink R_law 9 yX11_init ∈ gBIG := gm_of (gs1 _ (List.mem_of_getElem? (l := tables_1_1) (i := 23) rfl)) rfl
theorem wl_414 : Cond.instanceMethod yX11_init ∈ gBIG := gm_of (gs1 _ (List.mem_of_getElem? (l := tables_1_1) (i := 24) rfl)) rfl
theorem wl_415 : Cond.classLink R_law 10 RX12 ∈ gBIG := gm_of (gs5 _ (List.mem_of_getElem? (l := tables_1_5) (i := 168) rfl)) rfl
theorem wl_416 : Cond.instantiable RX12 37 ∈ gBIG := gm_of (gs5 _ (List.mem_of_getElem? (l := tables_1_5) (i := 169) rfl)) rfl
theorem wl_417 : Cond.code yX12_init cX12_init 2 none ∈ gBIG := gm_of (gs5 _ (List.mem_of_getElem? (l := tables_1_5) (i := 172) rfl)) rfl
theorem wl_418 : Cond.methodLink R_law 12 yX12_init ∈ gBIG := gm_of (gs5 _ (List.mem_of_getElem? (l := tables_1_5) (i := 170) rfl)) rfl
theorem wl_419 : Cond.instanceMethod yX12_init ∈ gBIG := gm_of (gs5 _ (List.mem_of_getElem? (l := tables_1_5) (i := 171) rfl)) rfl
theorem cml_X11_key : gcm mX11_key 4 := ⟨wl_0, wl_1, by decide, by decide, by decide, by decide +kernel, by decide⟩
theorem cml_X12_key : gcm mX12_key 4 := ⟨wl_5, wl_6, by decide, by decide, by decide, by decide +kernel, by decide⟩
theorem cml_X11_keyOf : gcm mX11_keyOf 2 := ⟨wl_10, wl_1, by decide, by decide, by decide, by decide +kernel, by decide⟩
theorem cml_X12_keyOf : gcm mX12_keyOf 2 := ⟨wl_14, wl_6, by decide, by decide, by decide, by decide +kernel, by decide⟩
theorem cml_X11_change : gcm mX11_change 3 := ⟨wl_18, wl_1, by decide, by decide, by decide, by decide +kernel, by decide⟩
theorem cml_X12_change : gcm mX12_change 3 := ⟨wl_22, wl_6, by decide, by decide, by decide, by decide +kernel, by decide⟩
theorem cml_X11_remake : gcm mX11_remake 2 := ⟨wl_26, wl_1, by decide, by decide, by decide, by decide +kernel, by decide⟩
theorem cml_X12_remake : gcm mX12_remake 2 := ⟨wl_30, wl_6, by decide, by decide, by decide, by decide +kernel, by decide⟩
theorem cml_X11_sun : gcm mX11_sun 2 := ⟨wl_34, wl_1, by decide, by decide, by decide, by decide +kernel, by decide⟩
theorem cml_X12_sun : gcm mX12_sun 2 := ⟨wl_38, wl_6, by decide, by decide, by decide, by decide +kernel, by decide⟩
theorem cml_X11_gate : gcm mX11_gate 3 := ⟨wl_42, wl_1, by decide, by decide, by decide, by decide +kernel, by decide⟩
theorem cml_X12_gate : gcm mX12_gate 3 := ⟨wl_46, wl_6, by decide, by decide, by decide, by decide +kernel, by decide⟩
theorem cml_X11_gateOf : gcm mX11_gateOf 2 := ⟨wl_50, wl_1, by decide, by decide, by decide, by decide +kernel, by decide⟩
theorem cml_X12_gateOf : gcm mX12_gateOf 2 := ⟨wl_54, wl_6, by decide, by decide, by decide, by decide +kernel, by decide⟩
theorem cml_X11_ends : gcm mX11_ends 1 := ⟨wl_58, wl_1, by decide, by decide, by decide, by decide +kernel, by decide⟩
theorem cml_X12_ends : gcm mX12_ends 1 := ⟨wl_62, wl_6, by decide, by decide, by decide, by decide +kernel, by decide⟩
theorem cml_X11_anew : gcm mX11_anew 0 := ⟨wl_66, wl_1, by decide, by decide, by decide, by decide +kernel, by decide⟩
theorem cml_X12_anew : gcm mX12_anew 0 := ⟨wl_70, wl_6, by decide, by decide, by decide, by decide +kernel, by decide⟩
theorem cml_X11_state : gcm mX11_state 1 := ⟨wl_74, wl_1, by decide, by decide, by decide, by decide +kernel, by decide⟩
theorem cml_X12_state : gcm mX12_state 1 := ⟨wl_78, wl_6, by decide, by decide, by decide, by decide +kernel, by decide⟩
theorem cml_X11_feed : gcm mX11_feed 2 := ⟨wl_82, wl_1, by decide, by decide, by decide, by decide +kernel, by decide⟩
theorem cml_X12_feed : gcm mX12_feed 2 := ⟨wl_86, wl_6, by decide, by decide, by decide, by decide +kernel, by decide⟩
theorem cml_X11_rules : gcm mX11_rules 0 := ⟨wl_90, wl_1, by decide, by decide, by decide, by decide +kernel, by decide⟩
theorem cml_X12_rules : gcm mX12_rules 0 := ⟨wl_94, wl_6, by decide, by decide, by decide, by decide +kernel, by decide⟩
theorem cml_X11_halt : gcm mX11_halt 0 := ⟨wl_98, wl_1, by decide, by decide, by decide, by decide +kernel, by decide⟩
theorem cml_X12_halt : gcm mX12_halt 0 := ⟨wl_102, wl_6, by decide, by decide, by decide, by decide +kernel, by decide⟩
theorem cml_X11_on : gcm mX11_on 1 := ⟨wl_106, wl_1, by decide, by decide, by decide, by decide +kernel, by decide⟩
theorem cml_X12_on : gcm mX12_on 1 := ⟨wl_110, wl_6, by decide, by decide, by decide, by decide +kernel, by decide⟩
theorem cml_X11_when : gcm mX11_when 1 := ⟨wl_114, wl_1, by decide, by decide, by decide, by decide +kernel, by decide⟩
theorem cml_X12_when : gcm mX12_when 1 := ⟨wl_118, wl_6, by decide, by decide, by decide, by decide +kernel, by decide⟩
theorem cml_X11_strawFor : gcm mX11_strawFor 1 := ⟨wl_122, wl_1, by decide, by decide, by decide, by decide +kernel, by decide⟩
theorem cml_X12_strawFor : gcm mX12_strawFor 1 := ⟨wl_126, wl_6, by decide, by decide, by decide, by decide +kernel, by decide⟩
theorem cml_X11_gateFor : gcm mX11_gateFor 1 := ⟨wl_130, wl_1, by decide, by decide, by decide, by decide +kernel, by decide⟩
theorem cml_X12_gateFor : gcm mX12_gateFor 1 := ⟨wl_134, wl_6, by decide, by decide, by decide, by decide +kernel, by decide⟩
theorem cml_X11_gone : gcm mX11_gone 1 := ⟨wl_138, wl_1, by decide, by decide, by decide, by decide +kernel, by decide⟩
theorem cml_X12_gone : gcm mX12_gone 1 := ⟨wl_142, wl_6, by decide, by decide, by decide, by decide +kernel, by decide⟩
theorem cml_X11_opens : gcm mX11_opens 1 := ⟨wl_146, wl_1, by decide, by decide, by decide, by decide +kernel, by decide⟩
theorem cml_X12_opens : gcm mX12_opens 1 := ⟨wl_150, wl_6, by decide, by decide, by decide, by decide +kernel, by decide⟩
theorem cml_X11_left : gcm mX11_left 2 := ⟨wl_154, wl_1, by decide, by decide, by decide, by decide +kernel, by decide⟩
theorem cml_X12_left : gcm mX12_left 2 := ⟨wl_158, wl_6, by decide, by decide, by decide, by decide +kernel, by decide⟩
theorem cml_X11_bunches : gcm mX11_bunches 1 := ⟨wl_162, wl_1, by decide, by decide, by decide, by decide +kernel, by decide⟩
theorem cml_X12_bunches : gcm mX12_bunches 1 := ⟨wl_166, wl_6, by decide, by decide, by decide, by decide +kernel, by decide⟩
theorem cml_X11_best : gcm mX11_best 1 := ⟨wl_170, wl_1, by decide, by decide, by decide, by decide +kernel, by decide⟩
theorem cml_X12_best : gcm mX12_best 1 := ⟨wl_174, wl_6, by decide, by decide, by decide, by decide +kernel, by decide⟩
theorem cml_X11_ith : gcm mX11_ith 2 := ⟨wl_178, wl_1, by decide, by decide, by decide, by decide +kernel, by decide⟩
theorem cml_X12_ith : gcm mX12_ith 2 := ⟨wl_182, wl_6, by decide, by decide, by decide, by decide +kernel, by decide⟩
theorem cml_X11_ways : gcm mX11_ways 1 := ⟨wl_186, wl_1, by decide, by decide, by decide, by decide +kernel, by decide⟩
theorem cml_X12_ways : gcm mX12_ways 1 := ⟨wl_190, wl_6, by decide, by decide, by decide, by decide +kernel, by decide⟩
theorem cml_X11_order : gcm mX11_order 2 := ⟨wl_194, wl_1, by decide, by decide, by decide, by decide +kernel, by decide⟩
theorem cml_X12_order : gcm mX12_order 2 := ⟨wl_198, wl_6, by decide, by decide, by decide, by decide +kernel, by decide⟩
theorem cml_X11_bars : gcm mX11_bars 2 := ⟨wl_202, wl_1, by decide, by decide, by decide, by decide +kernel, by decide⟩
theorem cml_X12_bars : gcm mX12_bars 2 := ⟨wl_206, wl_6, by decide, by decide, by decide, by decide +kernel, by decide⟩
theorem cml_X11_game : gcm mX11_game 1 := ⟨wl_210, wl_1, by decide, by decide, by decide, by decide +kernel, by decide⟩
theorem cml_X12_game : gcm mX12_game 1 := ⟨wl_214, wl_6, by decide, by decide, by decide, by decide +kernel, by decide⟩
theorem cml_X11_play : gcm mX11_play 1 := ⟨wl_218, wl_1, by decide, by decide, by decide, by decide +kernel, by decide⟩
theorem cml_X12_play : gcm mX12_play 1 := ⟨wl_222, wl_6, by decide, by decide, by decide, by decide +kernel, by decide⟩
theorem cml_X11_report : gcm mX11_report 4 := ⟨wl_226, wl_1, by decide, by decide, by decide, by decide +kernel, by decide⟩
theorem cml_X12_report : gcm mX12_report 4 := ⟨wl_230, wl_6, by decide, by decide, by decide, by decide +kernel, by decide⟩
theorem cml_X11_forget : gcm mX11_forget 0 := ⟨wl_234, wl_1, by decide, by decide, by decide, by decide +kernel, by decide⟩
theorem cml_X12_forget : gcm mX12_forget 0 := ⟨wl_238, wl_6, by decide, by decide, by decide, by decide +kernel, by decide⟩
theorem cml_X11_lone : gcm mX11_lone 1 := ⟨wl_242, wl_1, by decide, by decide, by decide, by decide +kernel, by decide⟩
theorem cml_X12_lone : gcm mX12_lone 1 := ⟨wl_246, wl_6, by decide, by decide, by decide, by decide +kernel, by decide⟩
theorem cml_X11_liar : gcm mX11_liar 0 := ⟨wl_250, wl_1, by decide, by decide, by decide, by decide +kernel, by decide⟩
theorem cml_X12_liar : gcm mX12_liar 0 := ⟨wl_254, wl_6, by decide, by decide, by decide, by decide +kernel, by decide⟩
theorem cml_X11_seed : gcm mX11_seed 1 := ⟨wl_258, wl_1, by decide, by decide, by decide, by decide +kernel, by decide⟩
theorem cml_X12_seed : gcm mX12_seed 1 := ⟨wl_262, wl_6, by decide, by decide, by decide, by decide +kernel, by decide⟩
theorem cml_X11_lot : gcm mX11_lot 0 := ⟨wl_266, wl_1, by decide, by decide, by decide, by decide +kernel, by decide⟩
theorem cml_X12_lot : gcm mX12_lot 0 := ⟨wl_270, wl_6, by decide, by decide, by decide, by decide +kernel, by decide⟩
theorem cml_X11_times : gcm mX11_times 2 := ⟨wl_274, wl_1, by decide, by decide, by decide, by decide +kernel, by decide⟩
theorem cml_X12_times : gcm mX12_times 2 := ⟨wl_278, wl_6, by decide, by decide, by decide, by decide +kernel, by decide⟩
theorem cml_X11_prove : gcm mX11_prove 1 := ⟨wl_282, wl_1, by decide, by decide, by decide, by decide +kernel, by decide⟩
theorem cml_X12_prove : gcm mX12_prove 1 := ⟨wl_286, wl_6, by decide, by decide, by decide, by decide +kernel, by decide⟩
theorem cml_X11_row : gcm mX11_row 2 := ⟨wl_290, wl_1, by decide, by decide, by decide, by decide +kernel, by decide⟩
theorem cml_X12_row : gcm mX12_row 2 := ⟨wl_294, wl_6, by decide, by decide, by decide, by decide +kernel, by decide⟩
theorem cml_X11_alterRow : gcm mX11_alterRow 3 := ⟨wl_298, wl_1, by decide, by decide, by decide, by decide +kernel, by decide⟩
theorem cml_X12_alterRow : gcm mX12_alterRow 3 := ⟨wl_302, wl_6, by decide, by decide, by decide, by decide +kernel, by decide⟩
theorem cml_X11_judge : gcm mX11_judge 0 := ⟨wl_306, wl_1, by decide, by decide, by decide, by decide +kernel, by decide⟩
theorem cml_X12_judge : gcm mX12_judge 0 := ⟨wl_310, wl_6, by decide, by decide, by decide, by decide +kernel, by decide⟩
theorem cml_X11_sheet : gcm mX11_sheet 3 := ⟨wl_314, wl_1, by decide, by decide, by decide, by decide +kernel, by decide⟩
theorem cml_X12_sheet : gcm mX12_sheet 3 := ⟨wl_318, wl_6, by decide, by decide, by decide, by decide +kernel, by decide⟩
theorem cml_X11_write : gcm mX11_write 3 := ⟨wl_322, wl_1, by decide, by decide, by decide, by decide +kernel, by decide⟩
theorem cml_X12_write : gcm mX12_write 3 := ⟨wl_326, wl_6, by decide, by decide, by decide, by decide +kernel, by decide⟩
theorem cml_X11_item : gcm mX11_item 3 := ⟨wl_330, wl_1, by decide, by decide, by decide, by decide +kernel, by decide⟩
theorem cml_X12_item : gcm mX12_item 3 := ⟨wl_334, wl_6, by decide, by decide, by decide, by decide +kernel, by decide⟩
theorem cml_X11_goAll : gcm mX11_goAll 3 := ⟨wl_338, wl_1, by decide, by decide, by decide, by decide +kernel, by decide⟩
theorem cml_X12_goAll : gcm mX12_goAll 3 := ⟨wl_342, wl_6, by decide, by decide, by decide, by decide +kernel, by decide⟩
theorem cml_X11_wouldBe : gcm mX11_wouldBe 3 := ⟨wl_346, wl_1, by decide, by decide, by decide, by decide +kernel, by decide⟩
theorem cml_X12_wouldBe : gcm mX12_wouldBe 3 := ⟨wl_350, wl_6, by decide, by decide, by decide, by decide +kernel, by decide⟩
theorem cml_X11_shelf : gcm mX11_shelf 3 := ⟨wl_354, wl_1, by decide, by decide, by decide, by decide +kernel, by decide⟩
theorem cml_X12_shelf : gcm mX12_shelf 3 := ⟨wl_358, wl_6, by decide, by decide, by decide, by decide +kernel, by decide⟩
theorem cml_X11_taken : gcm mX11_taken 2 := ⟨wl_362, wl_1, by decide, by decide, by decide, by decide +kernel, by decide⟩
theorem cml_X12_taken : gcm mX12_taken 2 := ⟨wl_366, wl_6, by decide, by decide, by decide, by decide +kernel, by decide⟩
theorem cml_X11_act : gcm mX11_act 3 := ⟨wl_370, wl_1, by decide, by decide, by decide, by decide +kernel, by decide⟩
theorem cml_X12_act : gcm mX12_act 3 := ⟨wl_374, wl_6, by decide, by decide, by decide, by decide +kernel, by decide⟩
theorem cml_X11_trace : gcm mX11_trace 1 := ⟨wl_378, wl_1, by decide, by decide, by decide, by decide +kernel, by decide⟩
theorem cml_X12_trace : gcm mX12_trace 1 := ⟨wl_382, wl_6, by decide, by decide, by decide, by decide +kernel, by decide⟩
theorem cml_X11_many : gcm mX11_many 1 := ⟨wl_386, wl_1, by decide, by decide, by decide, by decide +kernel, by decide⟩
theorem cml_X12_many : gcm mX12_many 1 := ⟨wl_390, wl_6, by decide, by decide, by decide, by decide +kernel, by decide⟩
theorem cml_X11_keep : gcm mX11_keep 0 := ⟨wl_394, wl_1, by decide, by decide, by decide, by decide +kernel, by decide⟩
theorem cml_X12_keep : gcm mX12_keep 0 := ⟨wl_398, wl_6, by decide, by decide, by decide, by decide +kernel, by decide⟩
theorem cml_X11_again : gcm mX11_again 0 := ⟨wl_402, wl_1, by decide, by decide, by decide, by decide +kernel, by decide⟩
theorem cml_X12_again : gcm mX12_again 0 := ⟨wl_406, wl_6, by decide, by decide, by decide, by decide +kernel, by decide⟩
theorem cml_X11_init : gcm mX11_init 0 := ⟨wl_412, wl_1, by decide, by decide, by decide, by decide +kernel, by decide⟩
theorem cml_X12_init : gcm mX12_init 0 := ⟨wl_417, wl_6, by decide, by decide, by decide, by decide +kernel, by decide⟩
