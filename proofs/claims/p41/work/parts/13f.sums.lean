def sm_1015 : aM := (168, 0, [(1, 67, 0), (0, 4, 4), (0, 4, 4)], [(68, 0, 4, 16), (68, 5, 0, 0)], [], [(some (0, 0), [], [(68, 0, 4, 16), (68, 5, 0, 0)])])
def lb_1015 : List aLab := []
theorem ms_1015 {Ext : gI → Prop} (hX : pSt Ext) : MSok bT Ext MT sm_1015 := achk_ok (nm := 297) (sm := []) (labs := lb_1015) (sp := []) (fuel := 10) (rE := [(1000000, (2, 0))]) (maxL := 9) (M := mX12_playedFrom) mt_X12_playedFrom rfl os_X12_playedFrom MT_len ( mA.nil) (pE hX (by decide +kernel)) (by decide +kernel)
def sm_1020 : aM := (168, 0, [(1, 67, 0), (0, 3, 3), (0, 3, 3)], [(68, 0, 3, 16), (68, 5, 0, 0)], [], [(some (0, 0), [], [(68, 0, 3, 16), (68, 5, 0, 0)])])
def lb_1020 : List aLab := []
theorem ms_1020 {Ext : gI → Prop} (hX : pSt Ext) : MSok bT Ext MT sm_1020 := achk_ok (nm := 297) (sm := []) (labs := lb_1020) (sp := []) (fuel := 10) (rE := [(1000000, (2, 0))]) (maxL := 9) (M := mX12_playedFrom) mt_X12_playedFrom rfl os_X12_playedFrom MT_len ( mA.nil) (pE hX (by decide +kernel)) (by decide +kernel)
def sm_1024 : aM := (168, 0, [(1, 67, 0), (0, 2, 2), (0, 2, 2)], [(68, 0, 2, 16), (68, 5, 0, 0)], [], [(some (0, 0), [], [(68, 0, 2, 16), (68, 5, 0, 0)])])
def lb_1024 : List aLab := []
theorem ms_1024 {Ext : gI → Prop} (hX : pSt Ext) : MSok bT Ext MT sm_1024 := achk_ok (nm := 297) (sm := []) (labs := lb_1024) (sp := []) (fuel := 10) (rE := [(1000000, (2, 0))]) (maxL := 9) (M := mX12_playedFrom) mt_X12_playedFrom rfl os_X12_playedFrom MT_len ( mA.nil) (pE hX (by decide +kernel)) (by decide +kernel)
def sm_1027 : aM := (168, 0, [(1, 67, 0), (0, 1, 1), (0, 1, 1)], [(68, 0, 1, 16), (68, 5, 0, 0)], [], [(some (0, 0), [], [(68, 0, 1, 16), (68, 5, 0, 0)])])
def lb_1027 : List aLab := []
theorem ms_1027 {Ext : gI → Prop} (hX : pSt Ext) : MSok bT Ext MT sm_1027 := achk_ok (nm := 297) (sm := []) (labs := lb_1027) (sp := []) (fuel := 10) (rE := [(1000000, (2, 0))]) (maxL := 9) (M := mX12_playedFrom) mt_X12_playedFrom rfl os_X12_playedFrom MT_len ( mA.nil) (pE hX (by decide +kernel)) (by decide +kernel)
def sm_1029 : aM := (168, 0, [(1, 67, 0), (0, 0, 0), (0, 0, 0)], [(68, 0, 0, 16), (68, 5, 0, 0)], [], [(some (0, 0), [], [(68, 5, 0, 0)])])
def lb_1029 : List aLab := []
theorem ms_1029 {Ext : gI → Prop} (hX : pSt Ext) : MSok bT Ext MT sm_1029 := achk_ok (nm := 297) (sm := []) (labs := lb_1029) (sp := []) (fuel := 10) (rE := [(1000000, (2, 0))]) (maxL := 9) (M := mX12_playedFrom) mt_X12_playedFrom rfl os_X12_playedFrom MT_len ( mA.nil) (pE hX (by decide +kernel)) (by decide +kernel)
def sm_1031 : aM := (168, 0, [(1, 67, 0), (0, 4, 4), (0, 4, 4)], [(68, 0, 4, 16), (68, 5, 1, 1)], [], [(some (0, 0), [], [(68, 0, 4, 16), (68, 5, 1, 1)])])
def lb_1031 : List aLab := []
theorem ms_1031 {Ext : gI → Prop} (hX : pSt Ext) : MSok bT Ext MT sm_1031 := achk_ok (nm := 297) (sm := []) (labs := lb_1031) (sp := []) (fuel := 10) (rE := [(1000000, (2, 0))]) (maxL := 9) (M := mX12_playedFrom) mt_X12_playedFrom rfl os_X12_playedFrom MT_len ( mA.nil) (pE hX (by decide +kernel)) (by decide +kernel)
def sm_1036 : aM := (168, 0, [(1, 67, 0), (0, 3, 3), (0, 3, 3)], [(68, 0, 3, 16), (68, 5, 1, 1)], [], [(some (0, 0), [], [(68, 0, 3, 16), (68, 5, 1, 1)])])
def lb_1036 : List aLab := []
theorem ms_1036 {Ext : gI → Prop} (hX : pSt Ext) : MSok bT Ext MT sm_1036 := achk_ok (nm := 297) (sm := []) (labs := lb_1036) (sp := []) (fuel := 10) (rE := [(1000000, (2, 0))]) (maxL := 9) (M := mX12_playedFrom) mt_X12_playedFrom rfl os_X12_playedFrom MT_len ( mA.nil) (pE hX (by decide +kernel)) (by decide +kernel)
def sm_1040 : aM := (168, 0, [(1, 67, 0), (0, 2, 2), (0, 2, 2)], [(68, 0, 2, 16), (68, 5, 1, 1)], [], [(some (0, 0), [], [(68, 0, 2, 16), (68, 5, 1, 1)])])
def lb_1040 : List aLab := []
theorem ms_1040 {Ext : gI → Prop} (hX : pSt Ext) : MSok bT Ext MT sm_1040 := achk_ok (nm := 297) (sm := []) (labs := lb_1040) (sp := []) (fuel := 10) (rE := [(1000000, (2, 0))]) (maxL := 9) (M := mX12_playedFrom) mt_X12_playedFrom rfl os_X12_playedFrom MT_len ( mA.nil) (pE hX (by decide +kernel)) (by decide +kernel)
def sm_1043 : aM := (168, 0, [(1, 67, 0), (0, 1, 1), (0, 1, 1)], [(68, 0, 1, 16), (68, 5, 1, 1)], [], [(some (0, 0), [], [(68, 0, 1, 16), (68, 5, 1, 1)])])
def lb_1043 : List aLab := []
theorem ms_1043 {Ext : gI → Prop} (hX : pSt Ext) : MSok bT Ext MT sm_1043 := achk_ok (nm := 297) (sm := []) (labs := lb_1043) (sp := []) (fuel := 10) (rE := [(1000000, (2, 0))]) (maxL := 9) (M := mX12_playedFrom) mt_X12_playedFrom rfl os_X12_playedFrom MT_len ( mA.nil) (pE hX (by decide +kernel)) (by decide +kernel)
def sm_1045 : aM := (168, 0, [(1, 67, 0), (0, 0, 0), (0, 0, 0)], [(68, 0, 0, 16), (68, 5, 1, 1)], [], [(some (0, 0), [], [(68, 5, 1, 1)])])
def lb_1045 : List aLab := []
theorem ms_1045 {Ext : gI → Prop} (hX : pSt Ext) : MSok bT Ext MT sm_1045 := achk_ok (nm := 297) (sm := []) (labs := lb_1045) (sp := []) (fuel := 10) (rE := [(1000000, (2, 0))]) (maxL := 9) (M := mX12_playedFrom) mt_X12_playedFrom rfl os_X12_playedFrom MT_len ( mA.nil) (pE hX (by decide +kernel)) (by decide +kernel)
def sm_1047 : aM := (168, 0, [(1, 67, 0), (0, 4, 4), (0, 4, 4)], [(68, 0, 4, 16), (68, 5, 2, 2)], [], [(some (0, 0), [], [(68, 0, 4, 16), (68, 5, 2, 2)])])
def lb_1047 : List aLab := []
theorem ms_1047 {Ext : gI → Prop} (hX : pSt Ext) : MSok bT Ext MT sm_1047 := achk_ok (nm := 297) (sm := []) (labs := lb_1047) (sp := []) (fuel := 10) (rE := [(1000000, (2, 0))]) (maxL := 9) (M := mX12_playedFrom) mt_X12_playedFrom rfl os_X12_playedFrom MT_len ( mA.nil) (pE hX (by decide +kernel)) (by decide +kernel)
def sm_1052 : aM := (168, 0, [(1, 67, 0), (0, 3, 3), (0, 3, 3)], [(68, 0, 3, 16), (68, 5, 2, 2)], [], [(some (0, 0), [], [(68, 0, 3, 16), (68, 5, 2, 2)])])
def lb_1052 : List aLab := []
theorem ms_1052 {Ext : gI → Prop} (hX : pSt Ext) : MSok bT Ext MT sm_1052 := achk_ok (nm := 297) (sm := []) (labs := lb_1052) (sp := []) (fuel := 10) (rE := [(1000000, (2, 0))]) (maxL := 9) (M := mX12_playedFrom) mt_X12_playedFrom rfl os_X12_playedFrom MT_len ( mA.nil) (pE hX (by decide +kernel)) (by decide +kernel)
def sm_1056 : aM := (168, 0, [(1, 67, 0), (0, 2, 2), (0, 2, 2)], [(68, 0, 2, 16), (68, 5, 2, 2)], [], [(some (0, 0), [], [(68, 0, 2, 16), (68, 5, 2, 2)])])
def lb_1056 : List aLab := []
theorem ms_1056 {Ext : gI → Prop} (hX : pSt Ext) : MSok bT Ext MT sm_1056 := achk_ok (nm := 297) (sm := []) (labs := lb_1056) (sp := []) (fuel := 10) (rE := [(1000000, (2, 0))]) (maxL := 9) (M := mX12_playedFrom) mt_X12_playedFrom rfl os_X12_playedFrom MT_len ( mA.nil) (pE hX (by decide +kernel)) (by decide +kernel)
def sm_1059 : aM := (168, 0, [(1, 67, 0), (0, 1, 1), (0, 1, 1)], [(68, 0, 1, 16), (68, 5, 2, 2)], [], [(some (0, 0), [], [(68, 0, 1, 16), (68, 5, 2, 2)])])
def lb_1059 : List aLab := []
theorem ms_1059 {Ext : gI → Prop} (hX : pSt Ext) : MSok bT Ext MT sm_1059 := achk_ok (nm := 297) (sm := []) (labs := lb_1059) (sp := []) (fuel := 10) (rE := [(1000000, (2, 0))]) (maxL := 9) (M := mX12_playedFrom) mt_X12_playedFrom rfl os_X12_playedFrom MT_len ( mA.nil) (pE hX (by decide +kernel)) (by decide +kernel)
def sm_1061 : aM := (168, 0, [(1, 67, 0), (0, 0, 0), (0, 0, 0)], [(68, 0, 0, 16), (68, 5, 2, 2)], [], [(some (0, 0), [], [(68, 5, 2, 2)])])
def lb_1061 : List aLab := []
theorem ms_1061 {Ext : gI → Prop} (hX : pSt Ext) : MSok bT Ext MT sm_1061 := achk_ok (nm := 297) (sm := []) (labs := lb_1061) (sp := []) (fuel := 10) (rE := [(1000000, (2, 0))]) (maxL := 9) (M := mX12_playedFrom) mt_X12_playedFrom rfl os_X12_playedFrom MT_len ( mA.nil) (pE hX (by decide +kernel)) (by decide +kernel)
def sm_1063 : aM := (168, 0, [(1, 67, 0), (0, 4, 4), (0, 4, 4)], [(68, 0, 4, 16), (68, 5, 3, 3)], [], [(some (0, 0), [], [(68, 0, 4, 16), (68, 5, 3, 3)])])
def lb_1063 : List aLab := []
theorem ms_1063 {Ext : gI → Prop} (hX : pSt Ext) : MSok bT Ext MT sm_1063 := achk_ok (nm := 297) (sm := []) (labs := lb_1063) (sp := []) (fuel := 10) (rE := [(1000000, (2, 0))]) (maxL := 9) (M := mX12_playedFrom) mt_X12_playedFrom rfl os_X12_playedFrom MT_len ( mA.nil) (pE hX (by decide +kernel)) (by decide +kernel)
def sm_1068 : aM := (168, 0, [(1, 67, 0), (0, 3, 3), (0, 3, 3)], [(68, 0, 3, 16), (68, 5, 3, 3)], [], [(some (0, 0), [], [(68, 0, 3, 16), (68, 5, 3, 3)])])
def lb_1068 : List aLab := []
theorem ms_1068 {Ext : gI → Prop} (hX : pSt Ext) : MSok bT Ext MT sm_1068 := achk_ok (nm := 297) (sm := []) (labs := lb_1068) (sp := []) (fuel := 10) (rE := [(1000000, (2, 0))]) (maxL := 9) (M := mX12_playedFrom) mt_X12_playedFrom rfl os_X12_playedFrom MT_len ( mA.nil) (pE hX (by decide +kernel)) (by decide +kernel)
def sm_1072 : aM := (168, 0, [(1, 67, 0), (0, 2, 2), (0, 2, 2)], [(68, 0, 2, 16), (68, 5, 3, 3)], [], [(some (0, 0), [], [(68, 0, 2, 16), (68, 5, 3, 3)])])
def lb_1072 : List aLab := []
theorem ms_1072 {Ext : gI → Prop} (hX : pSt Ext) : MSok bT Ext MT sm_1072 := achk_ok (nm := 297) (sm := []) (labs := lb_1072) (sp := []) (fuel := 10) (rE := [(1000000, (2, 0))]) (maxL := 9) (M := mX12_playedFrom) mt_X12_playedFrom rfl os_X12_playedFrom MT_len ( mA.nil) (pE hX (by decide +kernel)) (by decide +kernel)
def sm_1075 : aM := (168, 0, [(1, 67, 0), (0, 1, 1), (0, 1, 1)], [(68, 0, 1, 16), (68, 5, 3, 3)], [], [(some (0, 0), [], [(68, 0, 1, 16), (68, 5, 3, 3)])])
def lb_1075 : List aLab := []
theorem ms_1075 {Ext : gI → Prop} (hX : pSt Ext) : MSok bT Ext MT sm_1075 := achk_ok (nm := 297) (sm := []) (labs := lb_1075) (sp := []) (fuel := 10) (rE := [(1000000, (2, 0))]) (maxL := 9) (M := mX12_playedFrom) mt_X12_playedFrom rfl os_X12_playedFrom MT_len ( mA.nil) (pE hX (by decide +kernel)) (by decide +kernel)
def sm_1077 : aM := (168, 0, [(1, 67, 0), (0, 0, 0), (0, 0, 0)], [(68, 0, 0, 16), (68, 5, 3, 3)], [], [(some (0, 0), [], [(68, 5, 3, 3)])])
def lb_1077 : List aLab := []
theorem ms_1077 {Ext : gI → Prop} (hX : pSt Ext) : MSok bT Ext MT sm_1077 := achk_ok (nm := 297) (sm := []) (labs := lb_1077) (sp := []) (fuel := 10) (rE := [(1000000, (2, 0))]) (maxL := 9) (M := mX12_playedFrom) mt_X12_playedFrom rfl os_X12_playedFrom MT_len ( mA.nil) (pE hX (by decide +kernel)) (by decide +kernel)
def sm_1079 : aM := (168, 0, [(1, 67, 0), (0, 4, 4), (0, 4, 4)], [(68, 0, 4, 16), (68, 5, 4, 4)], [], [(some (0, 0), [], [(68, 0, 4, 16), (68, 5, 4, 4)])])
def lb_1079 : List aLab := []
theorem ms_1079 {Ext : gI → Prop} (hX : pSt Ext) : MSok bT Ext MT sm_1079 := achk_ok (nm := 297) (sm := []) (labs := lb_1079) (sp := []) (fuel := 10) (rE := [(1000000, (2, 0))]) (maxL := 9) (M := mX12_playedFrom) mt_X12_playedFrom rfl os_X12_playedFrom MT_len ( mA.nil) (pE hX (by decide +kernel)) (by decide +kernel)
def sm_1084 : aM := (168, 0, [(1, 67, 0), (0, 3, 3), (0, 3, 3)], [(68, 0, 3, 16), (68, 5, 4, 4)], [], [(some (0, 0), [], [(68, 0, 3, 16), (68, 5, 4, 4)])])
def lb_1084 : List aLab := []
theorem ms_1084 {Ext : gI → Prop} (hX : pSt Ext) : MSok bT Ext MT sm_1084 := achk_ok (nm := 297) (sm := []) (labs := lb_1084) (sp := []) (fuel := 10) (rE := [(1000000, (2, 0))]) (maxL := 9) (M := mX12_playedFrom) mt_X12_playedFrom rfl os_X12_playedFrom MT_len ( mA.nil) (pE hX (by decide +kernel)) (by decide +kernel)
def sm_1088 : aM := (168, 0, [(1, 67, 0), (0, 2, 2), (0, 2, 2)], [(68, 0, 2, 16), (68, 5, 4, 4)], [], [(some (0, 0), [], [(68, 0, 2, 16), (68, 5, 4, 4)])])
def lb_1088 : List aLab := []
theorem ms_1088 {Ext : gI → Prop} (hX : pSt Ext) : MSok bT Ext MT sm_1088 := achk_ok (nm := 297) (sm := []) (labs := lb_1088) (sp := []) (fuel := 10) (rE := [(1000000, (2, 0))]) (maxL := 9) (M := mX12_playedFrom) mt_X12_playedFrom rfl os_X12_playedFrom MT_len ( mA.nil) (pE hX (by decide +kernel)) (by decide +kernel)
def sm_1091 : aM := (168, 0, [(1, 67, 0), (0, 1, 1), (0, 1, 1)], [(68, 0, 1, 16), (68, 5, 4, 4)], [], [(some (0, 0), [], [(68, 0, 1, 16), (68, 5, 4, 4)])])
def lb_1091 : List aLab := []
theorem ms_1091 {Ext : gI → Prop} (hX : pSt Ext) : MSok bT Ext MT sm_1091 := achk_ok (nm := 297) (sm := []) (labs := lb_1091) (sp := []) (fuel := 10) (rE := [(1000000, (2, 0))]) (maxL := 9) (M := mX12_playedFrom) mt_X12_playedFrom rfl os_X12_playedFrom MT_len ( mA.nil) (pE hX (by decide +kernel)) (by decide +kernel)
def sm_1093 : aM := (168, 0, [(1, 67, 0), (0, 0, 0), (0, 0, 0)], [(68, 0, 0, 16), (68, 5, 4, 4)], [], [(some (0, 0), [], [(68, 5, 4, 4)])])
def lb_1093 : List aLab := []
theorem ms_1093 {Ext : gI → Prop} (hX : pSt Ext) : MSok bT Ext MT sm_1093 := achk_ok (nm := 297) (sm := []) (labs := lb_1093) (sp := []) (fuel := 10) (rE := [(1000000, (2, 0))]) (maxL := 9) (M := mX12_playedFrom) mt_X12_playedFrom rfl os_X12_playedFrom MT_len ( mA.nil) (pE hX (by decide +kernel)) (by decide +kernel)
def sm_1095 : aM := (168, 0, [(1, 67, 0), (0, 4, 4), (0, 4, 4)], [(68, 0, 4, 16), (68, 5, 5, 5)], [], [(some (0, 0), [], [(68, 0, 4, 16), (68, 5, 5, 5)])])
def lb_1095 : List aLab := []
theorem ms_1095 {Ext : gI → Prop} (hX : pSt Ext) : MSok bT Ext MT sm_1095 := achk_ok (nm := 297) (sm := []) (labs := lb_1095) (sp := []) (fuel := 10) (rE := [(1000000, (2, 0))]) (maxL := 9) (M := mX12_playedFrom) mt_X12_playedFrom rfl os_X12_playedFrom MT_len ( mA.nil) (pE hX (by decide +kernel)) (by decide +kernel)
def sm_1100 : aM := (168, 0, [(1, 67, 0), (0, 3, 3), (0, 3, 3)], [(68, 0, 3, 16), (68, 5, 5, 5)], [], [(some (0, 0), [], [(68, 0, 3, 16), (68, 5, 5, 5)])])
def lb_1100 : List aLab := []
theorem ms_1100 {Ext : gI → Prop} (hX : pSt Ext) : MSok bT Ext MT sm_1100 := achk_ok (nm := 297) (sm := []) (labs := lb_1100) (sp := []) (fuel := 10) (rE := [(1000000, (2, 0))]) (maxL := 9) (M := mX12_playedFrom) mt_X12_playedFrom rfl os_X12_playedFrom MT_len ( mA.nil) (pE hX (by decide +kernel)) (by decide +kernel)
def sm_1104 : aM := (168, 0, [(1, 67, 0), (0, 2, 2), (0, 2, 2)], [(68, 0, 2, 16), (68, 5, 5, 5)], [], [(some (0, 0), [], [(68, 0, 2, 16), (68, 5, 5, 5)])])
def lb_1104 : List aLab := []
theorem ms_1104 {Ext : gI → Prop} (hX : pSt Ext) : MSok bT Ext MT sm_1104 := achk_ok (nm := 297) (sm := []) (labs := lb_1104) (sp := []) (fuel := 10) (rE := [(1000000, (2, 0))]) (maxL := 9) (M := mX12_playedFrom) mt_X12_playedFrom rfl os_X12_playedFrom MT_len ( mA.nil) (pE hX (by decide +kernel)) (by decide +kernel)
def sm_1107 : aM := (168, 0, [(1, 67, 0), (0, 1, 1), (0, 1, 1)], [(68, 0, 1, 16), (68, 5, 5, 5)], [], [(some (0, 0), [], [(68, 0, 1, 16), (68, 5, 5, 5)])])
def lb_1107 : List aLab := []
theorem ms_1107 {Ext : gI → Prop} (hX : pSt Ext) : MSok bT Ext MT sm_1107 := achk_ok (nm := 297) (sm := []) (labs := lb_1107) (sp := []) (fuel := 10) (rE := [(1000000, (2, 0))]) (maxL := 9) (M := mX12_playedFrom) mt_X12_playedFrom rfl os_X12_playedFrom MT_len ( mA.nil) (pE hX (by decide +kernel)) (by decide +kernel)
def sm_1109 : aM := (168, 0, [(1, 67, 0), (0, 0, 0), (0, 0, 0)], [(68, 0, 0, 16), (68, 5, 5, 5)], [], [(some (0, 0), [], [(68, 5, 5, 5)])])
def lb_1109 : List aLab := []
theorem ms_1109 {Ext : gI → Prop} (hX : pSt Ext) : MSok bT Ext MT sm_1109 := achk_ok (nm := 297) (sm := []) (labs := lb_1109) (sp := []) (fuel := 10) (rE := [(1000000, (2, 0))]) (maxL := 9) (M := mX12_playedFrom) mt_X12_playedFrom rfl os_X12_playedFrom MT_len ( mA.nil) (pE hX (by decide +kernel)) (by decide +kernel)
def sm_1111 : aM := (168, 0, [(1, 67, 0), (0, 4, 4), (0, 4, 4)], [(68, 0, 4, 16), (68, 5, 6, 6)], [], [(some (0, 0), [], [(68, 0, 4, 16), (68, 5, 6, 6)])])
def lb_1111 : List aLab := []
theorem ms_1111 {Ext : gI → Prop} (hX : pSt Ext) : MSok bT Ext MT sm_1111 := achk_ok (nm := 297) (sm := []) (labs := lb_1111) (sp := []) (fuel := 10) (rE := [(1000000, (2, 0))]) (maxL := 9) (M := mX12_playedFrom) mt_X12_playedFrom rfl os_X12_playedFrom MT_len ( mA.nil) (pE hX (by decide +kernel)) (by decide +kernel)
def sm_1116 : aM := (168, 0, [(1, 67, 0), (0, 3, 3), (0, 3, 3)], [(68, 0, 3, 16), (68, 5, 6, 6)], [], [(some (0, 0), [], [(68, 0, 3, 16), (68, 5, 6, 6)])])
def lb_1116 : List aLab := []
theorem ms_1116 {Ext : gI → Prop} (hX : pSt Ext) : MSok bT Ext MT sm_1116 := achk_ok (nm := 297) (sm := []) (labs := lb_1116) (sp := []) (fuel := 10) (rE := [(1000000, (2, 0))]) (maxL := 9) (M := mX12_playedFrom) mt_X12_playedFrom rfl os_X12_playedFrom MT_len ( mA.nil) (pE hX (by decide +kernel)) (by decide +kernel)
def sm_1120 : aM := (168, 0, [(1, 67, 0), (0, 2, 2), (0, 2, 2)], [(68, 0, 2, 16), (68, 5, 6, 6)], [], [(some (0, 0), [], [(68, 0, 2, 16), (68, 5, 6, 6)])])
def lb_1120 : List aLab := []
theorem ms_1120 {Ext : gI → Prop} (hX : pSt Ext) : MSok bT Ext MT sm_1120 := achk_ok (nm := 297) (sm := []) (labs := lb_1120) (sp := []) (fuel := 10) (rE := [(1000000, (2, 0))]) (maxL := 9) (M := mX12_playedFrom) mt_X12_playedFrom rfl os_X12_playedFrom MT_len ( mA.nil) (pE hX (by decide +kernel)) (by decide +kernel)
def sm_1123 : aM := (168, 0, [(1, 67, 0), (0, 1, 1), (0, 1, 1)], [(68, 0, 1, 16), (68, 5, 6, 6)], [], [(some (0, 0), [], [(68, 0, 1, 16), (68, 5, 6, 6)])])
def lb_1123 : List aLab := []
theorem ms_1123 {Ext : gI → Prop} (hX : pSt Ext) : MSok bT Ext MT sm_1123 := achk_ok (nm := 297) (sm := []) (labs := lb_1123) (sp := []) (fuel := 10) (rE := [(1000000, (2, 0))]) (maxL := 9) (M := mX12_playedFrom) mt_X12_playedFrom rfl os_X12_playedFrom MT_len ( mA.nil) (pE hX (by decide +kernel)) (by decide +kernel)
def sm_1125 : aM := (168, 0, [(1, 67, 0), (0, 0, 0), (0, 0, 0)], [(68, 0, 0, 16), (68, 5, 6, 6)], [], [(some (0, 0), [], [(68, 5, 6, 6)])])
def lb_1125 : List aLab := []
theorem ms_1125 {Ext : gI → Prop} (hX : pSt Ext) : MSok bT Ext MT sm_1125 := achk_ok (nm := 297) (sm := []) (labs := lb_1125) (sp := []) (fuel := 10) (rE := [(1000000, (2, 0))]) (maxL := 9) (M := mX12_playedFrom) mt_X12_playedFrom rfl os_X12_playedFrom MT_len ( mA.nil) (pE hX (by decide +kernel)) (by decide +kernel)
def sm_1127 : aM := (168, 0, [(1, 67, 0), (0, 4, 4), (0, 4, 4)], [(68, 0, 4, 16), (68, 5, 7, 7)], [], [(some (0, 0), [], [(68, 0, 4, 16), (68, 5, 7, 7)])])
def lb_1127 : List aLab := []
theorem ms_1127 {Ext : gI → Prop} (hX : pSt Ext) : MSok bT Ext MT sm_1127 := achk_ok (nm := 297) (sm := []) (labs := lb_1127) (sp := []) (fuel := 10) (rE := [(1000000, (2, 0))]) (maxL := 9) (M := mX12_playedFrom) mt_X12_playedFrom rfl os_X12_playedFrom MT_len ( mA.nil) (pE hX (by decide +kernel)) (by decide +kernel)
def sm_1132 : aM := (168, 0, [(1, 67, 0), (0, 3, 3), (0, 3, 3)], [(68, 0, 3, 16), (68, 5, 7, 7)], [], [(some (0, 0), [], [(68, 0, 3, 16), (68, 5, 7, 7)])])
def lb_1132 : List aLab := []
theorem ms_1132 {Ext : gI → Prop} (hX : pSt Ext) : MSok bT Ext MT sm_1132 := achk_ok (nm := 297) (sm := []) (labs := lb_1132) (sp := []) (fuel := 10) (rE := [(1000000, (2, 0))]) (maxL := 9) (M := mX12_playedFrom) mt_X12_playedFrom rfl os_X12_playedFrom MT_len ( mA.nil) (pE hX (by decide +kernel)) (by decide +kernel)
def sm_1136 : aM := (168, 0, [(1, 67, 0), (0, 2, 2), (0, 2, 2)], [(68, 0, 2, 16), (68, 5, 7, 7)], [], [(some (0, 0), [], [(68, 0, 2, 16), (68, 5, 7, 7)])])
def lb_1136 : List aLab := []
theorem ms_1136 {Ext : gI → Prop} (hX : pSt Ext) : MSok bT Ext MT sm_1136 := achk_ok (nm := 297) (sm := []) (labs := lb_1136) (sp := []) (fuel := 10) (rE := [(1000000, (2, 0))]) (maxL := 9) (M := mX12_playedFrom) mt_X12_playedFrom rfl os_X12_playedFrom MT_len ( mA.nil) (pE hX (by decide +kernel)) (by decide +kernel)
def sm_1139 : aM := (168, 0, [(1, 67, 0), (0, 1, 1), (0, 1, 1)], [(68, 0, 1, 16), (68, 5, 7, 7)], [], [(some (0, 0), [], [(68, 0, 1, 16), (68, 5, 7, 7)])])
def lb_1139 : List aLab := []
theorem ms_1139 {Ext : gI → Prop} (hX : pSt Ext) : MSok bT Ext MT sm_1139 := achk_ok (nm := 297) (sm := []) (labs := lb_1139) (sp := []) (fuel := 10) (rE := [(1000000, (2, 0))]) (maxL := 9) (M := mX12_playedFrom) mt_X12_playedFrom rfl os_X12_playedFrom MT_len ( mA.nil) (pE hX (by decide +kernel)) (by decide +kernel)
def sm_1141 : aM := (168, 0, [(1, 67, 0), (0, 0, 0), (0, 0, 0)], [(68, 0, 0, 16), (68, 5, 7, 7)], [], [(some (0, 0), [], [(68, 5, 7, 7)])])
def lb_1141 : List aLab := []
theorem ms_1141 {Ext : gI → Prop} (hX : pSt Ext) : MSok bT Ext MT sm_1141 := achk_ok (nm := 297) (sm := []) (labs := lb_1141) (sp := []) (fuel := 10) (rE := [(1000000, (2, 0))]) (maxL := 9) (M := mX12_playedFrom) mt_X12_playedFrom rfl os_X12_playedFrom MT_len ( mA.nil) (pE hX (by decide +kernel)) (by decide +kernel)
def sm_1143 : aM := (168, 0, [(1, 67, 0), (0, 4, 4), (0, 4, 4)], [(68, 0, 4, 16), (68, 5, 8, 8)], [], [(some (0, 0), [], [(68, 0, 4, 16), (68, 5, 8, 8)])])
def lb_1143 : List aLab := []
theorem ms_1143 {Ext : gI → Prop} (hX : pSt Ext) : MSok bT Ext MT sm_1143 := achk_ok (nm := 297) (sm := []) (labs := lb_1143) (sp := []) (fuel := 10) (rE := [(1000000, (2, 0))]) (maxL := 9) (M := mX12_playedFrom) mt_X12_playedFrom rfl os_X12_playedFrom MT_len ( mA.nil) (pE hX (by decide +kernel)) (by decide +kernel)
def sm_1148 : aM := (168, 0, [(1, 67, 0), (0, 3, 3), (0, 3, 3)], [(68, 0, 3, 16), (68, 5, 8, 8)], [], [(some (0, 0), [], [(68, 0, 3, 16), (68, 5, 8, 8)])])
def lb_1148 : List aLab := []
theorem ms_1148 {Ext : gI → Prop} (hX : pSt Ext) : MSok bT Ext MT sm_1148 := achk_ok (nm := 297) (sm := []) (labs := lb_1148) (sp := []) (fuel := 10) (rE := [(1000000, (2, 0))]) (maxL := 9) (M := mX12_playedFrom) mt_X12_playedFrom rfl os_X12_playedFrom MT_len ( mA.nil) (pE hX (by decide +kernel)) (by decide +kernel)
def sm_1152 : aM := (168, 0, [(1, 67, 0), (0, 2, 2), (0, 2, 2)], [(68, 0, 2, 16), (68, 5, 8, 8)], [], [(some (0, 0), [], [(68, 0, 2, 16), (68, 5, 8, 8)])])
def lb_1152 : List aLab := []
theorem ms_1152 {Ext : gI → Prop} (hX : pSt Ext) : MSok bT Ext MT sm_1152 := achk_ok (nm := 297) (sm := []) (labs := lb_1152) (sp := []) (fuel := 10) (rE := [(1000000, (2, 0))]) (maxL := 9) (M := mX12_playedFrom) mt_X12_playedFrom rfl os_X12_playedFrom MT_len ( mA.nil) (pE hX (by decide +kernel)) (by decide +kernel)
def sm_1155 : aM := (168, 0, [(1, 67, 0), (0, 1, 1), (0, 1, 1)], [(68, 0, 1, 16), (68, 5, 8, 8)], [], [(some (0, 0), [], [(68, 0, 1, 16), (68, 5, 8, 8)])])
def lb_1155 : List aLab := []
theorem ms_1155 {Ext : gI → Prop} (hX : pSt Ext) : MSok bT Ext MT sm_1155 := achk_ok (nm := 297) (sm := []) (labs := lb_1155) (sp := []) (fuel := 10) (rE := [(1000000, (2, 0))]) (maxL := 9) (M := mX12_playedFrom) mt_X12_playedFrom rfl os_X12_playedFrom MT_len ( mA.nil) (pE hX (by decide +kernel)) (by decide +kernel)
def sm_1157 : aM := (168, 0, [(1, 67, 0), (0, 0, 0), (0, 0, 0)], [(68, 0, 0, 16), (68, 5, 8, 8)], [], [(some (0, 0), [], [(68, 5, 8, 8)])])
def lb_1157 : List aLab := []
theorem ms_1157 {Ext : gI → Prop} (hX : pSt Ext) : MSok bT Ext MT sm_1157 := achk_ok (nm := 297) (sm := []) (labs := lb_1157) (sp := []) (fuel := 10) (rE := [(1000000, (2, 0))]) (maxL := 9) (M := mX12_playedFrom) mt_X12_playedFrom rfl os_X12_playedFrom MT_len ( mA.nil) (pE hX (by decide +kernel)) (by decide +kernel)
def sm_1159 : aM := (163, 1, [(1, 67, 0), (0, 1, 4)], [(68, 0, 0, 15)], [], [(some (1, 1), [], [(68, 0, 0, 15), (68, 1, 1, 16)]), (some (0, 0), [], [(68, 0, 0, 15), (68, 1, 0, 15)]), (some (2, 2), [(1, 2, 4)], [(68, 0, 0, 14), (68, 1, 1, 16)]), (some (3, 3), [(1, 3, 4)], [(68, 0, 0, 13), (68, 1, 1, 16)]), (some (4, 4), [(1, 4, 4)], [(68, 0, 0, 12), (68, 1, 1, 16)])])
def lb_1159 : List aLab := []
theorem ms_1159 {Ext : gI → Prop} (hX : pSt Ext) : MSok bT Ext MT sm_1159 := achk_ok (nm := 297) (sm := [sm_446, sm_448, sm_450, sm_452, sm_454, sm_456, sm_458, sm_460, sm_462, sm_464, sm_466, sm_468, sm_470, sm_472, sm_474, sm_476]) (labs := lb_1159) (sp := [(0, 69, 0, []), (0, 0, 1, []), (25, 0, 2, [])]) (fuel := 27) (rE := [(1000000, (2, 0))]) (maxL := 3) (M := mX12_daysOf) mt_X12_daysOf rfl os_X12_daysOf MT_len ((mA.cons (ms_446 hX) (mA.cons (ms_448 hX) (mA.cons (ms_450 hX) (mA.cons (ms_452 hX) (mA.cons (ms_454 hX) (mA.cons (ms_456 hX) (mA.cons (ms_458 hX) (mA.cons (ms_460 hX) (mA.cons (ms_462 hX) (mA.cons (ms_464 hX) (mA.cons (ms_466 hX) (mA.cons (ms_468 hX) (mA.cons (ms_470 hX) (mA.cons (ms_472 hX) (mA.cons (ms_474 hX) (mA.cons (ms_476 hX) mA.nil))))))))))))))))) (pE hX (by decide +kernel)) (by decide +kernel)
def sm_1160 : aM := (168, 0, [(1, 67, 0), (0, 0, 0), (0, 0, 0)], [(68, 0, 0, 15), (68, 5, 0, 0)], [], [(some (0, 0), [], [(68, 0, 0, 15), (68, 5, 0, 0)])])
def lb_1160 : List aLab := []
theorem ms_1160 {Ext : gI → Prop} (hX : pSt Ext) : MSok bT Ext MT sm_1160 := achk_ok (nm := 297) (sm := []) (labs := lb_1160) (sp := []) (fuel := 10) (rE := [(1000000, (2, 0))]) (maxL := 9) (M := mX12_playedFrom) mt_X12_playedFrom rfl os_X12_playedFrom MT_len ( mA.nil) (pE hX (by decide +kernel)) (by decide +kernel)
def sm_1162 : aM := (168, 0, [(1, 67, 0), (0, 0, 0), (0, 0, 0)], [(68, 0, 0, 15), (68, 5, 1, 1)], [], [(some (0, 0), [], [(68, 0, 0, 15), (68, 5, 1, 1)])])
def lb_1162 : List aLab := []
theorem ms_1162 {Ext : gI → Prop} (hX : pSt Ext) : MSok bT Ext MT sm_1162 := achk_ok (nm := 297) (sm := []) (labs := lb_1162) (sp := []) (fuel := 10) (rE := [(1000000, (2, 0))]) (maxL := 9) (M := mX12_playedFrom) mt_X12_playedFrom rfl os_X12_playedFrom MT_len ( mA.nil) (pE hX (by decide +kernel)) (by decide +kernel)
def sm_1164 : aM := (168, 0, [(1, 67, 0), (0, 0, 0), (0, 0, 0)], [(68, 0, 0, 15), (68, 5, 2, 2)], [], [(some (0, 0), [], [(68, 0, 0, 15), (68, 5, 2, 2)])])
def lb_1164 : List aLab := []
theorem ms_1164 {Ext : gI → Prop} (hX : pSt Ext) : MSok bT Ext MT sm_1164 := achk_ok (nm := 297) (sm := []) (labs := lb_1164) (sp := []) (fuel := 10) (rE := [(1000000, (2, 0))]) (maxL := 9) (M := mX12_playedFrom) mt_X12_playedFrom rfl os_X12_playedFrom MT_len ( mA.nil) (pE hX (by decide +kernel)) (by decide +kernel)
def sm_1166 : aM := (168, 0, [(1, 67, 0), (0, 0, 0), (0, 0, 0)], [(68, 0, 0, 15), (68, 5, 3, 3)], [], [(some (0, 0), [], [(68, 0, 0, 15), (68, 5, 3, 3)])])
def lb_1166 : List aLab := []
theorem ms_1166 {Ext : gI → Prop} (hX : pSt Ext) : MSok bT Ext MT sm_1166 := achk_ok (nm := 297) (sm := []) (labs := lb_1166) (sp := []) (fuel := 10) (rE := [(1000000, (2, 0))]) (maxL := 9) (M := mX12_playedFrom) mt_X12_playedFrom rfl os_X12_playedFrom MT_len ( mA.nil) (pE hX (by decide +kernel)) (by decide +kernel)
def sm_1168 : aM := (168, 0, [(1, 67, 0), (0, 0, 0), (0, 0, 0)], [(68, 0, 0, 15), (68, 5, 4, 4)], [], [(some (0, 0), [], [(68, 0, 0, 15), (68, 5, 4, 4)])])
def lb_1168 : List aLab := []
theorem ms_1168 {Ext : gI → Prop} (hX : pSt Ext) : MSok bT Ext MT sm_1168 := achk_ok (nm := 297) (sm := []) (labs := lb_1168) (sp := []) (fuel := 10) (rE := [(1000000, (2, 0))]) (maxL := 9) (M := mX12_playedFrom) mt_X12_playedFrom rfl os_X12_playedFrom MT_len ( mA.nil) (pE hX (by decide +kernel)) (by decide +kernel)
def sm_1170 : aM := (168, 0, [(1, 67, 0), (0, 0, 0), (0, 0, 0)], [(68, 0, 0, 15), (68, 5, 5, 5)], [], [(some (0, 0), [], [(68, 0, 0, 15), (68, 5, 5, 5)])])
def lb_1170 : List aLab := []
theorem ms_1170 {Ext : gI → Prop} (hX : pSt Ext) : MSok bT Ext MT sm_1170 := achk_ok (nm := 297) (sm := []) (labs := lb_1170) (sp := []) (fuel := 10) (rE := [(1000000, (2, 0))]) (maxL := 9) (M := mX12_playedFrom) mt_X12_playedFrom rfl os_X12_playedFrom MT_len ( mA.nil) (pE hX (by decide +kernel)) (by decide +kernel)
def sm_1172 : aM := (168, 0, [(1, 67, 0), (0, 0, 0), (0, 0, 0)], [(68, 0, 0, 15), (68, 5, 6, 6)], [], [(some (0, 0), [], [(68, 0, 0, 15), (68, 5, 6, 6)])])
def lb_1172 : List aLab := []
theorem ms_1172 {Ext : gI → Prop} (hX : pSt Ext) : MSok bT Ext MT sm_1172 := achk_ok (nm := 297) (sm := []) (labs := lb_1172) (sp := []) (fuel := 10) (rE := [(1000000, (2, 0))]) (maxL := 9) (M := mX12_playedFrom) mt_X12_playedFrom rfl os_X12_playedFrom MT_len ( mA.nil) (pE hX (by decide +kernel)) (by decide +kernel)
def sm_1174 : aM := (168, 0, [(1, 67, 0), (0, 0, 0), (0, 0, 0)], [(68, 0, 0, 15), (68, 5, 7, 7)], [], [(some (0, 0), [], [(68, 0, 0, 15), (68, 5, 7, 7)])])
def lb_1174 : List aLab := []
theorem ms_1174 {Ext : gI → Prop} (hX : pSt Ext) : MSok bT Ext MT sm_1174 := achk_ok (nm := 297) (sm := []) (labs := lb_1174) (sp := []) (fuel := 10) (rE := [(1000000, (2, 0))]) (maxL := 9) (M := mX12_playedFrom) mt_X12_playedFrom rfl os_X12_playedFrom MT_len ( mA.nil) (pE hX (by decide +kernel)) (by decide +kernel)
def sm_1176 : aM := (168, 0, [(1, 67, 0), (0, 0, 0), (0, 0, 0)], [(68, 0, 0, 15), (68, 5, 8, 8)], [], [(some (0, 0), [], [(68, 0, 0, 15), (68, 5, 8, 8)])])
def lb_1176 : List aLab := []
theorem ms_1176 {Ext : gI → Prop} (hX : pSt Ext) : MSok bT Ext MT sm_1176 := achk_ok (nm := 297) (sm := []) (labs := lb_1176) (sp := []) (fuel := 10) (rE := [(1000000, (2, 0))]) (maxL := 9) (M := mX12_playedFrom) mt_X12_playedFrom rfl os_X12_playedFrom MT_len ( mA.nil) (pE hX (by decide +kernel)) (by decide +kernel)
def sm_1178 : aM := (127, 0, [(0, (-2147483648), 2147483647), (0, 0, 99), (0, 99, 99)], [], [], [(some (1, 1), [(0, 0, 99)], []), (some (0, 0), [], [])])
def lb_1178 : List aLab := []
theorem ms_1178 {Ext : gI → Prop} (hX : pSt Ext) : MSok bT Ext MT sm_1178 := achk_ok (nm := 297) (sm := []) (labs := lb_1178) (sp := []) (fuel := 14) (rE := [(1000000, (2, 0))]) (maxL := 3) (M := mX12_in1) mt_X12_in1 rfl os_X12_in1 MT_len ( mA.nil) (pE hX (by decide +kernel)) (by decide +kernel)
def sm_1179 : aM := (127, 0, [(0, (-2147483648), 2147483647), (0, 0, 9), (0, 9, 9)], [], [], [(some (1, 1), [(0, 0, 9)], []), (some (0, 0), [], [])])
def lb_1179 : List aLab := []
theorem ms_1179 {Ext : gI → Prop} (hX : pSt Ext) : MSok bT Ext MT sm_1179 := achk_ok (nm := 297) (sm := []) (labs := lb_1179) (sp := []) (fuel := 14) (rE := [(1000000, (2, 0))]) (maxL := 3) (M := mX12_in1) mt_X12_in1 rfl os_X12_in1 MT_len ( mA.nil) (pE hX (by decide +kernel)) (by decide +kernel)
def sm_1180 : aM := (246, 1, [(1, 67, 0), (0, (-2147483648), 2147483647), (0, (-2147483648), 2147483647), (0, (-2147483648), 2147483647), (0, (-2147483648), 2147483647)], [], [(68, 6, 6), (68, 65, 88)], [(some ((-2), 5), [], [])])
def lb_1180 : List aLab := []
theorem ms_1180 {Ext : gI → Prop} (hX : pSt Ext) : MSok bT Ext MT sm_1180 := achk_ok (nm := 297) (sm := [sm_375, sm_342, sm_273, sm_274, sm_1179, sm_1178]) (labs := lb_1180) (sp := [(70, 69, 6, [])]) (fuel := 87) (rE := [(1000000, (2, 0))]) (maxL := 7) (M := mX12_report) mt_X12_report rfl os_X12_report MT_len ((mA.cons (ms_375 hX) (mA.cons (ms_342 hX) (mA.cons (ms_273 hX) (mA.cons (ms_274 hX) (mA.cons (ms_1179 hX) (mA.cons (ms_1178 hX) mA.nil))))))) (pE hX (by decide +kernel)) (by decide +kernel)
def sm_1181 : aM := (193, 0, [(1, 67, 0), (0, 6, 6), (0, 0, 0)], [], [(68, 6, 6)], [(some (0, 6), [], [])])
def lb_1181 : List aLab := []
theorem ms_1181 {Ext : gI → Prop} (hX : pSt Ext) : MSok bT Ext MT sm_1181 := achk_ok (nm := 297) (sm := []) (labs := lb_1181) (sp := []) (fuel := 17) (rE := [(1000000, (2, 0))]) (maxL := 4) (M := mX12_becomes) mt_X12_becomes rfl os_X12_becomes MT_len ( mA.nil) (pE hX (by decide +kernel)) (by decide +kernel)
def sm_1182 : aM := (248, 1, [(1, 67, 0)], [], [(68, 6, 6)], [(some (0, 6), [], [])])
def lb_1182 : List aLab := []
theorem ms_1182 {Ext : gI → Prop} (hX : pSt Ext) : MSok bT Ext MT sm_1182 := achk_ok (nm := 297) (sm := [sm_1181]) (labs := lb_1182) (sp := []) (fuel := 10) (rE := [(1000000, (2, 0))]) (maxL := 1) (M := mX12_forget) mt_X12_forget rfl os_X12_forget MT_len ((mA.cons (ms_1181 hX) mA.nil)) (pE hX (by decide +kernel)) (by decide +kernel)
def sm_1183 : aM := (169, 1, [(1, 67, 0), (0, (-2147483648), 2147483647), (0, (-2147483648), 2147483647), (0, (-2147483648), 2147483647)], [], [(79, 0, 15), (80, 0, 15)], [(none, [], [])])
def lb_1183 : List aLab := [(6, [some (1, 67), some (0, 0), some (0, 1), some (0, 2), some (0, 3), some (0, 4), none, none], [], [((-2147483648), 2147483647, none), ((-2147483648), 2147483647, none), ((-2147483648), 2147483647, none), ((-2147483648), 2147483647, none), (0, 16, none)], [], [(99994, (2, 0)), (16, (0, 4)), (99994, (2, 0))])]
theorem ms_1183 {Ext : gI → Prop} (hX : pSt Ext) : MSok bT Ext MT sm_1183 := achk_ok (nm := 297) (sm := [sm_407, sm_321, sm_328]) (labs := lb_1183) (sp := []) (fuel := 55) (rE := [(1000000, (2, 0)), (0, (2, 0)), (0, (2, 0))]) (maxL := 8) (M := mX12_tellsLone) mt_X12_tellsLone rfl os_X12_tellsLone MT_len ((mA.cons (ms_407 hX) (mA.cons (ms_321 hX) (mA.cons (ms_328 hX) mA.nil)))) (pE hX (by decide +kernel)) (by decide +kernel)
def sm_1184 : aM := (127, 0, [(0, (-2147483648), 2147483647), (0, (-2147483648), 2147483647), (0, (-2147483648), 2147483647)], [], [], [(some (1, 1), [], []), (some (0, 0), [], [])])
def lb_1184 : List aLab := []
theorem ms_1184 {Ext : gI → Prop} (hX : pSt Ext) : MSok bT Ext MT sm_1184 := achk_ok (nm := 297) (sm := []) (labs := lb_1184) (sp := []) (fuel := 14) (rE := [(1000000, (2, 0))]) (maxL := 3) (M := mX12_in1) mt_X12_in1 rfl os_X12_in1 MT_len ( mA.nil) (pE hX (by decide +kernel)) (by decide +kernel)
def sm_1190 : aM := (170, 1, [(1, 67, 0), (0, 0, 5)], [], [], [(some (0, 0), [], []), (some (1, 1), [], [])])
def lb_1190 : List aLab := []
theorem ms_1190 {Ext : gI → Prop} (hX : pSt Ext) : MSok bT Ext MT sm_1190 := achk_ok (nm := 297) (sm := [sm_1184]) (labs := lb_1190) (sp := [(0, 0, 1, [])]) (fuel := 41) (rE := [(1000000, (2, 0))]) (maxL := 3) (M := mX12_isSo) mt_X12_isSo rfl os_X12_isSo MT_len ((mA.cons (ms_1184 hX) mA.nil)) (pE hX (by decide +kernel)) (by decide +kernel)
def sm_1191 : aM := (171, 2, [(1, 67, 0), (0, (-2147483648), 2147483647)], [], [(67, 25, 25), (79, 0, 15), (80, 0, 15)], [(some ((-2147483648), 2147483647), [], [])])
def lb_1191 : List aLab := [(9, [some (1, 67), some (0, 0), some (0, 1), some (0, 2), none, none], [], [((-2147483648), 2147483647, none), ((-2147483648), 2147483647, none), (0, 500, none), ((-1), 499, none)], [(67, 25, (0, 3))], [(99991, (2, 0)), (500, (0, 2)), (99991, (2, 0)), (0, (2, 0)), (0, (2, 0))]), (49, [some (1, 67), some (0, 0), some (0, 1), some (0, 2), some (0, 3), some (0, 4)], [], [((-2147483648), 2147483647, none), ((-2147483648), 2147483647, none), (0, 499, none), (0, 1, none), (0, 6, none), ((-1), 499, none)], [(67, 25, (0, 5))], [(99991, (2, 0)), (500, (0, 2)), (99951, (2, 0)), (6, (0, 4)), (99951, (2, 0))])]
theorem ms_1191 {Ext : gI → Prop} (hX : pSt Ext) : MSok bT Ext MT sm_1191 := achk_ok (nm := 297) (sm := [sm_1190, sm_1183]) (labs := lb_1191) (sp := []) (fuel := 32) (rE := [(1000000, (2, 0)), (0, (2, 0)), (0, (2, 0)), (0, (2, 0)), (0, (2, 0))]) (maxL := 6) (M := mX12_fitting) mt_X12_fitting rfl os_X12_fitting MT_len ((mA.cons (ms_1190 hX) (mA.cons (ms_1183 hX) mA.nil))) (pE hX (by decide +kernel)) (by decide +kernel)
