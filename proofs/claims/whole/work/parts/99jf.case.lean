/-! 99jf: the law, its calls 20 to 23 (laid by wip/whole/p99j.py) -/
theorem dL_1014 : decode code 1014 = .ok (.aload_n 1, 1) := by decide +kernel
theorem dL_1015 : decode code 1015 = .ok (.aload_n 0, 1) := by decide +kernel
theorem dL_1016 : decode code 1016 = .ok (.iload_n 3, 1) := by decide +kernel
theorem dL_1017 : decode code 1017 = .ok (.iconst 1, 1) := by decide +kernel
theorem dL_1018 : decode code 1018 = .ok (.iadd, 1) := by decide +kernel
theorem dL_1019 : decode code 1019 = .ok (.iaload, 1) := by decide +kernel
theorem dL_1020 : decode code 1020 = .ok (.aload_n 0, 1) := by decide +kernel
theorem dL_1021 : decode code 1021 = .ok (.iload_n 3, 1) := by decide +kernel
theorem dL_1022 : decode code 1022 = .ok (.iconst 2, 1) := by decide +kernel
theorem dL_1023 : decode code 1023 = .ok (.iadd, 1) := by decide +kernel
theorem dL_1024 : decode code 1024 = .ok (.iaload, 1) := by decide +kernel
theorem dL_1025 : decode code 1025 = .ok (.aload_n 0, 1) := by decide +kernel
theorem dL_1026 : decode code 1026 = .ok (.iload_n 3, 1) := by decide +kernel
theorem dL_1027 : decode code 1027 = .ok (.iconst 3, 1) := by decide +kernel
theorem dL_1028 : decode code 1028 = .ok (.iadd, 1) := by decide +kernel
theorem dL_1029 : decode code 1029 = .ok (.iaload, 1) := by decide +kernel
theorem dL_1030 : decode code 1030 = .ok (.aload_n 0, 1) := by decide +kernel
theorem dL_1031 : decode code 1031 = .ok (.iload_n 3, 1) := by decide +kernel
theorem dL_1032 : decode code 1032 = .ok (.iconst 4, 1) := by decide +kernel
theorem dL_1033 : decode code 1033 = .ok (.iadd, 1) := by decide +kernel
theorem dL_1034 : decode code 1034 = .ok (.iaload, 1) := by decide +kernel
theorem dL_1035 : decode code 1035 = .ok (.aload_n 0, 1) := by decide +kernel
theorem dL_1036 : decode code 1036 = .ok (.iload_n 3, 1) := by decide +kernel
theorem dL_1037 : decode code 1037 = .ok (.iconst 5, 1) := by decide +kernel
theorem dL_1038 : decode code 1038 = .ok (.iadd, 1) := by decide +kernel
theorem dL_1039 : decode code 1039 = .ok (.iaload, 1) := by decide +kernel
theorem dL_1040 : decode code 1040 = .ok (.aload_n 0, 1) := by decide +kernel
theorem dL_1041 : decode code 1041 = .ok (.iload_n 3, 1) := by decide +kernel
theorem dL_1042 : decode code 1042 = .ok (.bipush 6, 2) := by decide +kernel
theorem dL_1044 : decode code 1044 = .ok (.iadd, 1) := by decide +kernel
theorem dL_1045 : decode code 1045 = .ok (.iaload, 1) := by decide +kernel
theorem dL_1046 : decode code 1046 = .ok (.aload_n 0, 1) := by decide +kernel
theorem dL_1047 : decode code 1047 = .ok (.iload_n 3, 1) := by decide +kernel
theorem dL_1048 : decode code 1048 = .ok (.bipush 7, 2) := by decide +kernel
theorem dL_1050 : decode code 1050 = .ok (.iadd, 1) := by decide +kernel
theorem dL_1051 : decode code 1051 = .ok (.iaload, 1) := by decide +kernel
theorem dL_1052 : decode code 1052 = .ok (.invokevirtual 104, 3) := by decide +kernel
theorem dL_1055 : decode code 1055 = .ok (.aload_n 2, 1) := by decide +kernel
theorem dL_1056 : decode code 1056 = .ok (.aload_n 0, 1) := by decide +kernel
theorem dL_1057 : decode code 1057 = .ok (.iload_n 3, 1) := by decide +kernel
theorem dL_1058 : decode code 1058 = .ok (.iconst 1, 1) := by decide +kernel
theorem dL_1059 : decode code 1059 = .ok (.iadd, 1) := by decide +kernel
theorem dL_1060 : decode code 1060 = .ok (.iaload, 1) := by decide +kernel
theorem dL_1061 : decode code 1061 = .ok (.aload_n 0, 1) := by decide +kernel
theorem dL_1062 : decode code 1062 = .ok (.iload_n 3, 1) := by decide +kernel
theorem dL_1063 : decode code 1063 = .ok (.iconst 2, 1) := by decide +kernel
theorem dL_1064 : decode code 1064 = .ok (.iadd, 1) := by decide +kernel
theorem dL_1065 : decode code 1065 = .ok (.iaload, 1) := by decide +kernel
theorem dL_1066 : decode code 1066 = .ok (.aload_n 0, 1) := by decide +kernel
theorem dL_1067 : decode code 1067 = .ok (.iload_n 3, 1) := by decide +kernel
theorem dL_1068 : decode code 1068 = .ok (.iconst 3, 1) := by decide +kernel
theorem dL_1069 : decode code 1069 = .ok (.iadd, 1) := by decide +kernel
theorem dL_1070 : decode code 1070 = .ok (.iaload, 1) := by decide +kernel
theorem dL_1071 : decode code 1071 = .ok (.aload_n 0, 1) := by decide +kernel
theorem dL_1072 : decode code 1072 = .ok (.iload_n 3, 1) := by decide +kernel
theorem dL_1073 : decode code 1073 = .ok (.iconst 4, 1) := by decide +kernel
theorem dL_1074 : decode code 1074 = .ok (.iadd, 1) := by decide +kernel
theorem dL_1075 : decode code 1075 = .ok (.iaload, 1) := by decide +kernel
theorem dL_1076 : decode code 1076 = .ok (.aload_n 0, 1) := by decide +kernel
theorem dL_1077 : decode code 1077 = .ok (.iload_n 3, 1) := by decide +kernel
theorem dL_1078 : decode code 1078 = .ok (.iconst 5, 1) := by decide +kernel
theorem dL_1079 : decode code 1079 = .ok (.iadd, 1) := by decide +kernel
theorem dL_1080 : decode code 1080 = .ok (.iaload, 1) := by decide +kernel
theorem dL_1081 : decode code 1081 = .ok (.aload_n 0, 1) := by decide +kernel
theorem dL_1082 : decode code 1082 = .ok (.iload_n 3, 1) := by decide +kernel
theorem dL_1083 : decode code 1083 = .ok (.bipush 6, 2) := by decide +kernel
theorem dL_1085 : decode code 1085 = .ok (.iadd, 1) := by decide +kernel
theorem dL_1086 : decode code 1086 = .ok (.iaload, 1) := by decide +kernel
theorem dL_1087 : decode code 1087 = .ok (.aload_n 0, 1) := by decide +kernel
theorem dL_1088 : decode code 1088 = .ok (.iload_n 3, 1) := by decide +kernel
theorem dL_1089 : decode code 1089 = .ok (.bipush 7, 2) := by decide +kernel
theorem dL_1091 : decode code 1091 = .ok (.iadd, 1) := by decide +kernel
theorem dL_1092 : decode code 1092 = .ok (.iaload, 1) := by decide +kernel
theorem dL_1093 : decode code 1093 = .ok (.invokevirtual 107, 3) := by decide +kernel
theorem dL_1096 : decode code 1096 = .ok (.if_icmp .eq 389, 3) := by decide +kernel
theorem lz_c20 {b L : Nat} {xs : Nat → Int32} {i : Int32} {h : ai_H} (hi : ∀ v : Nat, v < 8 → vp_in (i + nI v) L) (J : JI h) (hr1 : h.1 + 11 ≤ room_1.cells) (hr2 : h.2.1 + 3917 ≤ room_1.slots) (kx : ∀ h2, JI h2 → h2.1 ≤ h.1 + 11 → h2.2.1 ≤ h.2.1 + 3917 → lz_R b L xs 1485 [.retAddr 31, .ref 0, .ref 307, .int i] [] h2) : lz_R b L xs 1014 [.retAddr 31, .ref 0, .ref 307, .int i] [] h := by
  obtain ⟨r, h1, h2, ⟨v, rfl⟩, m1, m2, ⟨fs1, e1⟩, J2, s1, s2⟩ := js_moved (xs (i + nI 1).toNatClampNeg) (xs (i + nI 2).toNatClampNeg) (xs (i + nI 3).toNatClampNeg) (xs (i + nI 4).toNatClampNeg) (xs (i + nI 5).toNatClampNeg) (xs (i + nI 6).toNatClampNeg) (xs (i + nI 7).toNatClampNeg) h J
  have a1 := m1.1
  have a2 := m2.1
  obtain ⟨q0, fs0, e0⟩ := JI_cells J
  refine lz_ald (q := 0) dL_1014 rfl ?_
  refine lz_arg (v := nI 1) dL_1015 dL_1016 dL_1017 dL_1018 dL_1019 (by decide) (hi 1 (by decide)) ?_
  refine lz_arg (v := nI 2) dL_1020 dL_1021 dL_1022 dL_1023 dL_1024 (by decide) (hi 2 (by decide)) ?_
  refine lz_arg (v := nI 3) dL_1025 dL_1026 dL_1027 dL_1028 dL_1029 (by decide) (hi 3 (by decide)) ?_
  refine lz_arg (v := nI 4) dL_1030 dL_1031 dL_1032 dL_1033 dL_1034 (by decide) (hi 4 (by decide)) ?_
  refine lz_arg (v := nI 5) dL_1035 dL_1036 dL_1037 dL_1038 dL_1039 (by decide) (hi 5 (by decide)) ?_
  refine lz_arg2 (v := nI 6) dL_1040 dL_1041 dL_1042 dL_1044 dL_1045 (by decide) (hi 6 (by decide)) ?_
  refine lz_arg2 (v := nI 7) dL_1046 dL_1047 dL_1048 dL_1050 dL_1051 (by decide) (hi 7 (by decide)) ?_
  refine lz_call (as := [.int (xs (i + nI 1).toNatClampNeg), .int (xs (i + nI 2).toNatClampNeg), .int (xs (i + nI 3).toNatClampNeg), .int (xs (i + nI 4).toNatClampNeg), .int (xs (i + nI 5).toNatClampNeg), .int (xs (i + nI 6).toNatClampNeg), .int (xs (i + nI 7).toNatClampNeg)]) (st := []) (ci := 11) (q := 0) dL_1052 mk_X11_moved mlL_104 in_X11_moved se_X11_moved rfl (by omega) e0 rfl rfl (Nat.le_of_ble_eq_true rfl) m1 (by omega) (by omega) ?_
  show lz_R b L xs 1055 [.retAddr 31, .ref 0, .ref 307, .int i] [.int v] h1
  refine lz_ald (q := 307) dL_1055 rfl ?_
  refine lz_arg (v := nI 1) dL_1056 dL_1057 dL_1058 dL_1059 dL_1060 (by decide) (hi 1 (by decide)) ?_
  refine lz_arg (v := nI 2) dL_1061 dL_1062 dL_1063 dL_1064 dL_1065 (by decide) (hi 2 (by decide)) ?_
  refine lz_arg (v := nI 3) dL_1066 dL_1067 dL_1068 dL_1069 dL_1070 (by decide) (hi 3 (by decide)) ?_
  refine lz_arg (v := nI 4) dL_1071 dL_1072 dL_1073 dL_1074 dL_1075 (by decide) (hi 4 (by decide)) ?_
  refine lz_arg (v := nI 5) dL_1076 dL_1077 dL_1078 dL_1079 dL_1080 (by decide) (hi 5 (by decide)) ?_
  refine lz_arg2 (v := nI 6) dL_1081 dL_1082 dL_1083 dL_1085 dL_1086 (by decide) (hi 6 (by decide)) ?_
  refine lz_arg2 (v := nI 7) dL_1087 dL_1088 dL_1089 dL_1091 dL_1092 (by decide) (hi 7 (by decide)) ?_
  refine lz_call (as := [.int (xs (i + nI 1).toNatClampNeg), .int (xs (i + nI 2).toNatClampNeg), .int (xs (i + nI 3).toNatClampNeg), .int (xs (i + nI 4).toNatClampNeg), .int (xs (i + nI 5).toNatClampNeg), .int (xs (i + nI 6).toNatClampNeg), .int (xs (i + nI 7).toNatClampNeg)]) (st := [.int v]) (ci := 12) (q := 307) dL_1093 mk_X12_moved mlL_107 in_X12_moved se_X12_moved rfl (by omega) e1 rfl rfl (Nat.le_of_ble_eq_true rfl) m2 (by omega) (by omega) ?_
  show lz_R b L xs 1096 [.retAddr 31, .ref 0, .ref 307, .int i] [.int v, .int v] h2
  refine lz_eqI (tgt := 1485) dL_1096 (by decide) ?_
  exact kx h2 J2 s1 s2
theorem dL_1101 : decode code 1101 = .ok (.aload_n 1, 1) := by decide +kernel
theorem dL_1102 : decode code 1102 = .ok (.aload_n 0, 1) := by decide +kernel
theorem dL_1103 : decode code 1103 = .ok (.iload_n 3, 1) := by decide +kernel
theorem dL_1104 : decode code 1104 = .ok (.iconst 1, 1) := by decide +kernel
theorem dL_1105 : decode code 1105 = .ok (.iadd, 1) := by decide +kernel
theorem dL_1106 : decode code 1106 = .ok (.iaload, 1) := by decide +kernel
theorem dL_1107 : decode code 1107 = .ok (.aload_n 0, 1) := by decide +kernel
theorem dL_1108 : decode code 1108 = .ok (.iload_n 3, 1) := by decide +kernel
theorem dL_1109 : decode code 1109 = .ok (.iconst 2, 1) := by decide +kernel
theorem dL_1110 : decode code 1110 = .ok (.iadd, 1) := by decide +kernel
theorem dL_1111 : decode code 1111 = .ok (.iaload, 1) := by decide +kernel
theorem dL_1112 : decode code 1112 = .ok (.aload_n 0, 1) := by decide +kernel
theorem dL_1113 : decode code 1113 = .ok (.iload_n 3, 1) := by decide +kernel
theorem dL_1114 : decode code 1114 = .ok (.iconst 3, 1) := by decide +kernel
theorem dL_1115 : decode code 1115 = .ok (.iadd, 1) := by decide +kernel
theorem dL_1116 : decode code 1116 = .ok (.iaload, 1) := by decide +kernel
theorem dL_1117 : decode code 1117 = .ok (.aload_n 0, 1) := by decide +kernel
theorem dL_1118 : decode code 1118 = .ok (.iload_n 3, 1) := by decide +kernel
theorem dL_1119 : decode code 1119 = .ok (.iconst 4, 1) := by decide +kernel
theorem dL_1120 : decode code 1120 = .ok (.iadd, 1) := by decide +kernel
theorem dL_1121 : decode code 1121 = .ok (.iaload, 1) := by decide +kernel
theorem dL_1122 : decode code 1122 = .ok (.invokevirtual 108, 3) := by decide +kernel
theorem dL_1125 : decode code 1125 = .ok (.aload_n 2, 1) := by decide +kernel
theorem dL_1126 : decode code 1126 = .ok (.aload_n 0, 1) := by decide +kernel
theorem dL_1127 : decode code 1127 = .ok (.iload_n 3, 1) := by decide +kernel
theorem dL_1128 : decode code 1128 = .ok (.iconst 1, 1) := by decide +kernel
theorem dL_1129 : decode code 1129 = .ok (.iadd, 1) := by decide +kernel
theorem dL_1130 : decode code 1130 = .ok (.iaload, 1) := by decide +kernel
theorem dL_1131 : decode code 1131 = .ok (.aload_n 0, 1) := by decide +kernel
theorem dL_1132 : decode code 1132 = .ok (.iload_n 3, 1) := by decide +kernel
theorem dL_1133 : decode code 1133 = .ok (.iconst 2, 1) := by decide +kernel
theorem dL_1134 : decode code 1134 = .ok (.iadd, 1) := by decide +kernel
theorem dL_1135 : decode code 1135 = .ok (.iaload, 1) := by decide +kernel
theorem dL_1136 : decode code 1136 = .ok (.aload_n 0, 1) := by decide +kernel
theorem dL_1137 : decode code 1137 = .ok (.iload_n 3, 1) := by decide +kernel
theorem dL_1138 : decode code 1138 = .ok (.iconst 3, 1) := by decide +kernel
theorem dL_1139 : decode code 1139 = .ok (.iadd, 1) := by decide +kernel
theorem dL_1140 : decode code 1140 = .ok (.iaload, 1) := by decide +kernel
theorem dL_1141 : decode code 1141 = .ok (.aload_n 0, 1) := by decide +kernel
theorem dL_1142 : decode code 1142 = .ok (.iload_n 3, 1) := by decide +kernel
theorem dL_1143 : decode code 1143 = .ok (.iconst 4, 1) := by decide +kernel
theorem dL_1144 : decode code 1144 = .ok (.iadd, 1) := by decide +kernel
theorem dL_1145 : decode code 1145 = .ok (.iaload, 1) := by decide +kernel
theorem dL_1146 : decode code 1146 = .ok (.invokevirtual 111, 3) := by decide +kernel
theorem dL_1149 : decode code 1149 = .ok (.if_icmp .eq 336, 3) := by decide +kernel
theorem lz_c21 {b L : Nat} {xs : Nat → Int32} {i : Int32} {h : ai_H} (hi : ∀ v : Nat, v < 8 → vp_in (i + nI v) L) (J : JI h) (hr1 : h.1 + 11 ≤ room_1.cells) (hr2 : h.2.1 + 3917 ≤ room_1.slots) (kx : ∀ h2, JI h2 → h2.1 ≤ h.1 + 11 → h2.2.1 ≤ h.2.1 + 3917 → lz_R b L xs 1485 [.retAddr 31, .ref 0, .ref 307, .int i] [] h2) : lz_R b L xs 1101 [.retAddr 31, .ref 0, .ref 307, .int i] [] h := by
  obtain ⟨r, h1, h2, ⟨v, rfl⟩, m1, m2, ⟨fs1, e1⟩, J2, s1, s2⟩ := js_longitude (xs (i + nI 1).toNatClampNeg) (xs (i + nI 2).toNatClampNeg) (xs (i + nI 3).toNatClampNeg) (xs (i + nI 4).toNatClampNeg) h J
  have a1 := m1.1
  have a2 := m2.1
  obtain ⟨q0, fs0, e0⟩ := JI_cells J
  refine lz_ald (q := 0) dL_1101 rfl ?_
  refine lz_arg (v := nI 1) dL_1102 dL_1103 dL_1104 dL_1105 dL_1106 (by decide) (hi 1 (by decide)) ?_
  refine lz_arg (v := nI 2) dL_1107 dL_1108 dL_1109 dL_1110 dL_1111 (by decide) (hi 2 (by decide)) ?_
  refine lz_arg (v := nI 3) dL_1112 dL_1113 dL_1114 dL_1115 dL_1116 (by decide) (hi 3 (by decide)) ?_
  refine lz_arg (v := nI 4) dL_1117 dL_1118 dL_1119 dL_1120 dL_1121 (by decide) (hi 4 (by decide)) ?_
  refine lz_call (as := [.int (xs (i + nI 1).toNatClampNeg), .int (xs (i + nI 2).toNatClampNeg), .int (xs (i + nI 3).toNatClampNeg), .int (xs (i + nI 4).toNatClampNeg)]) (st := []) (ci := 11) (q := 0) dL_1122 mk_X11_longitude mlL_108 in_X11_longitude se_X11_longitude rfl (by omega) e0 rfl rfl (Nat.le_of_ble_eq_true rfl) m1 (by omega) (by omega) ?_
  show lz_R b L xs 1125 [.retAddr 31, .ref 0, .ref 307, .int i] [.int v] h1
  refine lz_ald (q := 307) dL_1125 rfl ?_
  refine lz_arg (v := nI 1) dL_1126 dL_1127 dL_1128 dL_1129 dL_1130 (by decide) (hi 1 (by decide)) ?_
  refine lz_arg (v := nI 2) dL_1131 dL_1132 dL_1133 dL_1134 dL_1135 (by decide) (hi 2 (by decide)) ?_
  refine lz_arg (v := nI 3) dL_1136 dL_1137 dL_1138 dL_1139 dL_1140 (by decide) (hi 3 (by decide)) ?_
  refine lz_arg (v := nI 4) dL_1141 dL_1142 dL_1143 dL_1144 dL_1145 (by decide) (hi 4 (by decide)) ?_
  refine lz_call (as := [.int (xs (i + nI 1).toNatClampNeg), .int (xs (i + nI 2).toNatClampNeg), .int (xs (i + nI 3).toNatClampNeg), .int (xs (i + nI 4).toNatClampNeg)]) (st := [.int v]) (ci := 12) (q := 307) dL_1146 mk_X12_longitude mlL_111 in_X12_longitude se_X12_longitude rfl (by omega) e1 rfl rfl (Nat.le_of_ble_eq_true rfl) m2 (by omega) (by omega) ?_
  show lz_R b L xs 1149 [.retAddr 31, .ref 0, .ref 307, .int i] [.int v, .int v] h2
  refine lz_eqI (tgt := 1485) dL_1149 (by decide) ?_
  exact kx h2 J2 s1 s2
theorem dL_1154 : decode code 1154 = .ok (.aload_n 1, 1) := by decide +kernel
theorem dL_1155 : decode code 1155 = .ok (.aload_n 0, 1) := by decide +kernel
theorem dL_1156 : decode code 1156 = .ok (.iload_n 3, 1) := by decide +kernel
theorem dL_1157 : decode code 1157 = .ok (.iconst 1, 1) := by decide +kernel
theorem dL_1158 : decode code 1158 = .ok (.iadd, 1) := by decide +kernel
theorem dL_1159 : decode code 1159 = .ok (.iaload, 1) := by decide +kernel
theorem dL_1160 : decode code 1160 = .ok (.aload_n 0, 1) := by decide +kernel
theorem dL_1161 : decode code 1161 = .ok (.iload_n 3, 1) := by decide +kernel
theorem dL_1162 : decode code 1162 = .ok (.iconst 2, 1) := by decide +kernel
theorem dL_1163 : decode code 1163 = .ok (.iadd, 1) := by decide +kernel
theorem dL_1164 : decode code 1164 = .ok (.iaload, 1) := by decide +kernel
theorem dL_1165 : decode code 1165 = .ok (.aload_n 0, 1) := by decide +kernel
theorem dL_1166 : decode code 1166 = .ok (.iload_n 3, 1) := by decide +kernel
theorem dL_1167 : decode code 1167 = .ok (.iconst 3, 1) := by decide +kernel
theorem dL_1168 : decode code 1168 = .ok (.iadd, 1) := by decide +kernel
theorem dL_1169 : decode code 1169 = .ok (.iaload, 1) := by decide +kernel
theorem dL_1170 : decode code 1170 = .ok (.invokevirtual 112, 3) := by decide +kernel
theorem dL_1173 : decode code 1173 = .ok (.aload_n 2, 1) := by decide +kernel
theorem dL_1174 : decode code 1174 = .ok (.aload_n 0, 1) := by decide +kernel
theorem dL_1175 : decode code 1175 = .ok (.iload_n 3, 1) := by decide +kernel
theorem dL_1176 : decode code 1176 = .ok (.iconst 1, 1) := by decide +kernel
theorem dL_1177 : decode code 1177 = .ok (.iadd, 1) := by decide +kernel
theorem dL_1178 : decode code 1178 = .ok (.iaload, 1) := by decide +kernel
theorem dL_1179 : decode code 1179 = .ok (.aload_n 0, 1) := by decide +kernel
theorem dL_1180 : decode code 1180 = .ok (.iload_n 3, 1) := by decide +kernel
theorem dL_1181 : decode code 1181 = .ok (.iconst 2, 1) := by decide +kernel
theorem dL_1182 : decode code 1182 = .ok (.iadd, 1) := by decide +kernel
theorem dL_1183 : decode code 1183 = .ok (.iaload, 1) := by decide +kernel
theorem dL_1184 : decode code 1184 = .ok (.aload_n 0, 1) := by decide +kernel
theorem dL_1185 : decode code 1185 = .ok (.iload_n 3, 1) := by decide +kernel
theorem dL_1186 : decode code 1186 = .ok (.iconst 3, 1) := by decide +kernel
theorem dL_1187 : decode code 1187 = .ok (.iadd, 1) := by decide +kernel
theorem dL_1188 : decode code 1188 = .ok (.iaload, 1) := by decide +kernel
theorem dL_1189 : decode code 1189 = .ok (.invokevirtual 115, 3) := by decide +kernel
theorem dL_1192 : decode code 1192 = .ok (.if_icmp .eq 293, 3) := by decide +kernel
theorem lz_c22 {b L : Nat} {xs : Nat → Int32} {i : Int32} {h : ai_H} (hi : ∀ v : Nat, v < 8 → vp_in (i + nI v) L) (J : JI h) (hr1 : h.1 + 11 ≤ room_1.cells) (hr2 : h.2.1 + 3917 ≤ room_1.slots) (kx : ∀ h2, JI h2 → h2.1 ≤ h.1 + 11 → h2.2.1 ≤ h.2.1 + 3917 → lz_R b L xs 1485 [.retAddr 31, .ref 0, .ref 307, .int i] [] h2) : lz_R b L xs 1154 [.retAddr 31, .ref 0, .ref 307, .int i] [] h := by
  obtain ⟨r, h1, h2, ⟨v, rfl⟩, m1, m2, ⟨fs1, e1⟩, J2, s1, s2⟩ := js_journey (xs (i + nI 1).toNatClampNeg) (xs (i + nI 2).toNatClampNeg) (xs (i + nI 3).toNatClampNeg) h J
  have a1 := m1.1
  have a2 := m2.1
  obtain ⟨q0, fs0, e0⟩ := JI_cells J
  refine lz_ald (q := 0) dL_1154 rfl ?_
  refine lz_arg (v := nI 1) dL_1155 dL_1156 dL_1157 dL_1158 dL_1159 (by decide) (hi 1 (by decide)) ?_
  refine lz_arg (v := nI 2) dL_1160 dL_1161 dL_1162 dL_1163 dL_1164 (by decide) (hi 2 (by decide)) ?_
  refine lz_arg (v := nI 3) dL_1165 dL_1166 dL_1167 dL_1168 dL_1169 (by decide) (hi 3 (by decide)) ?_
  refine lz_call (as := [.int (xs (i + nI 1).toNatClampNeg), .int (xs (i + nI 2).toNatClampNeg), .int (xs (i + nI 3).toNatClampNeg)]) (st := []) (ci := 11) (q := 0) dL_1170 mk_X11_journey mlL_112 in_X11_journey se_X11_journey rfl (by omega) e0 rfl rfl (Nat.le_of_ble_eq_true rfl) m1 (by omega) (by omega) ?_
  show lz_R b L xs 1173 [.retAddr 31, .ref 0, .ref 307, .int i] [.int v] h1
  refine lz_ald (q := 307) dL_1173 rfl ?_
  refine lz_arg (v := nI 1) dL_1174 dL_1175 dL_1176 dL_1177 dL_1178 (by decide) (hi 1 (by decide)) ?_
  refine lz_arg (v := nI 2) dL_1179 dL_1180 dL_1181 dL_1182 dL_1183 (by decide) (hi 2 (by decide)) ?_
  refine lz_arg (v := nI 3) dL_1184 dL_1185 dL_1186 dL_1187 dL_1188 (by decide) (hi 3 (by decide)) ?_
  refine lz_call (as := [.int (xs (i + nI 1).toNatClampNeg), .int (xs (i + nI 2).toNatClampNeg), .int (xs (i + nI 3).toNatClampNeg)]) (st := [.int v]) (ci := 12) (q := 307) dL_1189 mk_X12_journey mlL_115 in_X12_journey se_X12_journey rfl (by omega) e1 rfl rfl (Nat.le_of_ble_eq_true rfl) m2 (by omega) (by omega) ?_
  show lz_R b L xs 1192 [.retAddr 31, .ref 0, .ref 307, .int i] [.int v, .int v] h2
  refine lz_eqI (tgt := 1485) dL_1192 (by decide) ?_
  exact kx h2 J2 s1 s2
theorem dL_1197 : decode code 1197 = .ok (.aload_n 1, 1) := by decide +kernel
theorem dL_1198 : decode code 1198 = .ok (.aload_n 0, 1) := by decide +kernel
theorem dL_1199 : decode code 1199 = .ok (.iload_n 3, 1) := by decide +kernel
theorem dL_1200 : decode code 1200 = .ok (.iconst 1, 1) := by decide +kernel
theorem dL_1201 : decode code 1201 = .ok (.iadd, 1) := by decide +kernel
theorem dL_1202 : decode code 1202 = .ok (.iaload, 1) := by decide +kernel
theorem dL_1203 : decode code 1203 = .ok (.invokevirtual 116, 3) := by decide +kernel
theorem dL_1206 : decode code 1206 = .ok (.aload_n 2, 1) := by decide +kernel
theorem dL_1207 : decode code 1207 = .ok (.aload_n 0, 1) := by decide +kernel
theorem dL_1208 : decode code 1208 = .ok (.iload_n 3, 1) := by decide +kernel
theorem dL_1209 : decode code 1209 = .ok (.iconst 1, 1) := by decide +kernel
theorem dL_1210 : decode code 1210 = .ok (.iadd, 1) := by decide +kernel
theorem dL_1211 : decode code 1211 = .ok (.iaload, 1) := by decide +kernel
theorem dL_1212 : decode code 1212 = .ok (.invokevirtual 119, 3) := by decide +kernel
theorem dL_1215 : decode code 1215 = .ok (.if_icmp .eq 270, 3) := by decide +kernel
theorem lz_c23 {b L : Nat} {xs : Nat → Int32} {i : Int32} {h : ai_H} (hi : ∀ v : Nat, v < 8 → vp_in (i + nI v) L) (J : JI h) (hr1 : h.1 + 11 ≤ room_1.cells) (hr2 : h.2.1 + 3917 ≤ room_1.slots) (kx : ∀ h2, JI h2 → h2.1 ≤ h.1 + 11 → h2.2.1 ≤ h.2.1 + 3917 → lz_R b L xs 1485 [.retAddr 31, .ref 0, .ref 307, .int i] [] h2) : lz_R b L xs 1197 [.retAddr 31, .ref 0, .ref 307, .int i] [] h := by
  obtain ⟨r, h1, h2, ⟨v, rfl⟩, m1, m2, ⟨fs1, e1⟩, J2, s1, s2⟩ := js_tied (xs (i + nI 1).toNatClampNeg) h J
  have a1 := m1.1
  have a2 := m2.1
  obtain ⟨q0, fs0, e0⟩ := JI_cells J
  refine lz_ald (q := 0) dL_1197 rfl ?_
  refine lz_arg (v := nI 1) dL_1198 dL_1199 dL_1200 dL_1201 dL_1202 (by decide) (hi 1 (by decide)) ?_
  refine lz_call (as := [.int (xs (i + nI 1).toNatClampNeg)]) (st := []) (ci := 11) (q := 0) dL_1203 mk_X11_tied mlL_116 in_X11_tied se_X11_tied rfl (by omega) e0 rfl rfl (Nat.le_of_ble_eq_true rfl) m1 (by omega) (by omega) ?_
  show lz_R b L xs 1206 [.retAddr 31, .ref 0, .ref 307, .int i] [.int v] h1
  refine lz_ald (q := 307) dL_1206 rfl ?_
  refine lz_arg (v := nI 1) dL_1207 dL_1208 dL_1209 dL_1210 dL_1211 (by decide) (hi 1 (by decide)) ?_
  refine lz_call (as := [.int (xs (i + nI 1).toNatClampNeg)]) (st := [.int v]) (ci := 12) (q := 307) dL_1212 mk_X12_tied mlL_119 in_X12_tied se_X12_tied rfl (by omega) e1 rfl rfl (Nat.le_of_ble_eq_true rfl) m2 (by omega) (by omega) ?_
  show lz_R b L xs 1215 [.retAddr 31, .ref 0, .ref 307, .int i] [.int v, .int v] h2
  refine lz_eqI (tgt := 1485) dL_1215 (by decide) ?_
  exact kx h2 J2 s1 s2
