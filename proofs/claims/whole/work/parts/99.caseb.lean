section S99
variable {p_ : Program} {e_ : Env} {l : Launch} {s : State} {m : MethodId} {below : List Frame} {meth : Method} {c : Code} {b L : Nat} {xs : Nat → Int32} {G : gG} {zc zm : Nat → Nat} {o : Nat} {q p : gRF} {g : Nat → Int64} {H : Heap} {locs : List Loc} {cells slots i : Nat} {ls : Array Slot} {Q : State → Prop}
set_option maxHeartbeats 4000000 in
set_option maxRecDepth 100000 in
theorem law_k12 (F : lwF p_ l s m meth c b L xs G) (Z : lwZ s zc zm o) {n d k t v : Nat} (hs : sX q p n d k t v) (hH : lwH G s zc zm o q p g H locs) (hl : lv_has ls 7 (lwLs b zc zm o i)) (hi : 4 * i + 4 ≤ L) (hcl : cells + 5 ≤ 601024 ∧ slots + 30 ≤ 7293034) (kk : lwGo p_ l e_ s m b below meth c G zc zm o i (cells + 5) (slots + 30) Q) : W p_ l e_ room_1 s m #[Value.ref b] below meth c H locs cells slots Q (F0 m 945 ls []) := by
  obtain ⟨⟨hx, hb, -⟩, hfl, -⟩ := id F
  obtain ⟨-, hn2, -, -, -, hk2, -, ht2, -⟩ := id hs.1.ok
  have hsim := sim_rests hs (xs (4 * i + 1))
  refine lv_aload_n hx hb dL_law_945 rfl (lv_at hl 3 rfl) ?_
  refine law_arg (i := i) (j := 1) F hH hl 4 0 rfl rfl (by omega) (by decide +kernel) dL_law_946 dL_law_947 dL_law_949 dL_law_950 dL_law_951 ?_
  refine lv_aload_n hx hb dL_law_952 rfl (lv_at hl 1 rfl) ?_
  refine law_c1 (As := [.ref (zc 0), .int (xs (4 * i + 1)), .ref o]) (rest := []) F Z hsim hH (c_L_rests l hfl G _ zc Z.1 q.1 q.2 hH.1 o g hH.2.2.1 Z.2.2.2.1 (xs (4 * i + 1)) (kP01 _)) (vx_cwSW 3 (law_S0 F).2.2.2.2 gL_law_L_rests rfl rfl rfl (by decide +kernel) ⟨Nat.le_of_ble_eq_true rfl, Nat.le_of_ble_eq_true rfl⟩) rfl hl.1 dL_law_953 (Nat.le_of_ble_eq_true rfl) ⟨by omega, by omega⟩ (fun g H locs hH hg => ?_)
  refine lv_istore (lv' := (5, .int _) :: lwLs b zc zm o i) hx hb dL_law_956 hl (by decide) rfl (fun ls hl => ?_)
  refine lv_aload_n hx hb dL_law_958 rfl (lv_at hl 3 rfl) ?_
  refine law_arg (i := i) (j := 1) F hH hl 5 1 rfl rfl (by omega) (by decide +kernel) dL_law_959 dL_law_960 dL_law_962 dL_law_963 dL_law_964 ?_
  refine law_c2 (As := [.int (xs (4 * i + 1))]) (rest := []) F Z hsim hH (c_X7_rests l G _ zm Z.2.1 p.1 p.2 hH.2.1 (xs (4 * i + 1)) n d k t hs.1.ok) (cwV 1 (law_S0 F).2.2.2.2 gL_law_X7_rests rfl rfl rfl (by decide +kernel) ⟨Nat.le_of_ble_eq_true rfl, Nat.le_of_ble_eq_true rfl⟩) rfl hl.1 dL_law_965 (Nat.le_of_ble_eq_true rfl) ⟨by omega, by omega⟩ (fun H locs hH => ?_)
  refine W.widen (k := cells + 5) (n := slots + 30) (by omega) (by omega) ?_
  exact law_tb (t13 := 981) (t23 := 998) (t24 := 999) (t30 := 1005) F hsim hH hg hl dL_law_968 dL_law_970 dL_law_971 dL_law_974 dL_law_976 (by decide) dL_law_981 dL_law_983 (by decide) dL_law_986 dL_law_987 dL_law_988 dL_law_989 dL_law_991 (by decide) dL_law_994 dL_law_995 (by decide) dL_law_998 rfl dL_law_999 dL_law_1000 (by decide) dL_law_1005 (by decide) hcl kk
set_option maxHeartbeats 4000000 in
set_option maxRecDepth 100000 in
theorem law_k13 (F : lwF p_ l s m meth c b L xs G) (Z : lwZ s zc zm o) {n d k t v : Nat} (hs : sX q p n d k t v) (hH : lwH G s zc zm o q p g H locs) (hl : lv_has ls 7 (lwLs b zc zm o i)) (hi : 4 * i + 4 ≤ L) (hcl : cells + 5 ≤ 601024 ∧ slots + 30 ≤ 7293034) (kk : lwGo p_ l e_ s m b below meth c G zc zm o i (cells + 5) (slots + 30) Q) : W p_ l e_ room_1 s m #[Value.ref b] below meth c H locs cells slots Q (F0 m 1008 ls []) := by
  have hM := id hs.1.ok
  refine W.widen (k := cells + 5) (n := slots + 30) (by omega) (by omega) ?_
  exact law_td F Z (hs.thr (nI 0)) hH hl ((congrArg (cDuty q.1) hs.1.f1).trans (s_duty hs.1)) (c_X6_onCall l G _ zc q.1 q.2 hH.1) (cwV 0 (law_S0 F).2.2.2.2 gL_law_X6_onCall rfl rfl rfl (by decide +kernel) ⟨Nat.le_of_ble_eq_true rfl, Nat.le_of_ble_eq_true rfl⟩) (c_X7_onCall l G _ zm Z.2.1 p.1 p.2 hH.2.1 n d k t hs.1.ok) (cwV 0 (law_S0 F).2.2.2.2 gL_law_X7_onCall rfl rfl rfl (by decide +kernel) ⟨Nat.le_of_ble_eq_true rfl, Nat.le_of_ble_eq_true rfl⟩) dL_law_1008 dL_law_1009 dL_law_1012 dL_law_1013 dL_law_1016 (by decide) hcl kk
set_option maxHeartbeats 4000000 in
set_option maxRecDepth 100000 in
theorem law_k14 (F : lwF p_ l s m meth c b L xs G) (Z : lwZ s zc zm o) {n d k t v : Nat} (hs : sX q p n d k t v) (hH : lwH G s zc zm o q p g H locs) (hl : lv_has ls 7 (lwLs b zc zm o i)) (hi : 4 * i + 4 ≤ L) (hcl : cells + 5 ≤ 601024 ∧ slots + 30 ≤ 7293034) (kk : lwGo p_ l e_ s m b below meth c G zc zm o i (cells + 5) (slots + 30) Q) : W p_ l e_ room_1 s m #[Value.ref b] below meth c H locs cells slots Q (F0 m 1021 ls []) := by
  obtain ⟨⟨hx, hb, -⟩, hfl, -⟩ := id F
  obtain ⟨-, hn2, -, -, -, hk2, -, ht2, -⟩ := id hs.1.ok
  have hsim := sim_calls hs (xs (4 * i + 1)) (!decide (xs (4 * i + 2) = 0))
  refine lv_aload_n hx hb dL_law_1021 rfl (lv_at hl 3 rfl) ?_
  refine law_arg (i := i) (j := 1) F hH hl 4 0 rfl rfl (by omega) (by decide +kernel) dL_law_1022 dL_law_1023 dL_law_1025 dL_law_1026 dL_law_1027 ?_
  refine law_arg (i := i) (j := 2) F hH hl 4 0 rfl rfl (by omega) (by decide +kernel) dL_law_1028 dL_law_1029 dL_law_1031 dL_law_1032 dL_law_1033 ?_
  refine law_bool (t1 := 1041) (t2 := 1042) F dL_law_1034 (by decide) dL_law_1037 dL_law_1038 (by decide) dL_law_1041 rfl ?_
  refine lv_aload_n hx hb dL_law_1042 rfl (lv_at hl 1 rfl) ?_
  refine law_c1 (As := [.ref (zc 0), .int (xs (4 * i + 1)), .int (b2i (!decide (xs (4 * i + 2) = 0))), .ref o]) (rest := []) F Z hsim hH (c_L_calls l hfl G _ zc Z.1 q.1 q.2 hH.1 o g hH.2.2.1 Z.2.2.2.1 (xs (4 * i + 1)) (!decide (xs (4 * i + 2) = 0)) (kP01 _)) (vx_cwSW 4 (law_S0 F).2.2.2.2 gL_law_L_calls rfl rfl rfl (by decide +kernel) ⟨Nat.le_of_ble_eq_true rfl, Nat.le_of_ble_eq_true rfl⟩) rfl hl.1 dL_law_1043 (Nat.le_of_ble_eq_true rfl) ⟨by omega, by omega⟩ (fun g H locs hH hg => ?_)
  refine lv_istore (lv' := (5, .int _) :: lwLs b zc zm o i) hx hb dL_law_1046 hl (by decide) rfl (fun ls hl => ?_)
  refine lv_aload_n hx hb dL_law_1048 rfl (lv_at hl 3 rfl) ?_
  refine law_arg (i := i) (j := 1) F hH hl 5 1 rfl rfl (by omega) (by decide +kernel) dL_law_1049 dL_law_1050 dL_law_1052 dL_law_1053 dL_law_1054 ?_
  refine law_arg (i := i) (j := 2) F hH hl 5 1 rfl rfl (by omega) (by decide +kernel) dL_law_1055 dL_law_1056 dL_law_1058 dL_law_1059 dL_law_1060 ?_
  refine law_bool (t1 := 1068) (t2 := 1069) F dL_law_1061 (by decide) dL_law_1064 dL_law_1065 (by decide) dL_law_1068 rfl ?_
  refine law_c2 (As := [.int (xs (4 * i + 1)), .int (b2i (!decide (xs (4 * i + 2) = 0)))]) (rest := []) F Z hsim hH (c_X7_calls l G _ zm Z.2.1 p.1 p.2 hH.2.1 (xs (4 * i + 1)) (!decide (xs (4 * i + 2) = 0)) n d k t hs.1.ok) (cwV 2 (law_S0 F).2.2.2.2 gL_law_X7_calls rfl rfl rfl (by decide +kernel) ⟨Nat.le_of_ble_eq_true rfl, Nat.le_of_ble_eq_true rfl⟩) rfl hl.1 dL_law_1069 (Nat.le_of_ble_eq_true rfl) ⟨by omega, by omega⟩ (fun H locs hH => ?_)
  refine W.widen (k := cells + 5) (n := slots + 30) (by omega) (by omega) ?_
  exact law_ti (t13 := 1085) (t30 := 1102) F hsim hH hg hl dL_law_1072 dL_law_1074 dL_law_1075 dL_law_1078 dL_law_1080 (by decide) dL_law_1085 dL_law_1087 (by decide) dL_law_1090 dL_law_1091 dL_law_1092 dL_law_1093 dL_law_1095 dL_law_1096 dL_law_1097 (by decide) dL_law_1102 (by decide) hcl kk
set_option maxHeartbeats 4000000 in
set_option maxRecDepth 100000 in
theorem law_k15 (F : lwF p_ l s m meth c b L xs G) (Z : lwZ s zc zm o) {n d k t v : Nat} (hs : sX q p n d k t v) (hH : lwH G s zc zm o q p g H locs) (hl : lv_has ls 7 (lwLs b zc zm o i)) (hi : 4 * i + 4 ≤ L) (hcl : cells + 5 ≤ 601024 ∧ slots + 30 ≤ 7293034) (kk : lwGo p_ l e_ s m b below meth c G zc zm o i (cells + 5) (slots + 30) Q) : W p_ l e_ room_1 s m #[Value.ref b] below meth c H locs cells slots Q (F0 m 1105 ls []) := by
  have hM := id hs.1.ok
  refine W.widen (k := cells + 5) (n := slots + 30) (by omega) (by omega) ?_
  exact law_td F Z (hs.thr (nI 0)) hH hl hs.1.f5 (c_X6_missed l G _ zc q.1 q.2 hH.1) (cwV 0 (law_S0 F).2.2.2.2 gL_law_X6_missed rfl rfl rfl (by decide +kernel) ⟨Nat.le_of_ble_eq_true rfl, Nat.le_of_ble_eq_true rfl⟩) (c_X7_missed l G _ zm Z.2.1 p.1 p.2 hH.2.1 n d k t hs.1.ok) (cwV 0 (law_S0 F).2.2.2.2 gL_law_X7_missed rfl rfl rfl (by decide +kernel) ⟨Nat.le_of_ble_eq_true rfl, Nat.le_of_ble_eq_true rfl⟩) dL_law_1105 dL_law_1106 dL_law_1109 dL_law_1110 dL_law_1113 (by decide) hcl kk
set_option maxHeartbeats 4000000 in
set_option maxRecDepth 100000 in
theorem law_k16 (F : lwF p_ l s m meth c b L xs G) (Z : lwZ s zc zm o) {n d k t v : Nat} (hs : sX q p n d k t v) (hH : lwH G s zc zm o q p g H locs) (hl : lv_has ls 7 (lwLs b zc zm o i)) (hi : 4 * i + 4 ≤ L) (hcl : cells + 5 ≤ 601024 ∧ slots + 30 ≤ 7293034) (kk : lwGo p_ l e_ s m b below meth c G zc zm o i (cells + 5) (slots + 30) Q) : W p_ l e_ room_1 s m #[Value.ref b] below meth c H locs cells slots Q (F0 m 1118 ls []) := by
  have hM := id hs.1.ok
  refine W.widen (k := cells + 5) (n := slots + 30) (by omega) (by omega) ?_
  exact law_td F Z (hs.thr (nI 0)) hH hl (hs.1.f0.trans hs.1.v2.symm) (c_X6_versions l G _ zc q.1 q.2 hH.1) (cwV 0 (law_S0 F).2.2.2.2 gL_law_X6_versions rfl rfl rfl (by decide +kernel) ⟨Nat.le_of_ble_eq_true rfl, Nat.le_of_ble_eq_true rfl⟩) (c_X7_versions l G _ zm Z.2.1 p.1 p.2 hH.2.1 n d k t hs.1.ok) (cwV 0 (law_S0 F).2.2.2.2 gL_law_X7_versions rfl rfl rfl (by decide +kernel) ⟨Nat.le_of_ble_eq_true rfl, Nat.le_of_ble_eq_true rfl⟩) dL_law_1118 dL_law_1119 dL_law_1122 dL_law_1123 dL_law_1126 (by decide) hcl kk
set_option maxHeartbeats 4000000 in
set_option maxRecDepth 100000 in
theorem law_k17 (F : lwF p_ l s m meth c b L xs G) (Z : lwZ s zc zm o) {n d k t v : Nat} (hs : sX q p n d k t v) (hH : lwH G s zc zm o q p g H locs) (hl : lv_has ls 7 (lwLs b zc zm o i)) (hi : 4 * i + 4 ≤ L) (hcl : cells + 5 ≤ 601024 ∧ slots + 30 ≤ 7293034) (kk : lwGo p_ l e_ s m b below meth c G zc zm o i (cells + 5) (slots + 30) Q) : W p_ l e_ room_1 s m #[Value.ref b] below meth c H locs cells slots Q (F0 m 1131 ls []) := by
  obtain ⟨⟨hx, hb, -⟩, hfl, -⟩ := id F
  obtain ⟨-, hn2, -, -, -, hk2, -, ht2, -⟩ := id hs.1.ok
  have hsim := sim_version hs (xs (4 * i + 1))
  refine lv_aload_n hx hb dL_law_1131 rfl (lv_at hl 3 rfl) ?_
  refine law_arg (i := i) (j := 1) F hH hl 4 0 rfl rfl (by omega) (by decide +kernel) dL_law_1132 dL_law_1133 dL_law_1135 dL_law_1136 dL_law_1137 ?_
  refine lv_aload_n hx hb dL_law_1138 rfl (lv_at hl 1 rfl) ?_
  refine law_c1 (As := [.ref (zc 0), .int (xs (4 * i + 1)), .ref o]) (rest := []) F Z hsim hH (c_L_version l hfl G _ zc Z.1 q.1 q.2 hH.1 o g hH.2.2.1 Z.2.2.2.1 (xs (4 * i + 1)) (kR01 _)) (vx_cwSW 3 (law_S0 F).2.2.2.2 gL_law_L_version rfl rfl rfl (by decide +kernel) ⟨Nat.le_of_ble_eq_true rfl, Nat.le_of_ble_eq_true rfl⟩) rfl hl.1 dL_law_1139 (Nat.le_of_ble_eq_true rfl) ⟨by omega, by omega⟩ (fun g H locs hH hg => ?_)
  refine lv_istore (lv' := (5, .int _) :: lwLs b zc zm o i) hx hb dL_law_1142 hl (by decide) rfl (fun ls hl => ?_)
  refine lv_aload_n hx hb dL_law_1144 rfl (lv_at hl 3 rfl) ?_
  refine law_arg (i := i) (j := 1) F hH hl 5 1 rfl rfl (by omega) (by decide +kernel) dL_law_1145 dL_law_1146 dL_law_1148 dL_law_1149 dL_law_1150 ?_
  refine law_c2 (As := [.int (xs (4 * i + 1))]) (rest := []) F Z hsim hH (c_X7_version l G _ zm Z.2.1 p.1 p.2 hH.2.1 (xs (4 * i + 1)) n d k t hs.1.ok) (cwV 1 (law_S0 F).2.2.2.2 gL_law_X7_version rfl rfl rfl (by decide +kernel) ⟨Nat.le_of_ble_eq_true rfl, Nat.le_of_ble_eq_true rfl⟩) rfl hl.1 dL_law_1151 (Nat.le_of_ble_eq_true rfl) ⟨by omega, by omega⟩ (fun H locs hH => ?_)
  refine W.widen (k := cells + 5) (n := slots + 30) (by omega) (by omega) ?_
  exact law_ti (t13 := 1167) (t30 := 1184) F hsim hH hg hl dL_law_1154 dL_law_1156 dL_law_1157 dL_law_1160 dL_law_1162 (by decide) dL_law_1167 dL_law_1169 (by decide) dL_law_1172 dL_law_1173 dL_law_1174 dL_law_1175 dL_law_1177 dL_law_1178 dL_law_1179 (by decide) dL_law_1184 (by decide) hcl kk
set_option maxHeartbeats 4000000 in
set_option maxRecDepth 100000 in
theorem law_k18 (F : lwF p_ l s m meth c b L xs G) (Z : lwZ s zc zm o) {n d k t v : Nat} (hs : sX q p n d k t v) (hH : lwH G s zc zm o q p g H locs) (hl : lv_has ls 7 (lwLs b zc zm o i)) (hi : 4 * i + 4 ≤ L) (hcl : cells + 5 ≤ 601024 ∧ slots + 30 ≤ 7293034) (kk : lwGo p_ l e_ s m b below meth c G zc zm o i (cells + 5) (slots + 30) Q) : W p_ l e_ room_1 s m #[Value.ref b] below meth c H locs cells slots Q (F0 m 1187 ls []) := by
  obtain ⟨⟨hx, hb, -⟩, hfl, -⟩ := id F
  obtain ⟨-, hn2, -, -, -, hk2, -, ht2, -⟩ := id hs.1.ok
  have hsim := sim_level hs (xs (4 * i + 1))
  refine lv_aload_n hx hb dL_law_1187 rfl (lv_at hl 3 rfl) ?_
  refine law_arg (i := i) (j := 1) F hH hl 4 0 rfl rfl (by omega) (by decide +kernel) dL_law_1188 dL_law_1189 dL_law_1191 dL_law_1192 dL_law_1193 ?_
  refine lv_aload_n hx hb dL_law_1194 rfl (lv_at hl 1 rfl) ?_
  refine law_c1 (As := [.ref (zc 0), .int (xs (4 * i + 1)), .ref o]) (rest := []) F Z hsim hH (c_L_level l hfl G _ zc Z.1 q.1 q.2 hH.1 o g hH.2.2.1 Z.2.2.2.1 (xs (4 * i + 1)) (kS01 _)) (vx_cwSW 3 (law_S0 F).2.2.2.2 gL_law_L_level rfl rfl rfl (by decide +kernel) ⟨Nat.le_of_ble_eq_true rfl, Nat.le_of_ble_eq_true rfl⟩) rfl hl.1 dL_law_1195 (Nat.le_of_ble_eq_true rfl) ⟨by omega, by omega⟩ (fun g H locs hH hg => ?_)
  refine lv_istore (lv' := (5, .int _) :: lwLs b zc zm o i) hx hb dL_law_1198 hl (by decide) rfl (fun ls hl => ?_)
  refine lv_aload_n hx hb dL_law_1200 rfl (lv_at hl 3 rfl) ?_
  refine law_arg (i := i) (j := 1) F hH hl 5 1 rfl rfl (by omega) (by decide +kernel) dL_law_1201 dL_law_1202 dL_law_1204 dL_law_1205 dL_law_1206 ?_
  refine law_c2 (As := [.int (xs (4 * i + 1))]) (rest := []) F Z hsim hH (c_X7_level l G _ zm Z.2.1 p.1 p.2 hH.2.1 (xs (4 * i + 1)) n d k t hs.1.ok) (cwV 1 (law_S0 F).2.2.2.2 gL_law_X7_level rfl rfl rfl (by decide +kernel) ⟨Nat.le_of_ble_eq_true rfl, Nat.le_of_ble_eq_true rfl⟩) rfl hl.1 dL_law_1207 (Nat.le_of_ble_eq_true rfl) ⟨by omega, by omega⟩ (fun H locs hH => ?_)
  refine W.widen (k := cells + 5) (n := slots + 30) (by omega) (by omega) ?_
  exact law_ti (t13 := 1223) (t30 := 1240) F hsim hH hg hl dL_law_1210 dL_law_1212 dL_law_1213 dL_law_1216 dL_law_1218 (by decide) dL_law_1223 dL_law_1225 (by decide) dL_law_1228 dL_law_1229 dL_law_1230 dL_law_1231 dL_law_1233 dL_law_1234 dL_law_1235 (by decide) dL_law_1240 (by decide) hcl kk
set_option maxHeartbeats 4000000 in
set_option maxRecDepth 100000 in
theorem law_k19 (F : lwF p_ l s m meth c b L xs G) (Z : lwZ s zc zm o) {n d k t v : Nat} (hs : sX q p n d k t v) (hH : lwH G s zc zm o q p g H locs) (hl : lv_has ls 7 (lwLs b zc zm o i)) (hi : 4 * i + 4 ≤ L) (hcl : cells + 5 ≤ 601024 ∧ slots + 30 ≤ 7293034) (kk : lwGo p_ l e_ s m b below meth c G zc zm o i (cells + 5) (slots + 30) Q) : W p_ l e_ room_1 s m #[Value.ref b] below meth c H locs cells slots Q (F0 m 1243 ls []) := by
  obtain ⟨⟨hx, hb, -⟩, hfl, -⟩ := id F
  obtain ⟨-, hn2, -, -, -, hk2, -, ht2, -⟩ := id hs.1.ok
  have hsim := sim_isOn hs (xs (4 * i + 1)) (xs (4 * i + 2))
  refine lv_aload_n hx hb dL_law_1243 rfl (lv_at hl 3 rfl) ?_
  refine law_arg (i := i) (j := 1) F hH hl 4 0 rfl rfl (by omega) (by decide +kernel) dL_law_1244 dL_law_1245 dL_law_1247 dL_law_1248 dL_law_1249 ?_
  refine law_arg (i := i) (j := 2) F hH hl 4 0 rfl rfl (by omega) (by decide +kernel) dL_law_1250 dL_law_1251 dL_law_1253 dL_law_1254 dL_law_1255 ?_
  refine lv_aload_n hx hb dL_law_1256 rfl (lv_at hl 1 rfl) ?_
  refine law_c1 (As := [.ref (zc 0), .int (xs (4 * i + 1)), .int (xs (4 * i + 2)), .ref o]) (rest := []) F Z hsim hH (c_L_isOn l hfl G _ zc Z.1 q.1 q.2 hH.1 o g hH.2.2.1 Z.2.2.2.1 (xs (4 * i + 1)) (xs (4 * i + 2)) (kT01 (kS01 _) (kR01 _))) (vx_cwSW 4 (law_S0 F).2.2.2.2 gL_law_L_isOn rfl rfl rfl (by decide +kernel) ⟨Nat.le_of_ble_eq_true rfl, Nat.le_of_ble_eq_true rfl⟩) rfl hl.1 dL_law_1257 (Nat.le_of_ble_eq_true rfl) ⟨by omega, by omega⟩ (fun g H locs hH hg => ?_)
  refine lv_istore (lv' := (5, .int _) :: lwLs b zc zm o i) hx hb dL_law_1260 hl (by decide) rfl (fun ls hl => ?_)
  refine lv_aload_n hx hb dL_law_1262 rfl (lv_at hl 3 rfl) ?_
  refine law_arg (i := i) (j := 1) F hH hl 5 1 rfl rfl (by omega) (by decide +kernel) dL_law_1263 dL_law_1264 dL_law_1266 dL_law_1267 dL_law_1268 ?_
  refine law_arg (i := i) (j := 2) F hH hl 5 1 rfl rfl (by omega) (by decide +kernel) dL_law_1269 dL_law_1270 dL_law_1272 dL_law_1273 dL_law_1274 ?_
  refine law_c2 (As := [.int (xs (4 * i + 1)), .int (xs (4 * i + 2))]) (rest := []) F Z hsim hH (c_X7_isOn l G _ zm Z.2.1 p.1 p.2 hH.2.1 (xs (4 * i + 1)) (xs (4 * i + 2)) n d k t hs.1.ok) (cwV 2 (law_S0 F).2.2.2.2 gL_law_X7_isOn rfl rfl rfl (by decide +kernel) ⟨Nat.le_of_ble_eq_true rfl, Nat.le_of_ble_eq_true rfl⟩) rfl hl.1 dL_law_1275 (Nat.le_of_ble_eq_true rfl) ⟨by omega, by omega⟩ (fun H locs hH => ?_)
  refine W.widen (k := cells + 5) (n := slots + 30) (by omega) (by omega) ?_
  exact law_tb (t13 := 1291) (t23 := 1308) (t24 := 1309) (t30 := 1315) F hsim hH hg hl dL_law_1278 dL_law_1280 dL_law_1281 dL_law_1284 dL_law_1286 (by decide) dL_law_1291 dL_law_1293 (by decide) dL_law_1296 dL_law_1297 dL_law_1298 dL_law_1299 dL_law_1301 (by decide) dL_law_1304 dL_law_1305 (by decide) dL_law_1308 rfl dL_law_1309 dL_law_1310 (by decide) dL_law_1315 (by decide) hcl kk
set_option maxHeartbeats 4000000 in
set_option maxRecDepth 100000 in
theorem law_k20 (F : lwF p_ l s m meth c b L xs G) (Z : lwZ s zc zm o) {n d k t v : Nat} (hs : sX q p n d k t v) (hH : lwH G s zc zm o q p g H locs) (hl : lv_has ls 7 (lwLs b zc zm o i)) (hi : 4 * i + 4 ≤ L) (hcl : cells + 5 ≤ 601024 ∧ slots + 30 ≤ 7293034) (kk : lwGo p_ l e_ s m b below meth c G zc zm o i (cells + 5) (slots + 30) Q) : W p_ l e_ room_1 s m #[Value.ref b] below meth c H locs cells slots Q (F0 m 1318 ls []) := by
  obtain ⟨⟨hx, hb, -⟩, hfl, -⟩ := id F
  obtain ⟨-, hn2, -, -, -, hk2, -, ht2, -⟩ := id hs.1.ok
  have hsim := sim_isFaulty hs (xs (4 * i + 1))
  refine lv_aload_n hx hb dL_law_1318 rfl (lv_at hl 3 rfl) ?_
  refine law_arg (i := i) (j := 1) F hH hl 4 0 rfl rfl (by omega) (by decide +kernel) dL_law_1319 dL_law_1320 dL_law_1322 dL_law_1323 dL_law_1324 ?_
  refine lv_aload_n hx hb dL_law_1325 rfl (lv_at hl 1 rfl) ?_
  refine law_c1 (As := [.ref (zc 0), .int (xs (4 * i + 1)), .ref o]) (rest := []) F Z hsim hH (c_L_isFaulty l hfl G _ zc Z.1 q.1 q.2 hH.1 o g hH.2.2.1 Z.2.2.2.1 (xs (4 * i + 1)) (kR01 _)) (vx_cwSW 3 (law_S0 F).2.2.2.2 gL_law_L_isFaulty rfl rfl rfl (by decide +kernel) ⟨Nat.le_of_ble_eq_true rfl, Nat.le_of_ble_eq_true rfl⟩) rfl hl.1 dL_law_1326 (Nat.le_of_ble_eq_true rfl) ⟨by omega, by omega⟩ (fun g H locs hH hg => ?_)
  refine lv_istore (lv' := (5, .int _) :: lwLs b zc zm o i) hx hb dL_law_1329 hl (by decide) rfl (fun ls hl => ?_)
  refine lv_aload_n hx hb dL_law_1331 rfl (lv_at hl 3 rfl) ?_
  refine law_arg (i := i) (j := 1) F hH hl 5 1 rfl rfl (by omega) (by decide +kernel) dL_law_1332 dL_law_1333 dL_law_1335 dL_law_1336 dL_law_1337 ?_
  refine law_c2 (As := [.int (xs (4 * i + 1))]) (rest := []) F Z hsim hH (c_X7_isFaulty l G _ zm Z.2.1 p.1 p.2 hH.2.1 (xs (4 * i + 1)) n d k t hs.1.ok) (cwV 1 (law_S0 F).2.2.2.2 gL_law_X7_isFaulty rfl rfl rfl (by decide +kernel) ⟨Nat.le_of_ble_eq_true rfl, Nat.le_of_ble_eq_true rfl⟩) rfl hl.1 dL_law_1338 (Nat.le_of_ble_eq_true rfl) ⟨by omega, by omega⟩ (fun H locs hH => ?_)
  refine W.widen (k := cells + 5) (n := slots + 30) (by omega) (by omega) ?_
  exact law_tb (t13 := 1354) (t23 := 1371) (t24 := 1372) (t30 := 1378) F hsim hH hg hl dL_law_1341 dL_law_1343 dL_law_1344 dL_law_1347 dL_law_1349 (by decide) dL_law_1354 dL_law_1356 (by decide) dL_law_1359 dL_law_1360 dL_law_1361 dL_law_1362 dL_law_1364 (by decide) dL_law_1367 dL_law_1368 (by decide) dL_law_1371 rfl dL_law_1372 dL_law_1373 (by decide) dL_law_1378 (by decide) hcl kk
set_option maxHeartbeats 4000000 in
set_option maxRecDepth 100000 in
theorem law_k21 (F : lwF p_ l s m meth c b L xs G) (Z : lwZ s zc zm o) {n d k t v : Nat} (hs : sX q p n d k t v) (hH : lwH G s zc zm o q p g H locs) (hl : lv_has ls 7 (lwLs b zc zm o i)) (hi : 4 * i + 4 ≤ L) (hcl : cells + 5 ≤ 601024 ∧ slots + 30 ≤ 7293034) (kk : lwGo p_ l e_ s m b below meth c G zc zm o i (cells + 5) (slots + 30) Q) : W p_ l e_ room_1 s m #[Value.ref b] below meth c H locs cells slots Q (F0 m 1381 ls []) := by
  obtain ⟨⟨hx, hb, -⟩, hfl, -⟩ := id F
  obtain ⟨-, hn2, -, -, -, hk2, -, ht2, -⟩ := id hs.1.ok
  have hsim := sim_rollable hs (xs (4 * i + 1))
  refine lv_aload_n hx hb dL_law_1381 rfl (lv_at hl 3 rfl) ?_
  refine law_arg (i := i) (j := 1) F hH hl 4 0 rfl rfl (by omega) (by decide +kernel) dL_law_1382 dL_law_1383 dL_law_1385 dL_law_1386 dL_law_1387 ?_
  refine lv_aload_n hx hb dL_law_1388 rfl (lv_at hl 1 rfl) ?_
  refine law_c1 (As := [.ref (zc 0), .int (xs (4 * i + 1)), .ref o]) (rest := []) F Z hsim hH (c_L_rollable l hfl G _ zc Z.1 q.1 q.2 hH.1 o g hH.2.2.1 Z.2.2.2.1 (xs (4 * i + 1)) (kR01 _)) (vx_cwSW 3 (law_S0 F).2.2.2.2 gL_law_L_rollable rfl rfl rfl (by decide +kernel) ⟨Nat.le_of_ble_eq_true rfl, Nat.le_of_ble_eq_true rfl⟩) rfl hl.1 dL_law_1389 (Nat.le_of_ble_eq_true rfl) ⟨by omega, by omega⟩ (fun g H locs hH hg => ?_)
  refine lv_istore (lv' := (5, .int _) :: lwLs b zc zm o i) hx hb dL_law_1392 hl (by decide) rfl (fun ls hl => ?_)
  refine lv_aload_n hx hb dL_law_1394 rfl (lv_at hl 3 rfl) ?_
  refine law_arg (i := i) (j := 1) F hH hl 5 1 rfl rfl (by omega) (by decide +kernel) dL_law_1395 dL_law_1396 dL_law_1398 dL_law_1399 dL_law_1400 ?_
  refine law_c2 (As := [.int (xs (4 * i + 1))]) (rest := []) F Z hsim hH (c_X7_rollable l G _ zm Z.2.1 p.1 p.2 hH.2.1 (xs (4 * i + 1)) n d k t hs.1.ok) (cwV 1 (law_S0 F).2.2.2.2 gL_law_X7_rollable rfl rfl rfl (by decide +kernel) ⟨Nat.le_of_ble_eq_true rfl, Nat.le_of_ble_eq_true rfl⟩) rfl hl.1 dL_law_1401 (Nat.le_of_ble_eq_true rfl) ⟨by omega, by omega⟩ (fun H locs hH => ?_)
  refine W.widen (k := cells + 5) (n := slots + 30) (by omega) (by omega) ?_
  exact law_ti (t13 := 1417) (t30 := 1434) F hsim hH hg hl dL_law_1404 dL_law_1406 dL_law_1407 dL_law_1410 dL_law_1412 (by decide) dL_law_1417 dL_law_1419 (by decide) dL_law_1422 dL_law_1423 dL_law_1424 dL_law_1425 dL_law_1427 dL_law_1428 dL_law_1429 (by decide) dL_law_1434 (by decide) hcl kk
set_option maxHeartbeats 4000000 in
set_option maxRecDepth 100000 in
theorem law_k22 (F : lwF p_ l s m meth c b L xs G) (Z : lwZ s zc zm o) {n d k t v : Nat} (hs : sX q p n d k t v) (hH : lwH G s zc zm o q p g H locs) (hl : lv_has ls 7 (lwLs b zc zm o i)) (hi : 4 * i + 4 ≤ L) (hcl : cells + 5 ≤ 601024 ∧ slots + 30 ≤ 7293034) (kk : lwGo p_ l e_ s m b below meth c G zc zm o i (cells + 5) (slots + 30) Q) : W p_ l e_ room_1 s m #[Value.ref b] below meth c H locs cells slots Q (F0 m 1437 ls []) := by
  have hM := id hs.1.ok
  refine W.widen (k := cells + 5) (n := slots + 30) (by omega) (by omega) ?_
  exact law_td F Z (hs.thr (nI 0)) hH hl (hs.1.f3.trans hM.1.symm) (c_X6_changes l G _ zc q.1 q.2 hH.1) (cwV 0 (law_S0 F).2.2.2.2 gL_law_X6_changes rfl rfl rfl (by decide +kernel) ⟨Nat.le_of_ble_eq_true rfl, Nat.le_of_ble_eq_true rfl⟩) (c_X7_changes l G _ zm Z.2.1 p.1 p.2 hH.2.1 n d k t hs.1.ok) (cwV 0 (law_S0 F).2.2.2.2 gL_law_X7_changes rfl rfl rfl (by decide +kernel) ⟨Nat.le_of_ble_eq_true rfl, Nat.le_of_ble_eq_true rfl⟩) dL_law_1437 dL_law_1438 dL_law_1441 dL_law_1442 dL_law_1445 (by decide) hcl kk
set_option maxHeartbeats 4000000 in
set_option maxRecDepth 100000 in
theorem law_k23 (F : lwF p_ l s m meth c b L xs G) (Z : lwZ s zc zm o) {n d k t v : Nat} (hs : sX q p n d k t v) (hH : lwH G s zc zm o q p g H locs) (hl : lv_has ls 7 (lwLs b zc zm o i)) (hi : 4 * i + 4 ≤ L) (hcl : cells + 5 ≤ 601024 ∧ slots + 30 ≤ 7293034) (kk : lwGo p_ l e_ s m b below meth c G zc zm o i (cells + 5) (slots + 30) Q) : W p_ l e_ room_1 s m #[Value.ref b] below meth c H locs cells slots Q (F0 m 1450 ls []) := by
  obtain ⟨⟨hx, hb, -⟩, hfl, -⟩ := id F
  obtain ⟨-, hn2, -, -, -, hk2, -, ht2, -⟩ := id hs.1.ok
  have hsim := sim_change hs (xs (4 * i + 1))
  refine lv_aload_n hx hb dL_law_1450 rfl (lv_at hl 3 rfl) ?_
  refine law_arg (i := i) (j := 1) F hH hl 4 0 rfl rfl (by omega) (by decide +kernel) dL_law_1451 dL_law_1452 dL_law_1454 dL_law_1455 dL_law_1456 ?_
  refine lv_aload_n hx hb dL_law_1457 rfl (lv_at hl 1 rfl) ?_
  refine law_c1 (As := [.ref (zc 0), .int (xs (4 * i + 1)), .ref o]) (rest := []) F Z hsim hH (c_L_change l hfl G _ zc Z.1 q.1 q.2 hH.1 o g hH.2.2.1 Z.2.2.2.1 (xs (4 * i + 1)) (kB01 _ _)) (vx_cwSW 3 (law_S0 F).2.2.2.2 gL_law_L_change rfl rfl rfl (by decide +kernel) ⟨Nat.le_of_ble_eq_true rfl, Nat.le_of_ble_eq_true rfl⟩) rfl hl.1 dL_law_1458 (Nat.le_of_ble_eq_true rfl) ⟨by omega, by omega⟩ (fun g H locs hH hg => ?_)
  refine lv_istore (lv' := (5, .int _) :: lwLs b zc zm o i) hx hb dL_law_1461 hl (by decide) rfl (fun ls hl => ?_)
  refine lv_aload_n hx hb dL_law_1463 rfl (lv_at hl 3 rfl) ?_
  refine law_arg (i := i) (j := 1) F hH hl 5 1 rfl rfl (by omega) (by decide +kernel) dL_law_1464 dL_law_1465 dL_law_1467 dL_law_1468 dL_law_1469 ?_
  refine law_c2 (As := [.int (xs (4 * i + 1))]) (rest := []) F Z hsim hH (c_X7_change l G _ zm Z.2.1 p.1 p.2 hH.2.1 (xs (4 * i + 1)) n d k t hs.1.ok) (cwV 1 (law_S0 F).2.2.2.2 gL_law_X7_change rfl rfl rfl (by decide +kernel) ⟨Nat.le_of_ble_eq_true rfl, Nat.le_of_ble_eq_true rfl⟩) rfl hl.1 dL_law_1470 (Nat.le_of_ble_eq_true rfl) ⟨by omega, by omega⟩ (fun H locs hH => ?_)
  refine W.widen (k := cells + 5) (n := slots + 30) (by omega) (by omega) ?_
  exact law_ti (t13 := 1486) (t30 := 1503) F hsim hH hg hl dL_law_1473 dL_law_1475 dL_law_1476 dL_law_1479 dL_law_1481 (by decide) dL_law_1486 dL_law_1488 (by decide) dL_law_1491 dL_law_1492 dL_law_1493 dL_law_1494 dL_law_1496 dL_law_1497 dL_law_1498 (by decide) dL_law_1503 (by decide) hcl kk
end S99
