section LCSM
variable {p : Program} {l : Launch} {e : Env} {s : State} {m : MethodId} {args : Array Value} {below : List Frame} {meth : Method} {c : Code} {D : va_G} {A : Nat → Prop} {Q : State → Prop} {cM : Cond}
variable {kc ks kc9 ks9 : Nat} {T : Nat → ClassId} {S : HS} {L : List Nat} {ol od m0 b Lx i : Nat}
variable {ar a : Nat → Nat} {r : Nat → Int32} {q : Nat → Nat → Int32} {f : Nat → Int64} {fd : Nat → UInt64} {xs : Nat → Int32} {mu : Nat → Nat → Int32} {g bb : Nat → Int32} {sh : List Int32}
set_option maxRecDepth 100000 in
set_option maxHeartbeats 4000000 in
theorem lcs_11 (hst : l.stackTraces = false) (C : GC p s m args meth c code RL (cM :: W0) 9 D A (zty T)) (E : GE T A s) (N : NX s) (hX : va_X b Lx xs s s.heap) (hbl : b < s.heap.size) (hbA : ¬ A b) (hLx : Lx ≤ 3072) (hi : i + 6 ≤ Lx) (hkc : kc9 + 210 ≤ kc) (hks : ks9 + 12400 ≤ ks) (hI : LInv T a S L mu g bb sh r q) (K : LK p l e s m args below meth c D A Q T a ar ol od m0 b i kc9 ks9) : GW p l e room_1 s m args below meth c D A 9 601024 7293034 Q (LWW T ol od m0 ar f fd S L r q) kc ks 970 [(0, .ref b), (1, .ref (a 50)), (2, .ref m0), (3, .ref ol), (4, .ref od), (5, .int (nI i))] [] := by
  obtain ⟨hL, hw, hF, hR, h120⟩ := hI
  refine g_aload_n C dL_law_970 rfl 1 rfl ?_
  refine gl_arg C hX hbl hbA hLx hi 1 (by decide) (by decide) 0 5 rfl rfl dL_law_971 dL_law_972 dL_law_974 dL_law_975 dL_law_976 ?_
  refine gl_arg C hX hbl hbA hLx hi 2 (by decide) (by decide) 0 5 rfl rfl dL_law_977 dL_law_978 dL_law_980 dL_law_981 dL_law_982 ?_
  refine gl_arg C hX hbl hbA hLx hi 3 (by decide) (by decide) 0 5 rfl rfl dL_law_983 dL_law_984 dL_law_986 dL_law_987 dL_law_988 ?_
  refine gl_arg C hX hbl hbA hLx hi 4 (by decide) (by decide) 0 5 rfl rfl dL_law_989 dL_law_990 dL_law_992 dL_law_993 dL_law_994 ?_
  refine gl_arg C hX hbl hbA hLx hi 5 (by decide) (by decide) 0 5 rfl rfl dL_law_995 dL_law_996 dL_law_998 dL_law_999 dL_law_1000 ?_
  refine g_aload_n C dL_law_1001 rfl 3 rfl ?_
  refine gw_perm pmJ ?_
  refine gl_hlp (mk := oJ T) C E N hw hL [.ref (a 50), .int (xs (i + 1)), .int (xs (i + 2)), .int (xs (i + 3)), .int (xs (i + 4)), .int (xs (i + 5)), .ref ol] rfl (h_L_pack l hst D T (a 50) ol (xs (i + 1)) (xs (i + 2)) (xs (i + 3)) (xs (i + 4)) (xs (i + 5)) S f a mu g bb sh (li_x0 hF) ⟨hF, rfl⟩) (w0_SW 7 C.2.2.2.2.1 kw_1127 kw_1128 kw_0 kw_1129 rfl rfl (by decide +kernel) ⟨Nat.le_of_ble_eq_true rfl, Nat.le_of_ble_eq_true rfl⟩) rfl (Nat.le_of_ble_eq_true rfl) (Nat.le_of_ble_eq_true rfl) (Nat.le_of_ble_eq_true rfl) (by omega) (by omega) dL_law_1002 (fun k S1 L1 f1 hx1 hw1 hL1 hp => ?_)
  refine gw_perm pmJ.symm ?_
  refine gw_less (kc' := kc9) (ks' := ks9) (by omega) (by omega) ?_
  refine g_istore (lv' := (6, .int k) :: [(0, .ref b), (1, .ref (a 50)), (2, .ref m0), (3, .ref ol), (4, .ref od), (5, .int (nI i))]) C dL_law_1005 (by decide) rfl ?_
  refine g_aload_n C dL_law_1007 rfl 3 rfl ?_
  refine gl_arg C hX hbl hbA hLx hi 1 (by decide) (by decide) 1 6 rfl rfl dL_law_1008 dL_law_1009 dL_law_1011 dL_law_1012 dL_law_1013 ?_
  refine gl_arg C hX hbl hbA hLx hi 2 (by decide) (by decide) 1 6 rfl rfl dL_law_1014 dL_law_1015 dL_law_1017 dL_law_1018 dL_law_1019 ?_
  refine gl_arg C hX hbl hbA hLx hi 3 (by decide) (by decide) 1 6 rfl rfl dL_law_1020 dL_law_1021 dL_law_1023 dL_law_1024 dL_law_1025 ?_
  refine gl_arg C hX hbl hbA hLx hi 4 (by decide) (by decide) 1 6 rfl rfl dL_law_1026 dL_law_1027 dL_law_1029 dL_law_1030 dL_law_1031 ?_
  refine gl_arg C hX hbl hbA hLx hi 5 (by decide) (by decide) 1 6 rfl rfl dL_law_1032 dL_law_1033 dL_law_1035 dL_law_1036 dL_law_1037 ?_
  refine gw_perm pmR ?_
  refine gl_refi C [.int (xs (i + 1)), .int (xs (i + 2)), .int (xs (i + 3)), .int (xs (i + 4)), .int (xs (i + 5))] rfl (k_X11_pack l D T m0 ar (xs (i + 1)) (xs (i + 2)) (xs (i + 3)) (xs (i + 4)) (xs (i + 5)) r q ⟨(by rw [hR.1]; exact (rz_gwf hF).1), (rz_cw8 hF hR)⟩) (w0_V 5 C.2.2.2.2.1 kw_2112 kw_2113 kw_2114 kw_9 kw_2115 rfl rfl (by decide +kernel) ⟨Nat.le_of_ble_eq_true rfl, Nat.le_of_ble_eq_true rfl⟩) rfl (Nat.le_of_ble_eq_true rfl) (Nat.le_of_ble_eq_true rfl) (Nat.le_of_ble_eq_true rfl) dL_law_1038 (fun v r1 q1 hq => ?_)
  refine gw_perm pmR.symm ?_
  rw [hR.1] at hq
  have M := rz_stP hF hR hp hq
  exact lc_tail C M.1 M.2.1 dL_law_1041 dL_law_1043 dL_law_1044 dL_law_1047 dL_law_1049 dL_law_1054 dL_law_1056 dL_law_1059 dL_law_1060 dL_law_1061 dL_law_1062 dL_law_1064 dL_law_1065 dL_law_1066 dL_law_1071 (by decide) (lk_out K h120 hx1 hw1 hL1 M.2.2)
set_option maxRecDepth 100000 in
set_option maxHeartbeats 4000000 in
theorem lcs_12 (hst : l.stackTraces = false) (C : GC p s m args meth c code RL (cM :: W0) 9 D A (zty T)) (E : GE T A s) (N : NX s) (hX : va_X b Lx xs s s.heap) (hbl : b < s.heap.size) (hbA : ¬ A b) (hLx : Lx ≤ 3072) (hi : i + 6 ≤ Lx) (hkc : kc9 + 210 ≤ kc) (hks : ks9 + 12400 ≤ ks) (hI : LInv T a S L mu g bb sh r q) (K : LK p l e s m args below meth c D A Q T a ar ol od m0 b i kc9 ks9) : GW p l e room_1 s m args below meth c D A 9 601024 7293034 Q (LWW T ol od m0 ar f fd S L r q) kc ks 1074 [(0, .ref b), (1, .ref (a 50)), (2, .ref m0), (3, .ref ol), (4, .ref od), (5, .int (nI i))] [] := by
  obtain ⟨hL, hw, hF, hR, h120⟩ := hI
  refine g_aload_n C dL_law_1074 rfl 1 rfl ?_
  refine gl_arg C hX hbl hbA hLx hi 1 (by decide) (by decide) 0 5 rfl rfl dL_law_1075 dL_law_1076 dL_law_1078 dL_law_1079 dL_law_1080 ?_
  refine gl_arg C hX hbl hbA hLx hi 2 (by decide) (by decide) 0 5 rfl rfl dL_law_1081 dL_law_1082 dL_law_1084 dL_law_1085 dL_law_1086 ?_
  refine gl_arg C hX hbl hbA hLx hi 3 (by decide) (by decide) 0 5 rfl rfl dL_law_1087 dL_law_1088 dL_law_1090 dL_law_1091 dL_law_1092 ?_
  refine g_aload_n C dL_law_1093 rfl 3 rfl ?_
  refine gw_perm pmJ ?_
  refine gl_hlp (mk := oJ T) C E N hw hL [.ref (a 50), .int (xs (i + 1)), .int (xs (i + 2)), .int (xs (i + 3)), .ref ol] rfl (h_L_route l hst D T (a 50) ol (xs (i + 1)) (xs (i + 2)) (xs (i + 3)) S f a mu g bb sh (li_x0 hF) ⟨hF, rfl⟩) (w0_SW 5 C.2.2.2.2.1 kw_1159 kw_1160 kw_0 kw_1161 rfl rfl (by decide +kernel) ⟨Nat.le_of_ble_eq_true rfl, Nat.le_of_ble_eq_true rfl⟩) rfl (Nat.le_of_ble_eq_true rfl) (Nat.le_of_ble_eq_true rfl) (Nat.le_of_ble_eq_true rfl) (by omega) (by omega) dL_law_1094 (fun k S1 L1 f1 hx1 hw1 hL1 hp => ?_)
  refine gw_perm pmJ.symm ?_
  refine gw_less (kc' := kc9) (ks' := ks9) (by omega) (by omega) ?_
  refine g_istore (lv' := (6, .int k) :: [(0, .ref b), (1, .ref (a 50)), (2, .ref m0), (3, .ref ol), (4, .ref od), (5, .int (nI i))]) C dL_law_1097 (by decide) rfl ?_
  refine g_aload_n C dL_law_1099 rfl 3 rfl ?_
  refine gl_arg C hX hbl hbA hLx hi 1 (by decide) (by decide) 1 6 rfl rfl dL_law_1100 dL_law_1101 dL_law_1103 dL_law_1104 dL_law_1105 ?_
  refine gl_arg C hX hbl hbA hLx hi 2 (by decide) (by decide) 1 6 rfl rfl dL_law_1106 dL_law_1107 dL_law_1109 dL_law_1110 dL_law_1111 ?_
  refine gl_arg C hX hbl hbA hLx hi 3 (by decide) (by decide) 1 6 rfl rfl dL_law_1112 dL_law_1113 dL_law_1115 dL_law_1116 dL_law_1117 ?_
  refine gw_perm pmR ?_
  refine gl_refi C [.int (xs (i + 1)), .int (xs (i + 2)), .int (xs (i + 3))] rfl (k_X11_route l D T m0 ar (xs (i + 1)) (xs (i + 2)) (xs (i + 3)) r q ⟨(by rw [hR.1]; exact (rz_gwf hF).1), (rz_cw8 hF hR)⟩) (w0_V 3 C.2.2.2.2.1 kw_2131 kw_2132 kw_2133 kw_9 kw_2134 rfl rfl (by decide +kernel) ⟨Nat.le_of_ble_eq_true rfl, Nat.le_of_ble_eq_true rfl⟩) rfl (Nat.le_of_ble_eq_true rfl) (Nat.le_of_ble_eq_true rfl) (Nat.le_of_ble_eq_true rfl) dL_law_1118 (fun v r1 q1 hq => ?_)
  refine gw_perm pmR.symm ?_
  rw [hR.1] at hq
  have M := rz_stP hF hR hp hq
  exact lc_tail C M.1 M.2.1 dL_law_1121 dL_law_1123 dL_law_1124 dL_law_1127 dL_law_1129 dL_law_1134 dL_law_1136 dL_law_1139 dL_law_1140 dL_law_1141 dL_law_1142 dL_law_1144 dL_law_1145 dL_law_1146 dL_law_1151 (by decide) (lk_out K h120 hx1 hw1 hL1 M.2.2)
set_option maxRecDepth 100000 in
set_option maxHeartbeats 4000000 in
theorem lcs_13 (hst : l.stackTraces = false) (C : GC p s m args meth c code RL (cM :: W0) 9 D A (zty T)) (E : GE T A s) (N : NX s) (hX : va_X b Lx xs s s.heap) (hbl : b < s.heap.size) (hbA : ¬ A b) (hLx : Lx ≤ 3072) (hi : i + 6 ≤ Lx) (hkc : kc9 + 210 ≤ kc) (hks : ks9 + 12400 ≤ ks) (hI : LInv T a S L mu g bb sh r q) (K : LK p l e s m args below meth c D A Q T a ar ol od m0 b i kc9 ks9) : GW p l e room_1 s m args below meth c D A 9 601024 7293034 Q (LWW T ol od m0 ar f fd S L r q) kc ks 1154 [(0, .ref b), (1, .ref (a 50)), (2, .ref m0), (3, .ref ol), (4, .ref od), (5, .int (nI i))] [] := by
  obtain ⟨hL, hw, hF, hR, h120⟩ := hI
  refine g_aload_n C dL_law_1154 rfl 1 rfl ?_
  refine gl_arg C hX hbl hbA hLx hi 1 (by decide) (by decide) 0 5 rfl rfl dL_law_1155 dL_law_1156 dL_law_1158 dL_law_1159 dL_law_1160 ?_
  refine gl_arg C hX hbl hbA hLx hi 2 (by decide) (by decide) 0 5 rfl rfl dL_law_1161 dL_law_1162 dL_law_1164 dL_law_1165 dL_law_1166 ?_
  refine g_aload_n C dL_law_1167 rfl 3 rfl ?_
  refine gw_perm pmJ ?_
  refine gl_hlp (mk := oJ T) C E N hw hL [.ref (a 50), .int (xs (i + 1)), .int (xs (i + 2)), .ref ol] rfl (h_L_handle l hst D T (a 50) ol (xs (i + 1)) (xs (i + 2)) S f a mu g bb sh (li_x0 hF) ⟨hF, rfl⟩) (w0_SW 4 C.2.2.2.2.1 kw_1166 kw_1167 kw_0 kw_1168 rfl rfl (by decide +kernel) ⟨Nat.le_of_ble_eq_true rfl, Nat.le_of_ble_eq_true rfl⟩) rfl (Nat.le_of_ble_eq_true rfl) (Nat.le_of_ble_eq_true rfl) (Nat.le_of_ble_eq_true rfl) (by omega) (by omega) dL_law_1168 (fun k S1 L1 f1 hx1 hw1 hL1 hp => ?_)
  refine gw_perm pmJ.symm ?_
  refine gw_less (kc' := kc9) (ks' := ks9) (by omega) (by omega) ?_
  refine g_istore (lv' := (6, .int k) :: [(0, .ref b), (1, .ref (a 50)), (2, .ref m0), (3, .ref ol), (4, .ref od), (5, .int (nI i))]) C dL_law_1171 (by decide) rfl ?_
  refine g_aload_n C dL_law_1173 rfl 3 rfl ?_
  refine gl_arg C hX hbl hbA hLx hi 1 (by decide) (by decide) 1 6 rfl rfl dL_law_1174 dL_law_1175 dL_law_1177 dL_law_1178 dL_law_1179 ?_
  refine gl_arg C hX hbl hbA hLx hi 2 (by decide) (by decide) 1 6 rfl rfl dL_law_1180 dL_law_1181 dL_law_1183 dL_law_1184 dL_law_1185 ?_
  refine gw_perm pmR ?_
  refine gl_refi C [.int (xs (i + 1)), .int (xs (i + 2))] rfl (k_X11_handle l D T m0 ar (xs (i + 1)) (xs (i + 2)) r q ⟨(by rw [hR.1]; exact (rz_gwf hF).1), (rz_cw8 hF hR)⟩) (w0_V 2 C.2.2.2.2.1 kw_2135 kw_2136 kw_2137 kw_9 kw_2138 rfl rfl (by decide +kernel) ⟨Nat.le_of_ble_eq_true rfl, Nat.le_of_ble_eq_true rfl⟩) rfl (Nat.le_of_ble_eq_true rfl) (Nat.le_of_ble_eq_true rfl) (Nat.le_of_ble_eq_true rfl) dL_law_1186 (fun v r1 q1 hq => ?_)
  refine gw_perm pmR.symm ?_
  rw [hR.1] at hq
  have M := rz_stP hF hR hp hq
  exact lc_tail C M.1 M.2.1 dL_law_1189 dL_law_1191 dL_law_1192 dL_law_1195 dL_law_1197 dL_law_1202 dL_law_1204 dL_law_1207 dL_law_1208 dL_law_1209 dL_law_1210 dL_law_1212 dL_law_1213 dL_law_1214 dL_law_1219 (by decide) (lk_out K h120 hx1 hw1 hL1 M.2.2)
set_option maxRecDepth 100000 in
set_option maxHeartbeats 4000000 in
theorem lcs_14 (hst : l.stackTraces = false) (C : GC p s m args meth c code RL (cM :: W0) 9 D A (zty T)) (E : GE T A s) (N : NX s) (hX : va_X b Lx xs s s.heap) (hbl : b < s.heap.size) (hbA : ¬ A b) (hLx : Lx ≤ 3072) (hi : i + 6 ≤ Lx) (hkc : kc9 + 210 ≤ kc) (hks : ks9 + 12400 ≤ ks) (hI : LInv T a S L mu g bb sh r q) (K : LK p l e s m args below meth c D A Q T a ar ol od m0 b i kc9 ks9) : GW p l e room_1 s m args below meth c D A 9 601024 7293034 Q (LWW T ol od m0 ar f fd S L r q) kc ks 1222 [(0, .ref b), (1, .ref (a 50)), (2, .ref m0), (3, .ref ol), (4, .ref od), (5, .int (nI i))] [] := by
  obtain ⟨hL, hw, hF, hR, h120⟩ := hI
  refine g_aload_n C dL_law_1222 rfl 1 rfl ?_
  refine gl_arg C hX hbl hbA hLx hi 1 (by decide) (by decide) 0 5 rfl rfl dL_law_1223 dL_law_1224 dL_law_1226 dL_law_1227 dL_law_1228 ?_
  refine gl_arg C hX hbl hbA hLx hi 2 (by decide) (by decide) 0 5 rfl rfl dL_law_1229 dL_law_1230 dL_law_1232 dL_law_1233 dL_law_1234 ?_
  refine g_aload_n C dL_law_1235 rfl 3 rfl ?_
  refine gw_perm pmJ ?_
  refine gl_hlp (mk := oJ T) C E N hw hL [.ref (a 50), .int (xs (i + 1)), .int (xs (i + 2)), .ref ol] rfl (h_L_shipment l hst D T (a 50) ol (xs (i + 1)) (xs (i + 2)) S f a mu g bb sh (li_x0 hF) ⟨hF, rfl⟩) (w0_SW 4 C.2.2.2.2.1 kw_1173 kw_1174 kw_0 kw_1175 rfl rfl (by decide +kernel) ⟨Nat.le_of_ble_eq_true rfl, Nat.le_of_ble_eq_true rfl⟩) rfl (Nat.le_of_ble_eq_true rfl) (Nat.le_of_ble_eq_true rfl) (Nat.le_of_ble_eq_true rfl) (by omega) (by omega) dL_law_1236 (fun k S1 L1 f1 hx1 hw1 hL1 hp => ?_)
  refine gw_perm pmJ.symm ?_
  refine gw_less (kc' := kc9) (ks' := ks9) (by omega) (by omega) ?_
  refine g_istore (lv' := (6, .int k) :: [(0, .ref b), (1, .ref (a 50)), (2, .ref m0), (3, .ref ol), (4, .ref od), (5, .int (nI i))]) C dL_law_1239 (by decide) rfl ?_
  refine g_aload_n C dL_law_1241 rfl 3 rfl ?_
  refine gl_arg C hX hbl hbA hLx hi 1 (by decide) (by decide) 1 6 rfl rfl dL_law_1242 dL_law_1243 dL_law_1245 dL_law_1246 dL_law_1247 ?_
  refine gl_arg C hX hbl hbA hLx hi 2 (by decide) (by decide) 1 6 rfl rfl dL_law_1248 dL_law_1249 dL_law_1251 dL_law_1252 dL_law_1253 ?_
  refine gw_perm pmR ?_
  refine gl_refi C [.int (xs (i + 1)), .int (xs (i + 2))] rfl (k_X11_shipment l D T m0 ar (xs (i + 1)) (xs (i + 2)) r q (by rw [hR.1]; exact (rz_gwf hF).1)) (w0_V 2 C.2.2.2.2.1 kw_2139 kw_2140 kw_2141 kw_9 kw_2142 rfl rfl (by decide +kernel) ⟨Nat.le_of_ble_eq_true rfl, Nat.le_of_ble_eq_true rfl⟩) rfl (Nat.le_of_ble_eq_true rfl) (Nat.le_of_ble_eq_true rfl) (Nat.le_of_ble_eq_true rfl) dL_law_1254 (fun v r1 q1 hq => ?_)
  refine gw_perm pmR.symm ?_
  rw [hR.1] at hq
  have M := rz_read (Lq := []) hR hp hq.2.1 (fun j _ => congrFun (show q1 = q from hq.1) j) hq.2.2.1 hq.2.2.2 (by decide)
  exact lc_tail C M.1 M.2.1 dL_law_1257 dL_law_1259 dL_law_1260 dL_law_1263 dL_law_1265 dL_law_1270 dL_law_1272 dL_law_1275 dL_law_1276 dL_law_1277 dL_law_1278 dL_law_1280 dL_law_1281 dL_law_1282 dL_law_1287 (by decide) (lk_out K h120 hx1 hw1 hL1 M.2.2)
set_option maxRecDepth 100000 in
set_option maxHeartbeats 4000000 in
theorem lcs_15 (hst : l.stackTraces = false) (C : GC p s m args meth c code RL (cM :: W0) 9 D A (zty T)) (E : GE T A s) (N : NX s) (hX : va_X b Lx xs s s.heap) (hbl : b < s.heap.size) (hbA : ¬ A b) (hLx : Lx ≤ 3072) (hi : i + 6 ≤ Lx) (hkc : kc9 + 210 ≤ kc) (hks : ks9 + 12400 ≤ ks) (hI : LInv T a S L mu g bb sh r q) (K : LK p l e s m args below meth c D A Q T a ar ol od m0 b i kc9 ks9) : GW p l e room_1 s m args below meth c D A 9 601024 7293034 Q (LWW T ol od m0 ar f fd S L r q) kc ks 1290 [(0, .ref b), (1, .ref (a 50)), (2, .ref m0), (3, .ref ol), (4, .ref od), (5, .int (nI i))] [] := by
  obtain ⟨hL, hw, hF, hR, h120⟩ := hI
  refine g_aload_n C dL_law_1290 rfl 1 rfl ?_
  refine gl_arg C hX hbl hbA hLx hi 1 (by decide) (by decide) 0 5 rfl rfl dL_law_1291 dL_law_1292 dL_law_1294 dL_law_1295 dL_law_1296 ?_
  refine g_aload_n C dL_law_1297 rfl 3 rfl ?_
  refine gw_perm pmJ ?_
  refine gl_hlp (mk := oJ T) C E N hw hL [.ref (a 50), .int (xs (i + 1)), .ref ol] rfl (h_L_rate l hst D T (a 50) ol (xs (i + 1)) S f a mu g bb sh (li_x0 hF) ⟨hF, rfl⟩) (w0_SW 3 C.2.2.2.2.1 kw_1184 kw_1185 kw_0 kw_1186 rfl rfl (by decide +kernel) ⟨Nat.le_of_ble_eq_true rfl, Nat.le_of_ble_eq_true rfl⟩) rfl (Nat.le_of_ble_eq_true rfl) (Nat.le_of_ble_eq_true rfl) (Nat.le_of_ble_eq_true rfl) (by omega) (by omega) dL_law_1298 (fun k S1 L1 f1 hx1 hw1 hL1 hp => ?_)
  refine gw_perm pmJ.symm ?_
  refine gw_less (kc' := kc9) (ks' := ks9) (by omega) (by omega) ?_
  refine g_istore (lv' := (6, .int k) :: [(0, .ref b), (1, .ref (a 50)), (2, .ref m0), (3, .ref ol), (4, .ref od), (5, .int (nI i))]) C dL_law_1301 (by decide) rfl ?_
  refine g_aload_n C dL_law_1303 rfl 3 rfl ?_
  refine gl_arg C hX hbl hbA hLx hi 1 (by decide) (by decide) 1 6 rfl rfl dL_law_1304 dL_law_1305 dL_law_1307 dL_law_1308 dL_law_1309 ?_
  refine gw_perm pmR ?_
  refine gl_refi C [.int (xs (i + 1))] rfl (k_X11_rate l D T m0 ar (xs (i + 1)) r q (by rw [hR.1]; exact (rz_gwf hF).1)) (w0_V 1 C.2.2.2.2.1 kw_2163 kw_2164 kw_2165 kw_9 kw_2166 rfl rfl (by decide +kernel) ⟨Nat.le_of_ble_eq_true rfl, Nat.le_of_ble_eq_true rfl⟩) rfl (Nat.le_of_ble_eq_true rfl) (Nat.le_of_ble_eq_true rfl) (Nat.le_of_ble_eq_true rfl) dL_law_1310 (fun v r1 q1 hq => ?_)
  refine gw_perm pmR.symm ?_
  rw [hR.1] at hq
  have M := rz_keep (n := 2) (Lq := []) (by decide) hR hp hq.2.1 (fun j _ => congrFun (show q1 = q from hq.1) j) hq.2.2.1 hq.2.2.2.1 hq.2.2.2.2.1 hq.2.2.2.2.2 (by decide)
  exact lc_tail C M.1 M.2.1 dL_law_1313 dL_law_1315 dL_law_1316 dL_law_1319 dL_law_1321 dL_law_1326 dL_law_1328 dL_law_1331 dL_law_1332 dL_law_1333 dL_law_1334 dL_law_1336 dL_law_1337 dL_law_1338 dL_law_1343 (by decide) (lk_out K h120 hx1 hw1 hL1 M.2.2)
set_option maxRecDepth 100000 in
set_option maxHeartbeats 4000000 in
theorem lcs_16 (hst : l.stackTraces = false) (C : GC p s m args meth c code RL (cM :: W0) 9 D A (zty T)) (E : GE T A s) (N : NX s) (hX : va_X b Lx xs s s.heap) (hbl : b < s.heap.size) (hbA : ¬ A b) (hLx : Lx ≤ 3072) (hi : i + 6 ≤ Lx) (hkc : kc9 + 210 ≤ kc) (hks : ks9 + 12400 ≤ ks) (hI : LInv T a S L mu g bb sh r q) (K : LK p l e s m args below meth c D A Q T a ar ol od m0 b i kc9 ks9) : GW p l e room_1 s m args below meth c D A 9 601024 7293034 Q (LWW T ol od m0 ar f fd S L r q) kc ks 1346 [(0, .ref b), (1, .ref (a 50)), (2, .ref m0), (3, .ref ol), (4, .ref od), (5, .int (nI i))] [] := by
  obtain ⟨hL, hw, hF, hR, h120⟩ := hI
  refine g_aload_n C dL_law_1346 rfl 1 rfl ?_
  refine gl_arg C hX hbl hbA hLx hi 1 (by decide) (by decide) 0 5 rfl rfl dL_law_1347 dL_law_1348 dL_law_1350 dL_law_1351 dL_law_1352 ?_
  refine gl_arg C hX hbl hbA hLx hi 2 (by decide) (by decide) 0 5 rfl rfl dL_law_1353 dL_law_1354 dL_law_1356 dL_law_1357 dL_law_1358 ?_
  refine g_aload_n C dL_law_1359 rfl 3 rfl ?_
  refine gw_perm pmJ ?_
  refine gl_hlp (mk := oJ T) C E N hw hL [.ref (a 50), .int (xs (i + 1)), .int (xs (i + 2)), .ref ol] rfl (h_L_rating l hst D T (a 50) ol (xs (i + 1)) (xs (i + 2)) S f a mu g bb sh (li_x0 hF) ⟨hF, rfl⟩) (w0_SW 4 C.2.2.2.2.1 kw_1291 kw_1292 kw_0 kw_1293 rfl rfl (by decide +kernel) ⟨Nat.le_of_ble_eq_true rfl, Nat.le_of_ble_eq_true rfl⟩) rfl (Nat.le_of_ble_eq_true rfl) (Nat.le_of_ble_eq_true rfl) (Nat.le_of_ble_eq_true rfl) (by omega) (by omega) dL_law_1360 (fun k S1 L1 f1 hx1 hw1 hL1 hp => ?_)
  refine gw_perm pmJ.symm ?_
  refine gw_less (kc' := kc9) (ks' := ks9) (by omega) (by omega) ?_
  refine g_istore (lv' := (6, .int k) :: [(0, .ref b), (1, .ref (a 50)), (2, .ref m0), (3, .ref ol), (4, .ref od), (5, .int (nI i))]) C dL_law_1363 (by decide) rfl ?_
  refine g_aload_n C dL_law_1365 rfl 3 rfl ?_
  refine gl_arg C hX hbl hbA hLx hi 1 (by decide) (by decide) 1 6 rfl rfl dL_law_1366 dL_law_1367 dL_law_1369 dL_law_1370 dL_law_1371 ?_
  refine gl_arg C hX hbl hbA hLx hi 2 (by decide) (by decide) 1 6 rfl rfl dL_law_1372 dL_law_1373 dL_law_1375 dL_law_1376 dL_law_1377 ?_
  refine gw_perm pmR ?_
  refine gl_refi C [.int (xs (i + 1)), .int (xs (i + 2))] rfl (k_X11_rating l D T m0 ar (xs (i + 1)) (xs (i + 2)) r q (by rw [hR.1]; exact (rz_gwf hF).1)) (w0_V 2 C.2.2.2.2.1 kw_2227 kw_2228 kw_2229 kw_9 kw_2230 rfl rfl (by decide +kernel) ⟨Nat.le_of_ble_eq_true rfl, Nat.le_of_ble_eq_true rfl⟩) rfl (Nat.le_of_ble_eq_true rfl) (Nat.le_of_ble_eq_true rfl) (Nat.le_of_ble_eq_true rfl) dL_law_1378 (fun v r1 q1 hq => ?_)
  refine gw_perm pmR.symm ?_
  rw [hR.1] at hq
  have M := rz_read (Lq := []) hR hp hq.2.1 (fun j _ => congrFun (show q1 = q from hq.1) j) hq.2.2.1 hq.2.2.2 (by decide)
  exact lc_tail C M.1 M.2.1 dL_law_1381 dL_law_1383 dL_law_1384 dL_law_1387 dL_law_1389 dL_law_1394 dL_law_1396 dL_law_1399 dL_law_1400 dL_law_1401 dL_law_1402 dL_law_1404 dL_law_1405 dL_law_1406 dL_law_1411 (by decide) (lk_out K h120 hx1 hw1 hL1 M.2.2)
set_option maxRecDepth 100000 in
set_option maxHeartbeats 4000000 in
theorem lcs_17 (hst : l.stackTraces = false) (C : GC p s m args meth c code RL (cM :: W0) 9 D A (zty T)) (E : GE T A s) (N : NX s) (hX : va_X b Lx xs s s.heap) (hbl : b < s.heap.size) (hbA : ¬ A b) (hLx : Lx ≤ 3072) (hi : i + 6 ≤ Lx) (hkc : kc9 + 210 ≤ kc) (hks : ks9 + 12400 ≤ ks) (hI : LInv T a S L mu g bb sh r q) (K : LK p l e s m args below meth c D A Q T a ar ol od m0 b i kc9 ks9) : GW p l e room_1 s m args below meth c D A 9 601024 7293034 Q (LWW T ol od m0 ar f fd S L r q) kc ks 1414 [(0, .ref b), (1, .ref (a 50)), (2, .ref m0), (3, .ref ol), (4, .ref od), (5, .int (nI i))] [] := by
  obtain ⟨hL, hw, hF, hR, h120⟩ := hI
  refine g_aload_n C dL_law_1414 rfl 1 rfl ?_
  refine gl_arg C hX hbl hbA hLx hi 1 (by decide) (by decide) 0 5 rfl rfl dL_law_1415 dL_law_1416 dL_law_1418 dL_law_1419 dL_law_1420 ?_
  refine g_aload_n C dL_law_1421 rfl 3 rfl ?_
  refine gw_perm pmJ ?_
  refine gl_hlp (mk := oJ T) C E N hw hL [.ref (a 50), .int (xs (i + 1)), .ref ol] rfl (h_L_refuses l hst D T (a 50) ol (xs (i + 1)) S f a mu g bb sh (li_x0 hF) ⟨hF, rfl⟩) (w0_SW 3 C.2.2.2.2.1 kw_1302 kw_1303 kw_0 kw_1304 rfl rfl (by decide +kernel) ⟨Nat.le_of_ble_eq_true rfl, Nat.le_of_ble_eq_true rfl⟩) rfl (Nat.le_of_ble_eq_true rfl) (Nat.le_of_ble_eq_true rfl) (Nat.le_of_ble_eq_true rfl) (by omega) (by omega) dL_law_1422 (fun k S1 L1 f1 hx1 hw1 hL1 hp => ?_)
  refine gw_perm pmJ.symm ?_
  refine gw_less (kc' := kc9) (ks' := ks9) (by omega) (by omega) ?_
  refine g_istore (lv' := (6, .int k) :: [(0, .ref b), (1, .ref (a 50)), (2, .ref m0), (3, .ref ol), (4, .ref od), (5, .int (nI i))]) C dL_law_1425 (by decide) rfl ?_
  refine g_aload_n C dL_law_1427 rfl 3 rfl ?_
  refine gl_arg C hX hbl hbA hLx hi 1 (by decide) (by decide) 1 6 rfl rfl dL_law_1428 dL_law_1429 dL_law_1431 dL_law_1432 dL_law_1433 ?_
  refine gw_perm pmR ?_
  refine gl_refi C [.int (xs (i + 1))] rfl (k_X11_refuses l D T m0 ar (xs (i + 1)) r q (by rw [hR.1]; exact (rz_gwf hF).1)) (w0_V 1 C.2.2.2.2.1 kw_2231 kw_2232 kw_2233 kw_9 kw_2234 rfl rfl (by decide +kernel) ⟨Nat.le_of_ble_eq_true rfl, Nat.le_of_ble_eq_true rfl⟩) rfl (Nat.le_of_ble_eq_true rfl) (Nat.le_of_ble_eq_true rfl) (Nat.le_of_ble_eq_true rfl) dL_law_1434 (fun v r1 q1 hq => ?_)
  refine gw_perm pmR.symm ?_
  rw [hR.1] at hq
  have M := rz_read (Lq := []) hR hp hq.2.1 (fun j _ => congrFun (show q1 = q from hq.1) j) hq.2.2.1 (fun z => hq.2.2.2 (hq.2.2.1.trans z)) (by decide)
  exact lc_tail C M.1 M.2.1 dL_law_1437 dL_law_1439 dL_law_1440 dL_law_1443 dL_law_1445 dL_law_1450 dL_law_1452 dL_law_1455 dL_law_1456 dL_law_1457 dL_law_1458 dL_law_1460 dL_law_1461 dL_law_1462 dL_law_1467 (by decide) (lk_out K h120 hx1 hw1 hL1 M.2.2)
set_option maxRecDepth 100000 in
set_option maxHeartbeats 4000000 in
theorem lcs_18 (hst : l.stackTraces = false) (C : GC p s m args meth c code RL (cM :: W0) 9 D A (zty T)) (E : GE T A s) (N : NX s) (hX : va_X b Lx xs s s.heap) (hbl : b < s.heap.size) (hbA : ¬ A b) (hLx : Lx ≤ 3072) (hi : i + 6 ≤ Lx) (hkc : kc9 + 210 ≤ kc) (hks : ks9 + 12400 ≤ ks) (hI : LInv T a S L mu g bb sh r q) (K : LK p l e s m args below meth c D A Q T a ar ol od m0 b i kc9 ks9) : GW p l e room_1 s m args below meth c D A 9 601024 7293034 Q (LWW T ol od m0 ar f fd S L r q) kc ks 1470 [(0, .ref b), (1, .ref (a 50)), (2, .ref m0), (3, .ref ol), (4, .ref od), (5, .int (nI i))] [] := by
  obtain ⟨hL, hw, hF, hR, h120⟩ := hI
  refine g_aload_n C dL_law_1470 rfl 1 rfl ?_
  refine gl_arg C hX hbl hbA hLx hi 1 (by decide) (by decide) 0 5 rfl rfl dL_law_1471 dL_law_1472 dL_law_1474 dL_law_1475 dL_law_1476 ?_
  refine gl_ne0 C dL_law_1477 dL_law_1480 dL_law_1481 dL_law_1484 ?_
  refine g_aload_n C dL_law_1485 rfl 3 rfl ?_
  refine gw_perm pmJ ?_
  refine gl_hlp (mk := oJ T) C E N hw hL [.ref (a 50), .int (if xs (i + 1) = 0 then 0 else 1), .ref ol] rfl (h_L_refusal l hst D T (a 50) ol (if xs (i + 1) = 0 then 0 else 1) S f a mu g bb sh (li_x0 hF) ⟨hF, rfl⟩) (w0_SW 3 C.2.2.2.2.1 kw_1309 kw_1310 kw_0 kw_1311 rfl rfl (by decide +kernel) ⟨Nat.le_of_ble_eq_true rfl, Nat.le_of_ble_eq_true rfl⟩) rfl (Nat.le_of_ble_eq_true rfl) (Nat.le_of_ble_eq_true rfl) (Nat.le_of_ble_eq_true rfl) (by omega) (by omega) dL_law_1486 (fun k S1 L1 f1 hx1 hw1 hL1 hp => ?_)
  refine gw_perm pmJ.symm ?_
  refine gw_less (kc' := kc9) (ks' := ks9) (by omega) (by omega) ?_
  refine g_istore (lv' := (6, .int k) :: [(0, .ref b), (1, .ref (a 50)), (2, .ref m0), (3, .ref ol), (4, .ref od), (5, .int (nI i))]) C dL_law_1489 (by decide) rfl ?_
  refine g_aload_n C dL_law_1491 rfl 3 rfl ?_
  refine gl_arg C hX hbl hbA hLx hi 1 (by decide) (by decide) 1 6 rfl rfl dL_law_1492 dL_law_1493 dL_law_1495 dL_law_1496 dL_law_1497 ?_
  refine gl_ne0 C dL_law_1498 dL_law_1501 dL_law_1502 dL_law_1505 ?_
  refine gw_perm pmR ?_
  refine gl_refi C [.int (if xs (i + 1) = 0 then 0 else 1)] rfl (k_X11_refusal l D T m0 ar (if xs (i + 1) = 0 then 0 else 1) r q) (w0_V 1 C.2.2.2.2.1 kw_2235 kw_2236 kw_2237 kw_9 kw_2238 rfl rfl (by decide +kernel) ⟨Nat.le_of_ble_eq_true rfl, Nat.le_of_ble_eq_true rfl⟩) rfl (Nat.le_of_ble_eq_true rfl) (Nat.le_of_ble_eq_true rfl) (Nat.le_of_ble_eq_true rfl) dL_law_1506 (fun v r1 q1 hq => ?_)
  refine gw_perm pmR.symm ?_
  have M := rz_rfs hR hp hq
  exact lc_tail C M.1 M.2.1 dL_law_1509 dL_law_1511 dL_law_1512 dL_law_1515 dL_law_1517 dL_law_1522 dL_law_1524 dL_law_1527 dL_law_1528 dL_law_1529 dL_law_1530 dL_law_1532 dL_law_1533 dL_law_1534 dL_law_1539 (by decide) (lk_out K h120 hx1 hw1 hL1 M.2.2)
set_option maxRecDepth 100000 in
set_option maxHeartbeats 4000000 in
theorem lcs_19 (hst : l.stackTraces = false) (C : GC p s m args meth c code RL (cM :: W0) 9 D A (zty T)) (E : GE T A s) (N : NX s) (hX : va_X b Lx xs s s.heap) (hbl : b < s.heap.size) (hbA : ¬ A b) (hLx : Lx ≤ 3072) (hi : i + 6 ≤ Lx) (hkc : kc9 + 210 ≤ kc) (hks : ks9 + 12400 ≤ ks) (hI : LInv T a S L mu g bb sh r q) (K : LK p l e s m args below meth c D A Q T a ar ol od m0 b i kc9 ks9) : GW p l e room_1 s m args below meth c D A 9 601024 7293034 Q (LWW T ol od m0 ar f fd S L r q) kc ks 1542 [(0, .ref b), (1, .ref (a 50)), (2, .ref m0), (3, .ref ol), (4, .ref od), (5, .int (nI i))] [] := by
  obtain ⟨hL, hw, hF, hR, h120⟩ := hI
  refine g_aload_n C dL_law_1542 rfl 1 rfl ?_
  refine gl_arg C hX hbl hbA hLx hi 1 (by decide) (by decide) 0 5 rfl rfl dL_law_1543 dL_law_1544 dL_law_1546 dL_law_1547 dL_law_1548 ?_
  refine g_aload C dL_law_1549 4 rfl ?_
  refine gw_perm pmD ?_
  refine gl_hlp (mk := oD T) C E N hw hL [.ref (a 50), .int (xs (i + 1)), .ref od] rfl (h_L_meanPrice l hst D T (a 50) od (xs (i + 1)) S fd a mu g bb sh (li_x0 hF) ⟨hF, rfl⟩) (w0_SW 3 C.2.2.2.2.1 kw_1316 kw_1317 kw_0 kw_1318 rfl rfl (by decide +kernel) ⟨Nat.le_of_ble_eq_true rfl, Nat.le_of_ble_eq_true rfl⟩) rfl (Nat.le_of_ble_eq_true rfl) (Nat.le_of_ble_eq_true rfl) (Nat.le_of_ble_eq_true rfl) (by omega) (by omega) dL_law_1551 (fun k S1 L1 f1 hx1 hw1 hL1 hp => ?_)
  refine gw_perm pmD.symm ?_
  refine gw_less (kc' := kc9) (ks' := ks9) (by omega) (by omega) ?_
  refine g_istore (lv' := (6, .int k) :: [(0, .ref b), (1, .ref (a 50)), (2, .ref m0), (3, .ref ol), (4, .ref od), (5, .int (nI i))]) C dL_law_1554 (by decide) rfl ?_
  refine g_aload_n C dL_law_1556 rfl 3 rfl ?_
  refine gl_arg C hX hbl hbA hLx hi 1 (by decide) (by decide) 1 6 rfl rfl dL_law_1557 dL_law_1558 dL_law_1560 dL_law_1561 dL_law_1562 ?_
  refine gw_perm pmR ?_
  refine gl_refd C [.int (xs (i + 1))] rfl (k_X11_meanPrice l D T m0 ar (xs (i + 1)) r q (by rw [hR.1]; exact (rz_gwf hF).1)) (w0_V 1 C.2.2.2.2.1 kw_2239 kw_2240 kw_2241 kw_9 kw_2242 rfl rfl (by decide +kernel) ⟨Nat.le_of_ble_eq_true rfl, Nat.le_of_ble_eq_true rfl⟩) rfl (Nat.le_of_ble_eq_true rfl) (Nat.le_of_ble_eq_true rfl) (Nat.le_of_ble_eq_true rfl) dL_law_1563 (fun v r1 q1 hq => ?_)
  refine gw_perm pmR.symm ?_
  rw [hR.1] at hq
  have M := rz_mean hR hp hq
  refine g_dstore (lv' := [(7, .double v), (6, .int k), (0, .ref b), (1, .ref (a 50)), (2, .ref m0), (3, .ref ol), (4, .ref od), (5, .int (nI i))]) C dL_law_1566 (by decide) rfl ?_
  refine g_aload_n C dL_law_1568 rfl 4 rfl ?_
  refine gw_perm pmR ?_
  refine gl_refi C [] rfl (k_X11_thrown l D T m0 ar r1 q1) (w0_V 0 C.2.2.2.2.1 kw_1936 kw_1937 kw_1938 kw_9 kw_1939 rfl rfl (by decide +kernel) ⟨Nat.le_of_ble_eq_true rfl, Nat.le_of_ble_eq_true rfl⟩) rfl (by decide) (Nat.le_of_ble_eq_true rfl) (Nat.le_of_ble_eq_true rfl) dL_law_1569 (fun t r2 q2 ht => ?_)
  obtain ⟨et, eu⟩ := ht
  cases eu
  refine gw_perm pmR.symm ?_
  refine g_iload C dL_law_1572 1 rfl ?_
  refine g_icmp_eq (tgt := 1579) C dL_law_1574 (by decide) (fun _ => ?_) (fun z => absurd (et.trans M.1) z)
  refine g_iload C dL_law_1579 1 rfl ?_
  have fin : ∀ st9, st9 = [] → GW p l e room_1 s m args below meth c D A 9 601024 7293034 Q (LWW T ol od m0 ar f f1 S1 L1 r1 q1) kc9 ks9 1616 [(7, .double v), (6, .int k), (0, .ref b), (1, .ref (a 50)), (2, .ref m0), (3, .ref ol), (4, .ref od), (5, .int (nI i))] st9 := fun st9 h9 => by
    subst h9
    refine g_goto (tgt := 2328) C dL_law_1616 (by decide) ?_
    refine g_locals [2, 3, 4, 5, 6, 7] rfl ?_
    exact lk_out K h120 hx1 hw1 hL1 M.2.2
  refine g_if_ne (tgt := 1616) C dL_law_1581 (by decide) (fun _ => fin [] rfl) (fun hk => ?_)
  refine g_aload C dL_law_1584 6 rfl ?_
  refine g_iconst (v := 0) C dL_law_1586 (by decide) ?_
  refine gl_dald C 0 rfl dL_law_1587 ?_
  refine g_dload C dL_law_1588 0 rfl ?_
  refine g_dcmp C dL_law_1590 ?_
  rw [M.2.1 hk]
  refine g_if_eq (tgt := 1616) C dL_law_1591 (by decide) (fun _ => fin [] rfl) (fun hz => ?_)
  refine g_aload C dL_law_1594 6 rfl ?_
  refine g_iconst (v := 0) C dL_law_1596 (by decide) ?_
  refine gl_dald C 0 rfl dL_law_1597 ?_
  refine g_aload C dL_law_1598 6 rfl ?_
  refine g_iconst (v := 0) C dL_law_1600 (by decide) ?_
  refine gl_dald C 0 rfl dL_law_1601 ?_
  refine g_dcmp C dL_law_1602 ?_
  rw [M.2.1 hk]
  refine g_if_eq (tgt := 1614) C dL_law_1603 (by decide) (fun z => absurd z hz) (fun _ => ?_)
  refine g_dload C dL_law_1606 0 rfl ?_
  refine g_dload C dL_law_1608 0 rfl ?_
  refine g_dcmp C dL_law_1610 ?_
  exact g_if_ne (tgt := 1616) C dL_law_1611 (by decide) (fun _ => fin [] rfl) (fun z => absurd z hz)
set_option maxRecDepth 100000 in
set_option maxHeartbeats 4000000 in
theorem lcs_20 (hst : l.stackTraces = false) (C : GC p s m args meth c code RL (cM :: W0) 9 D A (zty T)) (E : GE T A s) (N : NX s) (hX : va_X b Lx xs s s.heap) (hbl : b < s.heap.size) (hbA : ¬ A b) (hLx : Lx ≤ 3072) (hi : i + 6 ≤ Lx) (hkc : kc9 + 210 ≤ kc) (hks : ks9 + 12400 ≤ ks) (hI : LInv T a S L mu g bb sh r q) (K : LK p l e s m args below meth c D A Q T a ar ol od m0 b i kc9 ks9) : GW p l e room_1 s m args below meth c D A 9 601024 7293034 Q (LWW T ol od m0 ar f fd S L r q) kc ks 1619 [(0, .ref b), (1, .ref (a 50)), (2, .ref m0), (3, .ref ol), (4, .ref od), (5, .int (nI i))] [] := by
  obtain ⟨hL, hw, hF, hR, h120⟩ := hI
  refine g_aload_n C dL_law_1619 rfl 1 rfl ?_
  refine gl_arg C hX hbl hbA hLx hi 1 (by decide) (by decide) 0 5 rfl rfl dL_law_1620 dL_law_1621 dL_law_1623 dL_law_1624 dL_law_1625 ?_
  refine g_aload_n C dL_law_1626 rfl 3 rfl ?_
  refine gw_perm pmJ ?_
  refine gl_hlp (mk := oJ T) C E N hw hL [.ref (a 50), .int (xs (i + 1)), .ref ol] rfl (h_L_consolidate l hst D T (a 50) ol (xs (i + 1)) S f a mu g bb sh (li_x0 hF) ⟨hF, rfl⟩) (w0_SW 3 C.2.2.2.2.1 kw_1323 kw_1324 kw_0 kw_1325 rfl rfl (by decide +kernel) ⟨Nat.le_of_ble_eq_true rfl, Nat.le_of_ble_eq_true rfl⟩) rfl (Nat.le_of_ble_eq_true rfl) (Nat.le_of_ble_eq_true rfl) (Nat.le_of_ble_eq_true rfl) (by omega) (by omega) dL_law_1627 (fun k S1 L1 f1 hx1 hw1 hL1 hp => ?_)
  refine gw_perm pmJ.symm ?_
  refine gw_less (kc' := kc9) (ks' := ks9) (by omega) (by omega) ?_
  refine g_istore (lv' := (6, .int k) :: [(0, .ref b), (1, .ref (a 50)), (2, .ref m0), (3, .ref ol), (4, .ref od), (5, .int (nI i))]) C dL_law_1630 (by decide) rfl ?_
  refine g_aload_n C dL_law_1632 rfl 3 rfl ?_
  refine gl_arg C hX hbl hbA hLx hi 1 (by decide) (by decide) 1 6 rfl rfl dL_law_1633 dL_law_1634 dL_law_1636 dL_law_1637 dL_law_1638 ?_
  refine gw_perm pmR ?_
  refine gl_refi C [.int (xs (i + 1))] rfl (k_X11_consolidate l D T m0 ar (xs (i + 1)) r q (by rw [hR.1]; exact (rz_gwf hF).1)) (w0_V 1 C.2.2.2.2.1 kw_2243 kw_2244 kw_2245 kw_9 kw_2246 rfl rfl (by decide +kernel) ⟨Nat.le_of_ble_eq_true rfl, Nat.le_of_ble_eq_true rfl⟩) rfl (Nat.le_of_ble_eq_true rfl) (Nat.le_of_ble_eq_true rfl) (Nat.le_of_ble_eq_true rfl) dL_law_1639 (fun v r1 q1 hq => ?_)
  refine gw_perm pmR.symm ?_
  rw [hR.1] at hq
  have M := rz_keep (n := 3) (by decide) hR hp hq.2.1 hq.1 hq.2.2.1 hq.2.2.2.1 hq.2.2.2.2.1 hq.2.2.2.2.2 (by decide)
  exact lc_tail C M.1 M.2.1 dL_law_1642 dL_law_1644 dL_law_1645 dL_law_1648 dL_law_1650 dL_law_1655 dL_law_1657 dL_law_1660 dL_law_1661 dL_law_1662 dL_law_1663 dL_law_1665 dL_law_1666 dL_law_1667 dL_law_1672 (by decide) (lk_out K h120 hx1 hw1 hL1 M.2.2)
set_option maxRecDepth 100000 in
set_option maxHeartbeats 4000000 in
theorem lcs_21 (hst : l.stackTraces = false) (C : GC p s m args meth c code RL (cM :: W0) 9 D A (zty T)) (E : GE T A s) (N : NX s) (hX : va_X b Lx xs s s.heap) (hbl : b < s.heap.size) (hbA : ¬ A b) (hLx : Lx ≤ 3072) (hi : i + 6 ≤ Lx) (hkc : kc9 + 210 ≤ kc) (hks : ks9 + 12400 ≤ ks) (hI : LInv T a S L mu g bb sh r q) (K : LK p l e s m args below meth c D A Q T a ar ol od m0 b i kc9 ks9) : GW p l e room_1 s m args below meth c D A 9 601024 7293034 Q (LWW T ol od m0 ar f fd S L r q) kc ks 1675 [(0, .ref b), (1, .ref (a 50)), (2, .ref m0), (3, .ref ol), (4, .ref od), (5, .int (nI i))] [] := by
  obtain ⟨hL, hw, hF, hR, h120⟩ := hI
  refine g_aload_n C dL_law_1675 rfl 1 rfl ?_
  refine gl_arg C hX hbl hbA hLx hi 1 (by decide) (by decide) 0 5 rfl rfl dL_law_1676 dL_law_1677 dL_law_1679 dL_law_1680 dL_law_1681 ?_
  refine gl_arg C hX hbl hbA hLx hi 2 (by decide) (by decide) 0 5 rfl rfl dL_law_1682 dL_law_1683 dL_law_1685 dL_law_1686 dL_law_1687 ?_
  refine g_aload_n C dL_law_1688 rfl 3 rfl ?_
  refine gw_perm pmJ ?_
  refine gl_hlp (mk := oJ T) C E N hw hL [.ref (a 50), .int (xs (i + 1)), .int (xs (i + 2)), .ref ol] rfl (h_L_group l hst D T (a 50) ol (xs (i + 1)) (xs (i + 2)) S f a mu g bb sh (li_x0 hF) ⟨hF, rfl⟩) (w0_SW 4 C.2.2.2.2.1 kw_1373 kw_1374 kw_0 kw_1375 rfl rfl (by decide +kernel) ⟨Nat.le_of_ble_eq_true rfl, Nat.le_of_ble_eq_true rfl⟩) rfl (Nat.le_of_ble_eq_true rfl) (Nat.le_of_ble_eq_true rfl) (Nat.le_of_ble_eq_true rfl) (by omega) (by omega) dL_law_1689 (fun k S1 L1 f1 hx1 hw1 hL1 hp => ?_)
  refine gw_perm pmJ.symm ?_
  refine gw_less (kc' := kc9) (ks' := ks9) (by omega) (by omega) ?_
  refine g_istore (lv' := (6, .int k) :: [(0, .ref b), (1, .ref (a 50)), (2, .ref m0), (3, .ref ol), (4, .ref od), (5, .int (nI i))]) C dL_law_1692 (by decide) rfl ?_
  refine g_aload_n C dL_law_1694 rfl 3 rfl ?_
  refine gl_arg C hX hbl hbA hLx hi 1 (by decide) (by decide) 1 6 rfl rfl dL_law_1695 dL_law_1696 dL_law_1698 dL_law_1699 dL_law_1700 ?_
  refine gl_arg C hX hbl hbA hLx hi 2 (by decide) (by decide) 1 6 rfl rfl dL_law_1701 dL_law_1702 dL_law_1704 dL_law_1705 dL_law_1706 ?_
  refine gw_perm pmR ?_
  refine gl_refi C [.int (xs (i + 1)), .int (xs (i + 2))] rfl (k_X11_group l D T m0 ar (xs (i + 1)) (xs (i + 2)) r q (by rw [hR.1]; exact (rz_gwf hF).1)) (w0_V 2 C.2.2.2.2.1 kw_2267 kw_2268 kw_2269 kw_9 kw_2270 rfl rfl (by decide +kernel) ⟨Nat.le_of_ble_eq_true rfl, Nat.le_of_ble_eq_true rfl⟩) rfl (Nat.le_of_ble_eq_true rfl) (Nat.le_of_ble_eq_true rfl) (Nat.le_of_ble_eq_true rfl) dL_law_1707 (fun v r1 q1 hq => ?_)
  refine gw_perm pmR.symm ?_
  rw [hR.1] at hq
  have M := rz_read hR hp hq.2.1 hq.1 hq.2.2.1 hq.2.2.2 (by decide)
  exact lc_tail C M.1 M.2.1 dL_law_1710 dL_law_1712 dL_law_1713 dL_law_1716 dL_law_1718 dL_law_1723 dL_law_1725 dL_law_1728 dL_law_1729 dL_law_1730 dL_law_1731 dL_law_1733 dL_law_1734 dL_law_1735 dL_law_1740 (by decide) (lk_out K h120 hx1 hw1 hL1 M.2.2)
end LCSM
