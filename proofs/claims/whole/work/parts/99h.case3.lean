/-! the cases of the law: laid by wip/gen/law.py -/
set_option maxHeartbeats 4000000 in
set_option maxRecDepth 100000 in
theorem law_c14 {p : Program} {l : Launch} {e : Env} {s : State} {m : MethodId} {below : List Frame} {meth : Method} {c : Code} {H : Heap} {locs : List Loc} {cells slots : Nat} {Q : State → Prop} {ls : Array Slot} {b L i : Nat} {xs : Nat → Int32} {D : va_G} {cs : Nat → ClassId} {ad am : Nat → Nat} {o : Nat} {f : Nat → Int64} {M N : wM} {J K : wJ} (Cx : lwK p l s m c b L xs D cs) (hi : i + 7 ≤ L) (h1 : cells + 6 ≤ 601024) (h2 : slots + 36 ≤ 7293034) (hc : lC D (lAq s) s.heap (wL cs ad o f M J ++ wW 23 mSh am cs N K) H locs) (hS : Sim M N) (hl : lv_has ls 7 (lv0 b ad am o i)) (kk : lwE p l e s m below meth c b D cs ad am o i (cells + 6) (slots + 36) Q) : W p l e room_1 s m #[Value.ref b] below meth c H locs cells slots Q (F0 m 1050 ls []) := by
  obtain ⟨hF, hflag, hK, hZ, hX, hbl, hL⟩ := id Cx
  obtain ⟨hx, hb, hml, hown, hts⟩ := id hF
  obtain ⟨cnt, t, d, n, sc, hs⟩ := hS
  have hA : ∀ q : Nat, s.heap.size ≤ q → lAq s q := fun _ h => h
  refine lv_aload_n hx hb dL_law_1050 rfl (lv_at hl 1 rfl) ?_
  refine lw_arg (k := 1) Cx hi (by decide) (lv_at hl 0 rfl) (lv_at hl 4 rfl) hc.2.2 dL_law_1051 dL_law_1052 dL_law_1054 (by decide) dL_law_1055 dL_law_1056 ?_
  refine lw_arg (k := 2) Cx hi (by decide) (lv_at hl 0 rfl) (lv_at hl 4 rfl) hc.2.2 dL_law_1057 dL_law_1058 dL_law_1060 (by decide) dL_law_1061 dL_law_1062 ?_
  refine lw_arg (k := 3) Cx hi (by decide) (lv_at hl 0 rfl) (lv_at hl 4 rfl) hc.2.2 dL_law_1063 dL_law_1064 dL_law_1066 (by decide) dL_law_1067 dL_law_1068 ?_
  refine lw_bool Cx dL_law_1069 dL_law_1072 dL_law_1073 dL_law_1076 ?_
  refine lv_aload_n hx hb dL_law_1077 rfl (lv_at hl 3 rfl) ?_
  refine fr_L (As := [.ref (ad 329), .int (xs (i + 1)), .int (xs (i + 2)), .int (if xs (i + 3) = 0 then nI 0 else nI 1), .ref o]) (rest := []) (mc := 4) (ms := 24) (post := wX_exit M J (xs (i + 1)) (xs (i + 2)) (if xs (i + 3) = 0 then nI 0 else nI 1) cnt) hF (vx_cwSW 5 hts gL_law_L_exit rfl rfl rfl (by decide +kernel) ⟨(Nat.le_of_ble_eq_true rfl), (Nat.le_of_ble_eq_true rfl)⟩) hK hA hZ hc (k_L_exit l hflag D ad cs o f M J (xs (i + 1)) (xs (i + 2)) (if xs (i + 3) = 0 then nI 0 else nI 1) cnt hs.1.cM hs.1.c16) rfl rfl hl.1 (Nat.le_of_ble_eq_true rfl) ⟨(by show cells + 4 ≤ 601024; omega), (by show slots + 24 ≤ 7293034; omega)⟩ dL_law_1078 (fun k M1 J1 f1 H1 locs1 hw hc => ?_)
  refine lv_istore (lv' := (5, .int k) :: lv0 b ad am o i) hx hb dL_law_1081 hl (by decide) rfl (fun ls hl => ?_)
  refine lv_aload_n hx hb dL_law_1083 rfl (lv_at hl 3 rfl) ?_
  refine lw_arg (k := 1) Cx hi (by decide) (lv_at hl 1 rfl) (lv_at hl 5 rfl) hc.2.2 dL_law_1084 dL_law_1085 dL_law_1087 (by decide) dL_law_1088 dL_law_1089 ?_
  refine lw_arg (k := 2) Cx hi (by decide) (lv_at hl 1 rfl) (lv_at hl 5 rfl) hc.2.2 dL_law_1090 dL_law_1091 dL_law_1093 (by decide) dL_law_1094 dL_law_1095 ?_
  refine lw_arg (k := 3) Cx hi (by decide) (lv_at hl 1 rfl) (lv_at hl 5 rfl) hc.2.2 dL_law_1096 dL_law_1097 dL_law_1099 (by decide) dL_law_1100 dL_law_1101 ?_
  refine lw_bool Cx dL_law_1102 dL_law_1105 dL_law_1106 dL_law_1109 ?_
  refine fr_Vi (sh := mSh) (ad := am) (k := 0) (As := [.int (xs (i + 1)), .int (xs (i + 2)), .int (if xs (i + 3) = 0 then nI 0 else nI 1)]) (rest := []) (post := qM_exit N K (xs (i + 1)) (xs (i + 2)) (if xs (i + 3) = 0 then nI 0 else nI 1) cnt t) hF (cwV 3 hts gL_law_X9_exit rfl rfl rfl (by decide +kernel) ⟨(Nat.le_of_ble_eq_true rfl), (Nat.le_of_ble_eq_true rfl)⟩) hK hA (lC_perm hc List.perm_append_comm) (k_X9_exit l D am cs _ N K (xs (i + 1)) (xs (i + 2)) (if xs (i + 3) = 0 then nI 0 else nI 1) cnt t hs.1.m) (by decide) rfl rfl rfl rfl hl.1 (Nat.le_of_ble_eq_true rfl) ⟨(by show cells + 4 ≤ 601024; omega), (by show slots + 24 ≤ 7293034; omega)⟩ dL_law_1110 (fun b9 N1 K1 H2 locs2 hm hc => ?_)
  exact lw_tI (P := 1113) Cx (lC_perm hc List.perm_append_comm) (St_exit hs hw hm) hl (by omega) (by omega) (by omega) (by omega) kk dL_law_1113 dL_law_1115 dL_law_1116 dL_law_1119 dL_law_1121 dL_law_1126 dL_law_1128 dL_law_1131 dL_law_1132 dL_law_1133 dL_law_1134 dL_law_1136 dL_law_1137 dL_law_1138 dL_law_1143 (by decide)
set_option maxHeartbeats 4000000 in
set_option maxRecDepth 100000 in
theorem law_c15 {p : Program} {l : Launch} {e : Env} {s : State} {m : MethodId} {below : List Frame} {meth : Method} {c : Code} {H : Heap} {locs : List Loc} {cells slots : Nat} {Q : State → Prop} {ls : Array Slot} {b L i : Nat} {xs : Nat → Int32} {D : va_G} {cs : Nat → ClassId} {ad am : Nat → Nat} {o : Nat} {f : Nat → Int64} {M N : wM} {J K : wJ} (Cx : lwK p l s m c b L xs D cs) (hi : i + 7 ≤ L) (h1 : cells + 6 ≤ 601024) (h2 : slots + 36 ≤ 7293034) (hc : lC D (lAq s) s.heap (wL cs ad o f M J ++ wW 23 mSh am cs N K) H locs) (hS : Sim M N) (hl : lv_has ls 7 (lv0 b ad am o i)) (kk : lwE p l e s m below meth c b D cs ad am o i (cells + 6) (slots + 36) Q) : W p l e room_1 s m #[Value.ref b] below meth c H locs cells slots Q (F0 m 1146 ls []) := by
  obtain ⟨hF, hflag, hK, hZ, hX, hbl, hL⟩ := id Cx
  obtain ⟨hx, hb, hml, hown, hts⟩ := id hF
  obtain ⟨cnt, t, d, n, sc, hs⟩ := hS
  have hA : ∀ q : Nat, s.heap.size ≤ q → lAq s q := fun _ h => h
  refine lv_aload_n hx hb dL_law_1146 rfl (lv_at hl 1 rfl) ?_
  refine lw_arg (k := 1) Cx hi (by decide) (lv_at hl 0 rfl) (lv_at hl 4 rfl) hc.2.2 dL_law_1147 dL_law_1148 dL_law_1150 (by decide) dL_law_1151 dL_law_1152 ?_
  refine lw_arg (k := 2) Cx hi (by decide) (lv_at hl 0 rfl) (lv_at hl 4 rfl) hc.2.2 dL_law_1153 dL_law_1154 dL_law_1156 (by decide) dL_law_1157 dL_law_1158 ?_
  refine lv_aload_n hx hb dL_law_1159 rfl (lv_at hl 3 rfl) ?_
  refine fr_L (As := [.ref (ad 329), .int (xs (i + 1)), .int (xs (i + 2)), .ref o]) (rest := []) (mc := 3) (ms := 18) (post := wX_isDead M J (xs (i + 1)) (xs (i + 2)) cnt) hF (vx_cwSW 4 hts gL_law_L_isDead rfl rfl rfl (by decide +kernel) ⟨(Nat.le_of_ble_eq_true rfl), (Nat.le_of_ble_eq_true rfl)⟩) hK hA hZ hc (k_L_isDead l hflag D ad cs o f M J (xs (i + 1)) (xs (i + 2)) cnt hs.1.cM hs.1.c16 (fun b hb => (hs.1.pr.2.2.1 b hb).2) hs.2.1) rfl rfl hl.1 (Nat.le_of_ble_eq_true rfl) ⟨(by show cells + 3 ≤ 601024; omega), (by show slots + 18 ≤ 7293034; omega)⟩ dL_law_1160 (fun k M1 J1 f1 H1 locs1 hw hc => ?_)
  refine lv_istore (lv' := (5, .int k) :: lv0 b ad am o i) hx hb dL_law_1163 hl (by decide) rfl (fun ls hl => ?_)
  refine lv_aload_n hx hb dL_law_1165 rfl (lv_at hl 3 rfl) ?_
  refine lw_arg (k := 1) Cx hi (by decide) (lv_at hl 1 rfl) (lv_at hl 5 rfl) hc.2.2 dL_law_1166 dL_law_1167 dL_law_1169 (by decide) dL_law_1170 dL_law_1171 ?_
  refine lw_arg (k := 2) Cx hi (by decide) (lv_at hl 1 rfl) (lv_at hl 5 rfl) hc.2.2 dL_law_1172 dL_law_1173 dL_law_1175 (by decide) dL_law_1176 dL_law_1177 ?_
  refine fr_Vi (sh := mSh) (ad := am) (k := 0) (As := [.int (xs (i + 1)), .int (xs (i + 2))]) (rest := []) (post := qM_isDead N K (xs (i + 1)) (xs (i + 2)) cnt t) hF (cwV 2 hts gL_law_X9_isDead rfl rfl rfl (by decide +kernel) ⟨(Nat.le_of_ble_eq_true rfl), (Nat.le_of_ble_eq_true rfl)⟩) hK hA (lC_perm hc List.perm_append_comm) (k_X9_isDead l D am cs _ N K (xs (i + 1)) (xs (i + 2)) cnt t hs.1.m) (by decide) rfl rfl rfl rfl hl.1 (Nat.le_of_ble_eq_true rfl) ⟨(by show cells + 3 ≤ 601024; omega), (by show slots + 18 ≤ 7293034; omega)⟩ dL_law_1178 (fun b9 N1 K1 H2 locs2 hm hc => ?_)
  exact lw_tZ (P := 1181) Cx (lC_perm hc List.perm_append_comm) (St_isDead hs hw hm) hl (by omega) (by omega) (by omega) (by omega) kk dL_law_1181 dL_law_1183 dL_law_1184 dL_law_1187 dL_law_1189 dL_law_1194 dL_law_1196 dL_law_1199 dL_law_1200 dL_law_1201 dL_law_1202 dL_law_1204 dL_law_1207 dL_law_1208 dL_law_1211 dL_law_1212 dL_law_1213 dL_law_1218 (by decide)
set_option maxHeartbeats 4000000 in
set_option maxRecDepth 100000 in
theorem law_c16 {p : Program} {l : Launch} {e : Env} {s : State} {m : MethodId} {below : List Frame} {meth : Method} {c : Code} {H : Heap} {locs : List Loc} {cells slots : Nat} {Q : State → Prop} {ls : Array Slot} {b L i : Nat} {xs : Nat → Int32} {D : va_G} {cs : Nat → ClassId} {ad am : Nat → Nat} {o : Nat} {f : Nat → Int64} {M N : wM} {J K : wJ} (Cx : lwK p l s m c b L xs D cs) (hi : i + 7 ≤ L) (h1 : cells + 6 ≤ 601024) (h2 : slots + 36 ≤ 7293034) (hc : lC D (lAq s) s.heap (wL cs ad o f M J ++ wW 23 mSh am cs N K) H locs) (hS : Sim M N) (hl : lv_has ls 7 (lv0 b ad am o i)) (kk : lwE p l e s m below meth c b D cs ad am o i (cells + 6) (slots + 36) Q) : W p l e room_1 s m #[Value.ref b] below meth c H locs cells slots Q (F0 m 1221 ls []) := by
  obtain ⟨hF, hflag, hK, hZ, hX, hbl, hL⟩ := id Cx
  obtain ⟨hx, hb, hml, hown, hts⟩ := id hF
  obtain ⟨cnt, t, d, n, sc, hs⟩ := hS
  have hA : ∀ q : Nat, s.heap.size ≤ q → lAq s q := fun _ h => h
  refine lv_aload_n hx hb dL_law_1221 rfl (lv_at hl 1 rfl) ?_
  refine lv_aload_n hx hb dL_law_1222 rfl (lv_at hl 3 rfl) ?_
  refine fr_L (As := [.ref (ad 329), .ref o]) (rest := []) (mc := 1) (ms := 6) (post := wX_deadEdges M J cnt) hF (vx_cwSW 2 hts gL_law_L_deadEdges rfl rfl rfl (by decide +kernel) ⟨(Nat.le_of_ble_eq_true rfl), (Nat.le_of_ble_eq_true rfl)⟩) hK hA hZ hc (k_L_deadEdges l hflag D ad cs o f M J cnt hs.1.cM hs.1.c16 (fun b hb => (hs.1.pr.2.2.1 b hb).2)) rfl rfl hl.1 (Nat.le_of_ble_eq_true rfl) ⟨(by show cells + 1 ≤ 601024; omega), (by show slots + 6 ≤ 7293034; omega)⟩ dL_law_1223 (fun k M1 J1 f1 H1 locs1 hw hc => ?_)
  refine lv_istore (lv' := (5, .int k) :: lv0 b ad am o i) hx hb dL_law_1226 hl (by decide) rfl (fun ls hl => ?_)
  refine lv_aload_n hx hb dL_law_1228 rfl (lv_at hl 3 rfl) ?_
  refine fr_Vi (sh := mSh) (ad := am) (k := 0) (As := []) (rest := []) (post := qM_deadEdges N K cnt t) hF (cwV 0 hts gL_law_X9_deadEdges rfl rfl rfl (by decide +kernel) ⟨(Nat.le_of_ble_eq_true rfl), (Nat.le_of_ble_eq_true rfl)⟩) hK hA (lC_perm hc List.perm_append_comm) (k_X9_deadEdges l D am cs _ N K cnt t hs.1.m) (by decide) rfl rfl rfl rfl hl.1 (Nat.le_of_ble_eq_true rfl) ⟨(by show cells + 1 ≤ 601024; omega), (by show slots + 6 ≤ 7293034; omega)⟩ dL_law_1229 (fun b9 N1 K1 H2 locs2 hm hc => ?_)
  exact lw_tI (P := 1232) Cx (lC_perm hc List.perm_append_comm) (St_deadEdges hs hw hm) hl (by omega) (by omega) (by omega) (by omega) kk dL_law_1232 dL_law_1234 dL_law_1235 dL_law_1238 dL_law_1240 dL_law_1245 dL_law_1247 dL_law_1250 dL_law_1251 dL_law_1252 dL_law_1253 dL_law_1255 dL_law_1256 dL_law_1257 dL_law_1262 (by decide)
set_option maxHeartbeats 4000000 in
set_option maxRecDepth 100000 in
theorem law_c17 {p : Program} {l : Launch} {e : Env} {s : State} {m : MethodId} {below : List Frame} {meth : Method} {c : Code} {H : Heap} {locs : List Loc} {cells slots : Nat} {Q : State → Prop} {ls : Array Slot} {b L i : Nat} {xs : Nat → Int32} {D : va_G} {cs : Nat → ClassId} {ad am : Nat → Nat} {o : Nat} {f : Nat → Int64} {M N : wM} {J K : wJ} (Cx : lwK p l s m c b L xs D cs) (hi : i + 7 ≤ L) (h1 : cells + 6 ≤ 601024) (h2 : slots + 36 ≤ 7293034) (hc : lC D (lAq s) s.heap (wL cs ad o f M J ++ wW 23 mSh am cs N K) H locs) (hS : Sim M N) (hl : lv_has ls 7 (lv0 b ad am o i)) (kk : lwE p l e s m below meth c b D cs ad am o i (cells + 6) (slots + 36) Q) : W p l e room_1 s m #[Value.ref b] below meth c H locs cells slots Q (F0 m 1265 ls []) := by
  obtain ⟨hF, hflag, hK, hZ, hX, hbl, hL⟩ := id Cx
  obtain ⟨hx, hb, hml, hown, hts⟩ := id hF
  obtain ⟨cnt, t, d, n, sc, hs⟩ := hS
  have hA : ∀ q : Nat, s.heap.size ≤ q → lAq s q := fun _ h => h
  refine lv_aload_n hx hb dL_law_1265 rfl (lv_at hl 1 rfl) ?_
  refine lw_arg (k := 1) Cx hi (by decide) (lv_at hl 0 rfl) (lv_at hl 4 rfl) hc.2.2 dL_law_1266 dL_law_1267 dL_law_1269 (by decide) dL_law_1270 dL_law_1271 ?_
  refine lv_aload_n hx hb dL_law_1272 rfl (lv_at hl 3 rfl) ?_
  refine fr_L (As := [.ref (ad 329), .int (xs (i + 1)), .ref o]) (rest := []) (mc := 2) (ms := 12) (post := wX_constants M J (xs (i + 1)) cnt) hF (vx_cwSW 3 hts gL_law_L_constants rfl rfl rfl (by decide +kernel) ⟨(Nat.le_of_ble_eq_true rfl), (Nat.le_of_ble_eq_true rfl)⟩) hK hA hZ hc (k_L_constants l hflag D ad cs o f M J (xs (i + 1)) cnt hs.1.cM hs.1.c16) rfl rfl hl.1 (Nat.le_of_ble_eq_true rfl) ⟨(by show cells + 2 ≤ 601024; omega), (by show slots + 12 ≤ 7293034; omega)⟩ dL_law_1273 (fun k M1 J1 f1 H1 locs1 hw hc => ?_)
  refine lv_istore (lv' := (5, .int k) :: lv0 b ad am o i) hx hb dL_law_1276 hl (by decide) rfl (fun ls hl => ?_)
  refine lv_aload_n hx hb dL_law_1278 rfl (lv_at hl 3 rfl) ?_
  refine lw_arg (k := 1) Cx hi (by decide) (lv_at hl 1 rfl) (lv_at hl 5 rfl) hc.2.2 dL_law_1279 dL_law_1280 dL_law_1282 (by decide) dL_law_1283 dL_law_1284 ?_
  refine fr_Vi (sh := mSh) (ad := am) (k := 0) (As := [.int (xs (i + 1))]) (rest := []) (post := qM_constants N K (xs (i + 1)) cnt t) hF (cwV 1 hts gL_law_X9_constants rfl rfl rfl (by decide +kernel) ⟨(Nat.le_of_ble_eq_true rfl), (Nat.le_of_ble_eq_true rfl)⟩) hK hA (lC_perm hc List.perm_append_comm) (k_X9_constants l D am cs _ N K (xs (i + 1)) cnt t hs.1.m) (by decide) rfl rfl rfl rfl hl.1 (Nat.le_of_ble_eq_true rfl) ⟨(by show cells + 2 ≤ 601024; omega), (by show slots + 12 ≤ 7293034; omega)⟩ dL_law_1285 (fun b9 N1 K1 H2 locs2 hm hc => ?_)
  exact lw_tI (P := 1288) Cx (lC_perm hc List.perm_append_comm) (St_constants hs hw hm) hl (by omega) (by omega) (by omega) (by omega) kk dL_law_1288 dL_law_1290 dL_law_1291 dL_law_1294 dL_law_1296 dL_law_1301 dL_law_1303 dL_law_1306 dL_law_1307 dL_law_1308 dL_law_1309 dL_law_1311 dL_law_1312 dL_law_1313 dL_law_1318 (by decide)
set_option maxHeartbeats 4000000 in
set_option maxRecDepth 100000 in
theorem law_c18 {p : Program} {l : Launch} {e : Env} {s : State} {m : MethodId} {below : List Frame} {meth : Method} {c : Code} {H : Heap} {locs : List Loc} {cells slots : Nat} {Q : State → Prop} {ls : Array Slot} {b L i : Nat} {xs : Nat → Int32} {D : va_G} {cs : Nat → ClassId} {ad am : Nat → Nat} {o : Nat} {f : Nat → Int64} {M N : wM} {J K : wJ} (Cx : lwK p l s m c b L xs D cs) (hi : i + 7 ≤ L) (h1 : cells + 6 ≤ 601024) (h2 : slots + 36 ≤ 7293034) (hc : lC D (lAq s) s.heap (wL cs ad o f M J ++ wW 23 mSh am cs N K) H locs) (hS : Sim M N) (hl : lv_has ls 7 (lv0 b ad am o i)) (kk : lwE p l e s m below meth c b D cs ad am o i (cells + 6) (slots + 36) Q) : W p l e room_1 s m #[Value.ref b] below meth c H locs cells slots Q (F0 m 1321 ls []) := by
  obtain ⟨hF, hflag, hK, hZ, hX, hbl, hL⟩ := id Cx
  obtain ⟨hx, hb, hml, hown, hts⟩ := id hF
  obtain ⟨cnt, t, d, n, sc, hs⟩ := hS
  have hA : ∀ q : Nat, s.heap.size ≤ q → lAq s q := fun _ h => h
  refine lv_aload_n hx hb dL_law_1321 rfl (lv_at hl 1 rfl) ?_
  refine lw_arg (k := 1) Cx hi (by decide) (lv_at hl 0 rfl) (lv_at hl 4 rfl) hc.2.2 dL_law_1322 dL_law_1323 dL_law_1325 (by decide) dL_law_1326 dL_law_1327 ?_
  refine lv_aload_n hx hb dL_law_1328 rfl (lv_at hl 3 rfl) ?_
  refine fr_L (As := [.ref (ad 329), .int (xs (i + 1)), .ref o]) (rest := []) (mc := 2) (ms := 12) (post := wX_visits M J (xs (i + 1)) cnt) hF (vx_cwSW 3 hts gL_law_L_visits rfl rfl rfl (by decide +kernel) ⟨(Nat.le_of_ble_eq_true rfl), (Nat.le_of_ble_eq_true rfl)⟩) hK hA hZ hc (k_L_visits l hflag D ad cs o f M J (xs (i + 1)) cnt hs.1.cM hs.1.c16) rfl rfl hl.1 (Nat.le_of_ble_eq_true rfl) ⟨(by show cells + 2 ≤ 601024; omega), (by show slots + 12 ≤ 7293034; omega)⟩ dL_law_1329 (fun k M1 J1 f1 H1 locs1 hw hc => ?_)
  refine lv_istore (lv' := (5, .int k) :: lv0 b ad am o i) hx hb dL_law_1332 hl (by decide) rfl (fun ls hl => ?_)
  refine lv_aload_n hx hb dL_law_1334 rfl (lv_at hl 3 rfl) ?_
  refine lw_arg (k := 1) Cx hi (by decide) (lv_at hl 1 rfl) (lv_at hl 5 rfl) hc.2.2 dL_law_1335 dL_law_1336 dL_law_1338 (by decide) dL_law_1339 dL_law_1340 ?_
  refine fr_Vi (sh := mSh) (ad := am) (k := 0) (As := [.int (xs (i + 1))]) (rest := []) (post := qM_visits N K (xs (i + 1)) cnt) hF (cwV 1 hts gL_law_X9_visits rfl rfl rfl (by decide +kernel) ⟨(Nat.le_of_ble_eq_true rfl), (Nat.le_of_ble_eq_true rfl)⟩) hK hA (lC_perm hc List.perm_append_comm) (k_X9_visits l D am cs _ N K (xs (i + 1)) cnt hs.1.cN hs.1.c16) (by decide) rfl rfl rfl rfl hl.1 (Nat.le_of_ble_eq_true rfl) ⟨(by show cells + 2 ≤ 601024; omega), (by show slots + 12 ≤ 7293034; omega)⟩ dL_law_1341 (fun b9 N1 K1 H2 locs2 hm hc => ?_)
  exact lw_tI (P := 1344) Cx (lC_perm hc List.perm_append_comm) (St_visits hs hw hm) hl (by omega) (by omega) (by omega) (by omega) kk dL_law_1344 dL_law_1346 dL_law_1347 dL_law_1350 dL_law_1352 dL_law_1357 dL_law_1359 dL_law_1362 dL_law_1363 dL_law_1364 dL_law_1365 dL_law_1367 dL_law_1368 dL_law_1369 dL_law_1374 (by decide)
set_option maxHeartbeats 4000000 in
set_option maxRecDepth 100000 in
theorem law_c19 {p : Program} {l : Launch} {e : Env} {s : State} {m : MethodId} {below : List Frame} {meth : Method} {c : Code} {H : Heap} {locs : List Loc} {cells slots : Nat} {Q : State → Prop} {ls : Array Slot} {b L i : Nat} {xs : Nat → Int32} {D : va_G} {cs : Nat → ClassId} {ad am : Nat → Nat} {o : Nat} {f : Nat → Int64} {M N : wM} {J K : wJ} (Cx : lwK p l s m c b L xs D cs) (hi : i + 7 ≤ L) (h1 : cells + 6 ≤ 601024) (h2 : slots + 36 ≤ 7293034) (hc : lC D (lAq s) s.heap (wL cs ad o f M J ++ wW 23 mSh am cs N K) H locs) (hS : Sim M N) (hl : lv_has ls 7 (lv0 b ad am o i)) (kk : lwE p l e s m below meth c b D cs ad am o i (cells + 6) (slots + 36) Q) : W p l e room_1 s m #[Value.ref b] below meth c H locs cells slots Q (F0 m 1377 ls []) := by
  obtain ⟨hF, hflag, hK, hZ, hX, hbl, hL⟩ := id Cx
  obtain ⟨hx, hb, hml, hown, hts⟩ := id hF
  obtain ⟨cnt, t, d, n, sc, hs⟩ := hS
  have hA : ∀ q : Nat, s.heap.size ≤ q → lAq s q := fun _ h => h
  refine lv_aload_n hx hb dL_law_1377 rfl (lv_at hl 1 rfl) ?_
  refine lw_arg (k := 1) Cx hi (by decide) (lv_at hl 0 rfl) (lv_at hl 4 rfl) hc.2.2 dL_law_1378 dL_law_1379 dL_law_1381 (by decide) dL_law_1382 dL_law_1383 ?_
  refine lv_i2l hx hb dL_law_1384 rfl ?_
  refine lv_bipush (v := nI 32) hx hb dL_law_1385 (by decide) ?_
  refine lv_lshl hx hb dL_law_1387 rfl ?_
  refine lw_arg (k := 2) Cx hi (by decide) (lv_at hl 0 rfl) (lv_at hl 4 rfl) hc.2.2 dL_law_1388 dL_law_1389 dL_law_1391 (by decide) dL_law_1392 dL_law_1393 ?_
  refine lv_i2l hx hb dL_law_1394 rfl ?_
  refine lv_ldc2 (v := 4294967295) hx hb hown (hts (.constantLong RL 166 4294967295) (by decide +kernel)) dL_law_1395 ?_
  refine lv_land hx hb dL_law_1398 ?_
  refine lv_lor hx hb dL_law_1399 ?_
  refine lw_arg (k := 3) Cx hi (by decide) (lv_at hl 0 rfl) (lv_at hl 4 rfl) hc.2.2 dL_law_1400 dL_law_1401 dL_law_1403 (by decide) dL_law_1404 dL_law_1405 ?_
  refine lv_aload_n hx hb dL_law_1406 rfl (lv_at hl 3 rfl) ?_
  refine fr_L (As := [.ref (ad 329), .long (sdL (xs (i + 1)) (xs (i + 2))), .int (xs (i + 3)), .ref o]) (rest := []) (mc := 1) (ms := 6) (post := wX_run M J (sdL (xs (i + 1)) (xs (i + 2))) (xs (i + 3))) hF (vx_cwSW 4 hts gL_law_L_run rfl rfl rfl (by decide +kernel) ⟨(Nat.le_of_ble_eq_true rfl), (Nat.le_of_ble_eq_true rfl)⟩) hK hA hZ hc (k_L_run l hflag D ad cs o f M J (sdL (xs (i + 1)) (xs (i + 2))) (xs (i + 3)) hs.1.pr.2.2.1 hs.1.fo) rfl rfl hl.1 (Nat.le_of_ble_eq_true rfl) ⟨(by show cells + 1 ≤ 601024; omega), (by show slots + 6 ≤ 7293034; omega)⟩ dL_law_1407 (fun k M1 J1 f1 H1 locs1 hw hc => ?_)
  refine lv_istore (lv' := (5, .int k) :: lv0 b ad am o i) hx hb dL_law_1410 hl (by decide) rfl (fun ls hl => ?_)
  refine lv_aload_n hx hb dL_law_1412 rfl (lv_at hl 3 rfl) ?_
  refine lw_arg (k := 1) Cx hi (by decide) (lv_at hl 1 rfl) (lv_at hl 5 rfl) hc.2.2 dL_law_1413 dL_law_1414 dL_law_1416 (by decide) dL_law_1417 dL_law_1418 ?_
  refine lv_i2l hx hb dL_law_1419 rfl ?_
  refine lv_bipush (v := nI 32) hx hb dL_law_1420 (by decide) ?_
  refine lv_lshl hx hb dL_law_1422 rfl ?_
  refine lw_arg (k := 2) Cx hi (by decide) (lv_at hl 1 rfl) (lv_at hl 5 rfl) hc.2.2 dL_law_1423 dL_law_1424 dL_law_1426 (by decide) dL_law_1427 dL_law_1428 ?_
  refine lv_i2l hx hb dL_law_1429 rfl ?_
  refine lv_ldc2 (v := 4294967295) hx hb hown (hts (.constantLong RL 166 4294967295) (by decide +kernel)) dL_law_1430 ?_
  refine lv_land hx hb dL_law_1433 ?_
  refine lv_lor hx hb dL_law_1434 ?_
  refine lw_arg (k := 3) Cx hi (by decide) (lv_at hl 1 rfl) (lv_at hl 5 rfl) hc.2.2 dL_law_1435 dL_law_1436 dL_law_1438 (by decide) dL_law_1439 dL_law_1440 ?_
  refine fr_Vi (sh := mSh) (ad := am) (k := 0) (As := [.long (sdL (xs (i + 1)) (xs (i + 2))), .int (xs (i + 3))]) (rest := []) (post := qM_run N K (sdL (xs (i + 1)) (xs (i + 2))) (xs (i + 3)) cnt t) hF (cwV 2 hts gL_law_X9_run rfl rfl rfl (by decide +kernel) ⟨(Nat.le_of_ble_eq_true rfl), (Nat.le_of_ble_eq_true rfl)⟩) hK hA (lC_perm hc List.perm_append_comm) (k_X9_run l D am cs _ N K (sdL (xs (i + 1)) (xs (i + 2))) (xs (i + 3)) cnt t hs.1.m hs.1.x) (by decide) rfl rfl rfl rfl hl.1 (Nat.le_of_ble_eq_true rfl) ⟨(by show cells + 1 ≤ 601024; omega), (by show slots + 6 ≤ 7293034; omega)⟩ dL_law_1441 (fun b9 N1 K1 H2 locs2 hm hc => ?_)
  exact lw_tI (P := 1444) Cx (lC_perm hc List.perm_append_comm) (St_run hs hw hm) hl (by omega) (by omega) (by omega) (by omega) kk dL_law_1444 dL_law_1446 dL_law_1447 dL_law_1450 dL_law_1452 dL_law_1457 dL_law_1459 dL_law_1462 dL_law_1463 dL_law_1464 dL_law_1465 dL_law_1467 dL_law_1468 dL_law_1469 dL_law_1474 (by decide)
