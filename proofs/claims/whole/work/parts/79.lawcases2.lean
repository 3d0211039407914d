/-! ===== the law's cases ===== -/
set_option maxRecDepth 100000 in
set_option maxHeartbeats 4000000 in
theorem law_12 {G : zG} {l : Launch} {et : List ExceptionTableEntry} {ini : Prop} {X : zXT} {kc ks b L i n : Nat} {xs : Nat → Int32} {Z : zM} {sb : Nat → Option Nat} {mcn : Nat → Int32} {cp : Nat → Nat} {th : Int32} {o : Nat → Int64} {od : Nat → UInt64} {ad : Nat → Nat} (O : zLaw G l et ini X) (hl : l.stackTraces = false) (S : zSld G X b L xs) (J : jJ n Z sb cp) (hn : n ≤ 511) (hi : i + 6 ≤ L) (hkc : kc + 9 ≤ 603072) (hks : ks + 60 ≤ 7219306) (kk : zKK G X kc ks b i n) : zV G X 9 kc ks 1071 (zB b i ad) [] (zent Z sb mcn cp G.2.2.2.1 Z th o od ad) ad := by
  have hh := J.1.1.1
  have hse := J.2.1.2.2.2
  have hL0 := (J.1.2.1 0 (by decide)).1
  have hL1 := (J.1.2.1 1 (by decide)).1
  have hL2 := (J.1.2.1 2 (by decide)).1
  have hsb := J.2.1.2.1
  have h6 := J.1.2.2.1
  have hcs : ∀ c, c < zN Z 2 → (Z 19 c).toNatClampNeg < zN Z 1 := fun c hc => (J.cues c hc).2
  refine z_aload_n O dL_law_1071 rfl ?_
  refine z_arg O S 1 dL_law_1072 dL_law_1073 dL_law_1075 dL_law_1076 dL_law_1077 rfl rfl (by decide) (by omega) ?_
  refine z_arg O S 2 dL_law_1078 dL_law_1079 dL_law_1081 dL_law_1082 dL_law_1083 rfl rfl (by decide) (by omega) ?_
  refine z_aload_n O dL_law_1084 rfl ?_
  refine z_callSH (kc' := kc + 9) (ks' := ks + 60) O (c_L_noiseAt hl hh) zIA zm12_18 zm12_19 zm11_26 zm10_34 ⟨by decide +kernel, by decide +kernel, (show _ = some 4 by decide +kernel)⟩ ⟨(Nat.le_of_ble_eq_true rfl), (Nat.le_of_ble_eq_true rfl)⟩ ⟨by show kc + 1 ≤ kc + 9; omega, by show ks + 6 ≤ ks + 60; omega⟩ ⟨hkc, hks⟩ dL_law_1085 rfl (Nat.le_of_ble_eq_true rfl) (fun r w1 ad1 hp => ?_)
  rcases hp with ⟨h0, rfl, rfl, rfl⟩ | ⟨h0, rfl, rfl, rfl⟩
  · refine z_istore O dL_law_1088 (by decide) ?_
    refine z_aload_n O dL_law_1090 rfl ?_
    refine z_arg O S 1 dL_law_1091 dL_law_1092 dL_law_1094 dL_law_1095 dL_law_1096 rfl rfl (by decide) (by omega) ?_
    refine z_arg O S 2 dL_law_1097 dL_law_1098 dL_law_1100 dL_law_1101 dL_law_1102 rfl rfl (by decide) (by omega) ?_
    refine z_callV0 O (c_X8_noiseAt hl hh hse) zIA zm12_20 zm12_21 zm12_22 zm7_16 zm9_4 ⟨rfl, by decide +kernel, by decide +kernel, (show _ = some 2 by decide +kernel)⟩ rfl zg_model ⟨(Nat.le_of_ble_eq_true rfl), (Nat.le_of_ble_eq_true rfl)⟩ ⟨rfl, rfl⟩ ⟨hkc, hks⟩ dL_law_1103 rfl (Nat.le_of_ble_eq_true rfl) (fun r w2 ad2 hq => ?_)
    rcases hq with ⟨h1, rfl, rfl, rfl⟩ | ⟨h1, -⟩
    · refine z_tail O hl hkc hks rfl (fun _ => zo_s) dL_law_1106 dL_law_1108 dL_law_1109 dL_law_1112 dL_law_1114 dL_law_1119 dL_law_1121 dL_law_1124 dL_law_1125 dL_law_1126 dL_law_1127 dL_law_1129 dL_law_1130 dL_law_1131 dL_law_1136 (by decide) ?_
      exact kk _ _ _ _ _ _ _ _ (J.next)
    · exact absurd h0 h1
  · refine z_istore O dL_law_1088 (by decide) ?_
    refine z_aload_n O dL_law_1090 rfl ?_
    refine z_arg O S 1 dL_law_1091 dL_law_1092 dL_law_1094 dL_law_1095 dL_law_1096 rfl rfl (by decide) (by omega) ?_
    refine z_arg O S 2 dL_law_1097 dL_law_1098 dL_law_1100 dL_law_1101 dL_law_1102 rfl rfl (by decide) (by omega) ?_
    refine z_callV0 O (c_X8_noiseAt hl hh hse) zIA zm12_20 zm12_21 zm12_22 zm7_16 zm9_4 ⟨rfl, by decide +kernel, by decide +kernel, (show _ = some 2 by decide +kernel)⟩ rfl zg_model ⟨(Nat.le_of_ble_eq_true rfl), (Nat.le_of_ble_eq_true rfl)⟩ ⟨rfl, rfl⟩ ⟨hkc, hks⟩ dL_law_1103 rfl (Nat.le_of_ble_eq_true rfl) (fun r w2 ad2 hq => ?_)
    rcases hq with ⟨h1, -⟩ | ⟨h1, ⟨v9, rfl⟩, rfl, rfl⟩
    · exact absurd h1 h0
    · refine z_tail O hl hkc hks rfl (fun z => nI_k h0 kb_Seat z) dL_law_1106 dL_law_1108 dL_law_1109 dL_law_1112 dL_law_1114 dL_law_1119 dL_law_1121 dL_law_1124 dL_law_1125 dL_law_1126 dL_law_1127 dL_law_1129 dL_law_1130 dL_law_1131 dL_law_1136 (by decide) ?_
      exact kk _ _ _ _ _ _ _ _ J.next

set_option maxRecDepth 100000 in
set_option maxHeartbeats 4000000 in
theorem law_16 {G : zG} {l : Launch} {et : List ExceptionTableEntry} {ini : Prop} {X : zXT} {kc ks b L i n : Nat} {xs : Nat → Int32} {Z : zM} {sb : Nat → Option Nat} {mcn : Nat → Int32} {cp : Nat → Nat} {th : Int32} {o : Nat → Int64} {od : Nat → UInt64} {ad : Nat → Nat} (O : zLaw G l et ini X) (hl : l.stackTraces = false) (S : zSld G X b L xs) (J : jJ n Z sb cp) (hn : n ≤ 511) (hi : i + 6 ≤ L) (hkc : kc + 9 ≤ 603072) (hks : ks + 60 ≤ 7219306) (kk : zKK G X kc ks b i n) : zV G X 9 kc ks 1178 (zB b i ad) [] (zent Z sb mcn cp G.2.2.2.1 Z th o od ad) ad := by
  have hh := J.1.1.1
  have hse := J.2.1.2.2.2
  have hL0 := (J.1.2.1 0 (by decide)).1
  have hL1 := (J.1.2.1 1 (by decide)).1
  have hL2 := (J.1.2.1 2 (by decide)).1
  have hsb := J.2.1.2.1
  have h6 := J.1.2.2.1
  have hcs : ∀ c, c < zN Z 2 → (Z 19 c).toNatClampNeg < zN Z 1 := fun c hc => (J.cues c hc).2
  refine z_aload_n O dL_law_1178 rfl ?_
  refine z_arg O S 1 dL_law_1179 dL_law_1180 dL_law_1182 dL_law_1183 dL_law_1184 rfl rfl (by decide) (by omega) ?_
  refine z_arg O S 2 dL_law_1185 dL_law_1186 dL_law_1188 dL_law_1189 dL_law_1190 rfl rfl (by decide) (by omega) ?_
  refine z_aload_n O dL_law_1191 rfl ?_
  refine z_callSH (kc' := kc + 9) (ks' := ks + 60) O (c_L_tiredness hl hh) zIA zm12_41 zm12_42 zm11_26 zm10_41 ⟨by decide +kernel, by decide +kernel, (show _ = some 4 by decide +kernel)⟩ ⟨(Nat.le_of_ble_eq_true rfl), (Nat.le_of_ble_eq_true rfl)⟩ ⟨by show kc + 2 ≤ kc + 9; omega, by show ks + 12 ≤ ks + 60; omega⟩ ⟨hkc, hks⟩ dL_law_1192 rfl (Nat.le_of_ble_eq_true rfl) (fun r w1 ad1 hp => ?_)
  rcases hp with ⟨h0, rfl, rfl, rfl⟩ | ⟨h0, rfl, rfl, rfl⟩
  · refine z_istore O dL_law_1195 (by decide) ?_
    refine z_aload_n O dL_law_1197 rfl ?_
    refine z_arg O S 1 dL_law_1198 dL_law_1199 dL_law_1201 dL_law_1202 dL_law_1203 rfl rfl (by decide) (by omega) ?_
    refine z_arg O S 2 dL_law_1204 dL_law_1205 dL_law_1207 dL_law_1208 dL_law_1209 rfl rfl (by decide) (by omega) ?_
    refine z_callV0 O (c_X8_tiredness hl hh hse) zIA zm12_43 zm12_44 zm12_45 zm7_16 zm9_12 ⟨rfl, by decide +kernel, by decide +kernel, (show _ = some 2 by decide +kernel)⟩ rfl zg_model ⟨(Nat.le_of_ble_eq_true rfl), (Nat.le_of_ble_eq_true rfl)⟩ ⟨rfl, rfl⟩ ⟨hkc, hks⟩ dL_law_1210 rfl (Nat.le_of_ble_eq_true rfl) (fun r w2 ad2 hq => ?_)
    rcases hq with ⟨h1, rfl, rfl, rfl⟩ | ⟨h1, -⟩
    · refine z_tail O hl hkc hks rfl (fun _ => zo_s) dL_law_1213 dL_law_1215 dL_law_1216 dL_law_1219 dL_law_1221 dL_law_1226 dL_law_1228 dL_law_1231 dL_law_1232 dL_law_1233 dL_law_1234 dL_law_1236 dL_law_1237 dL_law_1238 dL_law_1243 (by decide) ?_
      exact kk _ _ _ _ _ _ _ _ (J.next)
    · exact absurd h0 h1
  · refine z_istore O dL_law_1195 (by decide) ?_
    refine z_aload_n O dL_law_1197 rfl ?_
    refine z_arg O S 1 dL_law_1198 dL_law_1199 dL_law_1201 dL_law_1202 dL_law_1203 rfl rfl (by decide) (by omega) ?_
    refine z_arg O S 2 dL_law_1204 dL_law_1205 dL_law_1207 dL_law_1208 dL_law_1209 rfl rfl (by decide) (by omega) ?_
    refine z_callV0 O (c_X8_tiredness hl hh hse) zIA zm12_43 zm12_44 zm12_45 zm7_16 zm9_12 ⟨rfl, by decide +kernel, by decide +kernel, (show _ = some 2 by decide +kernel)⟩ rfl zg_model ⟨(Nat.le_of_ble_eq_true rfl), (Nat.le_of_ble_eq_true rfl)⟩ ⟨rfl, rfl⟩ ⟨hkc, hks⟩ dL_law_1210 rfl (Nat.le_of_ble_eq_true rfl) (fun r w2 ad2 hq => ?_)
    rcases hq with ⟨h1, -⟩ | ⟨h1, ⟨v9, rfl⟩, rfl, rfl⟩
    · exact absurd h1 h0
    · refine z_tail O hl hkc hks rfl (fun z => nI_k h0 kb_Tired z) dL_law_1213 dL_law_1215 dL_law_1216 dL_law_1219 dL_law_1221 dL_law_1226 dL_law_1228 dL_law_1231 dL_law_1232 dL_law_1233 dL_law_1234 dL_law_1236 dL_law_1237 dL_law_1238 dL_law_1243 (by decide) ?_
      exact kk _ _ _ _ _ _ _ _ J.next

set_option maxRecDepth 100000 in
set_option maxHeartbeats 4000000 in
theorem law_17 {G : zG} {l : Launch} {et : List ExceptionTableEntry} {ini : Prop} {X : zXT} {kc ks b L i n : Nat} {xs : Nat → Int32} {Z : zM} {sb : Nat → Option Nat} {mcn : Nat → Int32} {cp : Nat → Nat} {th : Int32} {o : Nat → Int64} {od : Nat → UInt64} {ad : Nat → Nat} (O : zLaw G l et ini X) (hl : l.stackTraces = false) (S : zSld G X b L xs) (J : jJ n Z sb cp) (hn : n ≤ 511) (hi : i + 6 ≤ L) (hkc : kc + 9 ≤ 603072) (hks : ks + 60 ≤ 7219306) (kk : zKK G X kc ks b i n) : zV G X 9 kc ks 1246 (zB b i ad) [] (zent Z sb mcn cp G.2.2.2.1 Z th o od ad) ad := by
  have hh := J.1.1.1
  have hse := J.2.1.2.2.2
  have hL0 := (J.1.2.1 0 (by decide)).1
  have hL1 := (J.1.2.1 1 (by decide)).1
  have hL2 := (J.1.2.1 2 (by decide)).1
  have hsb := J.2.1.2.1
  have h6 := J.1.2.2.1
  have hcs : ∀ c, c < zN Z 2 → (Z 19 c).toNatClampNeg < zN Z 1 := fun c hc => (J.cues c hc).2
  refine z_aload_n O dL_law_1246 rfl ?_
  refine z_arg O S 1 dL_law_1247 dL_law_1248 dL_law_1250 dL_law_1251 dL_law_1252 rfl rfl (by decide) (by omega) ?_
  refine z_aload_n O dL_law_1253 rfl ?_
  refine z_callSH (kc' := kc + 9) (ks' := ks + 60) O (c_L_callsOf hl hL1) zIA zm12_46 zm12_47 zm11_26 zm10_45 ⟨by decide +kernel, by decide +kernel, (show _ = some 3 by decide +kernel)⟩ ⟨(Nat.le_of_ble_eq_true rfl), (Nat.le_of_ble_eq_true rfl)⟩ ⟨by show kc + 1 ≤ kc + 9; omega, by show ks + 6 ≤ ks + 60; omega⟩ ⟨hkc, hks⟩ dL_law_1254 rfl (Nat.le_of_ble_eq_true rfl) (fun r w1 ad1 hp => ?_)
  rcases hp with ⟨h0, rfl, rfl, rfl⟩ | ⟨h0, rfl, rfl, rfl⟩
  · refine z_istore O dL_law_1257 (by decide) ?_
    refine z_aload_n O dL_law_1259 rfl ?_
    refine z_arg O S 1 dL_law_1260 dL_law_1261 dL_law_1263 dL_law_1264 dL_law_1265 rfl rfl (by decide) (by omega) ?_
    refine z_callV0 O (c_X8_callsOf hl hL1.cnt h6) zIA zm12_48 zm12_49 zm12_50 zm7_16 zm9_13 ⟨rfl, by decide +kernel, by decide +kernel, (show _ = some 1 by decide +kernel)⟩ rfl zg_model ⟨(Nat.le_of_ble_eq_true rfl), (Nat.le_of_ble_eq_true rfl)⟩ ⟨rfl, rfl⟩ ⟨hkc, hks⟩ dL_law_1266 rfl (Nat.le_of_ble_eq_true rfl) (fun r w2 ad2 hq => ?_)
    rcases hq with ⟨h1, rfl, rfl, rfl⟩ | ⟨h1, -⟩
    · refine z_tail O hl hkc hks rfl (fun _ => zo_s) dL_law_1269 dL_law_1271 dL_law_1272 dL_law_1275 dL_law_1277 dL_law_1282 dL_law_1284 dL_law_1287 dL_law_1288 dL_law_1289 dL_law_1290 dL_law_1292 dL_law_1293 dL_law_1294 dL_law_1299 (by decide) ?_
      exact kk _ _ _ _ _ _ _ _ (J.next)
    · exact absurd h0 h1
  · refine z_istore O dL_law_1257 (by decide) ?_
    refine z_aload_n O dL_law_1259 rfl ?_
    refine z_arg O S 1 dL_law_1260 dL_law_1261 dL_law_1263 dL_law_1264 dL_law_1265 rfl rfl (by decide) (by omega) ?_
    refine z_callV0 O (c_X8_callsOf hl hL1.cnt h6) zIA zm12_48 zm12_49 zm12_50 zm7_16 zm9_13 ⟨rfl, by decide +kernel, by decide +kernel, (show _ = some 1 by decide +kernel)⟩ rfl zg_model ⟨(Nat.le_of_ble_eq_true rfl), (Nat.le_of_ble_eq_true rfl)⟩ ⟨rfl, rfl⟩ ⟨hkc, hks⟩ dL_law_1266 rfl (Nat.le_of_ble_eq_true rfl) (fun r w2 ad2 hq => ?_)
    rcases hq with ⟨h1, -⟩ | ⟨h1, ⟨v9, rfl⟩, rfl, rfl⟩
    · exact absurd h1 h0
    · refine z_tail O hl hkc hks rfl (fun z => nI_k h0 kb_Sing z) dL_law_1269 dL_law_1271 dL_law_1272 dL_law_1275 dL_law_1277 dL_law_1282 dL_law_1284 dL_law_1287 dL_law_1288 dL_law_1289 dL_law_1290 dL_law_1292 dL_law_1293 dL_law_1294 dL_law_1299 (by decide) ?_
      exact kk _ _ _ _ _ _ _ _ J.next

set_option maxRecDepth 100000 in
set_option maxHeartbeats 4000000 in
theorem law_21 {G : zG} {l : Launch} {et : List ExceptionTableEntry} {ini : Prop} {X : zXT} {kc ks b L i n : Nat} {xs : Nat → Int32} {Z : zM} {sb : Nat → Option Nat} {mcn : Nat → Int32} {cp : Nat → Nat} {th : Int32} {o : Nat → Int64} {od : Nat → UInt64} {ad : Nat → Nat} (O : zLaw G l et ini X) (hl : l.stackTraces = false) (S : zSld G X b L xs) (J : jJ n Z sb cp) (hn : n ≤ 511) (hi : i + 6 ≤ L) (hkc : kc + 9 ≤ 603072) (hks : ks + 60 ≤ 7219306) (kk : zKK G X kc ks b i n) : zV G X 9 kc ks 1341 (zB b i ad) [] (zent Z sb mcn cp G.2.2.2.1 Z th o od ad) ad := by
  have hh := J.1.1.1
  have hse := J.2.1.2.2.2
  have hL0 := (J.1.2.1 0 (by decide)).1
  have hL1 := (J.1.2.1 1 (by decide)).1
  have hL2 := (J.1.2.1 2 (by decide)).1
  have hsb := J.2.1.2.1
  have h6 := J.1.2.2.1
  have hcs : ∀ c, c < zN Z 2 → (Z 19 c).toNatClampNeg < zN Z 1 := fun c hc => (J.cues c hc).2
  refine z_aload_n O dL_law_1341 rfl ?_
  refine z_aload_n O dL_law_1342 rfl ?_
  refine z_callSH (kc' := kc + 9) (ks' := ks + 60) O (c_L_endEvening hl hL1 hL2 hcs) zIA zm12_69 zm13_0 zm11_26 zm10_49 ⟨by decide +kernel, by decide +kernel, (show _ = some 2 by decide +kernel)⟩ ⟨(Nat.le_of_ble_eq_true rfl), (Nat.le_of_ble_eq_true rfl)⟩ ⟨by show kc + 1 ≤ kc + 9; omega, by show ks + 6 ≤ ks + 60; omega⟩ ⟨hkc, hks⟩ dL_law_1343 rfl (Nat.le_of_ble_eq_true rfl) (fun r w1 ad1 hp => ?_)
  rcases hp with ⟨h0, rfl, rfl, rfl⟩ | ⟨h0, rfl, rfl, rfl⟩
  · refine z_istore O dL_law_1346 (by decide) ?_
    refine z_aload_n O dL_law_1348 rfl ?_
    refine z_callV0 O (c_X8_endEvening hl hL1.cnt h6 hL2.cnt J.ok.2.2.2.2) zIA zm13_1 zm13_2 zm13_3 zm7_16 zm9_17 ⟨rfl, by decide +kernel, by decide +kernel, (show _ = some 0 by decide +kernel)⟩ rfl zg_model ⟨(Nat.le_of_ble_eq_true rfl), (Nat.le_of_ble_eq_true rfl)⟩ ⟨rfl, rfl⟩ ⟨hkc, hks⟩ dL_law_1349 rfl (Nat.le_of_ble_eq_true rfl) (fun r w2 ad2 hq => ?_)
    rcases hq with ⟨h1, rfl, rfl, rfl⟩ | ⟨h1, -⟩
    · rw [mEnd_eq Z _ rfl]
      refine z_tail O hl hkc hks rfl (fun _ => zo_s) dL_law_1352 dL_law_1354 dL_law_1355 dL_law_1358 dL_law_1360 dL_law_1365 dL_law_1367 dL_law_1370 dL_law_1371 dL_law_1372 dL_law_1373 dL_law_1375 dL_law_1376 dL_law_1377 dL_law_1382 (by decide) ?_
      exact kk _ _ _ _ _ _ _ _ (J.end)
    · exact absurd h0 h1
  · refine z_istore O dL_law_1346 (by decide) ?_
    refine z_aload_n O dL_law_1348 rfl ?_
    refine z_callV0 O (c_X8_endEvening hl hL1.cnt h6 hL2.cnt J.ok.2.2.2.2) zIA zm13_1 zm13_2 zm13_3 zm7_16 zm9_17 ⟨rfl, by decide +kernel, by decide +kernel, (show _ = some 0 by decide +kernel)⟩ rfl zg_model ⟨(Nat.le_of_ble_eq_true rfl), (Nat.le_of_ble_eq_true rfl)⟩ ⟨rfl, rfl⟩ ⟨hkc, hks⟩ dL_law_1349 rfl (Nat.le_of_ble_eq_true rfl) (fun r w2 ad2 hq => ?_)
    rcases hq with ⟨h1, -⟩ | ⟨h1, ⟨v9, rfl⟩, rfl, rfl⟩
    · exact absurd h1 h0
    · refine z_tail O hl hkc hks rfl (fun z => nI_k h0 kb_End z) dL_law_1352 dL_law_1354 dL_law_1355 dL_law_1358 dL_law_1360 dL_law_1365 dL_law_1367 dL_law_1370 dL_law_1371 dL_law_1372 dL_law_1373 dL_law_1375 dL_law_1376 dL_law_1377 dL_law_1382 (by decide) ?_
      exact kk _ _ _ _ _ _ _ _ J.next

set_option maxRecDepth 100000 in
set_option maxHeartbeats 4000000 in
theorem law_22 {G : zG} {l : Launch} {et : List ExceptionTableEntry} {ini : Prop} {X : zXT} {kc ks b L i n : Nat} {xs : Nat → Int32} {Z : zM} {sb : Nat → Option Nat} {mcn : Nat → Int32} {cp : Nat → Nat} {th : Int32} {o : Nat → Int64} {od : Nat → UInt64} {ad : Nat → Nat} (O : zLaw G l et ini X) (hl : l.stackTraces = false) (S : zSld G X b L xs) (J : jJ n Z sb cp) (hn : n ≤ 511) (hi : i + 6 ≤ L) (hkc : kc + 9 ≤ 603072) (hks : ks + 60 ≤ 7219306) (kk : zKK G X kc ks b i n) : zV G X 9 kc ks 1385 (zB b i ad) [] (zent Z sb mcn cp G.2.2.2.1 Z th o od ad) ad := by
  have hh := J.1.1.1
  have hse := J.2.1.2.2.2
  have hL0 := (J.1.2.1 0 (by decide)).1
  have hL1 := (J.1.2.1 1 (by decide)).1
  have hL2 := (J.1.2.1 2 (by decide)).1
  have hsb := J.2.1.2.1
  have h6 := J.1.2.2.1
  have hcs : ∀ c, c < zN Z 2 → (Z 19 c).toNatClampNeg < zN Z 1 := fun c hc => (J.cues c hc).2
  have hpos : ∀ j, j < zN Z 1 → 0 ≤ Z 17 j := fun j hj => (J.2.2.2.2.small (by omega)).2 j (by omega)
  refine z_aload_n O dL_law_1385 rfl ?_
  refine z_arg O S 1 dL_law_1386 dL_law_1387 dL_law_1389 dL_law_1390 dL_law_1391 rfl rfl (by decide) (by omega) ?_
  refine z_arg O S 2 dL_law_1392 dL_law_1393 dL_law_1395 dL_law_1396 dL_law_1397 rfl rfl (by decide) (by omega) ?_
  refine z_aload_n O dL_law_1398 rfl ?_
  refine z_callSH (kc' := kc + 9) (ks' := ks + 60) O (c_L_pay hl hL1) zIA zm13_4 zm13_5 zm11_26 zm10_53 ⟨by decide +kernel, by decide +kernel, (show _ = some 4 by decide +kernel)⟩ ⟨(Nat.le_of_ble_eq_true rfl), (Nat.le_of_ble_eq_true rfl)⟩ ⟨by show kc + 3 ≤ kc + 9; omega, by show ks + 18 ≤ ks + 60; omega⟩ ⟨hkc, hks⟩ dL_law_1399 rfl (Nat.le_of_ble_eq_true rfl) (fun r w1 ad1 hp => ?_)
  rcases hp with ⟨h0, rfl, rfl, rfl⟩ | ⟨h0, rfl, rfl, rfl⟩
  · refine z_istore O dL_law_1402 (by decide) ?_
    refine z_aload_n O dL_law_1404 rfl ?_
    refine z_arg O S 1 dL_law_1405 dL_law_1406 dL_law_1408 dL_law_1409 dL_law_1410 rfl rfl (by decide) (by omega) ?_
    refine z_arg O S 2 dL_law_1411 dL_law_1412 dL_law_1414 dL_law_1415 dL_law_1416 rfl rfl (by decide) (by omega) ?_
    refine z_callV0 O (c_X8_pay hl hL1.cnt h6 hpos) zIA zm13_6 zm13_7 zm13_8 zm7_16 zm9_18 ⟨rfl, by decide +kernel, by decide +kernel, (show _ = some 2 by decide +kernel)⟩ rfl zg_model ⟨(Nat.le_of_ble_eq_true rfl), (Nat.le_of_ble_eq_true rfl)⟩ ⟨rfl, rfl⟩ ⟨hkc, hks⟩ dL_law_1417 rfl (Nat.le_of_ble_eq_true rfl) (fun r w2 ad2 hq => ?_)
    rcases hq with ⟨h1, rfl, rfl, rfl⟩ | ⟨h1, -⟩
    · refine z_tail O hl hkc hks rfl (fun _ => zo_s) dL_law_1420 dL_law_1422 dL_law_1423 dL_law_1426 dL_law_1428 dL_law_1433 dL_law_1435 dL_law_1438 dL_law_1439 dL_law_1440 dL_law_1441 dL_law_1443 dL_law_1444 dL_law_1445 dL_law_1450 (by decide) ?_
      exact kk _ _ _ _ _ _ _ _ (J.pay (by omega) h0)
    · exact absurd h0 h1
  · refine z_istore O dL_law_1402 (by decide) ?_
    refine z_aload_n O dL_law_1404 rfl ?_
    refine z_arg O S 1 dL_law_1405 dL_law_1406 dL_law_1408 dL_law_1409 dL_law_1410 rfl rfl (by decide) (by omega) ?_
    refine z_arg O S 2 dL_law_1411 dL_law_1412 dL_law_1414 dL_law_1415 dL_law_1416 rfl rfl (by decide) (by omega) ?_
    refine z_callV0 O (c_X8_pay hl hL1.cnt h6 hpos) zIA zm13_6 zm13_7 zm13_8 zm7_16 zm9_18 ⟨rfl, by decide +kernel, by decide +kernel, (show _ = some 2 by decide +kernel)⟩ rfl zg_model ⟨(Nat.le_of_ble_eq_true rfl), (Nat.le_of_ble_eq_true rfl)⟩ ⟨rfl, rfl⟩ ⟨hkc, hks⟩ dL_law_1417 rfl (Nat.le_of_ble_eq_true rfl) (fun r w2 ad2 hq => ?_)
    rcases hq with ⟨h1, -⟩ | ⟨h1, ⟨v9, rfl⟩, rfl, rfl⟩
    · exact absurd h1 h0
    · refine z_tail O hl hkc hks rfl (fun z => nI_k h0 kb_Pay z) dL_law_1420 dL_law_1422 dL_law_1423 dL_law_1426 dL_law_1428 dL_law_1433 dL_law_1435 dL_law_1438 dL_law_1439 dL_law_1440 dL_law_1441 dL_law_1443 dL_law_1444 dL_law_1445 dL_law_1450 (by decide) ?_
      exact kk _ _ _ _ _ _ _ _ J.next

set_option maxRecDepth 100000 in
set_option maxHeartbeats 4000000 in
theorem law_23 {G : zG} {l : Launch} {et : List ExceptionTableEntry} {ini : Prop} {X : zXT} {kc ks b L i n : Nat} {xs : Nat → Int32} {Z : zM} {sb : Nat → Option Nat} {mcn : Nat → Int32} {cp : Nat → Nat} {th : Int32} {o : Nat → Int64} {od : Nat → UInt64} {ad : Nat → Nat} (O : zLaw G l et ini X) (hl : l.stackTraces = false) (S : zSld G X b L xs) (J : jJ n Z sb cp) (hn : n ≤ 511) (hi : i + 6 ≤ L) (hkc : kc + 9 ≤ 603072) (hks : ks + 60 ≤ 7219306) (kk : zKK G X kc ks b i n) : zV G X 9 kc ks 1453 (zB b i ad) [] (zent Z sb mcn cp G.2.2.2.1 Z th o od ad) ad := by
  have hh := J.1.1.1
  have hse := J.2.1.2.2.2
  have hL0 := (J.1.2.1 0 (by decide)).1
  have hL1 := (J.1.2.1 1 (by decide)).1
  have hL2 := (J.1.2.1 2 (by decide)).1
  have hsb := J.2.1.2.1
  have h6 := J.1.2.2.1
  have hcs : ∀ c, c < zN Z 2 → (Z 19 c).toNatClampNeg < zN Z 1 := fun c hc => (J.cues c hc).2
  refine z_aload_n O dL_law_1453 rfl ?_
  refine z_arg O S 1 dL_law_1454 dL_law_1455 dL_law_1457 dL_law_1458 dL_law_1459 rfl rfl (by decide) (by omega) ?_
  refine z_aload_n O dL_law_1460 rfl ?_
  refine z_callSH (kc' := kc + 9) (ks' := ks + 60) O (c_L_owed hl hL1) zIA zm13_9 zm13_10 zm11_26 zm10_57 ⟨by decide +kernel, by decide +kernel, (show _ = some 3 by decide +kernel)⟩ ⟨(Nat.le_of_ble_eq_true rfl), (Nat.le_of_ble_eq_true rfl)⟩ ⟨by show kc + 1 ≤ kc + 9; omega, by show ks + 6 ≤ ks + 60; omega⟩ ⟨hkc, hks⟩ dL_law_1461 rfl (Nat.le_of_ble_eq_true rfl) (fun r w1 ad1 hp => ?_)
  rcases hp with ⟨h0, rfl, rfl, rfl⟩ | ⟨h0, rfl, rfl, rfl⟩
  · refine z_istore O dL_law_1464 (by decide) ?_
    refine z_aload_n O dL_law_1466 rfl ?_
    refine z_arg O S 1 dL_law_1467 dL_law_1468 dL_law_1470 dL_law_1471 dL_law_1472 rfl rfl (by decide) (by omega) ?_
    refine z_callV0 O (c_X8_owed hl hL1.cnt h6) zIA zm13_11 zm13_12 zm13_13 zm7_16 zm9_20 ⟨rfl, by decide +kernel, by decide +kernel, (show _ = some 1 by decide +kernel)⟩ rfl zg_model ⟨(Nat.le_of_ble_eq_true rfl), (Nat.le_of_ble_eq_true rfl)⟩ ⟨rfl, rfl⟩ ⟨hkc, hks⟩ dL_law_1473 rfl (Nat.le_of_ble_eq_true rfl) (fun r w2 ad2 hq => ?_)
    rcases hq with ⟨h1, rfl, rfl, rfl⟩ | ⟨h1, -⟩
    · refine z_tail O hl hkc hks rfl (fun _ => zo_s) dL_law_1476 dL_law_1478 dL_law_1479 dL_law_1482 dL_law_1484 dL_law_1489 dL_law_1491 dL_law_1494 dL_law_1495 dL_law_1496 dL_law_1497 dL_law_1499 dL_law_1500 dL_law_1501 dL_law_1506 (by decide) ?_
      exact kk _ _ _ _ _ _ _ _ (J.next)
    · exact absurd h0 h1
  · refine z_istore O dL_law_1464 (by decide) ?_
    refine z_aload_n O dL_law_1466 rfl ?_
    refine z_arg O S 1 dL_law_1467 dL_law_1468 dL_law_1470 dL_law_1471 dL_law_1472 rfl rfl (by decide) (by omega) ?_
    refine z_callV0 O (c_X8_owed hl hL1.cnt h6) zIA zm13_11 zm13_12 zm13_13 zm7_16 zm9_20 ⟨rfl, by decide +kernel, by decide +kernel, (show _ = some 1 by decide +kernel)⟩ rfl zg_model ⟨(Nat.le_of_ble_eq_true rfl), (Nat.le_of_ble_eq_true rfl)⟩ ⟨rfl, rfl⟩ ⟨hkc, hks⟩ dL_law_1473 rfl (Nat.le_of_ble_eq_true rfl) (fun r w2 ad2 hq => ?_)
    rcases hq with ⟨h1, -⟩ | ⟨h1, ⟨v9, rfl⟩, rfl, rfl⟩
    · exact absurd h1 h0
    · refine z_tail O hl hkc hks rfl (fun z => nI_k h0 kb_Sing z) dL_law_1476 dL_law_1478 dL_law_1479 dL_law_1482 dL_law_1484 dL_law_1489 dL_law_1491 dL_law_1494 dL_law_1495 dL_law_1496 dL_law_1497 dL_law_1499 dL_law_1500 dL_law_1501 dL_law_1506 (by decide) ?_
      exact kk _ _ _ _ _ _ _ _ J.next

set_option maxRecDepth 100000 in
set_option maxHeartbeats 4000000 in
theorem law_25 {G : zG} {l : Launch} {et : List ExceptionTableEntry} {ini : Prop} {X : zXT} {kc ks b L i n : Nat} {xs : Nat → Int32} {Z : zM} {sb : Nat → Option Nat} {mcn : Nat → Int32} {cp : Nat → Nat} {th : Int32} {o : Nat → Int64} {od : Nat → UInt64} {ad : Nat → Nat} (O : zLaw G l et ini X) (hl : l.stackTraces = false) (S : zSld G X b L xs) (J : jJ n Z sb cp) (hn : n ≤ 511) (hi : i + 6 ≤ L) (hkc : kc + 9 ≤ 603072) (hks : ks + 60 ≤ 7219306) (kk : zKK G X kc ks b i n) : zV G X 9 kc ks 1522 (zB b i ad) [] (zent Z sb mcn cp G.2.2.2.1 Z th o od ad) ad := by
  have hh := J.1.1.1
  have hse := J.2.1.2.2.2
  have hL0 := (J.1.2.1 0 (by decide)).1
  have hL1 := (J.1.2.1 1 (by decide)).1
  have hL2 := (J.1.2.1 2 (by decide)).1
  have hsb := J.2.1.2.1
  have h6 := J.1.2.2.1
  have hcs : ∀ c, c < zN Z 2 → (Z 19 c).toNatClampNeg < zN Z 1 := fun c hc => (J.cues c hc).2
  refine z_aload_n O dL_law_1522 rfl ?_
  refine z_aload_n O dL_law_1523 rfl ?_
  refine z_callSH (kc' := kc + 9) (ks' := ks + 60) O (c_L_share hl hL0) zIA zm13_20 zm13_21 zm11_26 zm10_61 ⟨by decide +kernel, by decide +kernel, (show _ = some 2 by decide +kernel)⟩ ⟨(Nat.le_of_ble_eq_true rfl), (Nat.le_of_ble_eq_true rfl)⟩ ⟨by show kc + 1 ≤ kc + 9; omega, by show ks + 6 ≤ ks + 60; omega⟩ ⟨hkc, hks⟩ dL_law_1524 rfl (Nat.le_of_ble_eq_true rfl) (fun r w1 ad1 hp => ?_)
  rcases hp with ⟨h0, rfl, rfl, rfl⟩ | ⟨h0, rfl, rfl, rfl⟩
  · refine z_istore O dL_law_1527 (by decide) ?_
    refine z_aload_n O dL_law_1529 rfl ?_
    refine z_callV0 O (c_X8_share hl hL0.cnt (J.2.2.2.2.small (by omega)).1 J.pt) zIA zm13_22 zm13_23 zm13_24 zm7_16 zm9_22 ⟨rfl, by decide +kernel, by decide +kernel, (show _ = some 0 by decide +kernel)⟩ rfl zg_model ⟨(Nat.le_of_ble_eq_true rfl), (Nat.le_of_ble_eq_true rfl)⟩ ⟨rfl, rfl⟩ ⟨hkc, hks⟩ dL_law_1530 rfl (Nat.le_of_ble_eq_true rfl) (fun r w2 ad2 hq => ?_)
    rcases hq with ⟨h1, rfl, rfl, rfl⟩ | ⟨h1, -⟩
    · refine z_tail O hl hkc hks rfl (fun _ => zo_s) dL_law_1533 dL_law_1535 dL_law_1536 dL_law_1539 dL_law_1541 dL_law_1546 dL_law_1548 dL_law_1551 dL_law_1552 dL_law_1553 dL_law_1554 dL_law_1556 dL_law_1557 dL_law_1558 dL_law_1563 (by decide) ?_
      exact kk _ _ _ _ _ _ _ _ (J.share)
    · exact absurd h0 h1
  · refine z_istore O dL_law_1527 (by decide) ?_
    refine z_aload_n O dL_law_1529 rfl ?_
    refine z_callV0 O (c_X8_share hl hL0.cnt (J.2.2.2.2.small (by omega)).1 J.pt) zIA zm13_22 zm13_23 zm13_24 zm7_16 zm9_22 ⟨rfl, by decide +kernel, by decide +kernel, (show _ = some 0 by decide +kernel)⟩ rfl zg_model ⟨(Nat.le_of_ble_eq_true rfl), (Nat.le_of_ble_eq_true rfl)⟩ ⟨rfl, rfl⟩ ⟨hkc, hks⟩ dL_law_1530 rfl (Nat.le_of_ble_eq_true rfl) (fun r w2 ad2 hq => ?_)
    rcases hq with ⟨h1, -⟩ | ⟨h1, ⟨v9, rfl⟩, rfl, rfl⟩
    · exact absurd h1 h0
    · refine z_tail O hl hkc hks rfl (fun z => nI_k h0 kb_Share z) dL_law_1533 dL_law_1535 dL_law_1536 dL_law_1539 dL_law_1541 dL_law_1546 dL_law_1548 dL_law_1551 dL_law_1552 dL_law_1553 dL_law_1554 dL_law_1556 dL_law_1557 dL_law_1558 dL_law_1563 (by decide) ?_
      exact kk _ _ _ _ _ _ _ _ J.next

set_option maxRecDepth 100000 in
set_option maxHeartbeats 4000000 in
theorem law_26 {G : zG} {l : Launch} {et : List ExceptionTableEntry} {ini : Prop} {X : zXT} {kc ks b L i n : Nat} {xs : Nat → Int32} {Z : zM} {sb : Nat → Option Nat} {mcn : Nat → Int32} {cp : Nat → Nat} {th : Int32} {o : Nat → Int64} {od : Nat → UInt64} {ad : Nat → Nat} (O : zLaw G l et ini X) (hl : l.stackTraces = false) (S : zSld G X b L xs) (J : jJ n Z sb cp) (hn : n ≤ 511) (hi : i + 6 ≤ L) (hkc : kc + 9 ≤ 603072) (hks : ks + 60 ≤ 7219306) (kk : zKK G X kc ks b i n) : zV G X 9 kc ks 1566 (zB b i ad) [] (zent Z sb mcn cp G.2.2.2.1 Z th o od ad) ad := by
  have hh := J.1.1.1
  have hse := J.2.1.2.2.2
  have hL0 := (J.1.2.1 0 (by decide)).1
  have hL1 := (J.1.2.1 1 (by decide)).1
  have hL2 := (J.1.2.1 2 (by decide)).1
  have hsb := J.2.1.2.1
  have h6 := J.1.2.2.1
  have hcs : ∀ c, c < zN Z 2 → (Z 19 c).toNatClampNeg < zN Z 1 := fun c hc => (J.cues c hc).2
  refine z_aload_n O dL_law_1566 rfl ?_
  refine z_arg O S 1 dL_law_1567 dL_law_1568 dL_law_1570 dL_law_1571 dL_law_1572 rfl rfl (by decide) (by omega) ?_
  refine z_aload_n O dL_law_1573 rfl ?_
  refine z_callSH (kc' := kc + 9) (ks' := ks + 60) O (c_L_moneyOf hl hL0) zIA zm13_25 zm13_26 zm11_26 zm10_65 ⟨by decide +kernel, by decide +kernel, (show _ = some 3 by decide +kernel)⟩ ⟨(Nat.le_of_ble_eq_true rfl), (Nat.le_of_ble_eq_true rfl)⟩ ⟨by show kc + 1 ≤ kc + 9; omega, by show ks + 6 ≤ ks + 60; omega⟩ ⟨hkc, hks⟩ dL_law_1574 rfl (Nat.le_of_ble_eq_true rfl) (fun r w1 ad1 hp => ?_)
  rcases hp with ⟨h0, rfl, rfl, rfl⟩ | ⟨h0, rfl, rfl, rfl⟩
  · refine z_istore O dL_law_1577 (by decide) ?_
    refine z_aload_n O dL_law_1579 rfl ?_
    refine z_arg O S 1 dL_law_1580 dL_law_1581 dL_law_1583 dL_law_1584 dL_law_1585 rfl rfl (by decide) (by omega) ?_
    refine z_callV0 O (c_X8_moneyOf hl hL0.cnt) zIA zm13_27 zm13_28 zm13_29 zm7_16 zm9_23 ⟨rfl, by decide +kernel, by decide +kernel, (show _ = some 1 by decide +kernel)⟩ rfl zg_model ⟨(Nat.le_of_ble_eq_true rfl), (Nat.le_of_ble_eq_true rfl)⟩ ⟨rfl, rfl⟩ ⟨hkc, hks⟩ dL_law_1586 rfl (Nat.le_of_ble_eq_true rfl) (fun r w2 ad2 hq => ?_)
    rcases hq with ⟨h1, rfl, rfl, rfl⟩ | ⟨h1, -⟩
    · refine z_tail O hl hkc hks rfl (fun _ => zo_s) dL_law_1589 dL_law_1591 dL_law_1592 dL_law_1595 dL_law_1597 dL_law_1602 dL_law_1604 dL_law_1607 dL_law_1608 dL_law_1609 dL_law_1610 dL_law_1612 dL_law_1613 dL_law_1614 dL_law_1619 (by decide) ?_
      exact kk _ _ _ _ _ _ _ _ (J.next)
    · exact absurd h0 h1
  · refine z_istore O dL_law_1577 (by decide) ?_
    refine z_aload_n O dL_law_1579 rfl ?_
    refine z_arg O S 1 dL_law_1580 dL_law_1581 dL_law_1583 dL_law_1584 dL_law_1585 rfl rfl (by decide) (by omega) ?_
    refine z_callV0 O (c_X8_moneyOf hl hL0.cnt) zIA zm13_27 zm13_28 zm13_29 zm7_16 zm9_23 ⟨rfl, by decide +kernel, by decide +kernel, (show _ = some 1 by decide +kernel)⟩ rfl zg_model ⟨(Nat.le_of_ble_eq_true rfl), (Nat.le_of_ble_eq_true rfl)⟩ ⟨rfl, rfl⟩ ⟨hkc, hks⟩ dL_law_1586 rfl (Nat.le_of_ble_eq_true rfl) (fun r w2 ad2 hq => ?_)
    rcases hq with ⟨h1, -⟩ | ⟨h1, ⟨v9, rfl⟩, rfl, rfl⟩
    · exact absurd h1 h0
    · refine z_tail O hl hkc hks rfl (fun z => nI_k h0 kb_Hand z) dL_law_1589 dL_law_1591 dL_law_1592 dL_law_1595 dL_law_1597 dL_law_1602 dL_law_1604 dL_law_1607 dL_law_1608 dL_law_1609 dL_law_1610 dL_law_1612 dL_law_1613 dL_law_1614 dL_law_1619 (by decide) ?_
      exact kk _ _ _ _ _ _ _ _ J.next

set_option maxRecDepth 100000 in
set_option maxHeartbeats 4000000 in
theorem law_28 {G : zG} {l : Launch} {et : List ExceptionTableEntry} {ini : Prop} {X : zXT} {kc ks b L i n : Nat} {xs : Nat → Int32} {Z : zM} {sb : Nat → Option Nat} {mcn : Nat → Int32} {cp : Nat → Nat} {th : Int32} {o : Nat → Int64} {od : Nat → UInt64} {ad : Nat → Nat} (O : zLaw G l et ini X) (hl : l.stackTraces = false) (S : zSld G X b L xs) (J : jJ n Z sb cp) (hn : n ≤ 511) (hi : i + 6 ≤ L) (hkc : kc + 9 ≤ 603072) (hks : ks + 60 ≤ 7219306) (kk : zKK G X kc ks b i n) : zV G X 9 kc ks 1635 (zB b i ad) [] (zent Z sb mcn cp G.2.2.2.1 Z th o od ad) ad := by
  have hh := J.1.1.1
  have hse := J.2.1.2.2.2
  have hL0 := (J.1.2.1 0 (by decide)).1
  have hL1 := (J.1.2.1 1 (by decide)).1
  have hL2 := (J.1.2.1 2 (by decide)).1
  have hsb := J.2.1.2.1
  have h6 := J.1.2.2.1
  have hcs : ∀ c, c < zN Z 2 → (Z 19 c).toNatClampNeg < zN Z 1 := fun c hc => (J.cues c hc).2
  refine z_aload_n O dL_law_1635 rfl ?_
  refine z_arg O S 1 dL_law_1636 dL_law_1637 dL_law_1639 dL_law_1640 dL_law_1641 rfl rfl (by decide) (by omega) ?_
  refine z_aload_n O dL_law_1642 rfl ?_
  refine z_callSH (kc' := kc + 9) (ks' := ks + 60) O (c_L_planCost hl hL0) zIA zm13_36 zm13_37 zm11_26 zm11_0 ⟨by decide +kernel, by decide +kernel, (show _ = some 3 by decide +kernel)⟩ ⟨(Nat.le_of_ble_eq_true rfl), (Nat.le_of_ble_eq_true rfl)⟩ ⟨by show kc + 2 ≤ kc + 9; omega, by show ks + 12 ≤ ks + 60; omega⟩ ⟨hkc, hks⟩ dL_law_1643 rfl (Nat.le_of_ble_eq_true rfl) (fun r w1 ad1 hp => ?_)
  rcases hp with ⟨h0, rfl, rfl, rfl⟩ | ⟨h0, rfl, rfl, rfl⟩
  · refine z_istore O dL_law_1646 (by decide) ?_
    refine z_aload_n O dL_law_1648 rfl ?_
    refine z_arg O S 1 dL_law_1649 dL_law_1650 dL_law_1652 dL_law_1653 dL_law_1654 rfl rfl (by decide) (by omega) ?_
    refine z_callV0 O (c_X8_planCost hl hL0.cnt) zIA zm13_38 zm13_39 zm13_40 zm7_16 zm9_37 ⟨rfl, by decide +kernel, by decide +kernel, (show _ = some 1 by decide +kernel)⟩ rfl zg_model ⟨(Nat.le_of_ble_eq_true rfl), (Nat.le_of_ble_eq_true rfl)⟩ ⟨rfl, rfl⟩ ⟨hkc, hks⟩ dL_law_1655 rfl (Nat.le_of_ble_eq_true rfl) (fun r w2 ad2 hq => ?_)
    rcases hq with ⟨h1, rfl, rfl, rfl⟩ | ⟨h1, -⟩
    · refine z_tail O hl hkc hks rfl (fun _ => zo_s) dL_law_1658 dL_law_1660 dL_law_1661 dL_law_1664 dL_law_1666 dL_law_1671 dL_law_1673 dL_law_1676 dL_law_1677 dL_law_1678 dL_law_1679 dL_law_1681 dL_law_1682 dL_law_1683 dL_law_1688 (by decide) ?_
      exact kk _ _ _ _ _ _ _ _ (J.next)
    · exact absurd h0 h1
  · refine z_istore O dL_law_1646 (by decide) ?_
    refine z_aload_n O dL_law_1648 rfl ?_
    refine z_arg O S 1 dL_law_1649 dL_law_1650 dL_law_1652 dL_law_1653 dL_law_1654 rfl rfl (by decide) (by omega) ?_
    refine z_callV0 O (c_X8_planCost hl hL0.cnt) zIA zm13_38 zm13_39 zm13_40 zm7_16 zm9_37 ⟨rfl, by decide +kernel, by decide +kernel, (show _ = some 1 by decide +kernel)⟩ rfl zg_model ⟨(Nat.le_of_ble_eq_true rfl), (Nat.le_of_ble_eq_true rfl)⟩ ⟨rfl, rfl⟩ ⟨hkc, hks⟩ dL_law_1655 rfl (Nat.le_of_ble_eq_true rfl) (fun r w2 ad2 hq => ?_)
    rcases hq with ⟨h1, -⟩ | ⟨h1, ⟨v9, rfl⟩, rfl, rfl⟩
    · exact absurd h1 h0
    · refine z_tail O hl hkc hks rfl (fun z => nI_k h0 kb_Cost z) dL_law_1658 dL_law_1660 dL_law_1661 dL_law_1664 dL_law_1666 dL_law_1671 dL_law_1673 dL_law_1676 dL_law_1677 dL_law_1678 dL_law_1679 dL_law_1681 dL_law_1682 dL_law_1683 dL_law_1688 (by decide) ?_
      exact kk _ _ _ _ _ _ _ _ J.next

set_option maxRecDepth 100000 in
set_option maxHeartbeats 4000000 in
theorem law_29 {G : zG} {l : Launch} {et : List ExceptionTableEntry} {ini : Prop} {X : zXT} {kc ks b L i n : Nat} {xs : Nat → Int32} {Z : zM} {sb : Nat → Option Nat} {mcn : Nat → Int32} {cp : Nat → Nat} {th : Int32} {o : Nat → Int64} {od : Nat → UInt64} {ad : Nat → Nat} (O : zLaw G l et ini X) (hl : l.stackTraces = false) (S : zSld G X b L xs) (J : jJ n Z sb cp) (hn : n ≤ 511) (hi : i + 6 ≤ L) (hkc : kc + 9 ≤ 603072) (hks : ks + 60 ≤ 7219306) (kk : zKK G X kc ks b i n) : zV G X 9 kc ks 1691 (zB b i ad) [] (zent Z sb mcn cp G.2.2.2.1 Z th o od ad) ad := by
  have hh := J.1.1.1
  have hse := J.2.1.2.2.2
  have hL0 := (J.1.2.1 0 (by decide)).1
  have hL1 := (J.1.2.1 1 (by decide)).1
  have hL2 := (J.1.2.1 2 (by decide)).1
  have hsb := J.2.1.2.1
  have h6 := J.1.2.2.1
  have hcs : ∀ c, c < zN Z 2 → (Z 19 c).toNatClampNeg < zN Z 1 := fun c hc => (J.cues c hc).2
  refine z_aload_n O dL_law_1691 rfl ?_
  refine z_arg O S 1 dL_law_1692 dL_law_1693 dL_law_1695 dL_law_1696 dL_law_1697 rfl rfl (by decide) (by omega) ?_
  refine z_arg O S 2 dL_law_1698 dL_law_1699 dL_law_1701 dL_law_1702 dL_law_1703 rfl rfl (by decide) (by omega) ?_
  refine z_aload_n O dL_law_1704 rfl ?_
  refine z_callSH (kc' := kc + 9) (ks' := ks + 60) O (c_L_isPlanned hl hL0) zIA zm13_41 zm13_42 zm11_26 zm11_4 ⟨by decide +kernel, by decide +kernel, (show _ = some 4 by decide +kernel)⟩ ⟨(Nat.le_of_ble_eq_true rfl), (Nat.le_of_ble_eq_true rfl)⟩ ⟨by show kc + 3 ≤ kc + 9; omega, by show ks + 18 ≤ ks + 60; omega⟩ ⟨hkc, hks⟩ dL_law_1705 rfl (Nat.le_of_ble_eq_true rfl) (fun r w1 ad1 hp => ?_)
  rcases hp with ⟨h0, rfl, rfl, rfl⟩ | ⟨h0, rfl, rfl, rfl⟩
  · refine z_istore O dL_law_1708 (by decide) ?_
    refine z_aload_n O dL_law_1710 rfl ?_
    refine z_arg O S 1 dL_law_1711 dL_law_1712 dL_law_1714 dL_law_1715 dL_law_1716 rfl rfl (by decide) (by omega) ?_
    refine z_arg O S 2 dL_law_1717 dL_law_1718 dL_law_1720 dL_law_1721 dL_law_1722 rfl rfl (by decide) (by omega) ?_
    refine z_callV0 O (c_X8_isPlanned hl hL0.cnt) zIA zm13_43 zm13_44 zm13_45 zm7_16 zm9_38 ⟨rfl, by decide +kernel, by decide +kernel, (show _ = some 2 by decide +kernel)⟩ rfl zg_model ⟨(Nat.le_of_ble_eq_true rfl), (Nat.le_of_ble_eq_true rfl)⟩ ⟨rfl, rfl⟩ ⟨hkc, hks⟩ dL_law_1723 rfl (Nat.le_of_ble_eq_true rfl) (fun r w2 ad2 hq => ?_)
    rcases hq with ⟨h1, rfl, rfl, rfl⟩ | ⟨h1, -⟩
    · refine z_tailZ O hl hkc hks rfl (fun _ => by rw [zo_s]; split <;> rfl) dL_law_1726 dL_law_1728 dL_law_1729 dL_law_1732 dL_law_1734 dL_law_1739 dL_law_1741 dL_law_1744 dL_law_1745 dL_law_1746 dL_law_1747 dL_law_1749 dL_law_1752 dL_law_1753 dL_law_1756 dL_law_1757 dL_law_1758 dL_law_1763 (by decide) ?_
      exact kk _ _ _ _ _ _ _ _ (J.next)
    · exact absurd h0 h1
  · refine z_istore O dL_law_1708 (by decide) ?_
    refine z_aload_n O dL_law_1710 rfl ?_
    refine z_arg O S 1 dL_law_1711 dL_law_1712 dL_law_1714 dL_law_1715 dL_law_1716 rfl rfl (by decide) (by omega) ?_
    refine z_arg O S 2 dL_law_1717 dL_law_1718 dL_law_1720 dL_law_1721 dL_law_1722 rfl rfl (by decide) (by omega) ?_
    refine z_callV0 O (c_X8_isPlanned hl hL0.cnt) zIA zm13_43 zm13_44 zm13_45 zm7_16 zm9_38 ⟨rfl, by decide +kernel, by decide +kernel, (show _ = some 2 by decide +kernel)⟩ rfl zg_model ⟨(Nat.le_of_ble_eq_true rfl), (Nat.le_of_ble_eq_true rfl)⟩ ⟨rfl, rfl⟩ ⟨hkc, hks⟩ dL_law_1723 rfl (Nat.le_of_ble_eq_true rfl) (fun r w2 ad2 hq => ?_)
    rcases hq with ⟨h1, -⟩ | ⟨h1, ⟨v9, rfl⟩, rfl, rfl⟩
    · exact absurd h1 h0
    · refine z_tailZ O hl hkc hks rfl (fun z => nI_k h0 kb_Planned z) dL_law_1726 dL_law_1728 dL_law_1729 dL_law_1732 dL_law_1734 dL_law_1739 dL_law_1741 dL_law_1744 dL_law_1745 dL_law_1746 dL_law_1747 dL_law_1749 dL_law_1752 dL_law_1753 dL_law_1756 dL_law_1757 dL_law_1758 dL_law_1763 (by decide) ?_
      exact kk _ _ _ _ _ _ _ _ J.next

set_option maxRecDepth 100000 in
set_option maxHeartbeats 4000000 in
theorem law_13 {G : zG} {l : Launch} {et : List ExceptionTableEntry} {ini : Prop} {X : zXT} {kc ks b L i n : Nat} {xs : Nat → Int32} {Z : zM} {sb : Nat → Option Nat} {mcn : Nat → Int32} {cp : Nat → Nat} {th : Int32} {o : Nat → Int64} {od : Nat → UInt64} {ad : Nat → Nat} (O : zLaw G l et ini X) (hl : l.stackTraces = false) (S : zSld G X b L xs) (J : jJ n Z sb cp) (hn : n ≤ 511) (hi : i + 6 ≤ L) (hkc : kc + 9 ≤ 603072) (hks : ks + 60 ≤ 7219306) (kk : zKK G X kc ks b i n) : zV G X 9 kc ks 1139 (zB b i ad) [] (zent Z sb mcn cp G.2.2.2.1 Z th o od ad) ad := by
  have hh := J.1.1.1
  have hse := J.2.1.2.2.2
  have hL0 := (J.1.2.1 0 (by decide)).1
  have hL1 := (J.1.2.1 1 (by decide)).1
  have hL2 := (J.1.2.1 2 (by decide)).1
  have hsb := J.2.1.2.1
  have h6 := J.1.2.2.1
  have hcs : ∀ c, c < zN Z 2 → (Z 19 c).toNatClampNeg < zN Z 1 := fun c hc => (J.cues c hc).2
  refine z_aload_n O dL_law_1139 rfl ?_
  refine z_callV0 O (c_X7_noise hl) zIA zm12_23 zm12_24 zm12_25 zm4_21 zm6_0 ⟨rfl, by decide +kernel, by decide +kernel, (show _ = some 0 by decide +kernel)⟩ rfl zg_x ⟨(Nat.le_of_ble_eq_true rfl), (Nat.le_of_ble_eq_true rfl)⟩ ⟨rfl, rfl⟩ ⟨by show kc ≤ 603072; omega, by show ks ≤ 7219306; omega⟩ dL_law_1140 rfl (Nat.le_of_ble_eq_true rfl) (fun r w1 ad1 hp => ?_)
  obtain ⟨rfl, rfl, rfl⟩ := hp
  refine z_aload_n O dL_law_1143 rfl ?_
  refine z_callV0 O (c_X8_noise hl) zIA zm12_26 zm12_27 zm12_28 zm7_16 zm9_5 ⟨rfl, by decide +kernel, by decide +kernel, (show _ = some 0 by decide +kernel)⟩ rfl zg_model ⟨(Nat.le_of_ble_eq_true rfl), (Nat.le_of_ble_eq_true rfl)⟩ ⟨rfl, rfl⟩ ⟨by show kc ≤ 603072; omega, by show ks ≤ 7219306; omega⟩ dL_law_1144 rfl (Nat.le_of_ble_eq_true rfl) (fun r w2 ad2 hq => ?_)
  obtain ⟨rfl, rfl, rfl⟩ := hq
  refine z_icmp_eq O dL_law_1147 (tgt := 1924) (by decide) (fun _ => ?_) (fun q => absurd rfl q)
  exact z_widen O (by omega) (by omega) (kk _ _ _ _ _ _ _ _ J.next)

set_option maxRecDepth 100000 in
set_option maxHeartbeats 4000000 in
theorem law_14 {G : zG} {l : Launch} {et : List ExceptionTableEntry} {ini : Prop} {X : zXT} {kc ks b L i n : Nat} {xs : Nat → Int32} {Z : zM} {sb : Nat → Option Nat} {mcn : Nat → Int32} {cp : Nat → Nat} {th : Int32} {o : Nat → Int64} {od : Nat → UInt64} {ad : Nat → Nat} (O : zLaw G l et ini X) (hl : l.stackTraces = false) (S : zSld G X b L xs) (J : jJ n Z sb cp) (hn : n ≤ 511) (hi : i + 6 ≤ L) (hkc : kc + 9 ≤ 603072) (hks : ks + 60 ≤ 7219306) (kk : zKK G X kc ks b i n) : zV G X 9 kc ks 1152 (zB b i ad) [] (zent Z sb mcn cp G.2.2.2.1 Z th o od ad) ad := by
  have hh := J.1.1.1
  have hse := J.2.1.2.2.2
  have hL0 := (J.1.2.1 0 (by decide)).1
  have hL1 := (J.1.2.1 1 (by decide)).1
  have hL2 := (J.1.2.1 2 (by decide)).1
  have hsb := J.2.1.2.1
  have h6 := J.1.2.2.1
  have hcs : ∀ c, c < zN Z 2 → (Z 19 c).toNatClampNeg < zN Z 1 := fun c hc => (J.cues c hc).2
  refine z_aload_n O dL_law_1152 rfl ?_
  refine z_callV0 O (c_X7_joining hl) zIA zm12_29 zm12_30 zm12_31 zm4_21 zm6_2 ⟨rfl, by decide +kernel, by decide +kernel, (show _ = some 0 by decide +kernel)⟩ rfl zg_x ⟨(Nat.le_of_ble_eq_true rfl), (Nat.le_of_ble_eq_true rfl)⟩ ⟨rfl, rfl⟩ ⟨by show kc ≤ 603072; omega, by show ks ≤ 7219306; omega⟩ dL_law_1153 rfl (Nat.le_of_ble_eq_true rfl) (fun r w1 ad1 hp => ?_)
  obtain ⟨rfl, rfl, rfl⟩ := hp
  refine z_aload_n O dL_law_1156 rfl ?_
  refine z_callV0 O (c_X8_joining hl) zIA zm12_32 zm12_33 zm12_34 zm7_16 zm9_7 ⟨rfl, by decide +kernel, by decide +kernel, (show _ = some 0 by decide +kernel)⟩ rfl zg_model ⟨(Nat.le_of_ble_eq_true rfl), (Nat.le_of_ble_eq_true rfl)⟩ ⟨rfl, rfl⟩ ⟨by show kc ≤ 603072; omega, by show ks ≤ 7219306; omega⟩ dL_law_1157 rfl (Nat.le_of_ble_eq_true rfl) (fun r w2 ad2 hq => ?_)
  obtain ⟨rfl, rfl, rfl⟩ := hq
  refine z_icmp_eq O dL_law_1160 (tgt := 1924) (by decide) (fun _ => ?_) (fun q => absurd rfl q)
  exact z_widen O (by omega) (by omega) (kk _ _ _ _ _ _ _ _ J.next)

set_option maxRecDepth 100000 in
set_option maxHeartbeats 4000000 in
theorem law_15 {G : zG} {l : Launch} {et : List ExceptionTableEntry} {ini : Prop} {X : zXT} {kc ks b L i n : Nat} {xs : Nat → Int32} {Z : zM} {sb : Nat → Option Nat} {mcn : Nat → Int32} {cp : Nat → Nat} {th : Int32} {o : Nat → Int64} {od : Nat → UInt64} {ad : Nat → Nat} (O : zLaw G l et ini X) (hl : l.stackTraces = false) (S : zSld G X b L xs) (J : jJ n Z sb cp) (hn : n ≤ 511) (hi : i + 6 ≤ L) (hkc : kc + 9 ≤ 603072) (hks : ks + 60 ≤ 7219306) (kk : zKK G X kc ks b i n) : zV G X 9 kc ks 1165 (zB b i ad) [] (zent Z sb mcn cp G.2.2.2.1 Z th o od ad) ad := by
  have hh := J.1.1.1
  have hse := J.2.1.2.2.2
  have hL0 := (J.1.2.1 0 (by decide)).1
  have hL1 := (J.1.2.1 1 (by decide)).1
  have hL2 := (J.1.2.1 2 (by decide)).1
  have hsb := J.2.1.2.1
  have h6 := J.1.2.2.1
  have hcs : ∀ c, c < zN Z 2 → (Z 19 c).toNatClampNeg < zN Z 1 := fun c hc => (J.cues c hc).2
  refine z_aload_n O dL_law_1165 rfl ?_
  refine z_callV0 O (c_X7_hisses hl) zIA zm12_35 zm12_36 zm12_37 zm4_21 zm6_6 ⟨rfl, by decide +kernel, by decide +kernel, (show _ = some 0 by decide +kernel)⟩ rfl zg_x ⟨(Nat.le_of_ble_eq_true rfl), (Nat.le_of_ble_eq_true rfl)⟩ ⟨rfl, rfl⟩ ⟨by show kc ≤ 603072; omega, by show ks ≤ 7219306; omega⟩ dL_law_1166 rfl (Nat.le_of_ble_eq_true rfl) (fun r w1 ad1 hp => ?_)
  obtain ⟨rfl, rfl, rfl⟩ := hp
  refine z_aload_n O dL_law_1169 rfl ?_
  refine z_callV0 O (c_X8_hisses hl) zIA zm12_38 zm12_39 zm12_40 zm7_16 zm9_11 ⟨rfl, by decide +kernel, by decide +kernel, (show _ = some 0 by decide +kernel)⟩ rfl zg_model ⟨(Nat.le_of_ble_eq_true rfl), (Nat.le_of_ble_eq_true rfl)⟩ ⟨rfl, rfl⟩ ⟨by show kc ≤ 603072; omega, by show ks ≤ 7219306; omega⟩ dL_law_1170 rfl (Nat.le_of_ble_eq_true rfl) (fun r w2 ad2 hq => ?_)
  obtain ⟨rfl, rfl, rfl⟩ := hq
  refine z_icmp_eq O dL_law_1173 (tgt := 1924) (by decide) (fun _ => ?_) (fun q => absurd rfl q)
  exact z_widen O (by omega) (by omega) (kk _ _ _ _ _ _ _ _ J.next)

set_option maxRecDepth 100000 in
set_option maxHeartbeats 4000000 in
theorem law_18 {G : zG} {l : Launch} {et : List ExceptionTableEntry} {ini : Prop} {X : zXT} {kc ks b L i n : Nat} {xs : Nat → Int32} {Z : zM} {sb : Nat → Option Nat} {mcn : Nat → Int32} {cp : Nat → Nat} {th : Int32} {o : Nat → Int64} {od : Nat → UInt64} {ad : Nat → Nat} (O : zLaw G l et ini X) (hl : l.stackTraces = false) (S : zSld G X b L xs) (J : jJ n Z sb cp) (hn : n ≤ 511) (hi : i + 6 ≤ L) (hkc : kc + 9 ≤ 603072) (hks : ks + 60 ≤ 7219306) (kk : zKK G X kc ks b i n) : zV G X 9 kc ks 1302 (zB b i ad) [] (zent Z sb mcn cp G.2.2.2.1 Z th o od ad) ad := by
  have hh := J.1.1.1
  have hse := J.2.1.2.2.2
  have hL0 := (J.1.2.1 0 (by decide)).1
  have hL1 := (J.1.2.1 1 (by decide)).1
  have hL2 := (J.1.2.1 2 (by decide)).1
  have hsb := J.2.1.2.1
  have h6 := J.1.2.2.1
  have hcs : ∀ c, c < zN Z 2 → (Z 19 c).toNatClampNeg < zN Z 1 := fun c hc => (J.cues c hc).2
  refine z_aload_n O dL_law_1302 rfl ?_
  refine z_callV0 O (c_X7_calls hl) zIA zm12_51 zm12_52 zm12_53 zm4_21 zm6_11 ⟨rfl, by decide +kernel, by decide +kernel, (show _ = some 0 by decide +kernel)⟩ rfl zg_x ⟨(Nat.le_of_ble_eq_true rfl), (Nat.le_of_ble_eq_true rfl)⟩ ⟨rfl, rfl⟩ ⟨by show kc ≤ 603072; omega, by show ks ≤ 7219306; omega⟩ dL_law_1303 rfl (Nat.le_of_ble_eq_true rfl) (fun r w1 ad1 hp => ?_)
  obtain ⟨rfl, rfl, rfl⟩ := hp
  refine z_aload_n O dL_law_1306 rfl ?_
  refine z_callV0 O (c_X8_calls hl) zIA zm12_54 zm12_55 zm12_56 zm7_16 zm9_14 ⟨rfl, by decide +kernel, by decide +kernel, (show _ = some 0 by decide +kernel)⟩ rfl zg_model ⟨(Nat.le_of_ble_eq_true rfl), (Nat.le_of_ble_eq_true rfl)⟩ ⟨rfl, rfl⟩ ⟨by show kc ≤ 603072; omega, by show ks ≤ 7219306; omega⟩ dL_law_1307 rfl (Nat.le_of_ble_eq_true rfl) (fun r w2 ad2 hq => ?_)
  obtain ⟨rfl, rfl, rfl⟩ := hq
  refine z_icmp_eq O dL_law_1310 (tgt := 1924) (by decide) (fun _ => ?_) (fun q => absurd rfl q)
  exact z_widen O (by omega) (by omega) (kk _ _ _ _ _ _ _ _ J.next)

set_option maxRecDepth 100000 in
set_option maxHeartbeats 4000000 in
theorem law_19 {G : zG} {l : Launch} {et : List ExceptionTableEntry} {ini : Prop} {X : zXT} {kc ks b L i n : Nat} {xs : Nat → Int32} {Z : zM} {sb : Nat → Option Nat} {mcn : Nat → Int32} {cp : Nat → Nat} {th : Int32} {o : Nat → Int64} {od : Nat → UInt64} {ad : Nat → Nat} (O : zLaw G l et ini X) (hl : l.stackTraces = false) (S : zSld G X b L xs) (J : jJ n Z sb cp) (hn : n ≤ 511) (hi : i + 6 ≤ L) (hkc : kc + 9 ≤ 603072) (hks : ks + 60 ≤ 7219306) (kk : zKK G X kc ks b i n) : zV G X 9 kc ks 1315 (zB b i ad) [] (zent Z sb mcn cp G.2.2.2.1 Z th o od ad) ad := by
  have hh := J.1.1.1
  have hse := J.2.1.2.2.2
  have hL0 := (J.1.2.1 0 (by decide)).1
  have hL1 := (J.1.2.1 1 (by decide)).1
  have hL2 := (J.1.2.1 2 (by decide)).1
  have hsb := J.2.1.2.1
  have h6 := J.1.2.2.1
  have hcs : ∀ c, c < zN Z 2 → (Z 19 c).toNatClampNeg < zN Z 1 := fun c hc => (J.cues c hc).2
  refine z_aload_n O dL_law_1315 rfl ?_
  refine z_callV0 O (c_X7_suspicions hl) zIA zm12_57 zm12_58 zm12_59 zm4_21 zm6_13 ⟨rfl, by decide +kernel, by decide +kernel, (show _ = some 0 by decide +kernel)⟩ rfl zg_x ⟨(Nat.le_of_ble_eq_true rfl), (Nat.le_of_ble_eq_true rfl)⟩ ⟨rfl, rfl⟩ ⟨by show kc ≤ 603072; omega, by show ks ≤ 7219306; omega⟩ dL_law_1316 rfl (Nat.le_of_ble_eq_true rfl) (fun r w1 ad1 hp => ?_)
  obtain ⟨rfl, rfl, rfl⟩ := hp
  refine z_aload_n O dL_law_1319 rfl ?_
  refine z_callV0 O (c_X8_suspicions hl) zIA zm12_60 zm12_61 zm12_62 zm7_16 zm9_15 ⟨rfl, by decide +kernel, by decide +kernel, (show _ = some 0 by decide +kernel)⟩ rfl zg_model ⟨(Nat.le_of_ble_eq_true rfl), (Nat.le_of_ble_eq_true rfl)⟩ ⟨rfl, rfl⟩ ⟨by show kc ≤ 603072; omega, by show ks ≤ 7219306; omega⟩ dL_law_1320 rfl (Nat.le_of_ble_eq_true rfl) (fun r w2 ad2 hq => ?_)
  obtain ⟨rfl, rfl, rfl⟩ := hq
  refine z_icmp_eq O dL_law_1323 (tgt := 1924) (by decide) (fun _ => ?_) (fun q => absurd rfl q)
  exact z_widen O (by omega) (by omega) (kk _ _ _ _ _ _ _ _ J.next)

set_option maxRecDepth 100000 in
set_option maxHeartbeats 4000000 in
theorem law_20 {G : zG} {l : Launch} {et : List ExceptionTableEntry} {ini : Prop} {X : zXT} {kc ks b L i n : Nat} {xs : Nat → Int32} {Z : zM} {sb : Nat → Option Nat} {mcn : Nat → Int32} {cp : Nat → Nat} {th : Int32} {o : Nat → Int64} {od : Nat → UInt64} {ad : Nat → Nat} (O : zLaw G l et ini X) (hl : l.stackTraces = false) (S : zSld G X b L xs) (J : jJ n Z sb cp) (hn : n ≤ 511) (hi : i + 6 ≤ L) (hkc : kc + 9 ≤ 603072) (hks : ks + 60 ≤ 7219306) (kk : zKK G X kc ks b i n) : zV G X 9 kc ks 1328 (zB b i ad) [] (zent Z sb mcn cp G.2.2.2.1 Z th o od ad) ad := by
  have hh := J.1.1.1
  have hse := J.2.1.2.2.2
  have hL0 := (J.1.2.1 0 (by decide)).1
  have hL1 := (J.1.2.1 1 (by decide)).1
  have hL2 := (J.1.2.1 2 (by decide)).1
  have hsb := J.2.1.2.1
  have h6 := J.1.2.2.1
  have hcs : ∀ c, c < zN Z 2 → (Z 19 c).toNatClampNeg < zN Z 1 := fun c hc => (J.cues c hc).2
  refine z_aload_n O dL_law_1328 rfl ?_
  refine z_callV0 O (c_X7_areFoundOut hl) zIA zm12_63 zm12_64 zm12_65 zm4_21 zm6_15 ⟨rfl, by decide +kernel, by decide +kernel, (show _ = some 0 by decide +kernel)⟩ rfl zg_x ⟨(Nat.le_of_ble_eq_true rfl), (Nat.le_of_ble_eq_true rfl)⟩ ⟨rfl, rfl⟩ ⟨by show kc ≤ 603072; omega, by show ks ≤ 7219306; omega⟩ dL_law_1329 rfl (Nat.le_of_ble_eq_true rfl) (fun r w1 ad1 hp => ?_)
  obtain ⟨rfl, rfl, rfl⟩ := hp
  refine z_aload_n O dL_law_1332 rfl ?_
  refine z_callV0 O (c_X8_areFoundOut hl) zIA zm12_66 zm12_67 zm12_68 zm7_16 zm9_16 ⟨rfl, by decide +kernel, by decide +kernel, (show _ = some 0 by decide +kernel)⟩ rfl zg_model ⟨(Nat.le_of_ble_eq_true rfl), (Nat.le_of_ble_eq_true rfl)⟩ ⟨rfl, rfl⟩ ⟨by show kc ≤ 603072; omega, by show ks ≤ 7219306; omega⟩ dL_law_1333 rfl (Nat.le_of_ble_eq_true rfl) (fun r w2 ad2 hq => ?_)
  obtain ⟨rfl, rfl, rfl⟩ := hq
  refine z_icmp_eq O dL_law_1336 (tgt := 1924) (by decide) (fun _ => ?_) (fun q => absurd rfl q)
  exact z_widen O (by omega) (by omega) (kk _ _ _ _ _ _ _ _ J.next)

set_option maxRecDepth 100000 in
set_option maxHeartbeats 4000000 in
theorem law_24 {G : zG} {l : Launch} {et : List ExceptionTableEntry} {ini : Prop} {X : zXT} {kc ks b L i n : Nat} {xs : Nat → Int32} {Z : zM} {sb : Nat → Option Nat} {mcn : Nat → Int32} {cp : Nat → Nat} {th : Int32} {o : Nat → Int64} {od : Nat → UInt64} {ad : Nat → Nat} (O : zLaw G l et ini X) (hl : l.stackTraces = false) (S : zSld G X b L xs) (J : jJ n Z sb cp) (hn : n ≤ 511) (hi : i + 6 ≤ L) (hkc : kc + 9 ≤ 603072) (hks : ks + 60 ≤ 7219306) (kk : zKK G X kc ks b i n) : zV G X 9 kc ks 1509 (zB b i ad) [] (zent Z sb mcn cp G.2.2.2.1 Z th o od ad) ad := by
  have hh := J.1.1.1
  have hse := J.2.1.2.2.2
  have hL0 := (J.1.2.1 0 (by decide)).1
  have hL1 := (J.1.2.1 1 (by decide)).1
  have hL2 := (J.1.2.1 2 (by decide)).1
  have hsb := J.2.1.2.1
  have h6 := J.1.2.2.1
  have hcs : ∀ c, c < zN Z 2 → (Z 19 c).toNatClampNeg < zN Z 1 := fun c hc => (J.cues c hc).2
  refine z_aload_n O dL_law_1509 rfl ?_
  refine z_callV0 O (c_X7_purse hl) zIA zm13_14 zm13_15 zm13_16 zm4_21 zm6_35 ⟨rfl, by decide +kernel, by decide +kernel, (show _ = some 0 by decide +kernel)⟩ rfl zg_x ⟨(Nat.le_of_ble_eq_true rfl), (Nat.le_of_ble_eq_true rfl)⟩ ⟨rfl, rfl⟩ ⟨by show kc ≤ 603072; omega, by show ks ≤ 7219306; omega⟩ dL_law_1510 rfl (Nat.le_of_ble_eq_true rfl) (fun r w1 ad1 hp => ?_)
  obtain ⟨rfl, rfl, rfl⟩ := hp
  refine z_aload_n O dL_law_1513 rfl ?_
  refine z_callV0 O (c_X8_purse hl) zIA zm13_17 zm13_18 zm13_19 zm7_16 zm9_21 ⟨rfl, by decide +kernel, by decide +kernel, (show _ = some 0 by decide +kernel)⟩ rfl zg_model ⟨(Nat.le_of_ble_eq_true rfl), (Nat.le_of_ble_eq_true rfl)⟩ ⟨rfl, rfl⟩ ⟨by show kc ≤ 603072; omega, by show ks ≤ 7219306; omega⟩ dL_law_1514 rfl (Nat.le_of_ble_eq_true rfl) (fun r w2 ad2 hq => ?_)
  obtain ⟨rfl, rfl, rfl⟩ := hq
  refine z_icmp_eq O dL_law_1517 (tgt := 1924) (by decide) (fun _ => ?_) (fun q => absurd rfl q)
  exact z_widen O (by omega) (by omega) (kk _ _ _ _ _ _ _ _ J.next)

set_option maxRecDepth 100000 in
set_option maxHeartbeats 4000000 in
theorem law_27 {G : zG} {l : Launch} {et : List ExceptionTableEntry} {ini : Prop} {X : zXT} {kc ks b L i n : Nat} {xs : Nat → Int32} {Z : zM} {sb : Nat → Option Nat} {mcn : Nat → Int32} {cp : Nat → Nat} {th : Int32} {o : Nat → Int64} {od : Nat → UInt64} {ad : Nat → Nat} (O : zLaw G l et ini X) (hl : l.stackTraces = false) (S : zSld G X b L xs) (J : jJ n Z sb cp) (hn : n ≤ 511) (hi : i + 6 ≤ L) (hkc : kc + 9 ≤ 603072) (hks : ks + 60 ≤ 7219306) (kk : zKK G X kc ks b i n) : zV G X 9 kc ks 1622 (zB b i ad) [] (zent Z sb mcn cp G.2.2.2.1 Z th o od ad) ad := by
  have hh := J.1.1.1
  have hse := J.2.1.2.2.2
  have hL0 := (J.1.2.1 0 (by decide)).1
  have hL1 := (J.1.2.1 1 (by decide)).1
  have hL2 := (J.1.2.1 2 (by decide)).1
  have hsb := J.2.1.2.1
  have h6 := J.1.2.2.1
  have hcs : ∀ c, c < zN Z 2 → (Z 19 c).toNatClampNeg < zN Z 1 := fun c hc => (J.cues c hc).2
  refine z_aload_n O dL_law_1622 rfl ?_
  refine z_callV0 O (c_X7_chiefs hl) zIA zm13_30 zm13_31 zm13_32 zm4_21 zm6_42 ⟨rfl, by decide +kernel, by decide +kernel, (show _ = some 0 by decide +kernel)⟩ rfl zg_x ⟨(Nat.le_of_ble_eq_true rfl), (Nat.le_of_ble_eq_true rfl)⟩ ⟨rfl, rfl⟩ ⟨by show kc ≤ 603072; omega, by show ks ≤ 7219306; omega⟩ dL_law_1623 rfl (Nat.le_of_ble_eq_true rfl) (fun r w1 ad1 hp => ?_)
  obtain ⟨rfl, rfl, rfl⟩ := hp
  refine z_aload_n O dL_law_1626 rfl ?_
  refine z_callV0 O (c_X8_chiefs hl) zIA zm13_33 zm13_34 zm13_35 zm7_16 zm9_24 ⟨rfl, by decide +kernel, by decide +kernel, (show _ = some 0 by decide +kernel)⟩ rfl zg_model ⟨(Nat.le_of_ble_eq_true rfl), (Nat.le_of_ble_eq_true rfl)⟩ ⟨rfl, rfl⟩ ⟨by show kc ≤ 603072; omega, by show ks ≤ 7219306; omega⟩ dL_law_1627 rfl (Nat.le_of_ble_eq_true rfl) (fun r w2 ad2 hq => ?_)
  obtain ⟨rfl, rfl, rfl⟩ := hq
  refine z_icmp_eq O dL_law_1630 (tgt := 1924) (by decide) (fun _ => ?_) (fun q => absurd rfl q)
  exact z_widen O (by omega) (by omega) (kk _ _ _ _ _ _ _ _ J.next)

set_option maxRecDepth 100000 in
set_option maxHeartbeats 4000000 in
theorem law_33 {G : zG} {l : Launch} {et : List ExceptionTableEntry} {ini : Prop} {X : zXT} {kc ks b L i n : Nat} {xs : Nat → Int32} {Z : zM} {sb : Nat → Option Nat} {mcn : Nat → Int32} {cp : Nat → Nat} {th : Int32} {o : Nat → Int64} {od : Nat → UInt64} {ad : Nat → Nat} (O : zLaw G l et ini X) (hl : l.stackTraces = false) (S : zSld G X b L xs) (J : jJ n Z sb cp) (hn : n ≤ 511) (hi : i + 6 ≤ L) (hkc : kc + 9 ≤ 603072) (hks : ks + 60 ≤ 7219306) (kk : zKK G X kc ks b i n) : zV G X 9 kc ks 1911 (zB b i ad) [] (zent Z sb mcn cp G.2.2.2.1 Z th o od ad) ad := by
  have hh := J.1.1.1
  have hse := J.2.1.2.2.2
  have hL0 := (J.1.2.1 0 (by decide)).1
  have hL1 := (J.1.2.1 1 (by decide)).1
  have hL2 := (J.1.2.1 2 (by decide)).1
  have hsb := J.2.1.2.1
  have h6 := J.1.2.2.1
  have hcs : ∀ c, c < zN Z 2 → (Z 19 c).toNatClampNeg < zN Z 1 := fun c hc => (J.cues c hc).2
  refine z_aload_n O dL_law_1911 rfl ?_
  refine z_callV0 O (c_X7_isSound hl (fun k hk hz h4 => by obtain ⟨j, hj⟩ := (J.2.1.1.1 k hk).1 h4; rw [hz] at hj; cases hj) (fun k hk j hj => ⟨((hse k hk).2.2 j hj).1, ((hse k hk).2.2 j hj).2, (J.2.1.1.1 k hk).2.1 j hj, hsb.2 k hk j hj⟩) (fun k hk => (J.n09 k hk).1) (fun k hk => (J.n09 k hk).2) hL0 hsb.1 (J.2.2.2.2.small (by omega)).1) zIA zm13_62 zm13_63 zm13_64 zm4_21 zm7_3 ⟨rfl, by decide +kernel, by decide +kernel, (show _ = some 0 by decide +kernel)⟩ rfl zg_x ⟨(Nat.le_of_ble_eq_true rfl), (Nat.le_of_ble_eq_true rfl)⟩ ⟨rfl, rfl⟩ ⟨by show kc ≤ 603072; omega, by show ks ≤ 7219306; omega⟩ dL_law_1912 rfl (Nat.le_of_ble_eq_true rfl) (fun r w1 ad1 hp => ?_)
  obtain ⟨rfl, rfl, rfl⟩ := hp
  refine z_aload_n O dL_law_1915 rfl ?_
  refine z_callV0 O (c_X8_isSound hl) zIA zm13_65 zm13_66 zm13_67 zm7_16 zm9_48 ⟨rfl, by decide +kernel, by decide +kernel, (show _ = some 0 by decide +kernel)⟩ rfl zg_model ⟨(Nat.le_of_ble_eq_true rfl), (Nat.le_of_ble_eq_true rfl)⟩ ⟨rfl, rfl⟩ ⟨by show kc ≤ 603072; omega, by show ks ≤ 7219306; omega⟩ dL_law_1916 rfl (Nat.le_of_ble_eq_true rfl) (fun r w2 ad2 hq => ?_)
  obtain ⟨rfl, rfl, rfl⟩ := hq
  refine z_icmp_eq O dL_law_1919 (tgt := 1924) (by decide) (fun _ => ?_) (fun q => absurd rfl q)
  exact z_widen O (by omega) (by omega) (kk _ _ _ _ _ _ _ _ J.next)

set_option maxRecDepth 100000 in
set_option maxHeartbeats 4000000 in
theorem law_30 {G : zG} {l : Launch} {et : List ExceptionTableEntry} {ini : Prop} {X : zXT} {kc ks b L i n : Nat} {xs : Nat → Int32} {Z : zM} {sb : Nat → Option Nat} {mcn : Nat → Int32} {cp : Nat → Nat} {th : Int32} {o : Nat → Int64} {od : Nat → UInt64} {ad : Nat → Nat} (O : zLaw G l et ini X) (hl : l.stackTraces = false) (S : zSld G X b L xs) (J : jJ n Z sb cp) (hn : n ≤ 511) (hi : i + 6 ≤ L) (hkc : kc + 9 ≤ 603072) (hks : ks + 60 ≤ 7219306) (kk : zKK G X kc ks b i n) : zV G X 9 kc ks 1766 (zB b i ad) [] (zent Z sb mcn cp G.2.2.2.1 Z th o od ad) ad := by
  have hh := J.1.1.1
  have hse := J.2.1.2.2.2
  have hL0 := (J.1.2.1 0 (by decide)).1
  have hL1 := (J.1.2.1 1 (by decide)).1
  have hL2 := (J.1.2.1 2 (by decide)).1
  have hsb := J.2.1.2.1
  have h6 := J.1.2.2.1
  have hcs : ∀ c, c < zN Z 2 → (Z 19 c).toNatClampNeg < zN Z 1 := fun c hc => (J.cues c hc).2
  refine z_aload_n O dL_law_1766 rfl ?_
  refine z_callV0 O (c_X7_checksum hl hh hL0) zIA zm13_46 zm13_47 zm13_48 zm4_21 zm6_59 ⟨rfl, by decide +kernel, by decide +kernel, (show _ = some 0 by decide +kernel)⟩ rfl zg_x ⟨(Nat.le_of_ble_eq_true rfl), (Nat.le_of_ble_eq_true rfl)⟩ ⟨rfl, rfl⟩ ⟨by show kc ≤ 603072; omega, by show ks ≤ 7219306; omega⟩ dL_law_1767 rfl (Nat.le_of_ble_eq_true rfl) (fun r w1 ad1 hp => ?_)
  obtain ⟨rfl, rfl, rfl⟩ := hp
  refine z_aload_n O dL_law_1770 rfl ?_
  refine z_callV0 O (c_X8_checksum hl hh hL0.cnt) zIA zm13_49 zm13_50 zm13_51 zm7_16 zm9_39 ⟨rfl, by decide +kernel, by decide +kernel, (show _ = some 0 by decide +kernel)⟩ rfl zg_model ⟨(Nat.le_of_ble_eq_true rfl), (Nat.le_of_ble_eq_true rfl)⟩ ⟨rfl, rfl⟩ ⟨by show kc ≤ 603072; omega, by show ks ≤ 7219306; omega⟩ dL_law_1771 rfl (Nat.le_of_ble_eq_true rfl) (fun r w2 ad2 hq => ?_)
  obtain ⟨rfl, rfl, rfl⟩ := hq
  refine z_lcmp O dL_law_1774 ?_
  refine z_if_eq O dL_law_1775 (tgt := 1924) (by decide) (fun _ => ?_) (fun q => absurd ((lg_cmp_eq _ _).mpr rfl) q)
  exact z_widen O (by omega) (by omega) (kk _ _ _ _ _ _ _ _ J.next)
