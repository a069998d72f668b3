set_option maxHeartbeats 4000000 in
set_option maxRecDepth 100000 in
theorem law_read {G : GJ} {kc ks : Nat} {b0 L : Nat} {xs : Nat → Int32} {a b : Nat → Nat} {Z K R YT U : YS} {C : Int → Int64} {J : Nat → Int} {i : Nat} {rt : Option FieldType} (hG : Cx G cL_law 4 rt RL wsL_law 12) (hX : Scr G b0 L xs) (hf0 : kc ≤ (g_R G).cells ∧ ks ≤ (g_R G).slots) (hT : TI (Z, K, R, C)) (hi : (i : Int) + 6 ≤ L) (K9 : ∀ (T2 : TS) (YT2 : YS) (J2 : Nat → Int) (U2 : YS), TI T2 → V G kc ks (LW G a b T2 YT2 J2 U2) 1382 (LV b0 a b i) []) : V G kc ks (bw (g_D G) a Z K R C YT J ++ mw (g_D G) b Z K U R C) 1254 (LV b0 a b i) [] := by
  refine r_aload_n (i := 1) hG dL_law_1254 rfl rfl ?_
  refine r_aload_n (i := 0) hG dL_law_1255 rfl rfl ?_
  refine r_iload_n (i := 3) hG dL_law_1256 rfl rfl ?_
  refine r_iconst hG dL_law_1257 ?_
  refine r_iadd hG dL_law_1258 ?_
  refine r_sld hG hX (by omega) dL_law_1259 ?_
  refine r_aload_n (i := 0) hG dL_law_1260 rfl rfl ?_
  refine r_iload_n (i := 3) hG dL_law_1261 rfl rfl ?_
  refine r_iconst hG dL_law_1262 ?_
  refine r_iadd hG dL_law_1263 ?_
  refine r_sld hG hX (by omega) dL_law_1264 ?_
  refine r_aload_n (i := 0) hG dL_law_1265 rfl rfl ?_
  refine r_iload_n (i := 3) hG dL_law_1266 rfl rfl ?_
  refine r_iconst hG dL_law_1267 ?_
  refine r_iadd hG dL_law_1268 ?_
  refine r_sld hG hX (by omega) dL_law_1269 ?_
  refine r_midi hG (c_X6_read (g_l G) (g_D G) a Z K R C YT J hT (ar xs i 1) (ar xs i 2) (ar xs i 3) (iI_rng _) (iI_rng _) (iI_rng _)) [] (mw (g_D G) b Z K U R C) rfl gL_law_X6_read rfl hyX6_read rfl (by decide) (by decide) 0 rfl rfl rfl (Nat.le_of_ble_eq_true rfl) hf0 dL_law_1270 ?_
  rintro w ⟨Y2, J2, rfl⟩
  refine V_ws (ws' := bwT (g_D G) a (s_read (Z, K, R, C) (ar xs i 1) (ar xs i 2) (ar xs i 3)).2 Y2 J2 ++ mw (g_D G) b Z K U R C) rfl ?_
  refine r_aload_n (i := 2) hG dL_law_1273 rfl rfl ?_
  refine r_aload_n (i := 0) hG dL_law_1274 rfl rfl ?_
  refine r_iload_n (i := 3) hG dL_law_1275 rfl rfl ?_
  refine r_iconst hG dL_law_1276 ?_
  refine r_iadd hG dL_law_1277 ?_
  refine r_sld hG hX (by omega) dL_law_1278 ?_
  refine r_aload_n (i := 0) hG dL_law_1279 rfl rfl ?_
  refine r_iload_n (i := 3) hG dL_law_1280 rfl rfl ?_
  refine r_iconst hG dL_law_1281 ?_
  refine r_iadd hG dL_law_1282 ?_
  refine r_sld hG hX (by omega) dL_law_1283 ?_
  refine r_aload_n (i := 0) hG dL_law_1284 rfl rfl ?_
  refine r_iload_n (i := 3) hG dL_law_1285 rfl rfl ?_
  refine r_iconst hG dL_law_1286 ?_
  refine r_iadd hG dL_law_1287 ?_
  refine r_sld hG hX (by omega) dL_law_1288 ?_
  refine r_midi hG (c_X7_read (g_l G) (g_D G) b Z K U R C hT (ar xs i 1) (ar xs i 2) (ar xs i 3) (iI_rng _) (iI_rng _) (iI_rng _)) (bwT (g_D G) a (s_read (Z, K, R, C) (ar xs i 1) (ar xs i 2) (ar xs i 3)).2 Y2 J2) [] rfl gL_law_X7_read rfl hyX7_read rfl (by decide) (by decide) 0 rfl rfl rfl (Nat.le_of_ble_eq_true rfl) hf0 dL_law_1289 ?_
  rintro w ⟨U2, rfl⟩
  refine V_ws (ws' := LW G a b (s_read (Z, K, R, C) (ar xs i 1) (ar xs i 2) (ar xs i 3)).2 Y2 J2 U2) rfl ?_
  refine rr_icmp_eq (tgt := 1382) hG dL_law_1292 (by decide) (fun c1292 => ?_) (fun c1292 => ?_)
  · exact K9 _ Y2 J2 U2 (ti_read hT (ar xs i 1) (ar xs i 2) (ar xs i 3))
  · exact absurd rfl c1292
set_option maxHeartbeats 4000000 in
set_option maxRecDepth 100000 in
theorem law_image {G : GJ} {kc ks : Nat} {b0 L : Nat} {xs : Nat → Int32} {a b : Nat → Nat} {Z K R YT U : YS} {C : Int → Int64} {J : Nat → Int} {i : Nat} {rt : Option FieldType} (hG : Cx G cL_law 4 rt RL wsL_law 12) (hX : Scr G b0 L xs) (hf0 : kc ≤ (g_R G).cells ∧ ks ≤ (g_R G).slots) (hT : TI (Z, K, R, C)) (hi : (i : Int) + 6 ≤ L) (K9 : ∀ (T2 : TS) (YT2 : YS) (J2 : Nat → Int) (U2 : YS), TI T2 → V G kc ks (LW G a b T2 YT2 J2 U2) 1382 (LV b0 a b i) []) : V G kc ks (bw (g_D G) a Z K R C YT J ++ mw (g_D G) b Z K U R C) 1297 (LV b0 a b i) [] := by
  refine r_aload_n (i := 1) hG dL_law_1297 rfl rfl ?_
  refine r_midi hG (c_X6_image (g_l G) (g_D G) a Z K R C YT J hT) [] (mw (g_D G) b Z K U R C) rfl gL_law_X6_image rfl hyX6_image rfl (by decide) (by decide) 0 rfl rfl rfl (Nat.le_of_ble_eq_true rfl) hf0 dL_law_1298 ?_
  rintro w ⟨Y2, J2, rfl⟩
  refine V_ws (ws' := bwT (g_D G) a (s_image (Z, K, R, C)).2 Y2 J2 ++ mw (g_D G) b Z K U R C) rfl ?_
  refine r_aload_n (i := 2) hG dL_law_1301 rfl rfl ?_
  refine r_midi hG (c_X7_image (g_l G) (g_D G) b Z K U R C hT) (bwT (g_D G) a (s_image (Z, K, R, C)).2 Y2 J2) [] rfl gL_law_X7_image rfl hyX7_image rfl (by decide) (by decide) 0 rfl rfl rfl (Nat.le_of_ble_eq_true rfl) hf0 dL_law_1302 ?_
  rintro w ⟨U2, rfl⟩
  refine V_ws (ws' := LW G a b (s_image (Z, K, R, C)).2 Y2 J2 U2) rfl ?_
  refine rr_icmp_eq (tgt := 1382) hG dL_law_1305 (by decide) (fun c1305 => ?_) (fun c1305 => ?_)
  · exact K9 _ Y2 J2 U2 (ti_image hT)
  · exact absurd rfl c1305
set_option maxHeartbeats 4000000 in
set_option maxRecDepth 100000 in
theorem law_undo {G : GJ} {kc ks : Nat} {b0 L : Nat} {xs : Nat → Int32} {a b : Nat → Nat} {Z K R YT U : YS} {C : Int → Int64} {J : Nat → Int} {i : Nat} {rt : Option FieldType} (hG : Cx G cL_law 4 rt RL wsL_law 12) (hX : Scr G b0 L xs) (hf0 : kc ≤ (g_R G).cells ∧ ks ≤ (g_R G).slots) (hT : TI (Z, K, R, C)) (hi : (i : Int) + 6 ≤ L) (K9 : ∀ (T2 : TS) (YT2 : YS) (J2 : Nat → Int) (U2 : YS), TI T2 → V G kc ks (LW G a b T2 YT2 J2 U2) 1382 (LV b0 a b i) []) : V G kc ks (bw (g_D G) a Z K R C YT J ++ mw (g_D G) b Z K U R C) 1310 (LV b0 a b i) [] := by
  refine r_aload_n (i := 1) hG dL_law_1310 rfl rfl ?_
  refine r_midi hG (c_X6_undo (g_l G) (g_D G) a Z K R C YT J hT) [] (mw (g_D G) b Z K U R C) rfl gL_law_X6_undo rfl hyX6_undo rfl (by decide) (by decide) 0 rfl rfl rfl (Nat.le_of_ble_eq_true rfl) hf0 dL_law_1311 ?_
  rintro w ⟨Y2, J2, rfl⟩
  refine V_ws (ws' := bwT (g_D G) a (s_undo (Z, K, R, C)).2 Y2 J2 ++ mw (g_D G) b Z K U R C) rfl ?_
  refine r_aload_n (i := 2) hG dL_law_1314 rfl rfl ?_
  refine r_midi hG (c_X7_undo (g_l G) (g_D G) b Z K U R C hT) (bwT (g_D G) a (s_undo (Z, K, R, C)).2 Y2 J2) [] rfl gL_law_X7_undo rfl hyX7_undo rfl (by decide) (by decide) 0 rfl rfl rfl (Nat.le_of_ble_eq_true rfl) hf0 dL_law_1315 ?_
  rintro w ⟨U2, rfl⟩
  refine V_ws (ws' := LW G a b (s_undo (Z, K, R, C)).2 Y2 J2 U2) rfl ?_
  refine rr_icmp_eq (tgt := 1382) hG dL_law_1318 (by decide) (fun c1318 => ?_) (fun c1318 => ?_)
  · exact K9 _ Y2 J2 U2 (ti_undo hT)
  · exact absurd rfl c1318
set_option maxHeartbeats 4000000 in
set_option maxRecDepth 100000 in
theorem law_tear {G : GJ} {kc ks : Nat} {b0 L : Nat} {xs : Nat → Int32} {a b : Nat → Nat} {Z K R YT U : YS} {C : Int → Int64} {J : Nat → Int} {i : Nat} {rt : Option FieldType} (hG : Cx G cL_law 4 rt RL wsL_law 12) (hX : Scr G b0 L xs) (hf0 : kc ≤ (g_R G).cells ∧ ks ≤ (g_R G).slots) (hT : TI (Z, K, R, C)) (hi : (i : Int) + 6 ≤ L) (K9 : ∀ (T2 : TS) (YT2 : YS) (J2 : Nat → Int) (U2 : YS), TI T2 → V G kc ks (LW G a b T2 YT2 J2 U2) 1382 (LV b0 a b i) []) : V G kc ks (bw (g_D G) a Z K R C YT J ++ mw (g_D G) b Z K U R C) 1323 (LV b0 a b i) [] := by
  refine r_aload_n (i := 1) hG dL_law_1323 rfl rfl ?_
  refine r_midi hG (c_X6_tear (g_l G) (g_D G) a Z K R C YT J hT) [] (mw (g_D G) b Z K U R C) rfl gL_law_X6_tear rfl hyX6_tear rfl (by decide) (by decide) 0 rfl rfl rfl (Nat.le_of_ble_eq_true rfl) hf0 dL_law_1324 ?_
  rintro w ⟨Y2, J2, rfl⟩
  refine V_ws (ws' := bwT (g_D G) a (s_tear (Z, K, R, C)).2 Y2 J2 ++ mw (g_D G) b Z K U R C) rfl ?_
  refine r_aload_n (i := 2) hG dL_law_1327 rfl rfl ?_
  refine r_midi hG (c_X7_tear (g_l G) (g_D G) b Z K U R C hT) (bwT (g_D G) a (s_tear (Z, K, R, C)).2 Y2 J2) [] rfl gL_law_X7_tear rfl hyX7_tear rfl (by decide) (by decide) 0 rfl rfl rfl (Nat.le_of_ble_eq_true rfl) hf0 dL_law_1328 ?_
  rintro w ⟨U2, rfl⟩
  refine V_ws (ws' := LW G a b (s_tear (Z, K, R, C)).2 Y2 J2 U2) rfl ?_
  refine rr_icmp_eq (tgt := 1382) hG dL_law_1331 (by decide) (fun c1331 => ?_) (fun c1331 => ?_)
  · exact K9 _ Y2 J2 U2 (ti_tear hT)
  · exact absurd rfl c1331
set_option maxHeartbeats 4000000 in
set_option maxRecDepth 100000 in
theorem law_count {G : GJ} {kc ks : Nat} {b0 L : Nat} {xs : Nat → Int32} {a b : Nat → Nat} {Z K R YT U : YS} {C : Int → Int64} {J : Nat → Int} {i : Nat} {rt : Option FieldType} (hG : Cx G cL_law 4 rt RL wsL_law 12) (hX : Scr G b0 L xs) (hf0 : kc ≤ (g_R G).cells ∧ ks ≤ (g_R G).slots) (hT : TI (Z, K, R, C)) (hi : (i : Int) + 6 ≤ L) (K9 : ∀ (T2 : TS) (YT2 : YS) (J2 : Nat → Int) (U2 : YS), TI T2 → V G kc ks (LW G a b T2 YT2 J2 U2) 1382 (LV b0 a b i) []) : V G kc ks (bw (g_D G) a Z K R C YT J ++ mw (g_D G) b Z K U R C) 1336 (LV b0 a b i) [] := by
  refine r_aload_n (i := 1) hG dL_law_1336 rfl rfl ?_
  refine r_aload_n (i := 0) hG dL_law_1337 rfl rfl ?_
  refine r_iload_n (i := 3) hG dL_law_1338 rfl rfl ?_
  refine r_iconst hG dL_law_1339 ?_
  refine r_iadd hG dL_law_1340 ?_
  refine r_sld hG hX (by omega) dL_law_1341 ?_
  refine r_midi hG (c_X6_count (g_l G) (g_D G) a Z K R C YT J hT (ar xs i 1) (iI_rng _)) [] (mw (g_D G) b Z K U R C) rfl gL_law_X6_count rfl hyX6_count rfl (by decide) (by decide) 0 rfl rfl rfl (Nat.le_of_ble_eq_true rfl) hf0 dL_law_1342 ?_
  rintro w ⟨Y2, J2, rfl⟩
  refine V_ws (ws' := bwT (g_D G) a (s_count (Z, K, R, C) (ar xs i 1)).2 Y2 J2 ++ mw (g_D G) b Z K U R C) rfl ?_
  refine r_aload_n (i := 2) hG dL_law_1345 rfl rfl ?_
  refine r_aload_n (i := 0) hG dL_law_1346 rfl rfl ?_
  refine r_iload_n (i := 3) hG dL_law_1347 rfl rfl ?_
  refine r_iconst hG dL_law_1348 ?_
  refine r_iadd hG dL_law_1349 ?_
  refine r_sld hG hX (by omega) dL_law_1350 ?_
  refine r_midi hG (c_X7_count (g_l G) (g_D G) b Z K U R C hT (ar xs i 1) (iI_rng _)) (bwT (g_D G) a (s_count (Z, K, R, C) (ar xs i 1)).2 Y2 J2) [] rfl gL_law_X7_count rfl hyX7_count rfl (by decide) (by decide) 0 rfl rfl rfl (Nat.le_of_ble_eq_true rfl) hf0 dL_law_1351 ?_
  rintro w ⟨U2, rfl⟩
  refine V_ws (ws' := LW G a b (s_count (Z, K, R, C) (ar xs i 1)).2 Y2 J2 U2) rfl ?_
  refine rr_icmp_eq (tgt := 1382) hG dL_law_1354 (by decide) (fun c1354 => ?_) (fun c1354 => ?_)
  · exact K9 _ Y2 J2 U2 (ti_count hT (ar xs i 1))
  · exact absurd rfl c1354
set_option maxHeartbeats 4000000 in
set_option maxRecDepth 100000 in
theorem law_status {G : GJ} {kc ks : Nat} {b0 L : Nat} {xs : Nat → Int32} {a b : Nat → Nat} {Z K R YT U : YS} {C : Int → Int64} {J : Nat → Int} {i : Nat} {rt : Option FieldType} (hG : Cx G cL_law 4 rt RL wsL_law 12) (hX : Scr G b0 L xs) (hf0 : kc ≤ (g_R G).cells ∧ ks ≤ (g_R G).slots) (hT : TI (Z, K, R, C)) (hi : (i : Int) + 6 ≤ L) (K9 : ∀ (T2 : TS) (YT2 : YS) (J2 : Nat → Int) (U2 : YS), TI T2 → V G kc ks (LW G a b T2 YT2 J2 U2) 1382 (LV b0 a b i) []) : V G kc ks (bw (g_D G) a Z K R C YT J ++ mw (g_D G) b Z K U R C) 1359 (LV b0 a b i) [] := by
  refine r_aload_n (i := 1) hG dL_law_1359 rfl rfl ?_
  refine r_aload_n (i := 0) hG dL_law_1360 rfl rfl ?_
  refine r_iload_n (i := 3) hG dL_law_1361 rfl rfl ?_
  refine r_iconst hG dL_law_1362 ?_
  refine r_iadd hG dL_law_1363 ?_
  refine r_sld hG hX (by omega) dL_law_1364 ?_
  refine r_midi hG (c_X6_status (g_l G) (g_D G) a Z K R C YT J hT (ar xs i 1) (iI_rng _)) [] (mw (g_D G) b Z K U R C) rfl gL_law_X6_status rfl hyX6_status rfl (by decide) (by decide) 0 rfl rfl rfl (Nat.le_of_ble_eq_true rfl) hf0 dL_law_1365 ?_
  rintro w ⟨Y2, J2, rfl⟩
  refine V_ws (ws' := bwT (g_D G) a (s_status (Z, K, R, C) (ar xs i 1)).2 Y2 J2 ++ mw (g_D G) b Z K U R C) rfl ?_
  refine r_aload_n (i := 2) hG dL_law_1368 rfl rfl ?_
  refine r_aload_n (i := 0) hG dL_law_1369 rfl rfl ?_
  refine r_iload_n (i := 3) hG dL_law_1370 rfl rfl ?_
  refine r_iconst hG dL_law_1371 ?_
  refine r_iadd hG dL_law_1372 ?_
  refine r_sld hG hX (by omega) dL_law_1373 ?_
  refine r_midi hG (c_X7_status (g_l G) (g_D G) b Z K U R C hT (ar xs i 1) (iI_rng _)) (bwT (g_D G) a (s_status (Z, K, R, C) (ar xs i 1)).2 Y2 J2) [] rfl gL_law_X7_status rfl hyX7_status rfl (by decide) (by decide) 0 rfl rfl rfl (Nat.le_of_ble_eq_true rfl) hf0 dL_law_1374 ?_
  rintro w ⟨U2, rfl⟩
  refine V_ws (ws' := LW G a b (s_status (Z, K, R, C) (ar xs i 1)).2 Y2 J2 U2) rfl ?_
  refine rr_icmp_eq (tgt := 1382) hG dL_law_1377 (by decide) (fun c1377 => ?_) (fun c1377 => ?_)
  · exact K9 _ Y2 J2 U2 (ti_status hT (ar xs i 1))
  · exact absurd rfl c1377
