set_option maxHeartbeats 4000000 in
set_option maxRecDepth 100000 in
theorem law_teacher {G : GJ} {kc ks : Nat} {b0 L : Nat} {xs : Nat → Int32} {a b : Nat → Nat} {Z K R YT U : YS} {C : Int → Int64} {J : Nat → Int} {i : Nat} {rt : Option FieldType} (hG : Cx G cL_law 4 rt RL wsL_law 12) (hX : Scr G b0 L xs) (hf0 : kc ≤ (g_R G).cells ∧ ks ≤ (g_R G).slots) (hT : TI (Z, K, R, C)) (hi : (i : Int) + 6 ≤ L) (K9 : ∀ (T2 : TS) (YT2 : YS) (J2 : Nat → Int) (U2 : YS), TI T2 → V G kc ks (LW G a b T2 YT2 J2 U2) 1382 (LV b0 a b i) []) : V G kc ks (bw (g_D G) a Z K R C YT J ++ mw (g_D G) b Z K U R C) 204 (LV b0 a b i) [] := by
  refine r_aload_n (i := 1) hG dL_law_204 rfl rfl ?_
  refine r_aload_n (i := 0) hG dL_law_205 rfl rfl ?_
  refine r_iload_n (i := 3) hG dL_law_206 rfl rfl ?_
  refine r_iconst hG dL_law_207 ?_
  refine r_iadd hG dL_law_208 ?_
  refine r_sld hG hX (by omega) dL_law_209 ?_
  refine r_midi hG (c_X6_teacher (g_l G) (g_D G) a Z K R C YT J hT (ar xs i 1) (iI_rng _)) [] (mw (g_D G) b Z K U R C) rfl gL_law_X6_teacher rfl hyX6_teacher rfl (by decide) (by decide) 0 rfl rfl rfl (Nat.le_of_ble_eq_true rfl) hf0 dL_law_210 ?_
  rintro w ⟨Y2, J2, rfl⟩
  refine V_ws (ws' := bwT (g_D G) a (s_teacher (Z, K, R, C) (ar xs i 1)).2 Y2 J2 ++ mw (g_D G) b Z K U R C) rfl ?_
  refine r_aload_n (i := 2) hG dL_law_213 rfl rfl ?_
  refine r_aload_n (i := 0) hG dL_law_214 rfl rfl ?_
  refine r_iload_n (i := 3) hG dL_law_215 rfl rfl ?_
  refine r_iconst hG dL_law_216 ?_
  refine r_iadd hG dL_law_217 ?_
  refine r_sld hG hX (by omega) dL_law_218 ?_
  refine r_midi hG (c_X7_teacher (g_l G) (g_D G) b Z K U R C hT (ar xs i 1) (iI_rng _)) (bwT (g_D G) a (s_teacher (Z, K, R, C) (ar xs i 1)).2 Y2 J2) [] rfl gL_law_X7_teacher rfl hyX7_teacher rfl (by decide) (by decide) 0 rfl rfl rfl (Nat.le_of_ble_eq_true rfl) hf0 dL_law_219 ?_
  rintro w ⟨U2, rfl⟩
  refine V_ws (ws' := LW G a b (s_teacher (Z, K, R, C) (ar xs i 1)).2 Y2 J2 U2) rfl ?_
  refine rr_icmp_eq (tgt := 1382) hG dL_law_222 (by decide) (fun c222 => ?_) (fun c222 => ?_)
  · exact K9 _ Y2 J2 U2 (ti_teacher hT (ar xs i 1))
  · exact absurd rfl c222
set_option maxHeartbeats 4000000 in
set_option maxRecDepth 100000 in
theorem law_now {G : GJ} {kc ks : Nat} {b0 L : Nat} {xs : Nat → Int32} {a b : Nat → Nat} {Z K R YT U : YS} {C : Int → Int64} {J : Nat → Int} {i : Nat} {rt : Option FieldType} (hG : Cx G cL_law 4 rt RL wsL_law 12) (hX : Scr G b0 L xs) (hf0 : kc ≤ (g_R G).cells ∧ ks ≤ (g_R G).slots) (hT : TI (Z, K, R, C)) (hi : (i : Int) + 6 ≤ L) (K9 : ∀ (T2 : TS) (YT2 : YS) (J2 : Nat → Int) (U2 : YS), TI T2 → V G kc ks (LW G a b T2 YT2 J2 U2) 1382 (LV b0 a b i) []) : V G kc ks (bw (g_D G) a Z K R C YT J ++ mw (g_D G) b Z K U R C) 227 (LV b0 a b i) [] := by
  refine r_aload_n (i := 1) hG dL_law_227 rfl rfl ?_
  refine r_aload_n (i := 0) hG dL_law_228 rfl rfl ?_
  refine r_iload_n (i := 3) hG dL_law_229 rfl rfl ?_
  refine r_iconst hG dL_law_230 ?_
  refine r_iadd hG dL_law_231 ?_
  refine r_sld hG hX (by omega) dL_law_232 ?_
  refine r_midi hG (c_X6_now (g_l G) (g_D G) a Z K R C YT J hT (ar xs i 1) (iI_rng _)) [] (mw (g_D G) b Z K U R C) rfl gL_law_X6_now rfl hyX6_now rfl (by decide) (by decide) 0 rfl rfl rfl (Nat.le_of_ble_eq_true rfl) hf0 dL_law_233 ?_
  rintro w ⟨Y2, J2, rfl⟩
  refine V_ws (ws' := bwT (g_D G) a (s_now (Z, K, R, C) (ar xs i 1)).2 Y2 J2 ++ mw (g_D G) b Z K U R C) rfl ?_
  refine r_aload_n (i := 2) hG dL_law_236 rfl rfl ?_
  refine r_aload_n (i := 0) hG dL_law_237 rfl rfl ?_
  refine r_iload_n (i := 3) hG dL_law_238 rfl rfl ?_
  refine r_iconst hG dL_law_239 ?_
  refine r_iadd hG dL_law_240 ?_
  refine r_sld hG hX (by omega) dL_law_241 ?_
  refine r_midi hG (c_X7_now (g_l G) (g_D G) b Z K U R C hT (ar xs i 1) (iI_rng _)) (bwT (g_D G) a (s_now (Z, K, R, C) (ar xs i 1)).2 Y2 J2) [] rfl gL_law_X7_now rfl hyX7_now rfl (by decide) (by decide) 0 rfl rfl rfl (Nat.le_of_ble_eq_true rfl) hf0 dL_law_242 ?_
  rintro w ⟨U2, rfl⟩
  refine V_ws (ws' := LW G a b (s_now (Z, K, R, C) (ar xs i 1)).2 Y2 J2 U2) rfl ?_
  refine rr_icmp_eq (tgt := 1382) hG dL_law_245 (by decide) (fun c245 => ?_) (fun c245 => ?_)
  · exact K9 _ Y2 J2 U2 (ti_now hT (ar xs i 1))
  · exact absurd rfl c245
set_option maxHeartbeats 4000000 in
set_option maxRecDepth 100000 in
theorem law_who {G : GJ} {kc ks : Nat} {b0 L : Nat} {xs : Nat → Int32} {a b : Nat → Nat} {Z K R YT U : YS} {C : Int → Int64} {J : Nat → Int} {i : Nat} {rt : Option FieldType} (hG : Cx G cL_law 4 rt RL wsL_law 12) (hX : Scr G b0 L xs) (hf0 : kc ≤ (g_R G).cells ∧ ks ≤ (g_R G).slots) (hT : TI (Z, K, R, C)) (hi : (i : Int) + 6 ≤ L) (K9 : ∀ (T2 : TS) (YT2 : YS) (J2 : Nat → Int) (U2 : YS), TI T2 → V G kc ks (LW G a b T2 YT2 J2 U2) 1382 (LV b0 a b i) []) : V G kc ks (bw (g_D G) a Z K R C YT J ++ mw (g_D G) b Z K U R C) 250 (LV b0 a b i) [] := by
  refine r_aload_n (i := 1) hG dL_law_250 rfl rfl ?_
  refine r_aload_n (i := 0) hG dL_law_251 rfl rfl ?_
  refine r_iload_n (i := 3) hG dL_law_252 rfl rfl ?_
  refine r_iconst hG dL_law_253 ?_
  refine r_iadd hG dL_law_254 ?_
  refine r_sld hG hX (by omega) dL_law_255 ?_
  refine r_midi hG (c_X6_who (g_l G) (g_D G) a Z K R C YT J hT (ar xs i 1) (iI_rng _)) [] (mw (g_D G) b Z K U R C) rfl gL_law_X6_who rfl hyX6_who rfl (by decide) (by decide) 0 rfl rfl rfl (Nat.le_of_ble_eq_true rfl) hf0 dL_law_256 ?_
  rintro w ⟨Y2, J2, rfl⟩
  refine V_ws (ws' := bwT (g_D G) a (s_who (Z, K, R, C) (ar xs i 1)).2 Y2 J2 ++ mw (g_D G) b Z K U R C) rfl ?_
  refine r_aload_n (i := 2) hG dL_law_259 rfl rfl ?_
  refine r_aload_n (i := 0) hG dL_law_260 rfl rfl ?_
  refine r_iload_n (i := 3) hG dL_law_261 rfl rfl ?_
  refine r_iconst hG dL_law_262 ?_
  refine r_iadd hG dL_law_263 ?_
  refine r_sld hG hX (by omega) dL_law_264 ?_
  refine r_midi hG (c_X7_who (g_l G) (g_D G) b Z K U R C hT (ar xs i 1) (iI_rng _)) (bwT (g_D G) a (s_who (Z, K, R, C) (ar xs i 1)).2 Y2 J2) [] rfl gL_law_X7_who rfl hyX7_who rfl (by decide) (by decide) 0 rfl rfl rfl (Nat.le_of_ble_eq_true rfl) hf0 dL_law_265 ?_
  rintro w ⟨U2, rfl⟩
  refine V_ws (ws' := LW G a b (s_who (Z, K, R, C) (ar xs i 1)).2 Y2 J2 U2) rfl ?_
  refine rr_icmp_eq (tgt := 1382) hG dL_law_268 (by decide) (fun c268 => ?_) (fun c268 => ?_)
  · exact K9 _ Y2 J2 U2 (ti_who hT (ar xs i 1))
  · exact absurd rfl c268
set_option maxHeartbeats 4000000 in
set_option maxRecDepth 100000 in
theorem law_child {G : GJ} {kc ks : Nat} {b0 L : Nat} {xs : Nat → Int32} {a b : Nat → Nat} {Z K R YT U : YS} {C : Int → Int64} {J : Nat → Int} {i : Nat} {rt : Option FieldType} (hG : Cx G cL_law 4 rt RL wsL_law 12) (hX : Scr G b0 L xs) (hf0 : kc ≤ (g_R G).cells ∧ ks ≤ (g_R G).slots) (hT : TI (Z, K, R, C)) (hi : (i : Int) + 6 ≤ L) (K9 : ∀ (T2 : TS) (YT2 : YS) (J2 : Nat → Int) (U2 : YS), TI T2 → V G kc ks (LW G a b T2 YT2 J2 U2) 1382 (LV b0 a b i) []) : V G kc ks (bw (g_D G) a Z K R C YT J ++ mw (g_D G) b Z K U R C) 273 (LV b0 a b i) [] := by
  refine r_aload_n (i := 1) hG dL_law_273 rfl rfl ?_
  refine r_aload_n (i := 0) hG dL_law_274 rfl rfl ?_
  refine r_iload_n (i := 3) hG dL_law_275 rfl rfl ?_
  refine r_iconst hG dL_law_276 ?_
  refine r_iadd hG dL_law_277 ?_
  refine r_sld hG hX (by omega) dL_law_278 ?_
  refine r_aload_n (i := 0) hG dL_law_279 rfl rfl ?_
  refine r_iload_n (i := 3) hG dL_law_280 rfl rfl ?_
  refine r_iconst hG dL_law_281 ?_
  refine r_iadd hG dL_law_282 ?_
  refine r_sld hG hX (by omega) dL_law_283 ?_
  refine r_midi hG (c_X6_child (g_l G) (g_D G) a Z K R C YT J hT (ar xs i 1) (ar xs i 2) (iI_rng _) (iI_rng _)) [] (mw (g_D G) b Z K U R C) rfl gL_law_X6_child rfl hyX6_child rfl (by decide) (by decide) 0 rfl rfl rfl (Nat.le_of_ble_eq_true rfl) hf0 dL_law_284 ?_
  rintro w ⟨Y2, J2, rfl⟩
  refine V_ws (ws' := bwT (g_D G) a (s_child (Z, K, R, C) (ar xs i 1) (ar xs i 2)).2 Y2 J2 ++ mw (g_D G) b Z K U R C) rfl ?_
  refine r_aload_n (i := 2) hG dL_law_287 rfl rfl ?_
  refine r_aload_n (i := 0) hG dL_law_288 rfl rfl ?_
  refine r_iload_n (i := 3) hG dL_law_289 rfl rfl ?_
  refine r_iconst hG dL_law_290 ?_
  refine r_iadd hG dL_law_291 ?_
  refine r_sld hG hX (by omega) dL_law_292 ?_
  refine r_aload_n (i := 0) hG dL_law_293 rfl rfl ?_
  refine r_iload_n (i := 3) hG dL_law_294 rfl rfl ?_
  refine r_iconst hG dL_law_295 ?_
  refine r_iadd hG dL_law_296 ?_
  refine r_sld hG hX (by omega) dL_law_297 ?_
  refine r_midi hG (c_X7_child (g_l G) (g_D G) b Z K U R C hT (ar xs i 1) (ar xs i 2) (iI_rng _) (iI_rng _)) (bwT (g_D G) a (s_child (Z, K, R, C) (ar xs i 1) (ar xs i 2)).2 Y2 J2) [] rfl gL_law_X7_child rfl hyX7_child rfl (by decide) (by decide) 0 rfl rfl rfl (Nat.le_of_ble_eq_true rfl) hf0 dL_law_298 ?_
  rintro w ⟨U2, rfl⟩
  refine V_ws (ws' := LW G a b (s_child (Z, K, R, C) (ar xs i 1) (ar xs i 2)).2 Y2 J2 U2) rfl ?_
  refine rr_icmp_eq (tgt := 1382) hG dL_law_301 (by decide) (fun c301 => ?_) (fun c301 => ?_)
  · exact K9 _ Y2 J2 U2 (ti_child hT (ar xs i 1) (ar xs i 2))
  · exact absurd rfl c301
set_option maxHeartbeats 4000000 in
set_option maxRecDepth 100000 in
theorem law_of {G : GJ} {kc ks : Nat} {b0 L : Nat} {xs : Nat → Int32} {a b : Nat → Nat} {Z K R YT U : YS} {C : Int → Int64} {J : Nat → Int} {i : Nat} {rt : Option FieldType} (hG : Cx G cL_law 4 rt RL wsL_law 12) (hX : Scr G b0 L xs) (hf0 : kc ≤ (g_R G).cells ∧ ks ≤ (g_R G).slots) (hT : TI (Z, K, R, C)) (hi : (i : Int) + 6 ≤ L) (K9 : ∀ (T2 : TS) (YT2 : YS) (J2 : Nat → Int) (U2 : YS), TI T2 → V G kc ks (LW G a b T2 YT2 J2 U2) 1382 (LV b0 a b i) []) : V G kc ks (bw (g_D G) a Z K R C YT J ++ mw (g_D G) b Z K U R C) 306 (LV b0 a b i) [] := by
  refine r_aload_n (i := 1) hG dL_law_306 rfl rfl ?_
  refine r_aload_n (i := 0) hG dL_law_307 rfl rfl ?_
  refine r_iload_n (i := 3) hG dL_law_308 rfl rfl ?_
  refine r_iconst hG dL_law_309 ?_
  refine r_iadd hG dL_law_310 ?_
  refine r_sld hG hX (by omega) dL_law_311 ?_
  refine r_aload_n (i := 0) hG dL_law_312 rfl rfl ?_
  refine r_iload_n (i := 3) hG dL_law_313 rfl rfl ?_
  refine r_iconst hG dL_law_314 ?_
  refine r_iadd hG dL_law_315 ?_
  refine r_sld hG hX (by omega) dL_law_316 ?_
  refine r_midi hG (c_X6_of (g_l G) (g_D G) a Z K R C YT J hT (ar xs i 1) (ar xs i 2) (iI_rng _) (iI_rng _)) [] (mw (g_D G) b Z K U R C) rfl gL_law_X6_of rfl hyX6_of rfl (by decide) (by decide) 0 rfl rfl rfl (Nat.le_of_ble_eq_true rfl) hf0 dL_law_317 ?_
  rintro w ⟨Y2, J2, rfl⟩
  refine V_ws (ws' := bwT (g_D G) a (s_of (Z, K, R, C) (ar xs i 1) (ar xs i 2)).2 Y2 J2 ++ mw (g_D G) b Z K U R C) rfl ?_
  refine r_aload_n (i := 2) hG dL_law_320 rfl rfl ?_
  refine r_aload_n (i := 0) hG dL_law_321 rfl rfl ?_
  refine r_iload_n (i := 3) hG dL_law_322 rfl rfl ?_
  refine r_iconst hG dL_law_323 ?_
  refine r_iadd hG dL_law_324 ?_
  refine r_sld hG hX (by omega) dL_law_325 ?_
  refine r_aload_n (i := 0) hG dL_law_326 rfl rfl ?_
  refine r_iload_n (i := 3) hG dL_law_327 rfl rfl ?_
  refine r_iconst hG dL_law_328 ?_
  refine r_iadd hG dL_law_329 ?_
  refine r_sld hG hX (by omega) dL_law_330 ?_
  refine r_midi hG (c_X7_of (g_l G) (g_D G) b Z K U R C hT (ar xs i 1) (ar xs i 2) (iI_rng _) (iI_rng _)) (bwT (g_D G) a (s_of (Z, K, R, C) (ar xs i 1) (ar xs i 2)).2 Y2 J2) [] rfl gL_law_X7_of rfl hyX7_of rfl (by decide) (by decide) 0 rfl rfl rfl (Nat.le_of_ble_eq_true rfl) hf0 dL_law_331 ?_
  rintro w ⟨U2, rfl⟩
  refine V_ws (ws' := LW G a b (s_of (Z, K, R, C) (ar xs i 1) (ar xs i 2)).2 Y2 J2 U2) rfl ?_
  refine rr_icmp_eq (tgt := 1382) hG dL_law_334 (by decide) (fun c334 => ?_) (fun c334 => ?_)
  · exact K9 _ Y2 J2 U2 (ti_of hT (ar xs i 1) (ar xs i 2))
  · exact absurd rfl c334
set_option maxHeartbeats 4000000 in
set_option maxRecDepth 100000 in
theorem law_set {G : GJ} {kc ks : Nat} {b0 L : Nat} {xs : Nat → Int32} {a b : Nat → Nat} {Z K R YT U : YS} {C : Int → Int64} {J : Nat → Int} {i : Nat} {rt : Option FieldType} (hG : Cx G cL_law 4 rt RL wsL_law 12) (hX : Scr G b0 L xs) (hf0 : kc ≤ (g_R G).cells ∧ ks ≤ (g_R G).slots) (hT : TI (Z, K, R, C)) (hi : (i : Int) + 6 ≤ L) (K9 : ∀ (T2 : TS) (YT2 : YS) (J2 : Nat → Int) (U2 : YS), TI T2 → V G kc ks (LW G a b T2 YT2 J2 U2) 1382 (LV b0 a b i) []) : V G kc ks (bw (g_D G) a Z K R C YT J ++ mw (g_D G) b Z K U R C) 339 (LV b0 a b i) [] := by
  refine r_aload_n (i := 1) hG dL_law_339 rfl rfl ?_
  refine r_aload_n (i := 0) hG dL_law_340 rfl rfl ?_
  refine r_iload_n (i := 3) hG dL_law_341 rfl rfl ?_
  refine r_iconst hG dL_law_342 ?_
  refine r_iadd hG dL_law_343 ?_
  refine r_sld hG hX (by omega) dL_law_344 ?_
  refine r_aload_n (i := 0) hG dL_law_345 rfl rfl ?_
  refine r_iload_n (i := 3) hG dL_law_346 rfl rfl ?_
  refine r_iconst hG dL_law_347 ?_
  refine r_iadd hG dL_law_348 ?_
  refine r_sld hG hX (by omega) dL_law_349 ?_
  refine r_aload_n (i := 0) hG dL_law_350 rfl rfl ?_
  refine r_iload_n (i := 3) hG dL_law_351 rfl rfl ?_
  refine r_iconst hG dL_law_352 ?_
  refine r_iadd hG dL_law_353 ?_
  refine r_sld hG hX (by omega) dL_law_354 ?_
  refine r_midi hG (c_X6_set (g_l G) (g_D G) a Z K R C YT J hT (ar xs i 1) (ar xs i 2) (ar xs i 3) (iI_rng _) (iI_rng _) (iI_rng _)) [] (mw (g_D G) b Z K U R C) rfl gL_law_X6_set rfl hyX6_set rfl (by decide) (by decide) 0 rfl rfl rfl (Nat.le_of_ble_eq_true rfl) hf0 dL_law_355 ?_
  rintro w ⟨Y2, J2, rfl⟩
  refine V_ws (ws' := bwT (g_D G) a (s_set (Z, K, R, C) (ar xs i 1) (ar xs i 2) (ar xs i 3)).2 Y2 J2 ++ mw (g_D G) b Z K U R C) rfl ?_
  refine r_aload_n (i := 2) hG dL_law_358 rfl rfl ?_
  refine r_aload_n (i := 0) hG dL_law_359 rfl rfl ?_
  refine r_iload_n (i := 3) hG dL_law_360 rfl rfl ?_
  refine r_iconst hG dL_law_361 ?_
  refine r_iadd hG dL_law_362 ?_
  refine r_sld hG hX (by omega) dL_law_363 ?_
  refine r_aload_n (i := 0) hG dL_law_364 rfl rfl ?_
  refine r_iload_n (i := 3) hG dL_law_365 rfl rfl ?_
  refine r_iconst hG dL_law_366 ?_
  refine r_iadd hG dL_law_367 ?_
  refine r_sld hG hX (by omega) dL_law_368 ?_
  refine r_aload_n (i := 0) hG dL_law_369 rfl rfl ?_
  refine r_iload_n (i := 3) hG dL_law_370 rfl rfl ?_
  refine r_iconst hG dL_law_371 ?_
  refine r_iadd hG dL_law_372 ?_
  refine r_sld hG hX (by omega) dL_law_373 ?_
  refine r_midi hG (c_X7_set (g_l G) (g_D G) b Z K U R C hT (ar xs i 1) (ar xs i 2) (ar xs i 3) (iI_rng _) (iI_rng _) (iI_rng _)) (bwT (g_D G) a (s_set (Z, K, R, C) (ar xs i 1) (ar xs i 2) (ar xs i 3)).2 Y2 J2) [] rfl gL_law_X7_set rfl hyX7_set rfl (by decide) (by decide) 0 rfl rfl rfl (Nat.le_of_ble_eq_true rfl) hf0 dL_law_374 ?_
  rintro w ⟨U2, rfl⟩
  refine V_ws (ws' := LW G a b (s_set (Z, K, R, C) (ar xs i 1) (ar xs i 2) (ar xs i 3)).2 Y2 J2 U2) rfl ?_
  refine rr_icmp_eq (tgt := 1382) hG dL_law_377 (by decide) (fun c377 => ?_) (fun c377 => ?_)
  · exact K9 _ Y2 J2 U2 (ti_set hT (ar xs i 1) (ar xs i 2) (ar xs i 3))
  · exact absurd rfl c377
set_option maxHeartbeats 4000000 in
set_option maxRecDepth 100000 in
theorem law_likes {G : GJ} {kc ks : Nat} {b0 L : Nat} {xs : Nat → Int32} {a b : Nat → Nat} {Z K R YT U : YS} {C : Int → Int64} {J : Nat → Int} {i : Nat} {rt : Option FieldType} (hG : Cx G cL_law 4 rt RL wsL_law 12) (hX : Scr G b0 L xs) (hf0 : kc ≤ (g_R G).cells ∧ ks ≤ (g_R G).slots) (hT : TI (Z, K, R, C)) (hi : (i : Int) + 6 ≤ L) (K9 : ∀ (T2 : TS) (YT2 : YS) (J2 : Nat → Int) (U2 : YS), TI T2 → V G kc ks (LW G a b T2 YT2 J2 U2) 1382 (LV b0 a b i) []) : V G kc ks (bw (g_D G) a Z K R C YT J ++ mw (g_D G) b Z K U R C) 382 (LV b0 a b i) [] := by
  refine r_aload_n (i := 1) hG dL_law_382 rfl rfl ?_
  refine r_aload_n (i := 0) hG dL_law_383 rfl rfl ?_
  refine r_iload_n (i := 3) hG dL_law_384 rfl rfl ?_
  refine r_iconst hG dL_law_385 ?_
  refine r_iadd hG dL_law_386 ?_
  refine r_sld hG hX (by omega) dL_law_387 ?_
  refine r_aload_n (i := 0) hG dL_law_388 rfl rfl ?_
  refine r_iload_n (i := 3) hG dL_law_389 rfl rfl ?_
  refine r_iconst hG dL_law_390 ?_
  refine r_iadd hG dL_law_391 ?_
  refine r_sld hG hX (by omega) dL_law_392 ?_
  refine r_aload_n (i := 0) hG dL_law_393 rfl rfl ?_
  refine r_iload_n (i := 3) hG dL_law_394 rfl rfl ?_
  refine r_iconst hG dL_law_395 ?_
  refine r_iadd hG dL_law_396 ?_
  refine r_sld hG hX (by omega) dL_law_397 ?_
  refine r_midi hG (c_X6_likes (g_l G) (g_D G) a Z K R C YT J hT (ar xs i 1) (ar xs i 2) (ar xs i 3) (iI_rng _) (iI_rng _) (iI_rng _)) [] (mw (g_D G) b Z K U R C) rfl gL_law_X6_likes rfl hyX6_likes rfl (by decide) (by decide) 0 rfl rfl rfl (Nat.le_of_ble_eq_true rfl) hf0 dL_law_398 ?_
  rintro w ⟨Y2, J2, rfl⟩
  refine V_ws (ws' := bwT (g_D G) a (s_likes (Z, K, R, C) (ar xs i 1) (ar xs i 2) (ar xs i 3)).2 Y2 J2 ++ mw (g_D G) b Z K U R C) rfl ?_
  refine r_aload_n (i := 2) hG dL_law_401 rfl rfl ?_
  refine r_aload_n (i := 0) hG dL_law_402 rfl rfl ?_
  refine r_iload_n (i := 3) hG dL_law_403 rfl rfl ?_
  refine r_iconst hG dL_law_404 ?_
  refine r_iadd hG dL_law_405 ?_
  refine r_sld hG hX (by omega) dL_law_406 ?_
  refine r_aload_n (i := 0) hG dL_law_407 rfl rfl ?_
  refine r_iload_n (i := 3) hG dL_law_408 rfl rfl ?_
  refine r_iconst hG dL_law_409 ?_
  refine r_iadd hG dL_law_410 ?_
  refine r_sld hG hX (by omega) dL_law_411 ?_
  refine r_aload_n (i := 0) hG dL_law_412 rfl rfl ?_
  refine r_iload_n (i := 3) hG dL_law_413 rfl rfl ?_
  refine r_iconst hG dL_law_414 ?_
  refine r_iadd hG dL_law_415 ?_
  refine r_sld hG hX (by omega) dL_law_416 ?_
  refine r_midi hG (c_X7_likes (g_l G) (g_D G) b Z K U R C hT (ar xs i 1) (ar xs i 2) (ar xs i 3) (iI_rng _) (iI_rng _) (iI_rng _)) (bwT (g_D G) a (s_likes (Z, K, R, C) (ar xs i 1) (ar xs i 2) (ar xs i 3)).2 Y2 J2) [] rfl gL_law_X7_likes rfl hyX7_likes rfl (by decide) (by decide) 0 rfl rfl rfl (Nat.le_of_ble_eq_true rfl) hf0 dL_law_417 ?_
  rintro w ⟨U2, rfl⟩
  refine V_ws (ws' := LW G a b (s_likes (Z, K, R, C) (ar xs i 1) (ar xs i 2) (ar xs i 3)).2 Y2 J2 U2) rfl ?_
  refine rr_icmp_eq (tgt := 1382) hG dL_law_420 (by decide) (fun c420 => ?_) (fun c420 => ?_)
  · exact K9 _ Y2 J2 U2 (ti_likes hT (ar xs i 1) (ar xs i 2) (ar xs i 3))
  · exact absurd rfl c420
