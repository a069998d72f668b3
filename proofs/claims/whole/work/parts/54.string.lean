/-! ===== the text's words: strings that nobody writes ===== -/
section VT
variable {G : GJ} {cc : ByteArray} {nL : Nat} {ret : Option FieldType} {own : String} {Ts : List Cond} {dd kc ks pc : Nat} {ws : va_W} {lv : List (Nat × Value)} {st : List Value}
theorem r_call0Vi {v : Value} {y : MethodName} {wz wz' : List Cond} {bytes : ByteArray} {maxL d n index i : Nat} {cret : Option FieldType} {As stk : List Value} {wp : va_W → Prop} (hG : Cx G cc nL ret own Ts dd) (hi : i < 11) (hM : Con (g_l G) y wz d (g_D G) [] (.ref ((g_D G).2 200 i) :: As) (some v) wp) (hT : GoodIn Ts (wsV own index RJ0 y wz)) (hw : wz = Cond.code y bytes maxL cret :: wz') (hy : hyV y RJ0 n) (hn : As.length = n) (hdd : d + 1 ≤ dd) (hmL : maxL ≤ 21) (hst : stk = As.reverse ++ .ref ((g_D G).2 200 i) :: st) (hcat : (st.map fun v => v.category).sum ≤ 8) (hf : kc ≤ (g_R G).cells ∧ ks ≤ (g_R G).slots) (hd : decode cc pc = .ok (.invokevirtual index, 3)) (k : V G kc ks ws (pc + 3) lv (v :: st)) : V G kc ks ws pc lv stk := by
  intro H locs ls hP hD hS hl
  have hF := freeW (ws := []) (G := G) hG ⟨fun i j p q h => by simp at h, fun k q h => by simp at h⟩ hS
  exact q_after (q_runV hG hM hT hw hy hn hdd hmL (vk_recv hG.sp.2.2.2 hi hS) (preW hG (fun k q h => by simp at h) ⟨fun i j p q h => by simp at h, fun k q h => by simp at h⟩ hS hF) (hl.1.trans hG.n) hst hcat hd hf) hS hF (fun w H1 locs1 h1 h2 h3 h4 h5 => k H1 locs1 ls (fun i q hq => (hP i q hq).kept (h4 q.1 (hP i q hq).lt (fun z => by
    rcases z with ⟨i, e, h⟩ | h
    · simp at h
    · exact absurd (hP i q hq).lt (Nat.not_lt.mpr h)))) hD h5 hl)
theorem r_ldcS (hG : Cx G cc nL ret "BreakSwaps$YardText" Ts dd) (i : Nat) (hi : i < 11) {index : Nat} (he : index = sIx i) (hd : decode cc pc = .ok (.ldc index, 2)) (k : V G kc ks ws (pc + 2) lv (.ref ((g_D G).2 200 i) :: st)) : V G kc ks ws pc lv st := by
  intro H locs ls hP hD hS hl
  subst he
  exact va_ldcS hG.exec hG.code hG.own (hG.sp.2.2.1 i hi) hd (k H locs ls hP hD hS hl)
theorem r_sval (hG : Cx G cc nL ret own Ts dd) {i index : Nat} (hi : i < 11) (hm : Cond.fieldLink own index "java/lang/String" "value" "[B" ∈ Ts) (hd : decode cc pc = .ok (.getfield index, 3)) (k : V G kc ks ws (pc + 3) lv (.ref ((g_D G).2 201 i) :: st)) : V G kc ks ws pc lv (.ref ((g_D G).2 200 i) :: st) := by
  intro H locs ls hP hD hS hl
  exact vk_getf hG.exec hG.code (hG.sp.2.2.2.1 i hi).2.2.1 hS hG.own (hG.hts _ hm) (fun _ h => h) hd (k H locs ls hP hD hS hl)
theorem r_scod (hG : Cx G cc nL ret own Ts dd) {i index : Nat} (hi : i < 11) (hm : Cond.fieldLink own index "java/lang/String" "coder" "B" ∈ Ts) (hd : decode cc pc = .ok (.getfield index, 3)) (k : V G kc ks ws (pc + 3) lv (.int 0 :: st)) : V G kc ks ws pc lv (.ref ((g_D G).2 200 i) :: st) := by
  intro H locs ls hP hD hS hl
  exact vk_getf hG.exec hG.code (hG.sp.2.2.2.1 i hi).2.1 hS hG.own (hG.hts _ hm) (fun _ h => h) hd (k H locs ls hP hD hS hl)
theorem sl_of : ∀ i : Fin 11, Int32.ofNat (sLen.getD i.val 0) = iI ((sLen.getD i.val 0 : Nat) : Int) := by decide +kernel
theorem sl_sh : ∀ i : Fin 11, iI ((sLen.getD i.val 0 : Nat) : Int) >>> ((0 : Int32) &&& 31) = iI ((sLen.getD i.val 0 : Nat) : Int) := by decide +kernel
theorem sl_le : ∀ i : Fin 11, 3 ≤ sLen.getD i.val 0 ∧ sLen.getD i.val 0 ≤ 7 := by decide +kernel
def sbI (i k : Nat) : Int := ((sByt.getD i []).getD k 0).toInt
theorem sb_c : ∀ i : Fin 11, ∀ k : Fin 7, ((((sByt.getD i.val []).getD k.val 0) &&& iI 255).toUInt32 % 65536).toInt32 = iI (sbI i.val k.val) := by decide +kernel
theorem sb_n : ∀ i : Fin 11, ∀ k : Fin 7, narrow .char (.int (iI (sbI i.val k.val))) = .int (iI (sbI i.val k.val)) := by decide +kernel
theorem sb_r : ∀ i : Fin 11, ∀ k : Fin 7, 0 ≤ sbI i.val k.val ∧ sbI i.val k.val ≤ 255 := by decide +kernel
theorem r_slen (hG : Cx G cc nL ret own Ts dd) {i : Nat} (hi : i < 11) (hd : decode cc pc = .ok (.arraylength, 1)) (k : V G kc ks ws (pc + 1) lv (.int (iI ((sLen.getD i 0 : Nat) : Int)) :: st)) : V G kc ks ws pc lv (.ref ((g_D G).2 201 i) :: st) := by
  intro H locs ls hP hD hS hl
  exact va_tlen hG.exec hG.code (hG.sp.2.2.2.1 i hi).2.2.2 hS (sl_of ⟨i, hi⟩) hd (k H locs ls hP hD hS hl)
theorem r_sbyte (hG : Cx G cc nL ret own Ts dd) {i : Nat} {j : Int} (hi : i < 11) (hj : 0 ≤ j ∧ j < (sLen.getD i 0 : Nat)) (hd : decode cc pc = .ok (.baload, 1)) (k : V G kc ks ws (pc + 1) lv (.int ((sByt.getD i []).getD j.toNat 0) :: st)) : V G kc ks ws pc lv (.int (iI j) :: .ref ((g_D G).2 201 i) :: st) := by
  intro H locs ls hP hD hS hl
  have h7 := (sl_le ⟨i, hi⟩).2
  refine va_tb hG.exec hG.code (hG.sp.2.2.2.1 i hi).2.2.2 hS (iI_in hj (by dsimp only at h7; omega)) rfl hd ?_
  rw [iI_tn (by dsimp only at h7; omega)]
  exact k H locs ls hP hD hS hl
theorem r_i2c (hG : Cx G cc nL ret own Ts dd) {x : Int32} (hd : decode cc pc = .ok (.i2c, 1)) (k : V G kc ks ws (pc + 1) lv (.int (x.toUInt32 % 65536).toInt32 :: st)) : V G kc ks ws pc lv (.int x :: st) := fun H locs ls hP hD hS hl => lv_i2c hG.exec hG.code hd rfl (k H locs ls hP hD hS hl)
end VT
theorem kJ0_coder_7d493_38 : Cond.fieldLink RJ0 38 "java/lang/String" "COMPACT_STRINGS" "Z" ∈ wsJ0_coder_7d493 := List.mem_of_getElem? (i := 1) rfl
theorem kJ0_coder_7d493_15 : Cond.fieldLink RJ0 15 "java/lang/String" "coder" "B" ∈ wsJ0_coder_7d493 := List.mem_of_getElem? (i := 2) rfl
theorem hyJ0_coder_7d493 : hyV yJ0_coder_7d493 RJ0 0 := by decide +kernel
set_option maxHeartbeats 4000000 in
set_option maxRecDepth 100000 in
theorem c_J0_coder_7d493 (l : Launch) (D : va_G) (i : Nat) (hi : i < 11) : Con l yJ0_coder_7d493 wsJ0_coder_7d493 0 D [] [.ref (D.2 200 i)] (some (.int 0)) (fun w => w = []) := by
  refine con_start (own := RJ0) (by decide) rfl rfl (Nat.le_of_ble_eq_true rfl) ?_
  intro G hG hE hl hD
  subst hl
  subst hD
  refine r_gets hG hG.sp.2.1.1 kJ0_coder_7d493_38 dJ0_coder_7d493_0 ?_
  refine rr_if_eq (tgt := 13) hG dJ0_coder_7d493_3 (by decide) (fun c3 => ?_) (fun c3 => ?_)
  · exact absurd c3 (by decide)
  · refine r_aload_n (i := 0) hG dJ0_coder_7d493_6 rfl rfl ?_
    refine r_scod hG hi kJ0_coder_7d493_15 dJ0_coder_7d493_7 ?_
    refine r_goto (tgt := 14) hG dJ0_coder_7d493_10 (by decide) ?_
    exact r_nret hG hE rfl dJ0_coder_7d493_14 rfl rfl
theorem kJ0_length_8abf5_9 : Cond.fieldLink RJ0 9 "java/lang/String" "value" "[B" ∈ wsJ0_length_8abf5 := List.mem_of_getElem? (i := 1) rfl
theorem hyJ0_length_8abf5 : hyV yJ0_length_8abf5 RJ0 0 := by decide +kernel
set_option maxHeartbeats 4000000 in
set_option maxRecDepth 100000 in
theorem c_J0_length_8abf5 (l : Launch) (D : va_G) (i : Nat) (hi : i < 11) : Con l yJ0_length_8abf5 wsJ0_length_8abf5 1 D [] [.ref (D.2 200 i)] (some (.int (iI ((sLen.getD i 0 : Nat) : Int)))) (fun w => w = []) := by
  refine con_start (own := RJ0) (by decide) rfl rfl (Nat.le_of_ble_eq_true rfl) ?_
  intro G hG hE hl hD
  subst hl
  subst hD
  refine r_aload_n (i := 0) hG dJ0_length_8abf5_0 rfl rfl ?_
  refine r_sval hG hi kJ0_length_8abf5_9 dJ0_length_8abf5_1 ?_
  refine r_slen hG hi dJ0_length_8abf5_4 ?_
  refine r_aload_n (i := 0) hG dJ0_length_8abf5_5 rfl rfl ?_
  refine r_call0Vi hG hi (c_J0_coder_7d493 (g_l G) (g_D G) i hi) gJ0_length_8abf5_J0_coder_7d493 rfl hyJ0_coder_7d493 rfl (by decide) (by decide) rfl (Nat.le_of_ble_eq_true rfl) ⟨Nat.zero_le _, Nat.zero_le _⟩ dJ0_length_8abf5_6 ?_
  refine rr_ishr hG dJ0_length_8abf5_9 ?_
  exact r_iret hG hE dJ0_length_8abf5_10 (sl_sh ⟨i, hi⟩) rfl
theorem kJ0_isLatin1_aae02_38 : Cond.fieldLink RJ0 38 "java/lang/String" "COMPACT_STRINGS" "Z" ∈ wsJ0_isLatin1_aae02 := List.mem_of_getElem? (i := 1) rfl
theorem kJ0_isLatin1_aae02_15 : Cond.fieldLink RJ0 15 "java/lang/String" "coder" "B" ∈ wsJ0_isLatin1_aae02 := List.mem_of_getElem? (i := 2) rfl
theorem hyJ0_isLatin1_aae02 : hyV yJ0_isLatin1_aae02 RJ0 0 := by decide +kernel
set_option maxHeartbeats 4000000 in
set_option maxRecDepth 100000 in
theorem c_J0_isLatin1_aae02 (l : Launch) (D : va_G) (i : Nat) (hi : i < 11) : Con l yJ0_isLatin1_aae02 wsJ0_isLatin1_aae02 0 D [] [.ref (D.2 200 i)] (some (.int (iI (b2 true)))) (fun w => w = []) := by
  refine con_start (own := RJ0) (by decide) rfl rfl (Nat.le_of_ble_eq_true rfl) ?_
  intro G hG hE hl hD
  subst hl
  subst hD
  refine r_gets hG hG.sp.2.1.1 kJ0_isLatin1_aae02_38 dJ0_isLatin1_aae02_0 ?_
  refine rr_if_eq (tgt := 17) hG dJ0_isLatin1_aae02_3 (by decide) (fun c3 => ?_) (fun c3 => ?_)
  · first
      | exact absurd c3 (by decide)
      | exact absurd rfl c10
  · refine r_aload_n (i := 0) hG dJ0_isLatin1_aae02_6 rfl rfl ?_
    refine r_scod hG hi kJ0_isLatin1_aae02_15 dJ0_isLatin1_aae02_7 ?_
    refine rr_if_ne (tgt := 17) hG dJ0_isLatin1_aae02_10 (by decide) (fun c10 => ?_) (fun c10 => ?_)
    · first
        | exact absurd c3 (by decide)
        | exact absurd rfl c10
    · refine r_iconst hG dJ0_isLatin1_aae02_13 ?_
      refine r_goto (tgt := 18) hG dJ0_isLatin1_aae02_14 (by decide) ?_
      exact r_zret hG hE dJ0_isLatin1_aae02_18 rfl rfl
theorem hyJ3_checkIndex_8e157 : hyS yJ3_checkIndex_8e157 3 := by decide +kernel
set_option maxHeartbeats 4000000 in
set_option maxRecDepth 100000 in
theorem c_J3_checkIndex_8e157 (l : Launch) (D : va_G) (k n : Int) (hk : 0 ≤ k ∧ k < n) (hn : n < 2147483648) : Con l yJ3_checkIndex_8e157 wsJ3_checkIndex_8e157 0 D [] [.int (iI k), .int (iI n), .null] (some (.int (iI k))) (fun w => w = []) := by
  refine con_start (own := RJ3) (by decide) rfl rfl (Nat.le_of_ble_eq_true rfl) ?_
  intro G hG hE hl hD
  subst hl
  subst hD
  refine r_iload_n (i := 0) hG dJ3_checkIndex_8e157_0 rfl rfl ?_
  refine r_if_lt (tgt := 9) hG (by omega) dJ3_checkIndex_8e157_1 (by decide) (fun c1 => ?_) (fun c1 => ?_)
  · (exfalso; omega)
  · refine r_iload_n (i := 0) hG dJ3_checkIndex_8e157_4 rfl rfl ?_
    refine r_iload_n (i := 1) hG dJ3_checkIndex_8e157_5 rfl rfl ?_
    refine r_icmp_lt (tgt := 16) hG (by omega) (by omega) dJ3_checkIndex_8e157_6 (by decide) (fun c6 => ?_) (fun c6 => ?_)
    · refine r_iload_n (i := 0) hG dJ3_checkIndex_8e157_16 rfl rfl ?_
      exact r_iret hG hE dJ3_checkIndex_8e157_17 rfl rfl
    · (exfalso; omega)
set_option maxHeartbeats 4000000 in
set_option maxRecDepth 100000 in
theorem c_J3_checkIndex_8e157_r (l : Launch) (D : va_G) (k n : Int) (t : Nat) (hk : 0 ≤ k ∧ k < n) (hn : n < 2147483648) : Con l yJ3_checkIndex_8e157 wsJ3_checkIndex_8e157 0 D [] [.int (iI k), .int (iI n), .ref t] (some (.int (iI k))) (fun w => w = []) := by
  refine con_start (own := RJ3) (by decide) rfl rfl (Nat.le_of_ble_eq_true rfl) ?_
  intro G hG hE hl hD
  subst hl
  subst hD
  refine r_iload_n (i := 0) hG dJ3_checkIndex_8e157_0 rfl rfl ?_
  refine r_if_lt (tgt := 9) hG (by omega) dJ3_checkIndex_8e157_1 (by decide) (fun c1 => ?_) (fun c1 => ?_)
  · (exfalso; omega)
  · refine r_iload_n (i := 0) hG dJ3_checkIndex_8e157_4 rfl rfl ?_
    refine r_iload_n (i := 1) hG dJ3_checkIndex_8e157_5 rfl rfl ?_
    refine r_icmp_lt (tgt := 16) hG (by omega) (by omega) dJ3_checkIndex_8e157_6 (by decide) (fun c6 => ?_) (fun c6 => ?_)
    · refine r_iload_n (i := 0) hG dJ3_checkIndex_8e157_16 rfl rfl ?_
      exact r_iret hG hE dJ3_checkIndex_8e157_17 rfl rfl
    · (exfalso; omega)
theorem kJ0_checkIndex_df160_1053 : Cond.fieldLink RJ0 1053 "jdk/internal/util/Preconditions" "SIOOBE_FORMATTER" "Ljava/util/function/BiFunction;" ∈ wsJ0_checkIndex_df160 := List.mem_of_getElem? (i := 1) rfl
theorem hyJ0_checkIndex_df160 : hyS yJ0_checkIndex_df160 2 := by decide +kernel
set_option maxHeartbeats 4000000 in
set_option maxRecDepth 100000 in
theorem c_J0_checkIndex_df160 (l : Launch) (D : va_G) (k n : Int) (hk : 0 ≤ k ∧ k < n) (hn : n < 2147483648) : Con l yJ0_checkIndex_df160 wsJ0_checkIndex_df160 1 D [] [.int (iI k), .int (iI n)] none (fun w => w = []) := by
  refine con_start (own := RJ0) (by decide) rfl rfl (Nat.le_of_ble_eq_true rfl) ?_
  intro G hG hE hl hD
  subst hl
  subst hD
  rcases hG.sp.2.1.2 with hZ | ⟨ft, hZ⟩
  · skip
    refine r_iload_n (i := 0) hG dJ0_checkIndex_df160_0 rfl rfl ?_
    refine r_iload_n (i := 1) hG dJ0_checkIndex_df160_1 rfl rfl ?_
    refine r_gets hG hZ kJ0_checkIndex_df160_1053 dJ0_checkIndex_df160_2 ?_
    refine r_call0i hG (c_J3_checkIndex_8e157 (g_l G) (g_D G) _ _ hk hn)  gJ0_checkIndex_df160_J3_checkIndex_8e157 rfl hyJ3_checkIndex_8e157 rfl (by decide) (by decide) rfl (Nat.le_of_ble_eq_true rfl) ⟨Nat.zero_le _, Nat.zero_le _⟩ dJ0_checkIndex_df160_5 ?_
    refine r_pop hG dJ0_checkIndex_df160_8 rfl ?_
    exact r_vret hG hE dJ0_checkIndex_df160_9 rfl
  · skip
    refine r_iload_n (i := 0) hG dJ0_checkIndex_df160_0 rfl rfl ?_
    refine r_iload_n (i := 1) hG dJ0_checkIndex_df160_1 rfl rfl ?_
    refine r_gets hG hZ kJ0_checkIndex_df160_1053 dJ0_checkIndex_df160_2 ?_
    refine r_call0i hG (c_J3_checkIndex_8e157_r (g_l G) (g_D G) _ _ ft hk hn)  gJ0_checkIndex_df160_J3_checkIndex_8e157 rfl hyJ3_checkIndex_8e157 rfl (by decide) (by decide) rfl (Nat.le_of_ble_eq_true rfl) ⟨Nat.zero_le _, Nat.zero_le _⟩ dJ0_checkIndex_df160_5 ?_
    refine r_pop hG dJ0_checkIndex_df160_8 rfl ?_
    exact r_vret hG hE dJ0_checkIndex_df160_9 rfl
theorem hyJ1_charAt_3b067 : hyS yJ1_charAt_3b067 2 := by decide +kernel
set_option maxHeartbeats 4000000 in
set_option maxRecDepth 100000 in
theorem c_J1_charAt_3b067 (l : Launch) (D : va_G) (i : Nat) (j : Int) (hi : i < 11) (hj : 0 ≤ j ∧ j < (sLen.getD i 0 : Nat)) : Con l yJ1_charAt_3b067 wsJ1_charAt_3b067 2 D [] [.ref (D.2 201 i), .int (iI j)] (some (.int (iI (sbI i j.toNat)))) (fun w => w = []) := by
  refine con_start (own := RJ1) (by decide) rfl rfl (Nat.le_of_ble_eq_true rfl) ?_
  intro G hG hE hl hD
  subst hl
  subst hD
  have h7 := (sl_le ⟨i, hi⟩).2
  dsimp only at h7
  refine r_iload_n (i := 1) hG dJ1_charAt_3b067_0 rfl rfl ?_
  refine r_aload_n (i := 0) hG dJ1_charAt_3b067_1 rfl rfl ?_
  refine r_slen hG hi dJ1_charAt_3b067_2 ?_
  refine r_call0v hG (c_J0_checkIndex_df160 (g_l G) (g_D G) _ _ hj (by omega))  gJ1_charAt_3b067_J0_checkIndex_df160 rfl hyJ0_checkIndex_df160 rfl (by decide) (by decide) rfl (Nat.le_of_ble_eq_true rfl) ⟨Nat.zero_le _, Nat.zero_le _⟩ dJ1_charAt_3b067_3 ?_
  refine r_aload_n (i := 0) hG dJ1_charAt_3b067_6 rfl rfl ?_
  refine r_iload_n (i := 1) hG dJ1_charAt_3b067_7 rfl rfl ?_
  refine r_sbyte hG hi hj dJ1_charAt_3b067_8 ?_
  refine r_sipush hG dJ1_charAt_3b067_9 rfl ?_
  refine rr_iand hG dJ1_charAt_3b067_12 ?_
  refine r_i2c hG dJ1_charAt_3b067_13 ?_
  exact r_nret hG hE (sb_n ⟨i, hi⟩ ⟨j.toNat, by omega⟩) dJ1_charAt_3b067_14 (sb_c ⟨i, hi⟩ ⟨j.toNat, by omega⟩) rfl
theorem kJ0_charAt_5068e_9 : Cond.fieldLink RJ0 9 "java/lang/String" "value" "[B" ∈ wsJ0_charAt_5068e := List.mem_of_getElem? (i := 1) rfl
theorem hyJ0_charAt_5068e : hyV yJ0_charAt_5068e RJ0 1 := by decide +kernel
set_option maxHeartbeats 4000000 in
set_option maxRecDepth 100000 in
theorem c_J0_charAt_5068e (l : Launch) (D : va_G) (i : Nat) (j : Int) (hi : i < 11) (hj : 0 ≤ j ∧ j < (sLen.getD i 0 : Nat)) : Con l yJ0_charAt_5068e wsJ0_charAt_5068e 3 D [] [.ref (D.2 200 i), .int (iI j)] (some (.int (iI (sbI i j.toNat)))) (fun w => w = []) := by
  refine con_start (own := RJ0) (by decide) rfl rfl (Nat.le_of_ble_eq_true rfl) ?_
  intro G hG hE hl hD
  subst hl
  subst hD
  have h7 := (sl_le ⟨i, hi⟩).2
  dsimp only at h7
  refine r_aload_n (i := 0) hG dJ0_charAt_5068e_0 rfl rfl ?_
  refine r_call0Vi hG hi (c_J0_isLatin1_aae02 (g_l G) (g_D G) i hi) gJ0_charAt_5068e_J0_isLatin1_aae02 rfl hyJ0_isLatin1_aae02 rfl (by decide) (by decide) rfl (Nat.le_of_ble_eq_true rfl) ⟨Nat.zero_le _, Nat.zero_le _⟩ dJ0_charAt_5068e_1 ?_
  refine rb_if_eq (tgt := 16) hG dJ0_charAt_5068e_4 (by decide) (fun c4 => ?_) (fun c4 => ?_)
  · exact absurd c4 (by decide)
  · refine r_aload_n (i := 0) hG dJ0_charAt_5068e_7 rfl rfl ?_
    refine r_sval hG hi kJ0_charAt_5068e_9 dJ0_charAt_5068e_8 ?_
    refine r_iload_n (i := 1) hG dJ0_charAt_5068e_11 rfl rfl ?_
    refine r_call0i hG (c_J1_charAt_3b067 (g_l G) (g_D G) i _ hi hj)  gJ0_charAt_5068e_J1_charAt_3b067 rfl hyJ1_charAt_3b067 rfl (by decide) (by decide) rfl (Nat.le_of_ble_eq_true rfl) ⟨Nat.zero_le _, Nat.zero_le _⟩ dJ0_charAt_5068e_12 ?_
    exact r_nret hG hE (sb_n ⟨i, hi⟩ ⟨j.toNat, by omega⟩) dJ0_charAt_5068e_15 rfl rfl
