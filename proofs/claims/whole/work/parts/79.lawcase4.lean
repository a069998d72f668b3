set_option maxHeartbeats 4000000 in
set_option maxRecDepth 100000 in
theorem law_wipe {G : GJ} {kc ks : Nat} {b0 L : Nat} {xs : Nat → Int32} {a b : Nat → Nat} {Z K R YT U : YS} {C : Int → Int64} {J : Nat → Int} {i : Nat} {rt : Option FieldType} (hG : Cx G cL_law 4 rt RL wsL_law 12) (hX : Scr G b0 L xs) (hf0 : kc ≤ (g_R G).cells ∧ ks ≤ (g_R G).slots) (hT : TI (Z, K, R, C)) (hi : (i : Int) + 6 ≤ L) (K9 : ∀ (T2 : TS) (YT2 : YS) (J2 : Nat → Int) (U2 : YS), TI T2 → V G kc ks (LW G a b T2 YT2 J2 U2) 1382 (LV b0 a b i) []) : V G kc ks (bw (g_D G) a Z K R C YT J ++ mw (g_D G) b Z K U R C) 982 (LV b0 a b i) [] := by
  refine r_aload_n (i := 1) hG dL_law_982 rfl rfl ?_
  refine r_midi hG (c_X6_wipe (g_l G) (g_D G) a Z K R C YT J hT) [] (mw (g_D G) b Z K U R C) rfl gL_law_X6_wipe rfl hyX6_wipe rfl (by decide) (by decide) 0 rfl rfl rfl (Nat.le_of_ble_eq_true rfl) hf0 dL_law_983 ?_
  rintro w ⟨Y2, J2, rfl⟩
  refine V_ws (ws' := bwT (g_D G) a (s_wipe (Z, K, R, C)).2 Y2 J2 ++ mw (g_D G) b Z K U R C) rfl ?_
  refine r_aload_n (i := 2) hG dL_law_986 rfl rfl ?_
  refine r_midi hG (c_X7_wipe (g_l G) (g_D G) b Z K U R C hT) (bwT (g_D G) a (s_wipe (Z, K, R, C)).2 Y2 J2) [] rfl gL_law_X7_wipe rfl hyX7_wipe rfl (by decide) (by decide) 0 rfl rfl rfl (Nat.le_of_ble_eq_true rfl) hf0 dL_law_987 ?_
  rintro w ⟨U2, rfl⟩
  refine V_ws (ws' := LW G a b (s_wipe (Z, K, R, C)).2 Y2 J2 U2) rfl ?_
  refine rr_icmp_eq (tgt := 1382) hG dL_law_990 (by decide) (fun c990 => ?_) (fun c990 => ?_)
  · exact K9 _ Y2 J2 U2 (ti_wipe hT)
  · exact absurd rfl c990
set_option maxHeartbeats 4000000 in
set_option maxRecDepth 100000 in
theorem law_yard {G : GJ} {kc ks : Nat} {b0 L : Nat} {xs : Nat → Int32} {a b : Nat → Nat} {Z K R YT U : YS} {C : Int → Int64} {J : Nat → Int} {i : Nat} {rt : Option FieldType} (hG : Cx G cL_law 4 rt RL wsL_law 12) (hX : Scr G b0 L xs) (hf0 : kc ≤ (g_R G).cells ∧ ks ≤ (g_R G).slots) (hT : TI (Z, K, R, C)) (hi : (i : Int) + 6 ≤ L) (K9 : ∀ (T2 : TS) (YT2 : YS) (J2 : Nat → Int) (U2 : YS), TI T2 → V G kc ks (LW G a b T2 YT2 J2 U2) 1382 (LV b0 a b i) []) : V G kc ks (bw (g_D G) a Z K R C YT J ++ mw (g_D G) b Z K U R C) 995 (LV b0 a b i) [] := by
  refine r_aload_n (i := 1) hG dL_law_995 rfl rfl ?_
  refine r_midi hG (c_X6_yard (g_l G) (g_D G) a Z K R C YT J hT) [] (mw (g_D G) b Z K U R C) rfl gL_law_X6_yard rfl hyX6_yard rfl (by decide) (by decide) 0 rfl rfl rfl (Nat.le_of_ble_eq_true rfl) hf0 dL_law_996 ?_
  rintro w ⟨Y2, J2, rfl⟩
  refine V_ws (ws' := bwT (g_D G) a (s_yard (Z, K, R, C)).2 Y2 J2 ++ mw (g_D G) b Z K U R C) rfl ?_
  refine r_aload_n (i := 2) hG dL_law_999 rfl rfl ?_
  refine r_midi hG (c_X7_yard (g_l G) (g_D G) b Z K U R C hT) (bwT (g_D G) a (s_yard (Z, K, R, C)).2 Y2 J2) [] rfl gL_law_X7_yard rfl hyX7_yard rfl (by decide) (by decide) 0 rfl rfl rfl (Nat.le_of_ble_eq_true rfl) hf0 dL_law_1000 ?_
  rintro w ⟨U2, tk, bg, at_, va, bd, rfl⟩
  refine V_ws (ws' := LW G a b ((s_yard (Z, K, R, C)).2.1, K, mR R 0 tk bg at_ va bd, C) Y2 J2 U2) rfl ?_
  refine rr_icmp_eq (tgt := 1382) hG dL_law_1003 (by decide) (fun c1003 => ?_) (fun c1003 => ?_)
  · exact K9 _ Y2 J2 U2 (ti_yard hT)
  · exact absurd rfl c1003
set_option maxHeartbeats 4000000 in
set_option maxRecDepth 100000 in
theorem law_sheet {G : GJ} {kc ks : Nat} {b0 L : Nat} {xs : Nat → Int32} {a b : Nat → Nat} {Z K R YT U : YS} {C : Int → Int64} {J : Nat → Int} {i : Nat} {rt : Option FieldType} (hG : Cx G cL_law 4 rt RL wsL_law 12) (hX : Scr G b0 L xs) (hf0 : kc ≤ (g_R G).cells ∧ ks ≤ (g_R G).slots) (hT : TI (Z, K, R, C)) (hi : (i : Int) + 6 ≤ L) (K9 : ∀ (T2 : TS) (YT2 : YS) (J2 : Nat → Int) (U2 : YS), TI T2 → V G kc ks (LW G a b T2 YT2 J2 U2) 1382 (LV b0 a b i) []) : V G kc ks (bw (g_D G) a Z K R C YT J ++ mw (g_D G) b Z K U R C) 1008 (LV b0 a b i) [] := by
  refine r_aload_n (i := 1) hG dL_law_1008 rfl rfl ?_
  refine r_aload_n (i := 0) hG dL_law_1009 rfl rfl ?_
  refine r_iload_n (i := 3) hG dL_law_1010 rfl rfl ?_
  refine r_iconst hG dL_law_1011 ?_
  refine r_iadd hG dL_law_1012 ?_
  refine r_sld hG hX (by omega) dL_law_1013 ?_
  refine r_aload_n (i := 0) hG dL_law_1014 rfl rfl ?_
  refine r_iload_n (i := 3) hG dL_law_1015 rfl rfl ?_
  refine r_iconst hG dL_law_1016 ?_
  refine r_iadd hG dL_law_1017 ?_
  refine r_sld hG hX (by omega) dL_law_1018 ?_
  refine r_aload_n (i := 0) hG dL_law_1019 rfl rfl ?_
  refine r_iload_n (i := 3) hG dL_law_1020 rfl rfl ?_
  refine r_iconst hG dL_law_1021 ?_
  refine r_iadd hG dL_law_1022 ?_
  refine r_sld hG hX (by omega) dL_law_1023 ?_
  refine r_midi hG (c_X6_sheet (g_l G) (g_D G) a Z K R C YT J hT (ar xs i 1) (ar xs i 2) (ar xs i 3) (iI_rng _) (iI_rng _) (iI_rng _)) [] (mw (g_D G) b Z K U R C) rfl gL_law_X6_sheet rfl hyX6_sheet rfl (by decide) (by decide) 0 rfl rfl rfl (Nat.le_of_ble_eq_true rfl) hf0 dL_law_1024 ?_
  rintro w ⟨Y2, J2, rfl⟩
  refine V_ws (ws' := bwT (g_D G) a (s_sheet (Z, K, R, C) (ar xs i 1) (ar xs i 2) (ar xs i 3)).2 Y2 J2 ++ mw (g_D G) b Z K U R C) rfl ?_
  refine r_aload_n (i := 2) hG dL_law_1027 rfl rfl ?_
  refine r_aload_n (i := 0) hG dL_law_1028 rfl rfl ?_
  refine r_iload_n (i := 3) hG dL_law_1029 rfl rfl ?_
  refine r_iconst hG dL_law_1030 ?_
  refine r_iadd hG dL_law_1031 ?_
  refine r_sld hG hX (by omega) dL_law_1032 ?_
  refine r_aload_n (i := 0) hG dL_law_1033 rfl rfl ?_
  refine r_iload_n (i := 3) hG dL_law_1034 rfl rfl ?_
  refine r_iconst hG dL_law_1035 ?_
  refine r_iadd hG dL_law_1036 ?_
  refine r_sld hG hX (by omega) dL_law_1037 ?_
  refine r_aload_n (i := 0) hG dL_law_1038 rfl rfl ?_
  refine r_iload_n (i := 3) hG dL_law_1039 rfl rfl ?_
  refine r_iconst hG dL_law_1040 ?_
  refine r_iadd hG dL_law_1041 ?_
  refine r_sld hG hX (by omega) dL_law_1042 ?_
  refine r_midi hG (c_X7_sheet (g_l G) (g_D G) b Z K U R C hT (ar xs i 1) (ar xs i 2) (ar xs i 3) (iI_rng _) (iI_rng _) (iI_rng _)) (bwT (g_D G) a (s_sheet (Z, K, R, C) (ar xs i 1) (ar xs i 2) (ar xs i 3)).2 Y2 J2) [] rfl gL_law_X7_sheet rfl hyX7_sheet rfl (by decide) (by decide) 0 rfl rfl rfl (Nat.le_of_ble_eq_true rfl) hf0 dL_law_1043 ?_
  rintro w ⟨U2, rfl⟩
  refine V_ws (ws' := LW G a b (s_sheet (Z, K, R, C) (ar xs i 1) (ar xs i 2) (ar xs i 3)).2 Y2 J2 U2) rfl ?_
  refine rr_icmp_eq (tgt := 1382) hG dL_law_1046 (by decide) (fun c1046 => ?_) (fun c1046 => ?_)
  · exact K9 _ Y2 J2 U2 (ti_sheet hT (ar xs i 1) (ar xs i 2) (ar xs i 3))
  · exact absurd rfl c1046
set_option maxHeartbeats 4000000 in
set_option maxRecDepth 100000 in
theorem law_write {G : GJ} {kc ks : Nat} {b0 L : Nat} {xs : Nat → Int32} {a b : Nat → Nat} {Z K R YT U : YS} {C : Int → Int64} {J : Nat → Int} {i : Nat} {rt : Option FieldType} (hG : Cx G cL_law 4 rt RL wsL_law 12) (hX : Scr G b0 L xs) (hf0 : kc ≤ (g_R G).cells ∧ ks ≤ (g_R G).slots) (hT : TI (Z, K, R, C)) (hi : (i : Int) + 6 ≤ L) (K9 : ∀ (T2 : TS) (YT2 : YS) (J2 : Nat → Int) (U2 : YS), TI T2 → V G kc ks (LW G a b T2 YT2 J2 U2) 1382 (LV b0 a b i) []) : V G kc ks (bw (g_D G) a Z K R C YT J ++ mw (g_D G) b Z K U R C) 1051 (LV b0 a b i) [] := by
  refine r_aload_n (i := 1) hG dL_law_1051 rfl rfl ?_
  refine r_aload_n (i := 0) hG dL_law_1052 rfl rfl ?_
  refine r_iload_n (i := 3) hG dL_law_1053 rfl rfl ?_
  refine r_iconst hG dL_law_1054 ?_
  refine r_iadd hG dL_law_1055 ?_
  refine r_sld hG hX (by omega) dL_law_1056 ?_
  refine r_aload_n (i := 0) hG dL_law_1057 rfl rfl ?_
  refine r_iload_n (i := 3) hG dL_law_1058 rfl rfl ?_
  refine r_iconst hG dL_law_1059 ?_
  refine r_iadd hG dL_law_1060 ?_
  refine r_sld hG hX (by omega) dL_law_1061 ?_
  refine r_aload_n (i := 0) hG dL_law_1062 rfl rfl ?_
  refine r_iload_n (i := 3) hG dL_law_1063 rfl rfl ?_
  refine r_iconst hG dL_law_1064 ?_
  refine r_iadd hG dL_law_1065 ?_
  refine r_sld hG hX (by omega) dL_law_1066 ?_
  refine r_i2l hG dL_law_1067 ?_
  refine r_bipush hG dL_law_1068 rfl ?_
  refine r_lshl hG dL_law_1070 ?_
  refine r_aload_n (i := 0) hG dL_law_1071 rfl rfl ?_
  refine r_iload_n (i := 3) hG dL_law_1072 rfl rfl ?_
  refine r_iconst hG dL_law_1073 ?_
  refine r_iadd hG dL_law_1074 ?_
  refine r_sld hG hX (by omega) dL_law_1075 ?_
  refine r_i2l hG dL_law_1076 ?_
  refine r_ldc2 hG (List.mem_of_getElem? (i := 6) rfl) dL_law_1077 ?_
  refine r_land hG dL_law_1080 ?_
  refine r_lor hG dL_law_1081 ?_
  refine V_topL (fun vv hvv => ?_)
  refine r_midi hG (c_X6_write (g_l G) (g_D G) a Z K R C YT J hT (ar xs i 1) (ar xs i 2) vv (iI_rng _) (iI_rng _)) [] (mw (g_D G) b Z K U R C) rfl gL_law_X6_write rfl hyX6_write rfl (by decide) (by decide) 0 rfl rfl rfl (Nat.le_of_ble_eq_true rfl) hf0 dL_law_1082 ?_
  rintro w ⟨Y2, J2, rfl⟩
  refine V_ws (ws' := bwT (g_D G) a (s_write (Z, K, R, C) (ar xs i 1) (ar xs i 2) vv).2 Y2 J2 ++ mw (g_D G) b Z K U R C) rfl ?_
  refine r_aload_n (i := 2) hG dL_law_1085 rfl rfl ?_
  refine r_aload_n (i := 0) hG dL_law_1086 rfl rfl ?_
  refine r_iload_n (i := 3) hG dL_law_1087 rfl rfl ?_
  refine r_iconst hG dL_law_1088 ?_
  refine r_iadd hG dL_law_1089 ?_
  refine r_sld hG hX (by omega) dL_law_1090 ?_
  refine r_aload_n (i := 0) hG dL_law_1091 rfl rfl ?_
  refine r_iload_n (i := 3) hG dL_law_1092 rfl rfl ?_
  refine r_iconst hG dL_law_1093 ?_
  refine r_iadd hG dL_law_1094 ?_
  refine r_sld hG hX (by omega) dL_law_1095 ?_
  refine r_aload_n (i := 0) hG dL_law_1096 rfl rfl ?_
  refine r_iload_n (i := 3) hG dL_law_1097 rfl rfl ?_
  refine r_iconst hG dL_law_1098 ?_
  refine r_iadd hG dL_law_1099 ?_
  refine r_sld hG hX (by omega) dL_law_1100 ?_
  refine r_i2l hG dL_law_1101 ?_
  refine r_bipush hG dL_law_1102 rfl ?_
  refine r_lshl hG dL_law_1104 ?_
  refine r_aload_n (i := 0) hG dL_law_1105 rfl rfl ?_
  refine r_iload_n (i := 3) hG dL_law_1106 rfl rfl ?_
  refine r_iconst hG dL_law_1107 ?_
  refine r_iadd hG dL_law_1108 ?_
  refine r_sld hG hX (by omega) dL_law_1109 ?_
  refine r_i2l hG dL_law_1110 ?_
  refine r_ldc2 hG (List.mem_of_getElem? (i := 6) rfl) dL_law_1111 ?_
  refine r_land hG dL_law_1114 ?_
  refine r_lor hG dL_law_1115 ?_
  rw [hvv]
  refine r_midi hG (c_X7_write (g_l G) (g_D G) b Z K U R C hT (ar xs i 1) (ar xs i 2) vv (iI_rng _) (iI_rng _)) (bwT (g_D G) a (s_write (Z, K, R, C) (ar xs i 1) (ar xs i 2) vv).2 Y2 J2) [] rfl gL_law_X7_write rfl hyX7_write rfl (by decide) (by decide) 0 rfl rfl rfl (Nat.le_of_ble_eq_true rfl) hf0 dL_law_1116 ?_
  rintro w ⟨U2, rfl⟩
  refine V_ws (ws' := LW G a b (s_write (Z, K, R, C) (ar xs i 1) (ar xs i 2) vv).2 Y2 J2 U2) rfl ?_
  refine r_lcmp hG dL_law_1119 ?_
  refine rr_if_eq (tgt := 1382) hG dL_law_1120 (by decide) (fun c1120 => ?_) (fun c1120 => ?_)
  · exact K9 _ Y2 J2 U2 (ti_write hT (ar xs i 1) (ar xs i 2) vv)
  · exact absurd (lg_self _) c1120
set_option maxHeartbeats 4000000 in
set_option maxRecDepth 100000 in
theorem law_copy {G : GJ} {kc ks : Nat} {b0 L : Nat} {xs : Nat → Int32} {a b : Nat → Nat} {Z K R YT U : YS} {C : Int → Int64} {J : Nat → Int} {i : Nat} {rt : Option FieldType} (hG : Cx G cL_law 4 rt RL wsL_law 12) (hX : Scr G b0 L xs) (hf0 : kc ≤ (g_R G).cells ∧ ks ≤ (g_R G).slots) (hT : TI (Z, K, R, C)) (hi : (i : Int) + 6 ≤ L) (K9 : ∀ (T2 : TS) (YT2 : YS) (J2 : Nat → Int) (U2 : YS), TI T2 → V G kc ks (LW G a b T2 YT2 J2 U2) 1382 (LV b0 a b i) []) : V G kc ks (bw (g_D G) a Z K R C YT J ++ mw (g_D G) b Z K U R C) 1125 (LV b0 a b i) [] := by
  refine r_aload_n (i := 1) hG dL_law_1125 rfl rfl ?_
  refine r_aload_n (i := 0) hG dL_law_1126 rfl rfl ?_
  refine r_iload_n (i := 3) hG dL_law_1127 rfl rfl ?_
  refine r_iconst hG dL_law_1128 ?_
  refine r_iadd hG dL_law_1129 ?_
  refine r_sld hG hX (by omega) dL_law_1130 ?_
  refine r_aload_n (i := 0) hG dL_law_1131 rfl rfl ?_
  refine r_iload_n (i := 3) hG dL_law_1132 rfl rfl ?_
  refine r_iconst hG dL_law_1133 ?_
  refine r_iadd hG dL_law_1134 ?_
  refine r_sld hG hX (by omega) dL_law_1135 ?_
  refine r_aload_n (i := 0) hG dL_law_1136 rfl rfl ?_
  refine r_iload_n (i := 3) hG dL_law_1137 rfl rfl ?_
  refine r_iconst hG dL_law_1138 ?_
  refine r_iadd hG dL_law_1139 ?_
  refine r_sld hG hX (by omega) dL_law_1140 ?_
  refine r_aload_n (i := 0) hG dL_law_1141 rfl rfl ?_
  refine r_iload_n (i := 3) hG dL_law_1142 rfl rfl ?_
  refine r_iconst hG dL_law_1143 ?_
  refine r_iadd hG dL_law_1144 ?_
  refine r_sld hG hX (by omega) dL_law_1145 ?_
  refine r_aload_n (i := 0) hG dL_law_1146 rfl rfl ?_
  refine r_iload_n (i := 3) hG dL_law_1147 rfl rfl ?_
  refine r_iconst hG dL_law_1148 ?_
  refine r_iadd hG dL_law_1149 ?_
  refine r_sld hG hX (by omega) dL_law_1150 ?_
  refine r_midi hG (c_X6_copy (g_l G) (g_D G) a Z K R C YT J hT (ar xs i 1) (ar xs i 2) (ar xs i 3) (ar xs i 4) (ar xs i 5) (iI_rng _) (iI_rng _) (iI_rng _) (iI_rng _) (iI_rng _)) [] (mw (g_D G) b Z K U R C) rfl gL_law_X6_copy rfl hyX6_copy rfl (by decide) (by decide) 0 rfl rfl rfl (Nat.le_of_ble_eq_true rfl) hf0 dL_law_1151 ?_
  rintro w ⟨Y2, J2, rfl⟩
  refine V_ws (ws' := bwT (g_D G) a (s_copy (Z, K, R, C) (ar xs i 1) (ar xs i 2) (ar xs i 3) (ar xs i 4) (ar xs i 5)).2 Y2 J2 ++ mw (g_D G) b Z K U R C) rfl ?_
  refine r_aload_n (i := 2) hG dL_law_1154 rfl rfl ?_
  refine r_aload_n (i := 0) hG dL_law_1155 rfl rfl ?_
  refine r_iload_n (i := 3) hG dL_law_1156 rfl rfl ?_
  refine r_iconst hG dL_law_1157 ?_
  refine r_iadd hG dL_law_1158 ?_
  refine r_sld hG hX (by omega) dL_law_1159 ?_
  refine r_aload_n (i := 0) hG dL_law_1160 rfl rfl ?_
  refine r_iload_n (i := 3) hG dL_law_1161 rfl rfl ?_
  refine r_iconst hG dL_law_1162 ?_
  refine r_iadd hG dL_law_1163 ?_
  refine r_sld hG hX (by omega) dL_law_1164 ?_
  refine r_aload_n (i := 0) hG dL_law_1165 rfl rfl ?_
  refine r_iload_n (i := 3) hG dL_law_1166 rfl rfl ?_
  refine r_iconst hG dL_law_1167 ?_
  refine r_iadd hG dL_law_1168 ?_
  refine r_sld hG hX (by omega) dL_law_1169 ?_
  refine r_aload_n (i := 0) hG dL_law_1170 rfl rfl ?_
  refine r_iload_n (i := 3) hG dL_law_1171 rfl rfl ?_
  refine r_iconst hG dL_law_1172 ?_
  refine r_iadd hG dL_law_1173 ?_
  refine r_sld hG hX (by omega) dL_law_1174 ?_
  refine r_aload_n (i := 0) hG dL_law_1175 rfl rfl ?_
  refine r_iload_n (i := 3) hG dL_law_1176 rfl rfl ?_
  refine r_iconst hG dL_law_1177 ?_
  refine r_iadd hG dL_law_1178 ?_
  refine r_sld hG hX (by omega) dL_law_1179 ?_
  refine r_midi hG (c_X7_copy (g_l G) (g_D G) b Z K U R C hT (ar xs i 1) (ar xs i 2) (ar xs i 3) (ar xs i 4) (ar xs i 5) (iI_rng _) (iI_rng _) (iI_rng _) (iI_rng _) (iI_rng _)) (bwT (g_D G) a (s_copy (Z, K, R, C) (ar xs i 1) (ar xs i 2) (ar xs i 3) (ar xs i 4) (ar xs i 5)).2 Y2 J2) [] rfl gL_law_X7_copy rfl hyX7_copy rfl (by decide) (by decide) 0 rfl rfl rfl (Nat.le_of_ble_eq_true rfl) hf0 dL_law_1180 ?_
  rintro w ⟨U2, rfl⟩
  refine V_ws (ws' := LW G a b (s_copy (Z, K, R, C) (ar xs i 1) (ar xs i 2) (ar xs i 3) (ar xs i 4) (ar xs i 5)).2 Y2 J2 U2) rfl ?_
  refine rr_icmp_eq (tgt := 1382) hG dL_law_1183 (by decide) (fun c1183 => ?_) (fun c1183 => ?_)
  · exact K9 _ Y2 J2 U2 (ti_copy hT (ar xs i 1) (ar xs i 2) (ar xs i 3) (ar xs i 4) (ar xs i 5))
  · exact absurd rfl c1183
set_option maxHeartbeats 4000000 in
set_option maxRecDepth 100000 in
theorem law_lays {G : GJ} {kc ks : Nat} {b0 L : Nat} {xs : Nat → Int32} {a b : Nat → Nat} {Z K R YT U : YS} {C : Int → Int64} {J : Nat → Int} {i : Nat} {rt : Option FieldType} (hG : Cx G cL_law 4 rt RL wsL_law 12) (hX : Scr G b0 L xs) (hf0 : kc ≤ (g_R G).cells ∧ ks ≤ (g_R G).slots) (hT : TI (Z, K, R, C)) (hi : (i : Int) + 6 ≤ L) (K9 : ∀ (T2 : TS) (YT2 : YS) (J2 : Nat → Int) (U2 : YS), TI T2 → V G kc ks (LW G a b T2 YT2 J2 U2) 1382 (LV b0 a b i) []) : V G kc ks (bw (g_D G) a Z K R C YT J ++ mw (g_D G) b Z K U R C) 1188 (LV b0 a b i) [] := by
  refine r_aload_n (i := 1) hG dL_law_1188 rfl rfl ?_
  refine r_aload_n (i := 0) hG dL_law_1189 rfl rfl ?_
  refine r_iload_n (i := 3) hG dL_law_1190 rfl rfl ?_
  refine r_iconst hG dL_law_1191 ?_
  refine r_iadd hG dL_law_1192 ?_
  refine r_sld hG hX (by omega) dL_law_1193 ?_
  refine r_aload_n (i := 0) hG dL_law_1194 rfl rfl ?_
  refine r_iload_n (i := 3) hG dL_law_1195 rfl rfl ?_
  refine r_iconst hG dL_law_1196 ?_
  refine r_iadd hG dL_law_1197 ?_
  refine r_sld hG hX (by omega) dL_law_1198 ?_
  refine r_midi hG (c_X6_lays (g_l G) (g_D G) a Z K R C YT J hT (ar xs i 1) (ar xs i 2) (iI_rng _) (iI_rng _)) [] (mw (g_D G) b Z K U R C) rfl gL_law_X6_lays rfl hyX6_lays rfl (by decide) (by decide) 0 rfl rfl rfl (Nat.le_of_ble_eq_true rfl) hf0 dL_law_1199 ?_
  rintro w ⟨Y2, J2, rfl⟩
  refine V_ws (ws' := bwT (g_D G) a (s_lays (Z, K, R, C) (ar xs i 1) (ar xs i 2)).2 Y2 J2 ++ mw (g_D G) b Z K U R C) rfl ?_
  refine r_aload_n (i := 2) hG dL_law_1202 rfl rfl ?_
  refine r_aload_n (i := 0) hG dL_law_1203 rfl rfl ?_
  refine r_iload_n (i := 3) hG dL_law_1204 rfl rfl ?_
  refine r_iconst hG dL_law_1205 ?_
  refine r_iadd hG dL_law_1206 ?_
  refine r_sld hG hX (by omega) dL_law_1207 ?_
  refine r_aload_n (i := 0) hG dL_law_1208 rfl rfl ?_
  refine r_iload_n (i := 3) hG dL_law_1209 rfl rfl ?_
  refine r_iconst hG dL_law_1210 ?_
  refine r_iadd hG dL_law_1211 ?_
  refine r_sld hG hX (by omega) dL_law_1212 ?_
  refine r_midi hG (c_X7_lays (g_l G) (g_D G) b Z K U R C hT (ar xs i 1) (ar xs i 2) (iI_rng _) (iI_rng _)) (bwT (g_D G) a (s_lays (Z, K, R, C) (ar xs i 1) (ar xs i 2)).2 Y2 J2) [] rfl gL_law_X7_lays rfl hyX7_lays rfl (by decide) (by decide) 0 rfl rfl rfl (Nat.le_of_ble_eq_true rfl) hf0 dL_law_1213 ?_
  rintro w ⟨U2, rfl⟩
  refine V_ws (ws' := LW G a b (s_lays (Z, K, R, C) (ar xs i 1) (ar xs i 2)).2 Y2 J2 U2) rfl ?_
  refine rr_icmp_eq (tgt := 1382) hG dL_law_1216 (by decide) (fun c1216 => ?_) (fun c1216 => ?_)
  · exact K9 _ Y2 J2 U2 (ti_lays hT (ar xs i 1) (ar xs i 2))
  · exact absurd rfl c1216
set_option maxHeartbeats 4000000 in
set_option maxRecDepth 100000 in
theorem law_book {G : GJ} {kc ks : Nat} {b0 L : Nat} {xs : Nat → Int32} {a b : Nat → Nat} {Z K R YT U : YS} {C : Int → Int64} {J : Nat → Int} {i : Nat} {rt : Option FieldType} (hG : Cx G cL_law 4 rt RL wsL_law 12) (hX : Scr G b0 L xs) (hf0 : kc ≤ (g_R G).cells ∧ ks ≤ (g_R G).slots) (hT : TI (Z, K, R, C)) (hi : (i : Int) + 6 ≤ L) (K9 : ∀ (T2 : TS) (YT2 : YS) (J2 : Nat → Int) (U2 : YS), TI T2 → V G kc ks (LW G a b T2 YT2 J2 U2) 1382 (LV b0 a b i) []) : V G kc ks (bw (g_D G) a Z K R C YT J ++ mw (g_D G) b Z K U R C) 1221 (LV b0 a b i) [] := by
  refine r_aload_n (i := 1) hG dL_law_1221 rfl rfl ?_
  refine r_aload_n (i := 0) hG dL_law_1222 rfl rfl ?_
  refine r_iload_n (i := 3) hG dL_law_1223 rfl rfl ?_
  refine r_iconst hG dL_law_1224 ?_
  refine r_iadd hG dL_law_1225 ?_
  refine r_sld hG hX (by omega) dL_law_1226 ?_
  refine r_aload_n (i := 0) hG dL_law_1227 rfl rfl ?_
  refine r_iload_n (i := 3) hG dL_law_1228 rfl rfl ?_
  refine r_iconst hG dL_law_1229 ?_
  refine r_iadd hG dL_law_1230 ?_
  refine r_sld hG hX (by omega) dL_law_1231 ?_
  refine r_midi hG (c_X6_book (g_l G) (g_D G) a Z K R C YT J hT (ar xs i 1) (ar xs i 2) (iI_rng _) (iI_rng _)) [] (mw (g_D G) b Z K U R C) rfl gL_law_X6_book rfl hyX6_book rfl (by decide) (by decide) 0 rfl rfl rfl (Nat.le_of_ble_eq_true rfl) hf0 dL_law_1232 ?_
  rintro w ⟨Y2, J2, rfl⟩
  refine V_ws (ws' := bwT (g_D G) a (s_book (Z, K, R, C) (ar xs i 1) (ar xs i 2)).2 Y2 J2 ++ mw (g_D G) b Z K U R C) rfl ?_
  refine r_aload_n (i := 2) hG dL_law_1235 rfl rfl ?_
  refine r_aload_n (i := 0) hG dL_law_1236 rfl rfl ?_
  refine r_iload_n (i := 3) hG dL_law_1237 rfl rfl ?_
  refine r_iconst hG dL_law_1238 ?_
  refine r_iadd hG dL_law_1239 ?_
  refine r_sld hG hX (by omega) dL_law_1240 ?_
  refine r_aload_n (i := 0) hG dL_law_1241 rfl rfl ?_
  refine r_iload_n (i := 3) hG dL_law_1242 rfl rfl ?_
  refine r_iconst hG dL_law_1243 ?_
  refine r_iadd hG dL_law_1244 ?_
  refine r_sld hG hX (by omega) dL_law_1245 ?_
  refine r_midi hG (c_X7_book (g_l G) (g_D G) b Z K U R C hT (ar xs i 1) (ar xs i 2) (iI_rng _) (iI_rng _)) (bwT (g_D G) a (s_book (Z, K, R, C) (ar xs i 1) (ar xs i 2)).2 Y2 J2) [] rfl gL_law_X7_book rfl hyX7_book rfl (by decide) (by decide) 0 rfl rfl rfl (Nat.le_of_ble_eq_true rfl) hf0 dL_law_1246 ?_
  rintro w ⟨U2, rfl⟩
  refine V_ws (ws' := LW G a b (s_book (Z, K, R, C) (ar xs i 1) (ar xs i 2)).2 Y2 J2 U2) rfl ?_
  refine rr_icmp_eq (tgt := 1382) hG dL_law_1249 (by decide) (fun c1249 => ?_) (fun c1249 => ?_)
  · exact K9 _ Y2 J2 U2 (ti_book hT (ar xs i 1) (ar xs i 2))
  · exact absurd rfl c1249
