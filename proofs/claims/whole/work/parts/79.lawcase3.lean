set_option maxHeartbeats 4000000 in
set_option maxRecDepth 100000 in
theorem law_bring {G : GJ} {kc ks : Nat} {b0 L : Nat} {xs : Nat → Int32} {a b : Nat → Nat} {Z K R YT U : YS} {C : Int → Int64} {J : Nat → Int} {i : Nat} {rt : Option FieldType} (hG : Cx G cL_law 4 rt RL wsL_law 12) (hX : Scr G b0 L xs) (hf0 : kc ≤ (g_R G).cells ∧ ks ≤ (g_R G).slots) (hT : TI (Z, K, R, C)) (hi : (i : Int) + 6 ≤ L) (K9 : ∀ (T2 : TS) (YT2 : YS) (J2 : Nat → Int) (U2 : YS), TI T2 → V G kc ks (LW G a b T2 YT2 J2 U2) 1382 (LV b0 a b i) []) : V G kc ks (bw (g_D G) a Z K R C YT J ++ mw (g_D G) b Z K U R C) 794 (LV b0 a b i) [] := by
  refine r_aload_n (i := 1) hG dL_law_794 rfl rfl ?_
  refine r_aload_n (i := 0) hG dL_law_795 rfl rfl ?_
  refine r_iload_n (i := 3) hG dL_law_796 rfl rfl ?_
  refine r_iconst hG dL_law_797 ?_
  refine r_iadd hG dL_law_798 ?_
  refine r_sld hG hX (by omega) dL_law_799 ?_
  refine r_aload_n (i := 0) hG dL_law_800 rfl rfl ?_
  refine r_iload_n (i := 3) hG dL_law_801 rfl rfl ?_
  refine r_iconst hG dL_law_802 ?_
  refine r_iadd hG dL_law_803 ?_
  refine r_sld hG hX (by omega) dL_law_804 ?_
  refine r_midi hG (c_X6_bring (g_l G) (g_D G) a Z K R C YT J hT (ar xs i 1) (ar xs i 2) (iI_rng _) (iI_rng _)) [] (mw (g_D G) b Z K U R C) rfl gL_law_X6_bring rfl hyX6_bring rfl (by decide) (by decide) 0 rfl rfl rfl (Nat.le_of_ble_eq_true rfl) hf0 dL_law_805 ?_
  rintro w ⟨Y2, J2, rfl⟩
  refine V_ws (ws' := bwT (g_D G) a (s_bring (Z, K, R, C) (ar xs i 1) (ar xs i 2)).2 Y2 J2 ++ mw (g_D G) b Z K U R C) rfl ?_
  refine r_aload_n (i := 2) hG dL_law_808 rfl rfl ?_
  refine r_aload_n (i := 0) hG dL_law_809 rfl rfl ?_
  refine r_iload_n (i := 3) hG dL_law_810 rfl rfl ?_
  refine r_iconst hG dL_law_811 ?_
  refine r_iadd hG dL_law_812 ?_
  refine r_sld hG hX (by omega) dL_law_813 ?_
  refine r_aload_n (i := 0) hG dL_law_814 rfl rfl ?_
  refine r_iload_n (i := 3) hG dL_law_815 rfl rfl ?_
  refine r_iconst hG dL_law_816 ?_
  refine r_iadd hG dL_law_817 ?_
  refine r_sld hG hX (by omega) dL_law_818 ?_
  refine r_midi hG (c_X7_bring (g_l G) (g_D G) b Z K U R C hT (ar xs i 1) (ar xs i 2) (iI_rng _) (iI_rng _)) (bwT (g_D G) a (s_bring (Z, K, R, C) (ar xs i 1) (ar xs i 2)).2 Y2 J2) [] rfl gL_law_X7_bring rfl hyX7_bring rfl (by decide) (by decide) 0 rfl rfl rfl (Nat.le_of_ble_eq_true rfl) hf0 dL_law_819 ?_
  rintro w ⟨U2, rfl⟩
  refine V_ws (ws' := LW G a b (s_bring (Z, K, R, C) (ar xs i 1) (ar xs i 2)).2 Y2 J2 U2) rfl ?_
  refine rr_icmp_eq (tgt := 1382) hG dL_law_822 (by decide) (fun c822 => ?_) (fun c822 => ?_)
  · exact K9 _ Y2 J2 U2 (ti_bring hT (ar xs i 1) (ar xs i 2))
  · exact absurd rfl c822
set_option maxHeartbeats 4000000 in
set_option maxRecDepth 100000 in
theorem law_kind {G : GJ} {kc ks : Nat} {b0 L : Nat} {xs : Nat → Int32} {a b : Nat → Nat} {Z K R YT U : YS} {C : Int → Int64} {J : Nat → Int} {i : Nat} {rt : Option FieldType} (hG : Cx G cL_law 4 rt RL wsL_law 12) (hX : Scr G b0 L xs) (hf0 : kc ≤ (g_R G).cells ∧ ks ≤ (g_R G).slots) (hT : TI (Z, K, R, C)) (hi : (i : Int) + 6 ≤ L) (K9 : ∀ (T2 : TS) (YT2 : YS) (J2 : Nat → Int) (U2 : YS), TI T2 → V G kc ks (LW G a b T2 YT2 J2 U2) 1382 (LV b0 a b i) []) : V G kc ks (bw (g_D G) a Z K R C YT J ++ mw (g_D G) b Z K U R C) 827 (LV b0 a b i) [] := by
  refine r_aload_n (i := 1) hG dL_law_827 rfl rfl ?_
  refine r_aload_n (i := 0) hG dL_law_828 rfl rfl ?_
  refine r_iload_n (i := 3) hG dL_law_829 rfl rfl ?_
  refine r_iconst hG dL_law_830 ?_
  refine r_iadd hG dL_law_831 ?_
  refine r_sld hG hX (by omega) dL_law_832 ?_
  refine r_aload_n (i := 0) hG dL_law_833 rfl rfl ?_
  refine r_iload_n (i := 3) hG dL_law_834 rfl rfl ?_
  refine r_iconst hG dL_law_835 ?_
  refine r_iadd hG dL_law_836 ?_
  refine r_sld hG hX (by omega) dL_law_837 ?_
  refine r_midi hG (c_X6_kind (g_l G) (g_D G) a Z K R C YT J hT (ar xs i 1) (ar xs i 2) (iI_rng _) (iI_rng _)) [] (mw (g_D G) b Z K U R C) rfl gL_law_X6_kind rfl hyX6_kind rfl (by decide) (by decide) 0 rfl rfl rfl (Nat.le_of_ble_eq_true rfl) hf0 dL_law_838 ?_
  rintro w ⟨Y2, J2, rfl⟩
  refine V_ws (ws' := bwT (g_D G) a (s_kind (Z, K, R, C) (ar xs i 1) (ar xs i 2)).2 Y2 J2 ++ mw (g_D G) b Z K U R C) rfl ?_
  refine r_aload_n (i := 2) hG dL_law_841 rfl rfl ?_
  refine r_aload_n (i := 0) hG dL_law_842 rfl rfl ?_
  refine r_iload_n (i := 3) hG dL_law_843 rfl rfl ?_
  refine r_iconst hG dL_law_844 ?_
  refine r_iadd hG dL_law_845 ?_
  refine r_sld hG hX (by omega) dL_law_846 ?_
  refine r_aload_n (i := 0) hG dL_law_847 rfl rfl ?_
  refine r_iload_n (i := 3) hG dL_law_848 rfl rfl ?_
  refine r_iconst hG dL_law_849 ?_
  refine r_iadd hG dL_law_850 ?_
  refine r_sld hG hX (by omega) dL_law_851 ?_
  refine r_midi hG (c_X7_kind (g_l G) (g_D G) b Z K U R C hT (ar xs i 1) (ar xs i 2) (iI_rng _) (iI_rng _)) (bwT (g_D G) a (s_kind (Z, K, R, C) (ar xs i 1) (ar xs i 2)).2 Y2 J2) [] rfl gL_law_X7_kind rfl hyX7_kind rfl (by decide) (by decide) 0 rfl rfl rfl (Nat.le_of_ble_eq_true rfl) hf0 dL_law_852 ?_
  rintro w ⟨U2, rfl⟩
  refine V_ws (ws' := LW G a b (s_kind (Z, K, R, C) (ar xs i 1) (ar xs i 2)).2 Y2 J2 U2) rfl ?_
  refine rr_icmp_eq (tgt := 1382) hG dL_law_855 (by decide) (fun c855 => ?_) (fun c855 => ?_)
  · exact K9 _ Y2 J2 U2 (ti_kind hT (ar xs i 1) (ar xs i 2))
  · exact absurd rfl c855
set_option maxHeartbeats 4000000 in
set_option maxRecDepth 100000 in
theorem law_trust {G : GJ} {kc ks : Nat} {b0 L : Nat} {xs : Nat → Int32} {a b : Nat → Nat} {Z K R YT U : YS} {C : Int → Int64} {J : Nat → Int} {i : Nat} {rt : Option FieldType} (hG : Cx G cL_law 4 rt RL wsL_law 12) (hX : Scr G b0 L xs) (hf0 : kc ≤ (g_R G).cells ∧ ks ≤ (g_R G).slots) (hT : TI (Z, K, R, C)) (hi : (i : Int) + 6 ≤ L) (K9 : ∀ (T2 : TS) (YT2 : YS) (J2 : Nat → Int) (U2 : YS), TI T2 → V G kc ks (LW G a b T2 YT2 J2 U2) 1382 (LV b0 a b i) []) : V G kc ks (bw (g_D G) a Z K R C YT J ++ mw (g_D G) b Z K U R C) 860 (LV b0 a b i) [] := by
  refine r_aload_n (i := 1) hG dL_law_860 rfl rfl ?_
  refine r_aload_n (i := 0) hG dL_law_861 rfl rfl ?_
  refine r_iload_n (i := 3) hG dL_law_862 rfl rfl ?_
  refine r_iconst hG dL_law_863 ?_
  refine r_iadd hG dL_law_864 ?_
  refine r_sld hG hX (by omega) dL_law_865 ?_
  refine r_aload_n (i := 0) hG dL_law_866 rfl rfl ?_
  refine r_iload_n (i := 3) hG dL_law_867 rfl rfl ?_
  refine r_iconst hG dL_law_868 ?_
  refine r_iadd hG dL_law_869 ?_
  refine r_sld hG hX (by omega) dL_law_870 ?_
  refine r_aload_n (i := 0) hG dL_law_871 rfl rfl ?_
  refine r_iload_n (i := 3) hG dL_law_872 rfl rfl ?_
  refine r_iconst hG dL_law_873 ?_
  refine r_iadd hG dL_law_874 ?_
  refine r_sld hG hX (by omega) dL_law_875 ?_
  refine r_midi hG (c_X6_trust (g_l G) (g_D G) a Z K R C YT J hT (ar xs i 1) (ar xs i 2) (ar xs i 3) (iI_rng _) (iI_rng _) (iI_rng _)) [] (mw (g_D G) b Z K U R C) rfl gL_law_X6_trust rfl hyX6_trust rfl (by decide) (by decide) 0 rfl rfl rfl (Nat.le_of_ble_eq_true rfl) hf0 dL_law_876 ?_
  rintro w ⟨Y2, J2, rfl⟩
  refine V_ws (ws' := bwT (g_D G) a (s_trust (Z, K, R, C) (ar xs i 1) (ar xs i 2) (ar xs i 3)).2 Y2 J2 ++ mw (g_D G) b Z K U R C) rfl ?_
  refine r_aload_n (i := 2) hG dL_law_879 rfl rfl ?_
  refine r_aload_n (i := 0) hG dL_law_880 rfl rfl ?_
  refine r_iload_n (i := 3) hG dL_law_881 rfl rfl ?_
  refine r_iconst hG dL_law_882 ?_
  refine r_iadd hG dL_law_883 ?_
  refine r_sld hG hX (by omega) dL_law_884 ?_
  refine r_aload_n (i := 0) hG dL_law_885 rfl rfl ?_
  refine r_iload_n (i := 3) hG dL_law_886 rfl rfl ?_
  refine r_iconst hG dL_law_887 ?_
  refine r_iadd hG dL_law_888 ?_
  refine r_sld hG hX (by omega) dL_law_889 ?_
  refine r_aload_n (i := 0) hG dL_law_890 rfl rfl ?_
  refine r_iload_n (i := 3) hG dL_law_891 rfl rfl ?_
  refine r_iconst hG dL_law_892 ?_
  refine r_iadd hG dL_law_893 ?_
  refine r_sld hG hX (by omega) dL_law_894 ?_
  refine r_midi hG (c_X7_trust (g_l G) (g_D G) b Z K U R C hT (ar xs i 1) (ar xs i 2) (ar xs i 3) (iI_rng _) (iI_rng _) (iI_rng _)) (bwT (g_D G) a (s_trust (Z, K, R, C) (ar xs i 1) (ar xs i 2) (ar xs i 3)).2 Y2 J2) [] rfl gL_law_X7_trust rfl hyX7_trust rfl (by decide) (by decide) 0 rfl rfl rfl (Nat.le_of_ble_eq_true rfl) hf0 dL_law_895 ?_
  rintro w ⟨U2, rfl⟩
  refine V_ws (ws' := LW G a b (s_trust (Z, K, R, C) (ar xs i 1) (ar xs i 2) (ar xs i 3)).2 Y2 J2 U2) rfl ?_
  refine rr_icmp_eq (tgt := 1382) hG dL_law_898 (by decide) (fun c898 => ?_) (fun c898 => ?_)
  · exact K9 _ Y2 J2 U2 (ti_trust hT (ar xs i 1) (ar xs i 2) (ar xs i 3))
  · exact absurd rfl c898
set_option maxHeartbeats 4000000 in
set_option maxRecDepth 100000 in
theorem law_away {G : GJ} {kc ks : Nat} {b0 L : Nat} {xs : Nat → Int32} {a b : Nat → Nat} {Z K R YT U : YS} {C : Int → Int64} {J : Nat → Int} {i : Nat} {rt : Option FieldType} (hG : Cx G cL_law 4 rt RL wsL_law 12) (hX : Scr G b0 L xs) (hf0 : kc ≤ (g_R G).cells ∧ ks ≤ (g_R G).slots) (hT : TI (Z, K, R, C)) (hi : (i : Int) + 6 ≤ L) (K9 : ∀ (T2 : TS) (YT2 : YS) (J2 : Nat → Int) (U2 : YS), TI T2 → V G kc ks (LW G a b T2 YT2 J2 U2) 1382 (LV b0 a b i) []) : V G kc ks (bw (g_D G) a Z K R C YT J ++ mw (g_D G) b Z K U R C) 903 (LV b0 a b i) [] := by
  refine r_aload_n (i := 1) hG dL_law_903 rfl rfl ?_
  refine r_aload_n (i := 0) hG dL_law_904 rfl rfl ?_
  refine r_iload_n (i := 3) hG dL_law_905 rfl rfl ?_
  refine r_iconst hG dL_law_906 ?_
  refine r_iadd hG dL_law_907 ?_
  refine r_sld hG hX (by omega) dL_law_908 ?_
  refine r_midi hG (c_X6_away (g_l G) (g_D G) a Z K R C YT J hT (ar xs i 1) (iI_rng _)) [] (mw (g_D G) b Z K U R C) rfl gL_law_X6_away rfl hyX6_away rfl (by decide) (by decide) 0 rfl rfl rfl (Nat.le_of_ble_eq_true rfl) hf0 dL_law_909 ?_
  rintro w ⟨Y2, J2, rfl⟩
  refine V_ws (ws' := bwT (g_D G) a (s_away (Z, K, R, C) (ar xs i 1)).2 Y2 J2 ++ mw (g_D G) b Z K U R C) rfl ?_
  refine r_aload_n (i := 2) hG dL_law_912 rfl rfl ?_
  refine r_aload_n (i := 0) hG dL_law_913 rfl rfl ?_
  refine r_iload_n (i := 3) hG dL_law_914 rfl rfl ?_
  refine r_iconst hG dL_law_915 ?_
  refine r_iadd hG dL_law_916 ?_
  refine r_sld hG hX (by omega) dL_law_917 ?_
  refine r_midi hG (c_X7_away (g_l G) (g_D G) b Z K U R C hT (ar xs i 1) (iI_rng _)) (bwT (g_D G) a (s_away (Z, K, R, C) (ar xs i 1)).2 Y2 J2) [] rfl gL_law_X7_away rfl hyX7_away rfl (by decide) (by decide) 0 rfl rfl rfl (Nat.le_of_ble_eq_true rfl) hf0 dL_law_918 ?_
  rintro w ⟨U2, rfl⟩
  refine V_ws (ws' := LW G a b (s_away (Z, K, R, C) (ar xs i 1)).2 Y2 J2 U2) rfl ?_
  refine rr_icmp_eq (tgt := 1382) hG dL_law_921 (by decide) (fun c921 => ?_) (fun c921 => ?_)
  · exact K9 _ Y2 J2 U2 (ti_away hT (ar xs i 1))
  · exact absurd rfl c921
set_option maxHeartbeats 4000000 in
set_option maxRecDepth 100000 in
theorem law_winner {G : GJ} {kc ks : Nat} {b0 L : Nat} {xs : Nat → Int32} {a b : Nat → Nat} {Z K R YT U : YS} {C : Int → Int64} {J : Nat → Int} {i : Nat} {rt : Option FieldType} (hG : Cx G cL_law 4 rt RL wsL_law 12) (hX : Scr G b0 L xs) (hf0 : kc ≤ (g_R G).cells ∧ ks ≤ (g_R G).slots) (hT : TI (Z, K, R, C)) (hi : (i : Int) + 6 ≤ L) (K9 : ∀ (T2 : TS) (YT2 : YS) (J2 : Nat → Int) (U2 : YS), TI T2 → V G kc ks (LW G a b T2 YT2 J2 U2) 1382 (LV b0 a b i) []) : V G kc ks (bw (g_D G) a Z K R C YT J ++ mw (g_D G) b Z K U R C) 926 (LV b0 a b i) [] := by
  refine r_aload_n (i := 1) hG dL_law_926 rfl rfl ?_
  refine r_aload_n (i := 0) hG dL_law_927 rfl rfl ?_
  refine r_iload_n (i := 3) hG dL_law_928 rfl rfl ?_
  refine r_iconst hG dL_law_929 ?_
  refine r_iadd hG dL_law_930 ?_
  refine r_sld hG hX (by omega) dL_law_931 ?_
  refine r_midi hG (c_X6_winner (g_l G) (g_D G) a Z K R C YT J hT (ar xs i 1) (iI_rng _)) [] (mw (g_D G) b Z K U R C) rfl gL_law_X6_winner rfl hyX6_winner rfl (by decide) (by decide) 0 rfl rfl rfl (Nat.le_of_ble_eq_true rfl) hf0 dL_law_932 ?_
  rintro w ⟨Y2, J2, rfl⟩
  refine V_ws (ws' := bwT (g_D G) a (s_winner (Z, K, R, C) (ar xs i 1)).2 Y2 J2 ++ mw (g_D G) b Z K U R C) rfl ?_
  refine r_aload_n (i := 2) hG dL_law_935 rfl rfl ?_
  refine r_aload_n (i := 0) hG dL_law_936 rfl rfl ?_
  refine r_iload_n (i := 3) hG dL_law_937 rfl rfl ?_
  refine r_iconst hG dL_law_938 ?_
  refine r_iadd hG dL_law_939 ?_
  refine r_sld hG hX (by omega) dL_law_940 ?_
  refine r_midi hG (c_X7_winner (g_l G) (g_D G) b Z K U R C hT (ar xs i 1) (iI_rng _)) (bwT (g_D G) a (s_winner (Z, K, R, C) (ar xs i 1)).2 Y2 J2) [] rfl gL_law_X7_winner rfl hyX7_winner rfl (by decide) (by decide) 0 rfl rfl rfl (Nat.le_of_ble_eq_true rfl) hf0 dL_law_941 ?_
  rintro w ⟨U2, rfl⟩
  refine V_ws (ws' := LW G a b (s_winner (Z, K, R, C) (ar xs i 1)).2 Y2 J2 U2) rfl ?_
  refine rr_icmp_eq (tgt := 1382) hG dL_law_944 (by decide) (fun c944 => ?_) (fun c944 => ?_)
  · exact K9 _ Y2 J2 U2 (ti_winner hT (ar xs i 1))
  · exact absurd rfl c944
set_option maxHeartbeats 4000000 in
set_option maxRecDepth 100000 in
theorem law_feed {G : GJ} {kc ks : Nat} {b0 L : Nat} {xs : Nat → Int32} {a b : Nat → Nat} {Z K R YT U : YS} {C : Int → Int64} {J : Nat → Int} {i : Nat} {rt : Option FieldType} (hG : Cx G cL_law 4 rt RL wsL_law 12) (hX : Scr G b0 L xs) (hf0 : kc ≤ (g_R G).cells ∧ ks ≤ (g_R G).slots) (hT : TI (Z, K, R, C)) (hi : (i : Int) + 6 ≤ L) (K9 : ∀ (T2 : TS) (YT2 : YS) (J2 : Nat → Int) (U2 : YS), TI T2 → V G kc ks (LW G a b T2 YT2 J2 U2) 1382 (LV b0 a b i) []) : V G kc ks (bw (g_D G) a Z K R C YT J ++ mw (g_D G) b Z K U R C) 949 (LV b0 a b i) [] := by
  refine r_aload_n (i := 1) hG dL_law_949 rfl rfl ?_
  refine r_aload_n (i := 0) hG dL_law_950 rfl rfl ?_
  refine r_iload_n (i := 3) hG dL_law_951 rfl rfl ?_
  refine r_iconst hG dL_law_952 ?_
  refine r_iadd hG dL_law_953 ?_
  refine r_sld hG hX (by omega) dL_law_954 ?_
  refine r_aload_n (i := 0) hG dL_law_955 rfl rfl ?_
  refine r_iload_n (i := 3) hG dL_law_956 rfl rfl ?_
  refine r_iconst hG dL_law_957 ?_
  refine r_iadd hG dL_law_958 ?_
  refine r_sld hG hX (by omega) dL_law_959 ?_
  refine r_midi hG (c_X6_feed (g_l G) (g_D G) a Z K R C YT J hT (ar xs i 1) (ar xs i 2) (iI_rng _) (iI_rng _)) [] (mw (g_D G) b Z K U R C) rfl gL_law_X6_feed rfl hyX6_feed rfl (by decide) (by decide) 0 rfl rfl rfl (Nat.le_of_ble_eq_true rfl) hf0 dL_law_960 ?_
  rintro w ⟨Y2, J2, rfl⟩
  refine V_ws (ws' := bwT (g_D G) a (s_feed (Z, K, R, C) (ar xs i 1) (ar xs i 2)).2 Y2 J2 ++ mw (g_D G) b Z K U R C) rfl ?_
  refine r_aload_n (i := 2) hG dL_law_963 rfl rfl ?_
  refine r_aload_n (i := 0) hG dL_law_964 rfl rfl ?_
  refine r_iload_n (i := 3) hG dL_law_965 rfl rfl ?_
  refine r_iconst hG dL_law_966 ?_
  refine r_iadd hG dL_law_967 ?_
  refine r_sld hG hX (by omega) dL_law_968 ?_
  refine r_aload_n (i := 0) hG dL_law_969 rfl rfl ?_
  refine r_iload_n (i := 3) hG dL_law_970 rfl rfl ?_
  refine r_iconst hG dL_law_971 ?_
  refine r_iadd hG dL_law_972 ?_
  refine r_sld hG hX (by omega) dL_law_973 ?_
  refine r_midi hG (c_X7_feed (g_l G) (g_D G) b Z K U R C hT (ar xs i 1) (ar xs i 2) (iI_rng _) (iI_rng _)) (bwT (g_D G) a (s_feed (Z, K, R, C) (ar xs i 1) (ar xs i 2)).2 Y2 J2) [] rfl gL_law_X7_feed rfl hyX7_feed rfl (by decide) (by decide) 0 rfl rfl rfl (Nat.le_of_ble_eq_true rfl) hf0 dL_law_974 ?_
  rintro w ⟨U2, rfl⟩
  refine V_ws (ws' := LW G a b (s_feed (Z, K, R, C) (ar xs i 1) (ar xs i 2)).2 Y2 J2 U2) rfl ?_
  refine rr_icmp_eq (tgt := 1382) hG dL_law_977 (by decide) (fun c977 => ?_) (fun c977 => ?_)
  · exact K9 _ Y2 J2 U2 (ti_feed hT (ar xs i 1) (ar xs i 2))
  · exact absurd rfl c977
