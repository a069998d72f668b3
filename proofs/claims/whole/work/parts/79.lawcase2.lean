set_option maxHeartbeats 4000000 in
set_option maxRecDepth 100000 in
theorem law_ring {G : GJ} {kc ks : Nat} {b0 L : Nat} {xs : Nat → Int32} {a b : Nat → Nat} {Z K R YT U : YS} {C : Int → Int64} {J : Nat → Int} {i : Nat} {rt : Option FieldType} (hG : Cx G cL_law 4 rt RL wsL_law 12) (hX : Scr G b0 L xs) (hf0 : kc ≤ (g_R G).cells ∧ ks ≤ (g_R G).slots) (hT : TI (Z, K, R, C)) (hi : (i : Int) + 6 ≤ L) (K9 : ∀ (T2 : TS) (YT2 : YS) (J2 : Nat → Int) (U2 : YS), TI T2 → V G kc ks (LW G a b T2 YT2 J2 U2) 1382 (LV b0 a b i) []) : V G kc ks (bw (g_D G) a Z K R C YT J ++ mw (g_D G) b Z K U R C) 613 (LV b0 a b i) [] := by
  refine r_aload_n (i := 1) hG dL_law_613 rfl rfl ?_
  refine r_midi hG (c_X6_ring (g_l G) (g_D G) a Z K R C YT J hT) [] (mw (g_D G) b Z K U R C) rfl gL_law_X6_ring rfl hyX6_ring rfl (by decide) (by decide) 0 rfl rfl rfl (Nat.le_of_ble_eq_true rfl) hf0 dL_law_614 ?_
  rintro w ⟨Y2, J2, rfl⟩
  refine V_ws (ws' := bwT (g_D G) a (s_ring (Z, K, R, C)).2 Y2 J2 ++ mw (g_D G) b Z K U R C) rfl ?_
  refine r_aload_n (i := 2) hG dL_law_617 rfl rfl ?_
  refine r_midi hG (c_X7_ring (g_l G) (g_D G) b Z K U R C hT) (bwT (g_D G) a (s_ring (Z, K, R, C)).2 Y2 J2) [] rfl gL_law_X7_ring rfl hyX7_ring rfl (by decide) (by decide) 0 rfl rfl rfl (Nat.le_of_ble_eq_true rfl) hf0 dL_law_618 ?_
  rintro w ⟨U2, rfl⟩
  refine V_ws (ws' := LW G a b (s_ring (Z, K, R, C)).2 Y2 J2 U2) rfl ?_
  refine rr_icmp_eq (tgt := 1382) hG dL_law_621 (by decide) (fun c621 => ?_) (fun c621 => ?_)
  · exact K9 _ Y2 J2 U2 (ti_ring hT)
  · exact absurd rfl c621
set_option maxHeartbeats 4000000 in
set_option maxRecDepth 100000 in
theorem law_rounds {G : GJ} {kc ks : Nat} {b0 L : Nat} {xs : Nat → Int32} {a b : Nat → Nat} {Z K R YT U : YS} {C : Int → Int64} {J : Nat → Int} {i : Nat} {rt : Option FieldType} (hG : Cx G cL_law 4 rt RL wsL_law 12) (hX : Scr G b0 L xs) (hf0 : kc ≤ (g_R G).cells ∧ ks ≤ (g_R G).slots) (hT : TI (Z, K, R, C)) (hi : (i : Int) + 6 ≤ L) (K9 : ∀ (T2 : TS) (YT2 : YS) (J2 : Nat → Int) (U2 : YS), TI T2 → V G kc ks (LW G a b T2 YT2 J2 U2) 1382 (LV b0 a b i) []) : V G kc ks (bw (g_D G) a Z K R C YT J ++ mw (g_D G) b Z K U R C) 626 (LV b0 a b i) [] := by
  refine r_aload_n (i := 1) hG dL_law_626 rfl rfl ?_
  refine r_aload_n (i := 0) hG dL_law_627 rfl rfl ?_
  refine r_iload_n (i := 3) hG dL_law_628 rfl rfl ?_
  refine r_iconst hG dL_law_629 ?_
  refine r_iadd hG dL_law_630 ?_
  refine r_sld hG hX (by omega) dL_law_631 ?_
  refine r_midi hG (c_X6_rounds (g_l G) (g_D G) a Z K R C YT J hT (ar xs i 1) (iI_rng _)) [] (mw (g_D G) b Z K U R C) rfl gL_law_X6_rounds rfl hyX6_rounds rfl (by decide) (by decide) 0 rfl rfl rfl (Nat.le_of_ble_eq_true rfl) hf0 dL_law_632 ?_
  rintro w ⟨Y2, J2, rfl⟩
  refine V_ws (ws' := bwT (g_D G) a (s_rounds (Z, K, R, C) (ar xs i 1)).2 Y2 J2 ++ mw (g_D G) b Z K U R C) rfl ?_
  refine r_aload_n (i := 2) hG dL_law_635 rfl rfl ?_
  refine r_aload_n (i := 0) hG dL_law_636 rfl rfl ?_
  refine r_iload_n (i := 3) hG dL_law_637 rfl rfl ?_
  refine r_iconst hG dL_law_638 ?_
  refine r_iadd hG dL_law_639 ?_
  refine r_sld hG hX (by omega) dL_law_640 ?_
  refine r_midi hG (c_X7_rounds (g_l G) (g_D G) b Z K U R C hT (ar xs i 1) (iI_rng _)) (bwT (g_D G) a (s_rounds (Z, K, R, C) (ar xs i 1)).2 Y2 J2) [] rfl gL_law_X7_rounds rfl hyX7_rounds rfl (by decide) (by decide) 0 rfl rfl rfl (Nat.le_of_ble_eq_true rfl) hf0 dL_law_641 ?_
  rintro w ⟨U2, rfl⟩
  refine V_ws (ws' := LW G a b (s_rounds (Z, K, R, C) (ar xs i 1)).2 Y2 J2 U2) rfl ?_
  refine rr_icmp_eq (tgt := 1382) hG dL_law_644 (by decide) (fun c644 => ?_) (fun c644 => ?_)
  · exact K9 _ Y2 J2 U2 (ti_rounds hT (ar xs i 1))
  · exact absurd rfl c644
set_option maxHeartbeats 4000000 in
set_option maxRecDepth 100000 in
theorem law_on {G : GJ} {kc ks : Nat} {b0 L : Nat} {xs : Nat → Int32} {a b : Nat → Nat} {Z K R YT U : YS} {C : Int → Int64} {J : Nat → Int} {i : Nat} {rt : Option FieldType} (hG : Cx G cL_law 4 rt RL wsL_law 12) (hX : Scr G b0 L xs) (hf0 : kc ≤ (g_R G).cells ∧ ks ≤ (g_R G).slots) (hT : TI (Z, K, R, C)) (hi : (i : Int) + 6 ≤ L) (K9 : ∀ (T2 : TS) (YT2 : YS) (J2 : Nat → Int) (U2 : YS), TI T2 → V G kc ks (LW G a b T2 YT2 J2 U2) 1382 (LV b0 a b i) []) : V G kc ks (bw (g_D G) a Z K R C YT J ++ mw (g_D G) b Z K U R C) 649 (LV b0 a b i) [] := by
  refine r_aload_n (i := 1) hG dL_law_649 rfl rfl ?_
  refine r_aload_n (i := 0) hG dL_law_650 rfl rfl ?_
  refine r_iload_n (i := 3) hG dL_law_651 rfl rfl ?_
  refine r_iconst hG dL_law_652 ?_
  refine r_iadd hG dL_law_653 ?_
  refine r_sld hG hX (by omega) dL_law_654 ?_
  refine r_aload_n (i := 0) hG dL_law_655 rfl rfl ?_
  refine r_iload_n (i := 3) hG dL_law_656 rfl rfl ?_
  refine r_iconst hG dL_law_657 ?_
  refine r_iadd hG dL_law_658 ?_
  refine r_sld hG hX (by omega) dL_law_659 ?_
  refine r_aload_n (i := 0) hG dL_law_660 rfl rfl ?_
  refine r_iload_n (i := 3) hG dL_law_661 rfl rfl ?_
  refine r_iconst hG dL_law_662 ?_
  refine r_iadd hG dL_law_663 ?_
  refine r_sld hG hX (by omega) dL_law_664 ?_
  refine r_midi hG (c_X6_on (g_l G) (g_D G) a Z K R C YT J hT (ar xs i 1) (ar xs i 2) (ar xs i 3) (iI_rng _) (iI_rng _) (iI_rng _)) [] (mw (g_D G) b Z K U R C) rfl gL_law_X6_on rfl hyX6_on rfl (by decide) (by decide) 0 rfl rfl rfl (Nat.le_of_ble_eq_true rfl) hf0 dL_law_665 ?_
  rintro w ⟨Y2, J2, rfl⟩
  refine V_ws (ws' := bwT (g_D G) a (s_on (Z, K, R, C) (ar xs i 1) (ar xs i 2) (ar xs i 3)).2 Y2 J2 ++ mw (g_D G) b Z K U R C) rfl ?_
  refine r_aload_n (i := 2) hG dL_law_668 rfl rfl ?_
  refine r_aload_n (i := 0) hG dL_law_669 rfl rfl ?_
  refine r_iload_n (i := 3) hG dL_law_670 rfl rfl ?_
  refine r_iconst hG dL_law_671 ?_
  refine r_iadd hG dL_law_672 ?_
  refine r_sld hG hX (by omega) dL_law_673 ?_
  refine r_aload_n (i := 0) hG dL_law_674 rfl rfl ?_
  refine r_iload_n (i := 3) hG dL_law_675 rfl rfl ?_
  refine r_iconst hG dL_law_676 ?_
  refine r_iadd hG dL_law_677 ?_
  refine r_sld hG hX (by omega) dL_law_678 ?_
  refine r_aload_n (i := 0) hG dL_law_679 rfl rfl ?_
  refine r_iload_n (i := 3) hG dL_law_680 rfl rfl ?_
  refine r_iconst hG dL_law_681 ?_
  refine r_iadd hG dL_law_682 ?_
  refine r_sld hG hX (by omega) dL_law_683 ?_
  refine r_midi hG (c_X7_on (g_l G) (g_D G) b Z K U R C hT (ar xs i 1) (ar xs i 2) (ar xs i 3) (iI_rng _) (iI_rng _) (iI_rng _)) (bwT (g_D G) a (s_on (Z, K, R, C) (ar xs i 1) (ar xs i 2) (ar xs i 3)).2 Y2 J2) [] rfl gL_law_X7_on rfl hyX7_on rfl (by decide) (by decide) 0 rfl rfl rfl (Nat.le_of_ble_eq_true rfl) hf0 dL_law_684 ?_
  rintro w ⟨U2, rfl⟩
  refine V_ws (ws' := LW G a b (s_on (Z, K, R, C) (ar xs i 1) (ar xs i 2) (ar xs i 3)).2 Y2 J2 U2) rfl ?_
  refine rr_icmp_eq (tgt := 1382) hG dL_law_687 (by decide) (fun c687 => ?_) (fun c687 => ?_)
  · exact K9 _ Y2 J2 U2 (ti_on hT (ar xs i 1) (ar xs i 2) (ar xs i 3))
  · exact absurd rfl c687
set_option maxHeartbeats 4000000 in
set_option maxRecDepth 100000 in
theorem law_glad {G : GJ} {kc ks : Nat} {b0 L : Nat} {xs : Nat → Int32} {a b : Nat → Nat} {Z K R YT U : YS} {C : Int → Int64} {J : Nat → Int} {i : Nat} {rt : Option FieldType} (hG : Cx G cL_law 4 rt RL wsL_law 12) (hX : Scr G b0 L xs) (hf0 : kc ≤ (g_R G).cells ∧ ks ≤ (g_R G).slots) (hT : TI (Z, K, R, C)) (hi : (i : Int) + 6 ≤ L) (K9 : ∀ (T2 : TS) (YT2 : YS) (J2 : Nat → Int) (U2 : YS), TI T2 → V G kc ks (LW G a b T2 YT2 J2 U2) 1382 (LV b0 a b i) []) : V G kc ks (bw (g_D G) a Z K R C YT J ++ mw (g_D G) b Z K U R C) 692 (LV b0 a b i) [] := by
  refine r_aload_n (i := 1) hG dL_law_692 rfl rfl ?_
  refine r_aload_n (i := 0) hG dL_law_693 rfl rfl ?_
  refine r_iload_n (i := 3) hG dL_law_694 rfl rfl ?_
  refine r_iconst hG dL_law_695 ?_
  refine r_iadd hG dL_law_696 ?_
  refine r_sld hG hX (by omega) dL_law_697 ?_
  refine r_midi hG (c_X6_glad (g_l G) (g_D G) a Z K R C YT J hT (ar xs i 1) (iI_rng _)) [] (mw (g_D G) b Z K U R C) rfl gL_law_X6_glad rfl hyX6_glad rfl (by decide) (by decide) 0 rfl rfl rfl (Nat.le_of_ble_eq_true rfl) hf0 dL_law_698 ?_
  rintro w ⟨Y2, J2, rfl⟩
  refine V_ws (ws' := bwT (g_D G) a (s_glad (Z, K, R, C) (ar xs i 1)).2 Y2 J2 ++ mw (g_D G) b Z K U R C) rfl ?_
  refine r_aload_n (i := 2) hG dL_law_701 rfl rfl ?_
  refine r_aload_n (i := 0) hG dL_law_702 rfl rfl ?_
  refine r_iload_n (i := 3) hG dL_law_703 rfl rfl ?_
  refine r_iconst hG dL_law_704 ?_
  refine r_iadd hG dL_law_705 ?_
  refine r_sld hG hX (by omega) dL_law_706 ?_
  refine r_midi hG (c_X7_glad (g_l G) (g_D G) b Z K U R C hT (ar xs i 1) (iI_rng _)) (bwT (g_D G) a (s_glad (Z, K, R, C) (ar xs i 1)).2 Y2 J2) [] rfl gL_law_X7_glad rfl hyX7_glad rfl (by decide) (by decide) 0 rfl rfl rfl (Nat.le_of_ble_eq_true rfl) hf0 dL_law_707 ?_
  rintro w ⟨U2, rfl⟩
  refine V_ws (ws' := LW G a b (s_glad (Z, K, R, C) (ar xs i 1)).2 Y2 J2 U2) rfl ?_
  refine rr_icmp_eq (tgt := 1382) hG dL_law_710 (by decide) (fun c710 => ?_) (fun c710 => ?_)
  · exact K9 _ Y2 J2 U2 (ti_glad hT (ar xs i 1))
  · exact absurd rfl c710
set_option maxHeartbeats 4000000 in
set_option maxRecDepth 100000 in
theorem law_gets {G : GJ} {kc ks : Nat} {b0 L : Nat} {xs : Nat → Int32} {a b : Nat → Nat} {Z K R YT U : YS} {C : Int → Int64} {J : Nat → Int} {i : Nat} {rt : Option FieldType} (hG : Cx G cL_law 4 rt RL wsL_law 12) (hX : Scr G b0 L xs) (hf0 : kc ≤ (g_R G).cells ∧ ks ≤ (g_R G).slots) (hT : TI (Z, K, R, C)) (hi : (i : Int) + 6 ≤ L) (K9 : ∀ (T2 : TS) (YT2 : YS) (J2 : Nat → Int) (U2 : YS), TI T2 → V G kc ks (LW G a b T2 YT2 J2 U2) 1382 (LV b0 a b i) []) : V G kc ks (bw (g_D G) a Z K R C YT J ++ mw (g_D G) b Z K U R C) 715 (LV b0 a b i) [] := by
  refine r_aload_n (i := 1) hG dL_law_715 rfl rfl ?_
  refine r_aload_n (i := 0) hG dL_law_716 rfl rfl ?_
  refine r_iload_n (i := 3) hG dL_law_717 rfl rfl ?_
  refine r_iconst hG dL_law_718 ?_
  refine r_iadd hG dL_law_719 ?_
  refine r_sld hG hX (by omega) dL_law_720 ?_
  refine r_aload_n (i := 0) hG dL_law_721 rfl rfl ?_
  refine r_iload_n (i := 3) hG dL_law_722 rfl rfl ?_
  refine r_iconst hG dL_law_723 ?_
  refine r_iadd hG dL_law_724 ?_
  refine r_sld hG hX (by omega) dL_law_725 ?_
  refine r_midi hG (c_X6_gets (g_l G) (g_D G) a Z K R C YT J hT (ar xs i 1) (ar xs i 2) (iI_rng _) (iI_rng _)) [] (mw (g_D G) b Z K U R C) rfl gL_law_X6_gets rfl hyX6_gets rfl (by decide) (by decide) 0 rfl rfl rfl (Nat.le_of_ble_eq_true rfl) hf0 dL_law_726 ?_
  rintro w ⟨Y2, J2, rfl⟩
  refine V_ws (ws' := bwT (g_D G) a (s_gets (Z, K, R, C) (ar xs i 1) (ar xs i 2)).2 Y2 J2 ++ mw (g_D G) b Z K U R C) rfl ?_
  refine r_aload_n (i := 2) hG dL_law_729 rfl rfl ?_
  refine r_aload_n (i := 0) hG dL_law_730 rfl rfl ?_
  refine r_iload_n (i := 3) hG dL_law_731 rfl rfl ?_
  refine r_iconst hG dL_law_732 ?_
  refine r_iadd hG dL_law_733 ?_
  refine r_sld hG hX (by omega) dL_law_734 ?_
  refine r_aload_n (i := 0) hG dL_law_735 rfl rfl ?_
  refine r_iload_n (i := 3) hG dL_law_736 rfl rfl ?_
  refine r_iconst hG dL_law_737 ?_
  refine r_iadd hG dL_law_738 ?_
  refine r_sld hG hX (by omega) dL_law_739 ?_
  refine r_midi hG (c_X7_gets (g_l G) (g_D G) b Z K U R C hT (ar xs i 1) (ar xs i 2) (iI_rng _) (iI_rng _)) (bwT (g_D G) a (s_gets (Z, K, R, C) (ar xs i 1) (ar xs i 2)).2 Y2 J2) [] rfl gL_law_X7_gets rfl hyX7_gets rfl (by decide) (by decide) 0 rfl rfl rfl (Nat.le_of_ble_eq_true rfl) hf0 dL_law_740 ?_
  rintro w ⟨U2, rfl⟩
  refine V_ws (ws' := LW G a b (s_gets (Z, K, R, C) (ar xs i 1) (ar xs i 2)).2 Y2 J2 U2) rfl ?_
  refine rr_icmp_eq (tgt := 1382) hG dL_law_743 (by decide) (fun c743 => ?_) (fun c743 => ?_)
  · exact K9 _ Y2 J2 U2 (ti_gets hT (ar xs i 1) (ar xs i 2))
  · exact absurd rfl c743
set_option maxHeartbeats 4000000 in
set_option maxRecDepth 100000 in
theorem law_over {G : GJ} {kc ks : Nat} {b0 L : Nat} {xs : Nat → Int32} {a b : Nat → Nat} {Z K R YT U : YS} {C : Int → Int64} {J : Nat → Int} {i : Nat} {rt : Option FieldType} (hG : Cx G cL_law 4 rt RL wsL_law 12) (hX : Scr G b0 L xs) (hf0 : kc ≤ (g_R G).cells ∧ ks ≤ (g_R G).slots) (hT : TI (Z, K, R, C)) (hi : (i : Int) + 6 ≤ L) (K9 : ∀ (T2 : TS) (YT2 : YS) (J2 : Nat → Int) (U2 : YS), TI T2 → V G kc ks (LW G a b T2 YT2 J2 U2) 1382 (LV b0 a b i) []) : V G kc ks (bw (g_D G) a Z K R C YT J ++ mw (g_D G) b Z K U R C) 748 (LV b0 a b i) [] := by
  refine r_aload_n (i := 1) hG dL_law_748 rfl rfl ?_
  refine r_midi hG (c_X6_over (g_l G) (g_D G) a Z K R C YT J hT) [] (mw (g_D G) b Z K U R C) rfl gL_law_X6_over rfl hyX6_over rfl (by decide) (by decide) 0 rfl rfl rfl (Nat.le_of_ble_eq_true rfl) hf0 dL_law_749 ?_
  rintro w ⟨Y2, J2, rfl⟩
  refine V_ws (ws' := bwT (g_D G) a (s_over (Z, K, R, C)).2 Y2 J2 ++ mw (g_D G) b Z K U R C) rfl ?_
  refine r_aload_n (i := 2) hG dL_law_752 rfl rfl ?_
  refine r_midi hG (c_X7_over (g_l G) (g_D G) b Z K U R C hT) (bwT (g_D G) a (s_over (Z, K, R, C)).2 Y2 J2) [] rfl gL_law_X7_over rfl hyX7_over rfl (by decide) (by decide) 0 rfl rfl rfl (Nat.le_of_ble_eq_true rfl) hf0 dL_law_753 ?_
  rintro w ⟨U2, rfl⟩
  refine V_ws (ws' := LW G a b (s_over (Z, K, R, C)).2 Y2 J2 U2) rfl ?_
  refine rr_icmp_eq (tgt := 1382) hG dL_law_756 (by decide) (fun c756 => ?_) (fun c756 => ?_)
  · exact K9 _ Y2 J2 U2 (ti_over hT)
  · exact absurd rfl c756
set_option maxHeartbeats 4000000 in
set_option maxRecDepth 100000 in
theorem law_first {G : GJ} {kc ks : Nat} {b0 L : Nat} {xs : Nat → Int32} {a b : Nat → Nat} {Z K R YT U : YS} {C : Int → Int64} {J : Nat → Int} {i : Nat} {rt : Option FieldType} (hG : Cx G cL_law 4 rt RL wsL_law 12) (hX : Scr G b0 L xs) (hf0 : kc ≤ (g_R G).cells ∧ ks ≤ (g_R G).slots) (hT : TI (Z, K, R, C)) (hi : (i : Int) + 6 ≤ L) (K9 : ∀ (T2 : TS) (YT2 : YS) (J2 : Nat → Int) (U2 : YS), TI T2 → V G kc ks (LW G a b T2 YT2 J2 U2) 1382 (LV b0 a b i) []) : V G kc ks (bw (g_D G) a Z K R C YT J ++ mw (g_D G) b Z K U R C) 761 (LV b0 a b i) [] := by
  refine r_aload_n (i := 1) hG dL_law_761 rfl rfl ?_
  refine r_aload_n (i := 0) hG dL_law_762 rfl rfl ?_
  refine r_iload_n (i := 3) hG dL_law_763 rfl rfl ?_
  refine r_iconst hG dL_law_764 ?_
  refine r_iadd hG dL_law_765 ?_
  refine r_sld hG hX (by omega) dL_law_766 ?_
  refine r_aload_n (i := 0) hG dL_law_767 rfl rfl ?_
  refine r_iload_n (i := 3) hG dL_law_768 rfl rfl ?_
  refine r_iconst hG dL_law_769 ?_
  refine r_iadd hG dL_law_770 ?_
  refine r_sld hG hX (by omega) dL_law_771 ?_
  refine r_midi hG (c_X6_first (g_l G) (g_D G) a Z K R C YT J hT (ar xs i 1) (ar xs i 2) (iI_rng _) (iI_rng _)) [] (mw (g_D G) b Z K U R C) rfl gL_law_X6_first rfl hyX6_first rfl (by decide) (by decide) 0 rfl rfl rfl (Nat.le_of_ble_eq_true rfl) hf0 dL_law_772 ?_
  rintro w ⟨Y2, J2, rfl⟩
  refine V_ws (ws' := bwT (g_D G) a (s_first (Z, K, R, C) (ar xs i 1) (ar xs i 2)).2 Y2 J2 ++ mw (g_D G) b Z K U R C) rfl ?_
  refine r_aload_n (i := 2) hG dL_law_775 rfl rfl ?_
  refine r_aload_n (i := 0) hG dL_law_776 rfl rfl ?_
  refine r_iload_n (i := 3) hG dL_law_777 rfl rfl ?_
  refine r_iconst hG dL_law_778 ?_
  refine r_iadd hG dL_law_779 ?_
  refine r_sld hG hX (by omega) dL_law_780 ?_
  refine r_aload_n (i := 0) hG dL_law_781 rfl rfl ?_
  refine r_iload_n (i := 3) hG dL_law_782 rfl rfl ?_
  refine r_iconst hG dL_law_783 ?_
  refine r_iadd hG dL_law_784 ?_
  refine r_sld hG hX (by omega) dL_law_785 ?_
  refine r_midi hG (c_X7_first (g_l G) (g_D G) b Z K U R C hT (ar xs i 1) (ar xs i 2) (iI_rng _) (iI_rng _)) (bwT (g_D G) a (s_first (Z, K, R, C) (ar xs i 1) (ar xs i 2)).2 Y2 J2) [] rfl gL_law_X7_first rfl hyX7_first rfl (by decide) (by decide) 0 rfl rfl rfl (Nat.le_of_ble_eq_true rfl) hf0 dL_law_786 ?_
  rintro w ⟨U2, rfl⟩
  refine V_ws (ws' := LW G a b (s_first (Z, K, R, C) (ar xs i 1) (ar xs i 2)).2 Y2 J2 U2) rfl ?_
  refine rr_icmp_eq (tgt := 1382) hG dL_law_789 (by decide) (fun c789 => ?_) (fun c789 => ?_)
  · exact K9 _ Y2 J2 U2 (ti_first hT (ar xs i 1) (ar xs i 2))
  · exact absurd rfl c789
