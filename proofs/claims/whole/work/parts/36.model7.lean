theorem kX7_first_9 : Cond.fieldLink RX7 9 "BreakSwapsModel" "m" "[I" ∈ wsX7_first := List.mem_of_getElem? (i := 2) rfl
theorem cX7_first_X7 : ∀ w ∈ wsX70, w ∈ wsX7_first := fun _ h => List.mem_cons_of_mem _ (List.mem_append_right _ h)
theorem hyX7_first : hyV yX7_first RX7 2 := by decide +kernel
set_option maxHeartbeats 4000000 in
set_option maxRecDepth 100000 in
theorem c_X7_first (l : Launch) (D : va_G) (a : Nat → Nat) (Z K U R : YS) (C : Int → Int64) (hT : TI (Z, K, R, C)) (c n : Int) (hc : -2147483648 ≤ c ∧ c < 2147483648) (hn : -2147483648 ≤ n ∧ n < 2147483648) : Con l yX7_first wsX7_first 10 D (mw D a Z K U R C) [.ref (a 0), .int (iI c), .int (iI n)] (some (.int (iI ((s_first (Z, K, R, C) c n).1)))) (fun ww => ∃ U2, ww = mwT D a (s_first (Z, K, R, C) c n).2 U2) := by
  refine con_start (own := RX7) (by decide) rfl rfl (Nat.le_of_ble_eq_true rfl) ?_
  intro G hG hE hl hD
  subst hl
  subst hD
  have hI : Inv Z := hT.1.1
  have hN := hI.1
  have hr0 := hI.2.1
  have hu5 := hI.2.2.1
  have hrd : Z 5 0 ≤ 99999 := hT.1.2.2
  have L : ((0 ≤ c ∧ c < Z 5 2) ∧ 0 ≤ n ∧ n ≤ 40) → ∀ i : Nat, i ≤ (Z 5 2).toNat → ∀ m, (0 ≤ bestN (firstF Z c n) (fun o => decide (o ≠ c))  i → m = firstF Z c n (bestN (firstF Z c n) (fun o => decide (o ≠ c))  i)) → V G 0 0 (mw (g_D G) a Z K Z R C) 38 [(0, .ref (a 0)), (1, .int (iI c)), (2, .int (iI n)), (3, .int (iI (bestN (firstF Z c n) (fun o => decide (o ≠ c))  i))), (4, .int (iI m)), (5, .int (iI (i : Int)))] [] := by
    intro hoc
    have e0 : s_first (Z, K, R, C) c n = orFin (Z, K, R, C) 3 (bestN (firstF Z c n) (fun o => decide (o ≠ c))  (Z 5 2).toNat) := if_pos (by (try dsimp only); omega)
    refine down (fun i hi ih m hm => ?_)
    have hr := bestN_rng (firstF Z c n) (fun o => decide (o ≠ c)) i
    have hg2 : ∀ o : Int, 0 ≤ o ∧ o < 8 → -20 ≤ firstF Z c n o ∧ firstF Z c n o ≤ 28 := fun o ho => glad_rng (goZ_ok (Inv_swap hI (c := c) (o := o) (by omega) ho) n.toNat).1 (by omega)
    have J : i < (Z 5 2).toNat → ∀ x2 m2, x2 = bestN (firstF Z c n) (fun o => decide (o ≠ c))  (i + 1) → (0 ≤ x2 → m2 = firstF Z c n x2) → V G 0 0 (mw (g_D G) a Z K Z R C) 114 [(0, .ref (a 0)), (1, .int (iI c)), (2, .int (iI n)), (3, .int (iI x2)), (4, .int (iI m2)), (5, .int (iI (i : Int)))] [] := by
      intro hiN x2 m2 e1 e2
      subst e1
      refine r_iinc hG dX7_first_114 rfl (by decide) rfl ?_
      refine r_goto (tgt := 38) hG dX7_first_117 (by decide) ?_
      exact V_lv (ih hiN m2 e2) ⟨rfl, rfl, rfl, rfl, rfl, rfl, trivial⟩
    refine r_iload hG dX7_first_38 rfl ?_
    refine r_aload_n (i := 0) hG dX7_first_40 rfl rfl ?_
    refine r_get hG cX7_first_X7 0 0 rfl rfl (by decide) kX7_first_9 rfl dX7_first_41 ?_
    refine r_iconst hG dX7_first_44 ?_
    refine r_iald hG 1 rfl (by omega) (by decide) dX7_first_45 ?_
    refine V_top (x' := iI ((Z) 5 2)) (congrArg iI (mro_2 (Z))) ?_
    refine r_icmp_ge (tgt := 120) hG (by omega) (by omega) dX7_first_46 (by decide) (fun c46 => ?_) (fun c46 => ?_)
    · refine r_aload_n (i := 0) hG dX7_first_120 rfl rfl ?_
      refine r_iload_n (i := 3) hG dX7_first_121 rfl rfl ?_
      refine r_callVi hG (c_X7_orNone (g_l G) (g_D G) a Z K Z R C _ (by omega))  gX7_first_X7_orNone rfl hyX7_orNone rfl (by decide) (by decide) 0 rfl rfl rfl (Nat.le_of_ble_eq_true rfl) ⟨Nat.zero_le _, Nat.zero_le _⟩ dX7_first_122 (fun w hw => ?_)
      subst hw
      have ei : i = (Z 5 2).toNat := by omega
      subst ei
      by_cases hb : bestN (firstF Z c n) (fun o => decide (o ≠ c)) (Z 5 2).toNat < 0
      · exact r_iret hG hE dX7_first_125 (by rw [e0, orFin_neg hb, if_pos hb]; rfl) ⟨Z, by rw [e0, orFin_neg hb, if_pos hb]; rfl⟩
      · exact r_iret hG hE dX7_first_125 (by rw [e0, orFin_pos hb, if_neg hb]) ⟨Z, by rw [e0, orFin_pos hb, if_neg hb]; rfl⟩
    · refine r_iload hG dX7_first_49 rfl ?_
      refine r_iload_n (i := 1) hG dX7_first_51 rfl rfl ?_
      refine r_icmp_eq (tgt := 114) hG (by omega) (by omega) dX7_first_52 (by decide) (fun c52 => ?_) (fun c52 => ?_)
      · first
          | exact absurd c90 (by decide)
          | exact absurd rfl c90
          | exact absurd c102 (by decide)
          | exact absurd rfl c102
          | exact V_lv (J (by omega) _ _ (best_take (f := firstF Z c n) (ok := fun o => decide (o ≠ c)) (decide_eq_true c52) (by first | exact Or.inl c71 | exact Or.inr (by have := hm (by omega); omega))) (fun _ => rfl)) ⟨rfl, rfl, rfl, rfl, rfl, rfl, trivial⟩
          | exact V_lv (J (by omega) _ m (best_keep (f := firstF Z c n) (ok := fun o => decide (o ≠ c)) (fun h => by have := hm (by omega); omega)) hm) ⟨rfl, rfl, rfl, rfl, rfl, rfl, trivial⟩
          | exact V_lv (J (by omega) _ m (best_skip (f := firstF Z c n) (ok := fun o => decide (o ≠ c)) (decide_eq_false (by omega))) hm) ⟨rfl, rfl, rfl, rfl, rfl, rfl, trivial⟩
      · refine r_aload_n (i := 0) hG dX7_first_55 rfl rfl ?_
        refine r_iload_n (i := 1) hG dX7_first_56 rfl rfl ?_
        refine r_iload hG dX7_first_57 rfl ?_
        refine r_callVv hG (c_X7_swaps (g_l G) (g_D G) a Z K Z R C hI _ _ (by omega) (by omega))  gX7_first_X7_swaps rfl hyX7_swaps rfl (by decide) (by decide) 0 rfl rfl rfl (Nat.le_of_ble_eq_true rfl) ⟨Nat.zero_le _, Nat.zero_le _⟩ dX7_first_59 (fun w hw => ?_)
        subst hw
        refine r_aload_n (i := 0) hG dX7_first_62 rfl rfl ?_
        refine r_iload_n (i := 1) hG dX7_first_63 rfl rfl ?_
        refine r_iload_n (i := 2) hG dX7_first_64 rfl rfl ?_
        refine r_callVi hG (c_X7_gladOn (g_l G) (g_D G) a (swapZ Z c i) K Z R C (Inv_swap hI (by omega) (by omega)) _ (by omega) (by show Z 5 0 + n < 2000000000; omega) _ (by omega))  gX7_first_X7_gladOn rfl hyX7_gladOn rfl (by decide) (by decide) 0 rfl rfl rfl (Nat.le_of_ble_eq_true rfl) ⟨Nat.zero_le _, Nat.zero_le _⟩ dX7_first_65 (fun w hw => ?_)
        subst hw
        refine V_top (x' := iI (firstF Z c n i)) rfl ?_
        refine r_istore hG dX7_first_68 (by decide) rfl ?_
        refine r_iload_n (i := 3) hG dX7_first_70 rfl rfl ?_
        refine r_if_lt (tgt := 81) hG (by omega) dX7_first_71 (by decide) (fun c71 => ?_) (fun c71 => ?_)
        · refine r_iconst hG dX7_first_81 ?_
          refine r_goto (tgt := 86) hG dX7_first_82 (by decide) ?_
          refine r_istore hG dX7_first_86 (by decide) rfl ?_
          refine r_iload hG dX7_first_88 rfl ?_
          refine r_if_eq (tgt := 98) hG (by omega) dX7_first_90 (by decide) (fun c90 => ?_) (fun c90 => ?_)
          · refine r_iload_n (i := 3) hG dX7_first_98 rfl rfl ?_
            refine r_istore_n (i := 3) hG dX7_first_99 rfl (by decide) rfl ?_
            refine r_iload hG dX7_first_100 rfl ?_
            refine r_if_eq (tgt := 110) hG (by omega) dX7_first_102 (by decide) (fun c102 => ?_) (fun c102 => ?_)
            · refine r_iload hG dX7_first_110 rfl ?_
              refine r_istore hG dX7_first_112 (by decide) rfl ?_
              first
                | exact absurd c90 (by decide)
                | exact absurd rfl c90
                | exact absurd c102 (by decide)
                | exact absurd rfl c102
                | exact V_lv (J (by omega) _ _ (best_take (f := firstF Z c n) (ok := fun o => decide (o ≠ c)) (decide_eq_true c52) (by first | exact Or.inl c71 | exact Or.inr (by have := hm (by omega); omega))) (fun _ => rfl)) ⟨rfl, rfl, rfl, rfl, rfl, rfl, trivial⟩
                | exact V_lv (J (by omega) _ m (best_keep (f := firstF Z c n) (ok := fun o => decide (o ≠ c)) (fun h => by have := hm (by omega); omega)) hm) ⟨rfl, rfl, rfl, rfl, rfl, rfl, trivial⟩
                | exact V_lv (J (by omega) _ m (best_skip (f := firstF Z c n) (ok := fun o => decide (o ≠ c)) (decide_eq_false (by omega))) hm) ⟨rfl, rfl, rfl, rfl, rfl, rfl, trivial⟩
            · refine r_iload hG dX7_first_105 rfl ?_
              refine r_goto (tgt := 112) hG dX7_first_107 (by decide) ?_
              refine r_istore hG dX7_first_112 (by decide) rfl ?_
              first
                | exact absurd c90 (by decide)
                | exact absurd rfl c90
                | exact absurd c102 (by decide)
                | exact absurd rfl c102
                | exact V_lv (J (by omega) _ _ (best_take (f := firstF Z c n) (ok := fun o => decide (o ≠ c)) (decide_eq_true c52) (by first | exact Or.inl c71 | exact Or.inr (by have := hm (by omega); omega))) (fun _ => rfl)) ⟨rfl, rfl, rfl, rfl, rfl, rfl, trivial⟩
                | exact V_lv (J (by omega) _ m (best_keep (f := firstF Z c n) (ok := fun o => decide (o ≠ c)) (fun h => by have := hm (by omega); omega)) hm) ⟨rfl, rfl, rfl, rfl, rfl, rfl, trivial⟩
                | exact V_lv (J (by omega) _ m (best_skip (f := firstF Z c n) (ok := fun o => decide (o ≠ c)) (decide_eq_false (by omega))) hm) ⟨rfl, rfl, rfl, rfl, rfl, rfl, trivial⟩
          · refine r_iload hG dX7_first_93 rfl ?_
            refine r_goto (tgt := 99) hG dX7_first_95 (by decide) ?_
            refine r_istore_n (i := 3) hG dX7_first_99 rfl (by decide) rfl ?_
            refine r_iload hG dX7_first_100 rfl ?_
            refine r_if_eq (tgt := 110) hG (by omega) dX7_first_102 (by decide) (fun c102 => ?_) (fun c102 => ?_)
            · refine r_iload hG dX7_first_110 rfl ?_
              refine r_istore hG dX7_first_112 (by decide) rfl ?_
              first
                | exact absurd c90 (by decide)
                | exact absurd rfl c90
                | exact absurd c102 (by decide)
                | exact absurd rfl c102
                | exact V_lv (J (by omega) _ _ (best_take (f := firstF Z c n) (ok := fun o => decide (o ≠ c)) (decide_eq_true c52) (by first | exact Or.inl c71 | exact Or.inr (by have := hm (by omega); omega))) (fun _ => rfl)) ⟨rfl, rfl, rfl, rfl, rfl, rfl, trivial⟩
                | exact V_lv (J (by omega) _ m (best_keep (f := firstF Z c n) (ok := fun o => decide (o ≠ c)) (fun h => by have := hm (by omega); omega)) hm) ⟨rfl, rfl, rfl, rfl, rfl, rfl, trivial⟩
                | exact V_lv (J (by omega) _ m (best_skip (f := firstF Z c n) (ok := fun o => decide (o ≠ c)) (decide_eq_false (by omega))) hm) ⟨rfl, rfl, rfl, rfl, rfl, rfl, trivial⟩
            · refine r_iload hG dX7_first_105 rfl ?_
              refine r_goto (tgt := 112) hG dX7_first_107 (by decide) ?_
              refine r_istore hG dX7_first_112 (by decide) rfl ?_
              first
                | exact absurd c90 (by decide)
                | exact absurd rfl c90
                | exact absurd c102 (by decide)
                | exact absurd rfl c102
                | exact V_lv (J (by omega) _ _ (best_take (f := firstF Z c n) (ok := fun o => decide (o ≠ c)) (decide_eq_true c52) (by first | exact Or.inl c71 | exact Or.inr (by have := hm (by omega); omega))) (fun _ => rfl)) ⟨rfl, rfl, rfl, rfl, rfl, rfl, trivial⟩
                | exact V_lv (J (by omega) _ m (best_keep (f := firstF Z c n) (ok := fun o => decide (o ≠ c)) (fun h => by have := hm (by omega); omega)) hm) ⟨rfl, rfl, rfl, rfl, rfl, rfl, trivial⟩
                | exact V_lv (J (by omega) _ m (best_skip (f := firstF Z c n) (ok := fun o => decide (o ≠ c)) (decide_eq_false (by omega))) hm) ⟨rfl, rfl, rfl, rfl, rfl, rfl, trivial⟩
        · refine r_iload hG dX7_first_74 rfl ?_
          refine r_iload hG dX7_first_76 rfl ?_
          refine r_icmp_le (tgt := 85) hG (by have := hg2 i (by omega); omega) (by have := hm (by omega); have := hg2 (bestN (firstF Z c n) (fun o => decide (o ≠ c)) i) (by omega); omega) dX7_first_78 (by decide) (fun c78 => ?_) (fun c78 => ?_)
          · refine r_iconst hG dX7_first_85 ?_
            refine r_istore hG dX7_first_86 (by decide) rfl ?_
            refine r_iload hG dX7_first_88 rfl ?_
            refine r_if_eq (tgt := 98) hG (by omega) dX7_first_90 (by decide) (fun c90 => ?_) (fun c90 => ?_)
            · refine r_iload_n (i := 3) hG dX7_first_98 rfl rfl ?_
              refine r_istore_n (i := 3) hG dX7_first_99 rfl (by decide) rfl ?_
              refine r_iload hG dX7_first_100 rfl ?_
              refine r_if_eq (tgt := 110) hG (by omega) dX7_first_102 (by decide) (fun c102 => ?_) (fun c102 => ?_)
              · refine r_iload hG dX7_first_110 rfl ?_
                refine r_istore hG dX7_first_112 (by decide) rfl ?_
                first
                  | exact absurd c90 (by decide)
                  | exact absurd rfl c90
                  | exact absurd c102 (by decide)
                  | exact absurd rfl c102
                  | exact V_lv (J (by omega) _ _ (best_take (f := firstF Z c n) (ok := fun o => decide (o ≠ c)) (decide_eq_true c52) (by first | exact Or.inl c71 | exact Or.inr (by have := hm (by omega); omega))) (fun _ => rfl)) ⟨rfl, rfl, rfl, rfl, rfl, rfl, trivial⟩
                  | exact V_lv (J (by omega) _ m (best_keep (f := firstF Z c n) (ok := fun o => decide (o ≠ c)) (fun h => by have := hm (by omega); omega)) hm) ⟨rfl, rfl, rfl, rfl, rfl, rfl, trivial⟩
                  | exact V_lv (J (by omega) _ m (best_skip (f := firstF Z c n) (ok := fun o => decide (o ≠ c)) (decide_eq_false (by omega))) hm) ⟨rfl, rfl, rfl, rfl, rfl, rfl, trivial⟩
              · refine r_iload hG dX7_first_105 rfl ?_
                refine r_goto (tgt := 112) hG dX7_first_107 (by decide) ?_
                refine r_istore hG dX7_first_112 (by decide) rfl ?_
                first
                  | exact absurd c90 (by decide)
                  | exact absurd rfl c90
                  | exact absurd c102 (by decide)
                  | exact absurd rfl c102
                  | exact V_lv (J (by omega) _ _ (best_take (f := firstF Z c n) (ok := fun o => decide (o ≠ c)) (decide_eq_true c52) (by first | exact Or.inl c71 | exact Or.inr (by have := hm (by omega); omega))) (fun _ => rfl)) ⟨rfl, rfl, rfl, rfl, rfl, rfl, trivial⟩
                  | exact V_lv (J (by omega) _ m (best_keep (f := firstF Z c n) (ok := fun o => decide (o ≠ c)) (fun h => by have := hm (by omega); omega)) hm) ⟨rfl, rfl, rfl, rfl, rfl, rfl, trivial⟩
                  | exact V_lv (J (by omega) _ m (best_skip (f := firstF Z c n) (ok := fun o => decide (o ≠ c)) (decide_eq_false (by omega))) hm) ⟨rfl, rfl, rfl, rfl, rfl, rfl, trivial⟩
            · refine r_iload hG dX7_first_93 rfl ?_
              refine r_goto (tgt := 99) hG dX7_first_95 (by decide) ?_
              refine r_istore_n (i := 3) hG dX7_first_99 rfl (by decide) rfl ?_
              refine r_iload hG dX7_first_100 rfl ?_
              refine r_if_eq (tgt := 110) hG (by omega) dX7_first_102 (by decide) (fun c102 => ?_) (fun c102 => ?_)
              · refine r_iload hG dX7_first_110 rfl ?_
                refine r_istore hG dX7_first_112 (by decide) rfl ?_
                first
                  | exact absurd c90 (by decide)
                  | exact absurd rfl c90
                  | exact absurd c102 (by decide)
                  | exact absurd rfl c102
                  | exact V_lv (J (by omega) _ _ (best_take (f := firstF Z c n) (ok := fun o => decide (o ≠ c)) (decide_eq_true c52) (by first | exact Or.inl c71 | exact Or.inr (by have := hm (by omega); omega))) (fun _ => rfl)) ⟨rfl, rfl, rfl, rfl, rfl, rfl, trivial⟩
                  | exact V_lv (J (by omega) _ m (best_keep (f := firstF Z c n) (ok := fun o => decide (o ≠ c)) (fun h => by have := hm (by omega); omega)) hm) ⟨rfl, rfl, rfl, rfl, rfl, rfl, trivial⟩
                  | exact V_lv (J (by omega) _ m (best_skip (f := firstF Z c n) (ok := fun o => decide (o ≠ c)) (decide_eq_false (by omega))) hm) ⟨rfl, rfl, rfl, rfl, rfl, rfl, trivial⟩
              · refine r_iload hG dX7_first_105 rfl ?_
                refine r_goto (tgt := 112) hG dX7_first_107 (by decide) ?_
                refine r_istore hG dX7_first_112 (by decide) rfl ?_
                first
                  | exact absurd c90 (by decide)
                  | exact absurd rfl c90
                  | exact absurd c102 (by decide)
                  | exact absurd rfl c102
                  | exact V_lv (J (by omega) _ _ (best_take (f := firstF Z c n) (ok := fun o => decide (o ≠ c)) (decide_eq_true c52) (by first | exact Or.inl c71 | exact Or.inr (by have := hm (by omega); omega))) (fun _ => rfl)) ⟨rfl, rfl, rfl, rfl, rfl, rfl, trivial⟩
                  | exact V_lv (J (by omega) _ m (best_keep (f := firstF Z c n) (ok := fun o => decide (o ≠ c)) (fun h => by have := hm (by omega); omega)) hm) ⟨rfl, rfl, rfl, rfl, rfl, rfl, trivial⟩
                  | exact V_lv (J (by omega) _ m (best_skip (f := firstF Z c n) (ok := fun o => decide (o ≠ c)) (decide_eq_false (by omega))) hm) ⟨rfl, rfl, rfl, rfl, rfl, rfl, trivial⟩
          · refine r_iconst hG dX7_first_81 ?_
            refine r_goto (tgt := 86) hG dX7_first_82 (by decide) ?_
            refine r_istore hG dX7_first_86 (by decide) rfl ?_
            refine r_iload hG dX7_first_88 rfl ?_
            refine r_if_eq (tgt := 98) hG (by omega) dX7_first_90 (by decide) (fun c90 => ?_) (fun c90 => ?_)
            · refine r_iload_n (i := 3) hG dX7_first_98 rfl rfl ?_
              refine r_istore_n (i := 3) hG dX7_first_99 rfl (by decide) rfl ?_
              refine r_iload hG dX7_first_100 rfl ?_
              refine r_if_eq (tgt := 110) hG (by omega) dX7_first_102 (by decide) (fun c102 => ?_) (fun c102 => ?_)
              · refine r_iload hG dX7_first_110 rfl ?_
                refine r_istore hG dX7_first_112 (by decide) rfl ?_
                first
                  | exact absurd c90 (by decide)
                  | exact absurd rfl c90
                  | exact absurd c102 (by decide)
                  | exact absurd rfl c102
                  | exact V_lv (J (by omega) _ _ (best_take (f := firstF Z c n) (ok := fun o => decide (o ≠ c)) (decide_eq_true c52) (by first | exact Or.inl c71 | exact Or.inr (by have := hm (by omega); omega))) (fun _ => rfl)) ⟨rfl, rfl, rfl, rfl, rfl, rfl, trivial⟩
                  | exact V_lv (J (by omega) _ m (best_keep (f := firstF Z c n) (ok := fun o => decide (o ≠ c)) (fun h => by have := hm (by omega); omega)) hm) ⟨rfl, rfl, rfl, rfl, rfl, rfl, trivial⟩
                  | exact V_lv (J (by omega) _ m (best_skip (f := firstF Z c n) (ok := fun o => decide (o ≠ c)) (decide_eq_false (by omega))) hm) ⟨rfl, rfl, rfl, rfl, rfl, rfl, trivial⟩
              · refine r_iload hG dX7_first_105 rfl ?_
                refine r_goto (tgt := 112) hG dX7_first_107 (by decide) ?_
                refine r_istore hG dX7_first_112 (by decide) rfl ?_
                first
                  | exact absurd c90 (by decide)
                  | exact absurd rfl c90
                  | exact absurd c102 (by decide)
                  | exact absurd rfl c102
                  | exact V_lv (J (by omega) _ _ (best_take (f := firstF Z c n) (ok := fun o => decide (o ≠ c)) (decide_eq_true c52) (by first | exact Or.inl c71 | exact Or.inr (by have := hm (by omega); omega))) (fun _ => rfl)) ⟨rfl, rfl, rfl, rfl, rfl, rfl, trivial⟩
                  | exact V_lv (J (by omega) _ m (best_keep (f := firstF Z c n) (ok := fun o => decide (o ≠ c)) (fun h => by have := hm (by omega); omega)) hm) ⟨rfl, rfl, rfl, rfl, rfl, rfl, trivial⟩
                  | exact V_lv (J (by omega) _ m (best_skip (f := firstF Z c n) (ok := fun o => decide (o ≠ c)) (decide_eq_false (by omega))) hm) ⟨rfl, rfl, rfl, rfl, rfl, rfl, trivial⟩
            · refine r_iload hG dX7_first_93 rfl ?_
              refine r_goto (tgt := 99) hG dX7_first_95 (by decide) ?_
              refine r_istore_n (i := 3) hG dX7_first_99 rfl (by decide) rfl ?_
              refine r_iload hG dX7_first_100 rfl ?_
              refine r_if_eq (tgt := 110) hG (by omega) dX7_first_102 (by decide) (fun c102 => ?_) (fun c102 => ?_)
              · refine r_iload hG dX7_first_110 rfl ?_
                refine r_istore hG dX7_first_112 (by decide) rfl ?_
                first
                  | exact absurd c90 (by decide)
                  | exact absurd rfl c90
                  | exact absurd c102 (by decide)
                  | exact absurd rfl c102
                  | exact V_lv (J (by omega) _ _ (best_take (f := firstF Z c n) (ok := fun o => decide (o ≠ c)) (decide_eq_true c52) (by first | exact Or.inl c71 | exact Or.inr (by have := hm (by omega); omega))) (fun _ => rfl)) ⟨rfl, rfl, rfl, rfl, rfl, rfl, trivial⟩
                  | exact V_lv (J (by omega) _ m (best_keep (f := firstF Z c n) (ok := fun o => decide (o ≠ c)) (fun h => by have := hm (by omega); omega)) hm) ⟨rfl, rfl, rfl, rfl, rfl, rfl, trivial⟩
                  | exact V_lv (J (by omega) _ m (best_skip (f := firstF Z c n) (ok := fun o => decide (o ≠ c)) (decide_eq_false (by omega))) hm) ⟨rfl, rfl, rfl, rfl, rfl, rfl, trivial⟩
              · refine r_iload hG dX7_first_105 rfl ?_
                refine r_goto (tgt := 112) hG dX7_first_107 (by decide) ?_
                refine r_istore hG dX7_first_112 (by decide) rfl ?_
                first
                  | exact absurd c90 (by decide)
                  | exact absurd rfl c90
                  | exact absurd c102 (by decide)
                  | exact absurd rfl c102
                  | exact V_lv (J (by omega) _ _ (best_take (f := firstF Z c n) (ok := fun o => decide (o ≠ c)) (decide_eq_true c52) (by first | exact Or.inl c71 | exact Or.inr (by have := hm (by omega); omega))) (fun _ => rfl)) ⟨rfl, rfl, rfl, rfl, rfl, rfl, trivial⟩
                  | exact V_lv (J (by omega) _ m (best_keep (f := firstF Z c n) (ok := fun o => decide (o ≠ c)) (fun h => by have := hm (by omega); omega)) hm) ⟨rfl, rfl, rfl, rfl, rfl, rfl, trivial⟩
                  | exact V_lv (J (by omega) _ m (best_skip (f := firstF Z c n) (ok := fun o => decide (o ≠ c)) (decide_eq_false (by omega))) hm) ⟨rfl, rfl, rfl, rfl, rfl, rfl, trivial⟩
  refine r_aload_n (i := 0) hG dX7_first_0 rfl rfl ?_
  refine r_iload_n (i := 1) hG dX7_first_1 rfl rfl ?_
  refine r_callVi hG (c_X7_isChild (g_l G) (g_D G) a Z K U R C hI _ (by omega))  gX7_first_X7_isChild rfl hyX7_isChild rfl (by decide) (by decide) 0 rfl rfl rfl (Nat.le_of_ble_eq_true rfl) ⟨Nat.zero_le _, Nat.zero_le _⟩ dX7_first_2 (fun w hw => ?_)
  subst hw
  refine rb_if_eq (tgt := 19) hG dX7_first_5 (by decide) (fun c5 => ?_) (fun c5 => ?_)
  · try simp only [decide_eq_true_eq, decide_eq_false_iff_not] at c5
    refine r_aload_n (i := 0) hG dX7_first_19 rfl rfl ?_
    refine r_ldc (n := -1000000001) hG (List.mem_of_getElem? (i := 1) rfl) rfl dX7_first_20 ?_
    refine r_callVi hG (c_X7_finds (g_l G) (g_D G) a Z K U R C (-1000000001) 0 (by omega) (by omega))  gX7_first_X7_finds rfl hyX7_finds rfl (by decide) (by decide) 0 rfl rfl rfl (Nat.le_of_ble_eq_true rfl) ⟨Nat.zero_le _, Nat.zero_le _⟩ dX7_first_22 (fun w hw => ?_)
    subst hw
    exact r_iret hG hE dX7_first_25 (by unfold s_first; (try dsimp only); (repeat (first | rw [if_pos (by omega)] | rw [if_neg (by omega)])) <;> (first | rfl | skip)) ⟨U, (by unfold s_first; (try dsimp only); (repeat (first | rw [if_pos (by omega)] | rw [if_neg (by omega)])) <;> (first | rfl | skip))⟩
  · try simp only [decide_eq_true_eq, decide_eq_false_iff_not] at c5
    refine r_iload_n (i := 2) hG dX7_first_8 rfl rfl ?_
    refine r_i2l hG dX7_first_9 ?_
    refine r_iconst hG dX7_first_10 ?_
    refine r_bipush hG dX7_first_11 rfl ?_
    refine r_call0i hG (c_X7_inI (g_l G) (g_D G) _ _ _ (by omega) (by omega) (by omega))  gX7_first_X7_in rfl hyX7_in rfl (by decide) (by decide) rfl (Nat.le_of_ble_eq_true rfl) ⟨Nat.zero_le _, Nat.zero_le _⟩ dX7_first_13 ?_
    refine rb_if_ne (tgt := 26) hG dX7_first_16 (by decide) (fun c16 => ?_) (fun c16 => ?_)
    · try simp only [decide_eq_true_eq, decide_eq_false_iff_not] at c16
      refine r_aload_n (i := 0) hG dX7_first_26 rfl rfl ?_
      refine r_callVv hG (c_X7_thinks (g_l G) (g_D G) a Z K U R C)  gX7_first_X7_thinks rfl hyX7_thinks rfl (by decide) (by decide) 0 rfl rfl rfl (Nat.le_of_ble_eq_true rfl) ⟨Nat.zero_le _, Nat.zero_le _⟩ dX7_first_27 (fun w hw => ?_)
      subst hw
      refine r_iconst hG dX7_first_30 ?_
      refine r_istore_n (i := 3) hG dX7_first_31 rfl (by decide) rfl ?_
      refine r_iconst hG dX7_first_32 ?_
      refine r_istore hG dX7_first_33 (by decide) rfl ?_
      refine r_iconst hG dX7_first_35 ?_
      refine r_istore hG dX7_first_36 (by decide) rfl ?_
      exact V_lv (L (by omega) 0 (by omega) 0 (fun h => absurd h (by simp [bestN]))) ⟨rfl, rfl, rfl, rfl, rfl, rfl, trivial⟩
    · try simp only [decide_eq_true_eq, decide_eq_false_iff_not] at c16
      refine r_aload_n (i := 0) hG dX7_first_19 rfl rfl ?_
      refine r_ldc (n := -1000000001) hG (List.mem_of_getElem? (i := 1) rfl) rfl dX7_first_20 ?_
      refine r_callVi hG (c_X7_finds (g_l G) (g_D G) a Z K U R C (-1000000001) 0 (by omega) (by omega))  gX7_first_X7_finds rfl hyX7_finds rfl (by decide) (by decide) 0 rfl rfl rfl (Nat.le_of_ble_eq_true rfl) ⟨Nat.zero_le _, Nat.zero_le _⟩ dX7_first_22 (fun w hw => ?_)
      subst hw
      exact r_iret hG hE dX7_first_25 (by unfold s_first; (try dsimp only); (repeat (first | rw [if_pos (by omega)] | rw [if_neg (by omega)])) <;> (first | rfl | skip)) ⟨U, (by unfold s_first; (try dsimp only); (repeat (first | rw [if_pos (by omega)] | rw [if_neg (by omega)])) <;> (first | rfl | skip))⟩
theorem kX7_away_9 : Cond.fieldLink RX7 9 "BreakSwapsModel" "m" "[I" ∈ wsX7_away := List.mem_of_getElem? (i := 2) rfl
theorem cX7_away_X7 : ∀ w ∈ wsX70, w ∈ wsX7_away := fun _ h => List.mem_cons_of_mem _ (List.mem_append_right _ h)
theorem hyX7_away : hyV yX7_away RX7 1 := by decide +kernel
set_option maxHeartbeats 4000000 in
set_option maxRecDepth 100000 in
theorem c_X7_away (l : Launch) (D : va_G) (a : Nat → Nat) (Z K U R : YS) (C : Int → Int64) (hT : TI (Z, K, R, C)) (n : Int) (hn : -2147483648 ≤ n ∧ n < 2147483648) : Con l yX7_away wsX7_away 9 D (mw D a Z K U R C) [.ref (a 0), .int (iI n)] (some (.int (iI ((s_away (Z, K, R, C) n).1)))) (fun ww => ∃ U2, ww = mwT D a (s_away (Z, K, R, C) n).2 U2) := by
  refine con_start (own := RX7) (by decide) rfl rfl (Nat.le_of_ble_eq_true rfl) ?_
  intro G hG hE hl hD
  subst hl
  subst hD
  have hI : Inv Z := hT.1.1
  have hN := hI.1
  have hr0 := hI.2.1
  have hu5 := hI.2.2.1
  have hrd : Z 5 0 ≤ 99999 := hT.1.2.2
  have L : (0 ≤ n ∧ n ≤ 40) → ∀ i : Nat, i ≤ (Z 5 2).toNat → ∀ m, (0 ≤ bestN (awayF Z n) (fun _ => true)  i → m = awayF Z n (bestN (awayF Z n) (fun _ => true)  i)) → V G 0 0 (mw (g_D G) a Z K Z R C) 29 [(0, .ref (a 0)), (1, .int (iI n)), (2, .int (iI (bestN (awayF Z n) (fun _ => true)  i))), (3, .int (iI m)), (4, .int (iI (i : Int)))] [] := by
    intro hoc
    have e0 : s_away (Z, K, R, C) n = orFin (Z, K, R, C) 3 (bestN (awayF Z n) (fun _ => true)  (Z 5 2).toNat) := if_pos (by (try dsimp only); omega)
    refine down (fun i hi ih m hm => ?_)
    have hr := bestN_rng (awayF Z n) (fun _ => true) i
    have hgo := fun o : Int => goZ_ok (Inv_up3 hI (i := o) (v := 0) (by omega)) n.toNat
    have hg2 : ∀ o : Int, -200 ≤ awayF Z n o ∧ awayF Z n o ≤ 300 := fun o => glads_rng (hgo o).1 (by omega)
    have J : i < (Z 5 2).toNat → ∀ x2 m2, x2 = bestN (awayF Z n) (fun _ => true)  (i + 1) → (0 ≤ x2 → m2 = awayF Z n x2) → V G 0 0 (mw (g_D G) a Z K Z R C) 104 [(0, .ref (a 0)), (1, .int (iI n)), (2, .int (iI x2)), (3, .int (iI m2)), (4, .int (iI (i : Int)))] [] := by
      intro hiN x2 m2 e1 e2
      subst e1
      refine r_iinc hG dX7_away_104 rfl (by decide) rfl ?_
      refine r_goto (tgt := 29) hG dX7_away_107 (by decide) ?_
      exact V_lv (ih hiN m2 e2) ⟨rfl, rfl, rfl, rfl, rfl, trivial⟩
    refine r_iload hG dX7_away_29 rfl ?_
    refine r_aload_n (i := 0) hG dX7_away_31 rfl rfl ?_
    refine r_get hG cX7_away_X7 0 0 rfl rfl (by decide) kX7_away_9 rfl dX7_away_32 ?_
    refine r_iconst hG dX7_away_35 ?_
    refine r_iald hG 1 rfl (by omega) (by decide) dX7_away_36 ?_
    refine V_top (x' := iI ((Z) 5 2)) (congrArg iI (mro_2 (Z))) ?_
    refine r_icmp_ge (tgt := 110) hG (by omega) (by omega) dX7_away_37 (by decide) (fun c37 => ?_) (fun c37 => ?_)
    · refine r_aload_n (i := 0) hG dX7_away_110 rfl rfl ?_
      refine r_iload_n (i := 2) hG dX7_away_111 rfl rfl ?_
      refine r_callVi hG (c_X7_orNone (g_l G) (g_D G) a Z K Z R C _ (by omega))  gX7_away_X7_orNone rfl hyX7_orNone rfl (by decide) (by decide) 0 rfl rfl rfl (Nat.le_of_ble_eq_true rfl) ⟨Nat.zero_le _, Nat.zero_le _⟩ dX7_away_112 (fun w hw => ?_)
      subst hw
      have ei : i = (Z 5 2).toNat := by omega
      subst ei
      by_cases hb : bestN (awayF Z n) (fun _ => true) (Z 5 2).toNat < 0
      · exact r_iret hG hE dX7_away_115 (by rw [e0, orFin_neg hb, if_pos hb]; rfl) ⟨Z, by rw [e0, orFin_neg hb, if_pos hb]; rfl⟩
      · exact r_iret hG hE dX7_away_115 (by rw [e0, orFin_pos hb, if_neg hb]) ⟨Z, by rw [e0, orFin_pos hb, if_neg hb]; rfl⟩
    · refine r_aload_n (i := 0) hG dX7_away_40 rfl rfl ?_
      refine r_iload hG dX7_away_41 rfl ?_
      refine r_iconst hG dX7_away_43 ?_
      refine r_iconst hG dX7_away_44 ?_
      refine r_callVv hG (c_put3 (g_l G) (g_D G) a Z K Z R C _ _ (by omega))  gX7_away_X7_put rfl hyX7_put rfl (by decide) (by decide) 0 rfl rfl rfl (Nat.le_of_ble_eq_true rfl) ⟨Nat.zero_le _, Nat.zero_le _⟩ dX7_away_45 (fun w hw => ?_)
      subst hw
      refine r_aload_n (i := 0) hG dX7_away_48 rfl rfl ?_
      refine r_iload_n (i := 1) hG dX7_away_49 rfl rfl ?_
      refine r_callVv hG (c_X7_goesFor (g_l G) (g_D G) a (upY Z 3 i 0) K Z R C (Inv_up3 hI (by omega)) _ (by omega) (by show Z 5 0 + n < 2000000000; omega))  gX7_away_X7_goesFor rfl hyX7_goesFor rfl (by decide) (by decide) 0 rfl rfl rfl (Nat.le_of_ble_eq_true rfl) ⟨Nat.zero_le _, Nat.zero_le _⟩ dX7_away_50 (fun w hw => ?_)
      subst hw
      refine r_aload_n (i := 0) hG dX7_away_53 rfl rfl ?_
      refine r_callVi hG (c_X7_allGlad (g_l G) (g_D G) a (goZ (upY Z 3 i 0) n.toNat) K Z R C (hgo i).1)  gX7_away_X7_allGlad rfl hyX7_allGlad rfl (by decide) (by decide) 0 rfl rfl rfl (Nat.le_of_ble_eq_true rfl) ⟨Nat.zero_le _, Nat.zero_le _⟩ dX7_away_54 (fun w hw => ?_)
      subst hw
      refine V_top (x' := iI (awayF Z n i)) (by rw [(hgo i).2.1]; rfl) ?_
      refine r_istore hG dX7_away_57 (by decide) rfl ?_
      refine r_aload_n (i := 0) hG dX7_away_59 rfl rfl ?_
      refine r_callVv hG (c_X7_putsBack (g_l G) (g_D G) a (goZ (upY Z 3 i 0) n.toNat) K Z R C)  gX7_away_X7_putsBack rfl hyX7_putsBack rfl (by decide) (by decide) 0 rfl rfl rfl (Nat.le_of_ble_eq_true rfl) ⟨Nat.zero_le _, Nat.zero_le _⟩ dX7_away_60 (fun w hw => ?_)
      subst hw
      refine r_iload_n (i := 2) hG dX7_away_63 rfl rfl ?_
      refine r_if_lt (tgt := 73) hG (by omega) dX7_away_64 (by decide) (fun c64 => ?_) (fun c64 => ?_)
      · refine r_iconst hG dX7_away_73 ?_
        refine r_goto (tgt := 78) hG dX7_away_74 (by decide) ?_
        refine r_istore hG dX7_away_78 (by decide) rfl ?_
        refine r_iload hG dX7_away_80 rfl ?_
        refine r_if_eq (tgt := 90) hG (by omega) dX7_away_82 (by decide) (fun c82 => ?_) (fun c82 => ?_)
        · refine r_iload_n (i := 2) hG dX7_away_90 rfl rfl ?_
          refine r_istore_n (i := 2) hG dX7_away_91 rfl (by decide) rfl ?_
          refine r_iload hG dX7_away_92 rfl ?_
          refine r_if_eq (tgt := 102) hG (by omega) dX7_away_94 (by decide) (fun c94 => ?_) (fun c94 => ?_)
          · refine r_iload_n (i := 3) hG dX7_away_102 rfl rfl ?_
            refine r_istore_n (i := 3) hG dX7_away_103 rfl (by decide) rfl ?_
            first
              | exact absurd c82 (by decide)
              | exact absurd rfl c82
              | exact absurd c94 (by decide)
              | exact absurd rfl c94
              | exact V_lv (J (by omega) _ _ (best_take (f := awayF Z n) (ok := fun _ => true) rfl (by first | exact Or.inl c64 | exact Or.inr (by have := hm (by omega); omega))) (fun _ => rfl)) ⟨rfl, rfl, rfl, rfl, rfl, trivial⟩
              | exact V_lv (J (by omega) _ m (best_keep (f := awayF Z n) (ok := fun _ => true) (fun h => by have := hm (by omega); omega)) hm) ⟨rfl, rfl, rfl, rfl, rfl, trivial⟩
          · refine r_iload hG dX7_away_97 rfl ?_
            refine r_goto (tgt := 103) hG dX7_away_99 (by decide) ?_
            refine r_istore_n (i := 3) hG dX7_away_103 rfl (by decide) rfl ?_
            first
              | exact absurd c82 (by decide)
              | exact absurd rfl c82
              | exact absurd c94 (by decide)
              | exact absurd rfl c94
              | exact V_lv (J (by omega) _ _ (best_take (f := awayF Z n) (ok := fun _ => true) rfl (by first | exact Or.inl c64 | exact Or.inr (by have := hm (by omega); omega))) (fun _ => rfl)) ⟨rfl, rfl, rfl, rfl, rfl, trivial⟩
              | exact V_lv (J (by omega) _ m (best_keep (f := awayF Z n) (ok := fun _ => true) (fun h => by have := hm (by omega); omega)) hm) ⟨rfl, rfl, rfl, rfl, rfl, trivial⟩
        · refine r_iload hG dX7_away_85 rfl ?_
          refine r_goto (tgt := 91) hG dX7_away_87 (by decide) ?_
          refine r_istore_n (i := 2) hG dX7_away_91 rfl (by decide) rfl ?_
          refine r_iload hG dX7_away_92 rfl ?_
          refine r_if_eq (tgt := 102) hG (by omega) dX7_away_94 (by decide) (fun c94 => ?_) (fun c94 => ?_)
          · refine r_iload_n (i := 3) hG dX7_away_102 rfl rfl ?_
            refine r_istore_n (i := 3) hG dX7_away_103 rfl (by decide) rfl ?_
            first
              | exact absurd c82 (by decide)
              | exact absurd rfl c82
              | exact absurd c94 (by decide)
              | exact absurd rfl c94
              | exact V_lv (J (by omega) _ _ (best_take (f := awayF Z n) (ok := fun _ => true) rfl (by first | exact Or.inl c64 | exact Or.inr (by have := hm (by omega); omega))) (fun _ => rfl)) ⟨rfl, rfl, rfl, rfl, rfl, trivial⟩
              | exact V_lv (J (by omega) _ m (best_keep (f := awayF Z n) (ok := fun _ => true) (fun h => by have := hm (by omega); omega)) hm) ⟨rfl, rfl, rfl, rfl, rfl, trivial⟩
          · refine r_iload hG dX7_away_97 rfl ?_
            refine r_goto (tgt := 103) hG dX7_away_99 (by decide) ?_
            refine r_istore_n (i := 3) hG dX7_away_103 rfl (by decide) rfl ?_
            first
              | exact absurd c82 (by decide)
              | exact absurd rfl c82
              | exact absurd c94 (by decide)
              | exact absurd rfl c94
              | exact V_lv (J (by omega) _ _ (best_take (f := awayF Z n) (ok := fun _ => true) rfl (by first | exact Or.inl c64 | exact Or.inr (by have := hm (by omega); omega))) (fun _ => rfl)) ⟨rfl, rfl, rfl, rfl, rfl, trivial⟩
              | exact V_lv (J (by omega) _ m (best_keep (f := awayF Z n) (ok := fun _ => true) (fun h => by have := hm (by omega); omega)) hm) ⟨rfl, rfl, rfl, rfl, rfl, trivial⟩
      · refine r_iload hG dX7_away_67 rfl ?_
        refine r_iload_n (i := 3) hG dX7_away_69 rfl rfl ?_
        refine r_icmp_le (tgt := 77) hG (by have := hg2 i; omega) (by have := hm (by omega); have := hg2 (bestN (awayF Z n) (fun _ => true) i); omega) dX7_away_70 (by decide) (fun c70 => ?_) (fun c70 => ?_)
        · refine r_iconst hG dX7_away_77 ?_
          refine r_istore hG dX7_away_78 (by decide) rfl ?_
          refine r_iload hG dX7_away_80 rfl ?_
          refine r_if_eq (tgt := 90) hG (by omega) dX7_away_82 (by decide) (fun c82 => ?_) (fun c82 => ?_)
          · refine r_iload_n (i := 2) hG dX7_away_90 rfl rfl ?_
            refine r_istore_n (i := 2) hG dX7_away_91 rfl (by decide) rfl ?_
            refine r_iload hG dX7_away_92 rfl ?_
            refine r_if_eq (tgt := 102) hG (by omega) dX7_away_94 (by decide) (fun c94 => ?_) (fun c94 => ?_)
            · refine r_iload_n (i := 3) hG dX7_away_102 rfl rfl ?_
              refine r_istore_n (i := 3) hG dX7_away_103 rfl (by decide) rfl ?_
              first
                | exact absurd c82 (by decide)
                | exact absurd rfl c82
                | exact absurd c94 (by decide)
                | exact absurd rfl c94
                | exact V_lv (J (by omega) _ _ (best_take (f := awayF Z n) (ok := fun _ => true) rfl (by first | exact Or.inl c64 | exact Or.inr (by have := hm (by omega); omega))) (fun _ => rfl)) ⟨rfl, rfl, rfl, rfl, rfl, trivial⟩
                | exact V_lv (J (by omega) _ m (best_keep (f := awayF Z n) (ok := fun _ => true) (fun h => by have := hm (by omega); omega)) hm) ⟨rfl, rfl, rfl, rfl, rfl, trivial⟩
            · refine r_iload hG dX7_away_97 rfl ?_
              refine r_goto (tgt := 103) hG dX7_away_99 (by decide) ?_
              refine r_istore_n (i := 3) hG dX7_away_103 rfl (by decide) rfl ?_
              first
                | exact absurd c82 (by decide)
                | exact absurd rfl c82
                | exact absurd c94 (by decide)
                | exact absurd rfl c94
                | exact V_lv (J (by omega) _ _ (best_take (f := awayF Z n) (ok := fun _ => true) rfl (by first | exact Or.inl c64 | exact Or.inr (by have := hm (by omega); omega))) (fun _ => rfl)) ⟨rfl, rfl, rfl, rfl, rfl, trivial⟩
                | exact V_lv (J (by omega) _ m (best_keep (f := awayF Z n) (ok := fun _ => true) (fun h => by have := hm (by omega); omega)) hm) ⟨rfl, rfl, rfl, rfl, rfl, trivial⟩
          · refine r_iload hG dX7_away_85 rfl ?_
            refine r_goto (tgt := 91) hG dX7_away_87 (by decide) ?_
            refine r_istore_n (i := 2) hG dX7_away_91 rfl (by decide) rfl ?_
            refine r_iload hG dX7_away_92 rfl ?_
            refine r_if_eq (tgt := 102) hG (by omega) dX7_away_94 (by decide) (fun c94 => ?_) (fun c94 => ?_)
            · refine r_iload_n (i := 3) hG dX7_away_102 rfl rfl ?_
              refine r_istore_n (i := 3) hG dX7_away_103 rfl (by decide) rfl ?_
              first
                | exact absurd c82 (by decide)
                | exact absurd rfl c82
                | exact absurd c94 (by decide)
                | exact absurd rfl c94
                | exact V_lv (J (by omega) _ _ (best_take (f := awayF Z n) (ok := fun _ => true) rfl (by first | exact Or.inl c64 | exact Or.inr (by have := hm (by omega); omega))) (fun _ => rfl)) ⟨rfl, rfl, rfl, rfl, rfl, trivial⟩
                | exact V_lv (J (by omega) _ m (best_keep (f := awayF Z n) (ok := fun _ => true) (fun h => by have := hm (by omega); omega)) hm) ⟨rfl, rfl, rfl, rfl, rfl, trivial⟩
            · refine r_iload hG dX7_away_97 rfl ?_
              refine r_goto (tgt := 103) hG dX7_away_99 (by decide) ?_
              refine r_istore_n (i := 3) hG dX7_away_103 rfl (by decide) rfl ?_
              first
                | exact absurd c82 (by decide)
                | exact absurd rfl c82
                | exact absurd c94 (by decide)
                | exact absurd rfl c94
                | exact V_lv (J (by omega) _ _ (best_take (f := awayF Z n) (ok := fun _ => true) rfl (by first | exact Or.inl c64 | exact Or.inr (by have := hm (by omega); omega))) (fun _ => rfl)) ⟨rfl, rfl, rfl, rfl, rfl, trivial⟩
                | exact V_lv (J (by omega) _ m (best_keep (f := awayF Z n) (ok := fun _ => true) (fun h => by have := hm (by omega); omega)) hm) ⟨rfl, rfl, rfl, rfl, rfl, trivial⟩
        · refine r_iconst hG dX7_away_73 ?_
          refine r_goto (tgt := 78) hG dX7_away_74 (by decide) ?_
          refine r_istore hG dX7_away_78 (by decide) rfl ?_
          refine r_iload hG dX7_away_80 rfl ?_
          refine r_if_eq (tgt := 90) hG (by omega) dX7_away_82 (by decide) (fun c82 => ?_) (fun c82 => ?_)
          · refine r_iload_n (i := 2) hG dX7_away_90 rfl rfl ?_
            refine r_istore_n (i := 2) hG dX7_away_91 rfl (by decide) rfl ?_
            refine r_iload hG dX7_away_92 rfl ?_
            refine r_if_eq (tgt := 102) hG (by omega) dX7_away_94 (by decide) (fun c94 => ?_) (fun c94 => ?_)
            · refine r_iload_n (i := 3) hG dX7_away_102 rfl rfl ?_
              refine r_istore_n (i := 3) hG dX7_away_103 rfl (by decide) rfl ?_
              first
                | exact absurd c82 (by decide)
                | exact absurd rfl c82
                | exact absurd c94 (by decide)
                | exact absurd rfl c94
                | exact V_lv (J (by omega) _ _ (best_take (f := awayF Z n) (ok := fun _ => true) rfl (by first | exact Or.inl c64 | exact Or.inr (by have := hm (by omega); omega))) (fun _ => rfl)) ⟨rfl, rfl, rfl, rfl, rfl, trivial⟩
                | exact V_lv (J (by omega) _ m (best_keep (f := awayF Z n) (ok := fun _ => true) (fun h => by have := hm (by omega); omega)) hm) ⟨rfl, rfl, rfl, rfl, rfl, trivial⟩
            · refine r_iload hG dX7_away_97 rfl ?_
              refine r_goto (tgt := 103) hG dX7_away_99 (by decide) ?_
              refine r_istore_n (i := 3) hG dX7_away_103 rfl (by decide) rfl ?_
              first
                | exact absurd c82 (by decide)
                | exact absurd rfl c82
                | exact absurd c94 (by decide)
                | exact absurd rfl c94
                | exact V_lv (J (by omega) _ _ (best_take (f := awayF Z n) (ok := fun _ => true) rfl (by first | exact Or.inl c64 | exact Or.inr (by have := hm (by omega); omega))) (fun _ => rfl)) ⟨rfl, rfl, rfl, rfl, rfl, trivial⟩
                | exact V_lv (J (by omega) _ m (best_keep (f := awayF Z n) (ok := fun _ => true) (fun h => by have := hm (by omega); omega)) hm) ⟨rfl, rfl, rfl, rfl, rfl, trivial⟩
          · refine r_iload hG dX7_away_85 rfl ?_
            refine r_goto (tgt := 91) hG dX7_away_87 (by decide) ?_
            refine r_istore_n (i := 2) hG dX7_away_91 rfl (by decide) rfl ?_
            refine r_iload hG dX7_away_92 rfl ?_
            refine r_if_eq (tgt := 102) hG (by omega) dX7_away_94 (by decide) (fun c94 => ?_) (fun c94 => ?_)
            · refine r_iload_n (i := 3) hG dX7_away_102 rfl rfl ?_
              refine r_istore_n (i := 3) hG dX7_away_103 rfl (by decide) rfl ?_
              first
                | exact absurd c82 (by decide)
                | exact absurd rfl c82
                | exact absurd c94 (by decide)
                | exact absurd rfl c94
                | exact V_lv (J (by omega) _ _ (best_take (f := awayF Z n) (ok := fun _ => true) rfl (by first | exact Or.inl c64 | exact Or.inr (by have := hm (by omega); omega))) (fun _ => rfl)) ⟨rfl, rfl, rfl, rfl, rfl, trivial⟩
                | exact V_lv (J (by omega) _ m (best_keep (f := awayF Z n) (ok := fun _ => true) (fun h => by have := hm (by omega); omega)) hm) ⟨rfl, rfl, rfl, rfl, rfl, trivial⟩
            · refine r_iload hG dX7_away_97 rfl ?_
              refine r_goto (tgt := 103) hG dX7_away_99 (by decide) ?_
              refine r_istore_n (i := 3) hG dX7_away_103 rfl (by decide) rfl ?_
              first
                | exact absurd c82 (by decide)
                | exact absurd rfl c82
                | exact absurd c94 (by decide)
                | exact absurd rfl c94
                | exact V_lv (J (by omega) _ _ (best_take (f := awayF Z n) (ok := fun _ => true) rfl (by first | exact Or.inl c64 | exact Or.inr (by have := hm (by omega); omega))) (fun _ => rfl)) ⟨rfl, rfl, rfl, rfl, rfl, trivial⟩
                | exact V_lv (J (by omega) _ m (best_keep (f := awayF Z n) (ok := fun _ => true) (fun h => by have := hm (by omega); omega)) hm) ⟨rfl, rfl, rfl, rfl, rfl, trivial⟩
  refine r_iload_n (i := 1) hG dX7_away_0 rfl rfl ?_
  refine r_i2l hG dX7_away_1 ?_
  refine r_iconst hG dX7_away_2 ?_
  refine r_bipush hG dX7_away_3 rfl ?_
  refine r_call0i hG (c_X7_inI (g_l G) (g_D G) _ _ _ (by omega) (by omega) (by omega))  gX7_away_X7_in rfl hyX7_in rfl (by decide) (by decide) rfl (Nat.le_of_ble_eq_true rfl) ⟨Nat.zero_le _, Nat.zero_le _⟩ dX7_away_5 ?_
  refine rb_if_ne (tgt := 18) hG dX7_away_8 (by decide) (fun c8 => ?_) (fun c8 => ?_)
  · try simp only [decide_eq_true_eq, decide_eq_false_iff_not] at c8
    refine r_aload_n (i := 0) hG dX7_away_18 rfl rfl ?_
    refine r_callVv hG (c_X7_thinks (g_l G) (g_D G) a Z K U R C)  gX7_away_X7_thinks rfl hyX7_thinks rfl (by decide) (by decide) 0 rfl rfl rfl (Nat.le_of_ble_eq_true rfl) ⟨Nat.zero_le _, Nat.zero_le _⟩ dX7_away_19 (fun w hw => ?_)
    subst hw
    refine r_iconst hG dX7_away_22 ?_
    refine r_istore_n (i := 2) hG dX7_away_23 rfl (by decide) rfl ?_
    refine r_iconst hG dX7_away_24 ?_
    refine r_istore_n (i := 3) hG dX7_away_25 rfl (by decide) rfl ?_
    refine r_iconst hG dX7_away_26 ?_
    refine r_istore hG dX7_away_27 (by decide) rfl ?_
    exact V_lv (L (by omega) 0 (by omega) 0 (fun h => absurd h (by simp [bestN]))) ⟨rfl, rfl, rfl, rfl, rfl, trivial⟩
  · try simp only [decide_eq_true_eq, decide_eq_false_iff_not] at c8
    refine r_aload_n (i := 0) hG dX7_away_11 rfl rfl ?_
    refine r_ldc (n := -1000000001) hG (List.mem_of_getElem? (i := 1) rfl) rfl dX7_away_12 ?_
    refine r_callVi hG (c_X7_finds (g_l G) (g_D G) a Z K U R C (-1000000001) 0 (by omega) (by omega))  gX7_away_X7_finds rfl hyX7_finds rfl (by decide) (by decide) 0 rfl rfl rfl (Nat.le_of_ble_eq_true rfl) ⟨Nat.zero_le _, Nat.zero_le _⟩ dX7_away_14 (fun w hw => ?_)
    subst hw
    exact r_iret hG hE dX7_away_17 (by unfold s_away; (try dsimp only); (repeat (first | rw [if_pos (by omega)] | rw [if_neg (by omega)])) <;> (first | rfl | skip)) ⟨U, (by unfold s_away; (try dsimp only); (repeat (first | rw [if_pos (by omega)] | rw [if_neg (by omega)])) <;> (first | rfl | skip))⟩
theorem kX7_winner_9 : Cond.fieldLink RX7 9 "BreakSwapsModel" "m" "[I" ∈ wsX7_winner := List.mem_of_getElem? (i := 2) rfl
theorem cX7_winner_X7 : ∀ w ∈ wsX70, w ∈ wsX7_winner := fun _ h => List.mem_cons_of_mem _ (List.mem_append_right _ h)
theorem hyX7_winner : hyV yX7_winner RX7 1 := by decide +kernel
set_option maxHeartbeats 4000000 in
set_option maxRecDepth 100000 in
theorem c_X7_winner (l : Launch) (D : va_G) (a : Nat → Nat) (Z K U R : YS) (C : Int → Int64) (hT : TI (Z, K, R, C)) (n : Int) (hn : -2147483648 ≤ n ∧ n < 2147483648) : Con l yX7_winner wsX7_winner 10 D (mw D a Z K U R C) [.ref (a 0), .int (iI n)] (some (.int (iI ((s_winner (Z, K, R, C) n).1)))) (fun ww => ∃ U2, ww = mwT D a (s_winner (Z, K, R, C) n).2 U2) := by
  refine con_start (own := RX7) (by decide) rfl rfl (Nat.le_of_ble_eq_true rfl) ?_
  intro G hG hE hl hD
  subst hl
  subst hD
  have hI : Inv Z := hT.1.1
  have hN := hI.1
  have hr0 := hI.2.1
  have hu5 := hI.2.2.1
  have hrd : Z 5 0 ≤ 99999 := hT.1.2.2
  have L : (0 ≤ n ∧ n ≤ 100) → ∀ i : Nat, i ≤ (Z 5 2).toNat → ∀ m, (0 ≤ bestN (winF Z n) (fun _ => true)  i → m = winF Z n (bestN (winF Z n) (fun _ => true)  i)) → V G 0 0 (mw (g_D G) a Z K Z R C) 29 [(0, .ref (a 0)), (1, .int (iI n)), (2, .int (iI (bestN (winF Z n) (fun _ => true)  i))), (3, .int (iI m)), (4, .int (iI (i : Int)))] [] := by
    intro hoc
    have e0 : s_winner (Z, K, R, C) n = orFin (Z, K, R, C) 3 (bestN (winF Z n) (fun _ => true)  (Z 5 2).toNat) := if_pos (by (try dsimp only); omega)
    refine down (fun i hi ih m hm => ?_)
    have hr := bestN_rng (winF Z n) (fun _ => true) i
    have hgo := goZ_ok hI n.toNat
    have hg2 : ∀ o : Int, 0 ≤ o ∧ o < 8 → -100 ≤ winF Z n o ∧ winF Z n o ≤ 100 := fun o ho => by
      have h1 := glad_rng hgo.1 ho
      have h2 := glad_rng hI ho
      unfold winF
      omega
    have J : i < (Z 5 2).toNat → ∀ x2 m2, x2 = bestN (winF Z n) (fun _ => true)  (i + 1) → (0 ≤ x2 → m2 = winF Z n x2) → V G 0 0 (mw (g_D G) a Z K Z R C) 101 [(0, .ref (a 0)), (1, .int (iI n)), (2, .int (iI x2)), (3, .int (iI m2)), (4, .int (iI (i : Int)))] [] := by
      intro hiN x2 m2 e1 e2
      subst e1
      refine r_iinc hG dX7_winner_101 rfl (by decide) rfl ?_
      refine r_goto (tgt := 29) hG dX7_winner_104 (by decide) ?_
      exact V_lv (ih hiN m2 e2) ⟨rfl, rfl, rfl, rfl, rfl, trivial⟩
    refine r_iload hG dX7_winner_29 rfl ?_
    refine r_aload_n (i := 0) hG dX7_winner_31 rfl rfl ?_
    refine r_get hG cX7_winner_X7 0 0 rfl rfl (by decide) kX7_winner_9 rfl dX7_winner_32 ?_
    refine r_iconst hG dX7_winner_35 ?_
    refine r_iald hG 1 rfl (by omega) (by decide) dX7_winner_36 ?_
    refine V_top (x' := iI ((Z) 5 2)) (congrArg iI (mro_2 (Z))) ?_
    refine r_icmp_ge (tgt := 107) hG (by omega) (by omega) dX7_winner_37 (by decide) (fun c37 => ?_) (fun c37 => ?_)
    · refine r_aload_n (i := 0) hG dX7_winner_107 rfl rfl ?_
      refine r_iload_n (i := 2) hG dX7_winner_108 rfl rfl ?_
      refine r_callVi hG (c_X7_orNone (g_l G) (g_D G) a Z K Z R C _ (by omega))  gX7_winner_X7_orNone rfl hyX7_orNone rfl (by decide) (by decide) 0 rfl rfl rfl (Nat.le_of_ble_eq_true rfl) ⟨Nat.zero_le _, Nat.zero_le _⟩ dX7_winner_109 (fun w hw => ?_)
      subst hw
      have ei : i = (Z 5 2).toNat := by omega
      subst ei
      by_cases hb : bestN (winF Z n) (fun _ => true) (Z 5 2).toNat < 0
      · exact r_iret hG hE dX7_winner_112 (by rw [e0, orFin_neg hb, if_pos hb]; rfl) ⟨Z, by rw [e0, orFin_neg hb, if_pos hb]; rfl⟩
      · exact r_iret hG hE dX7_winner_112 (by rw [e0, orFin_pos hb, if_neg hb]) ⟨Z, by rw [e0, orFin_pos hb, if_neg hb]; rfl⟩
    · refine r_aload_n (i := 0) hG dX7_winner_40 rfl rfl ?_
      refine r_iload hG dX7_winner_41 rfl ?_
      refine r_callVi hG (c_X7_gladness (g_l G) (g_D G) a (Z) K Z R C hI _ (by omega))  gX7_winner_X7_gladness rfl hyX7_gladness rfl (by decide) (by decide) 0 rfl rfl rfl (Nat.le_of_ble_eq_true rfl) ⟨Nat.zero_le _, Nat.zero_le _⟩ dX7_winner_43 (fun w hw => ?_)
      subst hw
      refine r_istore hG dX7_winner_46 (by decide) rfl ?_
      refine r_aload_n (i := 0) hG dX7_winner_48 rfl rfl ?_
      refine r_iload hG dX7_winner_49 rfl ?_
      refine r_iload_n (i := 1) hG dX7_winner_51 rfl rfl ?_
      refine r_callVi hG (c_X7_gladOn (g_l G) (g_D G) a (Z) K Z R C hI _ (by omega) (by omega) _ (by omega))  gX7_winner_X7_gladOn rfl hyX7_gladOn rfl (by decide) (by decide) 0 rfl rfl rfl (Nat.le_of_ble_eq_true rfl) ⟨Nat.zero_le _, Nat.zero_le _⟩ dX7_winner_52 (fun w hw => ?_)
      subst hw
      refine r_iload hG dX7_winner_55 rfl ?_
      refine r_isub hG dX7_winner_57 ?_
      refine V_top (x' := iI (winF Z n i)) rfl ?_
      refine r_istore hG dX7_winner_58 (by decide) rfl ?_
      refine r_iload_n (i := 2) hG dX7_winner_60 rfl rfl ?_
      refine r_if_lt (tgt := 70) hG (by omega) dX7_winner_61 (by decide) (fun c61 => ?_) (fun c61 => ?_)
      · refine r_iconst hG dX7_winner_70 ?_
        refine r_goto (tgt := 75) hG dX7_winner_71 (by decide) ?_
        refine r_istore hG dX7_winner_75 (by decide) rfl ?_
        refine r_iload hG dX7_winner_77 rfl ?_
        refine r_if_eq (tgt := 87) hG (by omega) dX7_winner_79 (by decide) (fun c79 => ?_) (fun c79 => ?_)
        · refine r_iload_n (i := 2) hG dX7_winner_87 rfl rfl ?_
          refine r_istore_n (i := 2) hG dX7_winner_88 rfl (by decide) rfl ?_
          refine r_iload hG dX7_winner_89 rfl ?_
          refine r_if_eq (tgt := 99) hG (by omega) dX7_winner_91 (by decide) (fun c91 => ?_) (fun c91 => ?_)
          · refine r_iload_n (i := 3) hG dX7_winner_99 rfl rfl ?_
            refine r_istore_n (i := 3) hG dX7_winner_100 rfl (by decide) rfl ?_
            first
              | exact absurd c79 (by decide)
              | exact absurd rfl c79
              | exact absurd c91 (by decide)
              | exact absurd rfl c91
              | exact V_lv (J (by omega) _ _ (best_take (f := winF Z n) (ok := fun _ => true) rfl (by first | exact Or.inl c61 | exact Or.inr (by have := hm (by omega); omega))) (fun _ => rfl)) ⟨rfl, rfl, rfl, rfl, rfl, trivial⟩
              | exact V_lv (J (by omega) _ m (best_keep (f := winF Z n) (ok := fun _ => true) (fun h => by have := hm (by omega); omega)) hm) ⟨rfl, rfl, rfl, rfl, rfl, trivial⟩
          · refine r_iload hG dX7_winner_94 rfl ?_
            refine r_goto (tgt := 100) hG dX7_winner_96 (by decide) ?_
            refine r_istore_n (i := 3) hG dX7_winner_100 rfl (by decide) rfl ?_
            first
              | exact absurd c79 (by decide)
              | exact absurd rfl c79
              | exact absurd c91 (by decide)
              | exact absurd rfl c91
              | exact V_lv (J (by omega) _ _ (best_take (f := winF Z n) (ok := fun _ => true) rfl (by first | exact Or.inl c61 | exact Or.inr (by have := hm (by omega); omega))) (fun _ => rfl)) ⟨rfl, rfl, rfl, rfl, rfl, trivial⟩
              | exact V_lv (J (by omega) _ m (best_keep (f := winF Z n) (ok := fun _ => true) (fun h => by have := hm (by omega); omega)) hm) ⟨rfl, rfl, rfl, rfl, rfl, trivial⟩
        · refine r_iload hG dX7_winner_82 rfl ?_
          refine r_goto (tgt := 88) hG dX7_winner_84 (by decide) ?_
          refine r_istore_n (i := 2) hG dX7_winner_88 rfl (by decide) rfl ?_
          refine r_iload hG dX7_winner_89 rfl ?_
          refine r_if_eq (tgt := 99) hG (by omega) dX7_winner_91 (by decide) (fun c91 => ?_) (fun c91 => ?_)
          · refine r_iload_n (i := 3) hG dX7_winner_99 rfl rfl ?_
            refine r_istore_n (i := 3) hG dX7_winner_100 rfl (by decide) rfl ?_
            first
              | exact absurd c79 (by decide)
              | exact absurd rfl c79
              | exact absurd c91 (by decide)
              | exact absurd rfl c91
              | exact V_lv (J (by omega) _ _ (best_take (f := winF Z n) (ok := fun _ => true) rfl (by first | exact Or.inl c61 | exact Or.inr (by have := hm (by omega); omega))) (fun _ => rfl)) ⟨rfl, rfl, rfl, rfl, rfl, trivial⟩
              | exact V_lv (J (by omega) _ m (best_keep (f := winF Z n) (ok := fun _ => true) (fun h => by have := hm (by omega); omega)) hm) ⟨rfl, rfl, rfl, rfl, rfl, trivial⟩
          · refine r_iload hG dX7_winner_94 rfl ?_
            refine r_goto (tgt := 100) hG dX7_winner_96 (by decide) ?_
            refine r_istore_n (i := 3) hG dX7_winner_100 rfl (by decide) rfl ?_
            first
              | exact absurd c79 (by decide)
              | exact absurd rfl c79
              | exact absurd c91 (by decide)
              | exact absurd rfl c91
              | exact V_lv (J (by omega) _ _ (best_take (f := winF Z n) (ok := fun _ => true) rfl (by first | exact Or.inl c61 | exact Or.inr (by have := hm (by omega); omega))) (fun _ => rfl)) ⟨rfl, rfl, rfl, rfl, rfl, trivial⟩
              | exact V_lv (J (by omega) _ m (best_keep (f := winF Z n) (ok := fun _ => true) (fun h => by have := hm (by omega); omega)) hm) ⟨rfl, rfl, rfl, rfl, rfl, trivial⟩
      · refine r_iload hG dX7_winner_64 rfl ?_
        refine r_iload_n (i := 3) hG dX7_winner_66 rfl rfl ?_
        refine r_icmp_le (tgt := 74) hG (by have := hg2 i (by omega); omega) (by have := hm (by omega); have := hg2 (bestN (winF Z n) (fun _ => true) i) (by omega); omega) dX7_winner_67 (by decide) (fun c67 => ?_) (fun c67 => ?_)
        · refine r_iconst hG dX7_winner_74 ?_
          refine r_istore hG dX7_winner_75 (by decide) rfl ?_
          refine r_iload hG dX7_winner_77 rfl ?_
          refine r_if_eq (tgt := 87) hG (by omega) dX7_winner_79 (by decide) (fun c79 => ?_) (fun c79 => ?_)
          · refine r_iload_n (i := 2) hG dX7_winner_87 rfl rfl ?_
            refine r_istore_n (i := 2) hG dX7_winner_88 rfl (by decide) rfl ?_
            refine r_iload hG dX7_winner_89 rfl ?_
            refine r_if_eq (tgt := 99) hG (by omega) dX7_winner_91 (by decide) (fun c91 => ?_) (fun c91 => ?_)
            · refine r_iload_n (i := 3) hG dX7_winner_99 rfl rfl ?_
              refine r_istore_n (i := 3) hG dX7_winner_100 rfl (by decide) rfl ?_
              first
                | exact absurd c79 (by decide)
                | exact absurd rfl c79
                | exact absurd c91 (by decide)
                | exact absurd rfl c91
                | exact V_lv (J (by omega) _ _ (best_take (f := winF Z n) (ok := fun _ => true) rfl (by first | exact Or.inl c61 | exact Or.inr (by have := hm (by omega); omega))) (fun _ => rfl)) ⟨rfl, rfl, rfl, rfl, rfl, trivial⟩
                | exact V_lv (J (by omega) _ m (best_keep (f := winF Z n) (ok := fun _ => true) (fun h => by have := hm (by omega); omega)) hm) ⟨rfl, rfl, rfl, rfl, rfl, trivial⟩
            · refine r_iload hG dX7_winner_94 rfl ?_
              refine r_goto (tgt := 100) hG dX7_winner_96 (by decide) ?_
              refine r_istore_n (i := 3) hG dX7_winner_100 rfl (by decide) rfl ?_
              first
                | exact absurd c79 (by decide)
                | exact absurd rfl c79
                | exact absurd c91 (by decide)
                | exact absurd rfl c91
                | exact V_lv (J (by omega) _ _ (best_take (f := winF Z n) (ok := fun _ => true) rfl (by first | exact Or.inl c61 | exact Or.inr (by have := hm (by omega); omega))) (fun _ => rfl)) ⟨rfl, rfl, rfl, rfl, rfl, trivial⟩
                | exact V_lv (J (by omega) _ m (best_keep (f := winF Z n) (ok := fun _ => true) (fun h => by have := hm (by omega); omega)) hm) ⟨rfl, rfl, rfl, rfl, rfl, trivial⟩
          · refine r_iload hG dX7_winner_82 rfl ?_
            refine r_goto (tgt := 88) hG dX7_winner_84 (by decide) ?_
            refine r_istore_n (i := 2) hG dX7_winner_88 rfl (by decide) rfl ?_
            refine r_iload hG dX7_winner_89 rfl ?_
            refine r_if_eq (tgt := 99) hG (by omega) dX7_winner_91 (by decide) (fun c91 => ?_) (fun c91 => ?_)
            · refine r_iload_n (i := 3) hG dX7_winner_99 rfl rfl ?_
              refine r_istore_n (i := 3) hG dX7_winner_100 rfl (by decide) rfl ?_
              first
                | exact absurd c79 (by decide)
                | exact absurd rfl c79
                | exact absurd c91 (by decide)
                | exact absurd rfl c91
                | exact V_lv (J (by omega) _ _ (best_take (f := winF Z n) (ok := fun _ => true) rfl (by first | exact Or.inl c61 | exact Or.inr (by have := hm (by omega); omega))) (fun _ => rfl)) ⟨rfl, rfl, rfl, rfl, rfl, trivial⟩
                | exact V_lv (J (by omega) _ m (best_keep (f := winF Z n) (ok := fun _ => true) (fun h => by have := hm (by omega); omega)) hm) ⟨rfl, rfl, rfl, rfl, rfl, trivial⟩
            · refine r_iload hG dX7_winner_94 rfl ?_
              refine r_goto (tgt := 100) hG dX7_winner_96 (by decide) ?_
              refine r_istore_n (i := 3) hG dX7_winner_100 rfl (by decide) rfl ?_
              first
                | exact absurd c79 (by decide)
                | exact absurd rfl c79
                | exact absurd c91 (by decide)
                | exact absurd rfl c91
                | exact V_lv (J (by omega) _ _ (best_take (f := winF Z n) (ok := fun _ => true) rfl (by first | exact Or.inl c61 | exact Or.inr (by have := hm (by omega); omega))) (fun _ => rfl)) ⟨rfl, rfl, rfl, rfl, rfl, trivial⟩
                | exact V_lv (J (by omega) _ m (best_keep (f := winF Z n) (ok := fun _ => true) (fun h => by have := hm (by omega); omega)) hm) ⟨rfl, rfl, rfl, rfl, rfl, trivial⟩
        · refine r_iconst hG dX7_winner_70 ?_
          refine r_goto (tgt := 75) hG dX7_winner_71 (by decide) ?_
          refine r_istore hG dX7_winner_75 (by decide) rfl ?_
          refine r_iload hG dX7_winner_77 rfl ?_
          refine r_if_eq (tgt := 87) hG (by omega) dX7_winner_79 (by decide) (fun c79 => ?_) (fun c79 => ?_)
          · refine r_iload_n (i := 2) hG dX7_winner_87 rfl rfl ?_
            refine r_istore_n (i := 2) hG dX7_winner_88 rfl (by decide) rfl ?_
            refine r_iload hG dX7_winner_89 rfl ?_
            refine r_if_eq (tgt := 99) hG (by omega) dX7_winner_91 (by decide) (fun c91 => ?_) (fun c91 => ?_)
            · refine r_iload_n (i := 3) hG dX7_winner_99 rfl rfl ?_
              refine r_istore_n (i := 3) hG dX7_winner_100 rfl (by decide) rfl ?_
              first
                | exact absurd c79 (by decide)
                | exact absurd rfl c79
                | exact absurd c91 (by decide)
                | exact absurd rfl c91
                | exact V_lv (J (by omega) _ _ (best_take (f := winF Z n) (ok := fun _ => true) rfl (by first | exact Or.inl c61 | exact Or.inr (by have := hm (by omega); omega))) (fun _ => rfl)) ⟨rfl, rfl, rfl, rfl, rfl, trivial⟩
                | exact V_lv (J (by omega) _ m (best_keep (f := winF Z n) (ok := fun _ => true) (fun h => by have := hm (by omega); omega)) hm) ⟨rfl, rfl, rfl, rfl, rfl, trivial⟩
            · refine r_iload hG dX7_winner_94 rfl ?_
              refine r_goto (tgt := 100) hG dX7_winner_96 (by decide) ?_
              refine r_istore_n (i := 3) hG dX7_winner_100 rfl (by decide) rfl ?_
              first
                | exact absurd c79 (by decide)
                | exact absurd rfl c79
                | exact absurd c91 (by decide)
                | exact absurd rfl c91
                | exact V_lv (J (by omega) _ _ (best_take (f := winF Z n) (ok := fun _ => true) rfl (by first | exact Or.inl c61 | exact Or.inr (by have := hm (by omega); omega))) (fun _ => rfl)) ⟨rfl, rfl, rfl, rfl, rfl, trivial⟩
                | exact V_lv (J (by omega) _ m (best_keep (f := winF Z n) (ok := fun _ => true) (fun h => by have := hm (by omega); omega)) hm) ⟨rfl, rfl, rfl, rfl, rfl, trivial⟩
          · refine r_iload hG dX7_winner_82 rfl ?_
            refine r_goto (tgt := 88) hG dX7_winner_84 (by decide) ?_
            refine r_istore_n (i := 2) hG dX7_winner_88 rfl (by decide) rfl ?_
            refine r_iload hG dX7_winner_89 rfl ?_
            refine r_if_eq (tgt := 99) hG (by omega) dX7_winner_91 (by decide) (fun c91 => ?_) (fun c91 => ?_)
            · refine r_iload_n (i := 3) hG dX7_winner_99 rfl rfl ?_
              refine r_istore_n (i := 3) hG dX7_winner_100 rfl (by decide) rfl ?_
              first
                | exact absurd c79 (by decide)
                | exact absurd rfl c79
                | exact absurd c91 (by decide)
                | exact absurd rfl c91
                | exact V_lv (J (by omega) _ _ (best_take (f := winF Z n) (ok := fun _ => true) rfl (by first | exact Or.inl c61 | exact Or.inr (by have := hm (by omega); omega))) (fun _ => rfl)) ⟨rfl, rfl, rfl, rfl, rfl, trivial⟩
                | exact V_lv (J (by omega) _ m (best_keep (f := winF Z n) (ok := fun _ => true) (fun h => by have := hm (by omega); omega)) hm) ⟨rfl, rfl, rfl, rfl, rfl, trivial⟩
            · refine r_iload hG dX7_winner_94 rfl ?_
              refine r_goto (tgt := 100) hG dX7_winner_96 (by decide) ?_
              refine r_istore_n (i := 3) hG dX7_winner_100 rfl (by decide) rfl ?_
              first
                | exact absurd c79 (by decide)
                | exact absurd rfl c79
                | exact absurd c91 (by decide)
                | exact absurd rfl c91
                | exact V_lv (J (by omega) _ _ (best_take (f := winF Z n) (ok := fun _ => true) rfl (by first | exact Or.inl c61 | exact Or.inr (by have := hm (by omega); omega))) (fun _ => rfl)) ⟨rfl, rfl, rfl, rfl, rfl, trivial⟩
                | exact V_lv (J (by omega) _ m (best_keep (f := winF Z n) (ok := fun _ => true) (fun h => by have := hm (by omega); omega)) hm) ⟨rfl, rfl, rfl, rfl, rfl, trivial⟩
  refine r_iload_n (i := 1) hG dX7_winner_0 rfl rfl ?_
  refine r_i2l hG dX7_winner_1 ?_
  refine r_iconst hG dX7_winner_2 ?_
  refine r_bipush hG dX7_winner_3 rfl ?_
  refine r_call0i hG (c_X7_inI (g_l G) (g_D G) _ _ _ (by omega) (by omega) (by omega))  gX7_winner_X7_in rfl hyX7_in rfl (by decide) (by decide) rfl (Nat.le_of_ble_eq_true rfl) ⟨Nat.zero_le _, Nat.zero_le _⟩ dX7_winner_5 ?_
  refine rb_if_ne (tgt := 18) hG dX7_winner_8 (by decide) (fun c8 => ?_) (fun c8 => ?_)
  · try simp only [decide_eq_true_eq, decide_eq_false_iff_not] at c8
    refine r_aload_n (i := 0) hG dX7_winner_18 rfl rfl ?_
    refine r_callVv hG (c_X7_thinks (g_l G) (g_D G) a Z K U R C)  gX7_winner_X7_thinks rfl hyX7_thinks rfl (by decide) (by decide) 0 rfl rfl rfl (Nat.le_of_ble_eq_true rfl) ⟨Nat.zero_le _, Nat.zero_le _⟩ dX7_winner_19 (fun w hw => ?_)
    subst hw
    refine r_iconst hG dX7_winner_22 ?_
    refine r_istore_n (i := 2) hG dX7_winner_23 rfl (by decide) rfl ?_
    refine r_iconst hG dX7_winner_24 ?_
    refine r_istore_n (i := 3) hG dX7_winner_25 rfl (by decide) rfl ?_
    refine r_iconst hG dX7_winner_26 ?_
    refine r_istore hG dX7_winner_27 (by decide) rfl ?_
    exact V_lv (L (by omega) 0 (by omega) 0 (fun h => absurd h (by simp [bestN]))) ⟨rfl, rfl, rfl, rfl, rfl, trivial⟩
  · try simp only [decide_eq_true_eq, decide_eq_false_iff_not] at c8
    refine r_aload_n (i := 0) hG dX7_winner_11 rfl rfl ?_
    refine r_ldc (n := -1000000001) hG (List.mem_of_getElem? (i := 1) rfl) rfl dX7_winner_12 ?_
    refine r_callVi hG (c_X7_finds (g_l G) (g_D G) a Z K U R C (-1000000001) 0 (by omega) (by omega))  gX7_winner_X7_finds rfl hyX7_finds rfl (by decide) (by decide) 0 rfl rfl rfl (Nat.le_of_ble_eq_true rfl) ⟨Nat.zero_le _, Nat.zero_le _⟩ dX7_winner_14 (fun w hw => ?_)
    subst hw
    exact r_iret hG hE dX7_winner_17 (by unfold s_winner; (try dsimp only); (repeat (first | rw [if_pos (by omega)] | rw [if_neg (by omega)])) <;> (first | rfl | skip)) ⟨U, (by unfold s_winner; (try dsimp only); (repeat (first | rw [if_pos (by omega)] | rw [if_neg (by omega)])) <;> (first | rfl | skip))⟩
theorem hyX7_bring : hyV yX7_bring RX7 2 := by decide +kernel
set_option maxHeartbeats 4000000 in
set_option maxRecDepth 100000 in
theorem c_X7_bring (l : Launch) (D : va_G) (a : Nat → Nat) (Z K U R : YS) (C : Int → Int64) (hT : TI (Z, K, R, C)) (c n : Int) (hc : -2147483648 ≤ c ∧ c < 2147483648) (hn : -2147483648 ≤ n ∧ n < 2147483648) : Con l yX7_bring wsX7_bring 10 D (mw D a Z K U R C) [.ref (a 0), .int (iI c), .int (iI n)] (some (.int (iI ((s_bring (Z, K, R, C) c n).1)))) (fun ww => ∃ U2, ww = mwT D a (s_bring (Z, K, R, C) c n).2 U2) := by
  refine con_start (own := RX7) (by decide) rfl rfl (Nat.le_of_ble_eq_true rfl) ?_
  intro G hG hE hl hD
  subst hl
  subst hD
  have hI : Inv Z := hT.1.1
  have hN := hI.1
  have hr0 := hI.2.1
  have hu5 := hI.2.2.1
  have hrd : Z 5 0 ≤ 99999 := hT.1.2.2
  have L : ((0 ≤ c ∧ c < Z 5 2) ∧ 0 ≤ n ∧ n ≤ 40) → ∀ i : Nat, i ≤ 10 → ∀ x m, ((i = 0 ∧ x = 0 ∧ m = -100) ∨ (0 < i ∧ x = bestN (bringF Z c n) (fun _ => true)  i ∧ 0 ≤ x ∧ m = bringF Z c n x)) → V G 0 0 (mw (g_D G) a Z K Z R C) 39 [(0, .ref (a 0)), (1, .int (iI c)), (2, .int (iI n)), (3, .int (iI x)), (4, .int (iI m)), (5, .int (iI (i : Int)))] [] := by
    intro hoc
    refine down (fun i hi ih x m hx => ?_)
    have hg2 : ∀ o : Int, 0 ≤ o ∧ o < 10 → -20 ≤ bringF Z c n o ∧ bringF Z c n o ≤ 28 := fun o ho => glad_rng (goZ_ok (Inv_give hI (c := c) (t := o) (by omega)) n.toNat).1 (by omega)
    have hmr : i < 10 → -200 ≤ m ∧ m ≤ 100 := fun hiN => by
      rcases hx with h | h
      · omega
      · have hb := bestN_rng (bringF Z c n) (fun _ => true) i
        have := hg2 x (by omega)
        omega
    have T1 : i < 10 → m < bringF Z c n i → (((i + 1) = 0 ∧ (i : Int) = 0 ∧ (bringF Z c n i) = -100) ∨ (0 < (i + 1) ∧ (i : Int) = bestN (bringF Z c n) (fun _ => true)  (i + 1) ∧ 0 ≤ (i : Int) ∧ (bringF Z c n i) = bringF Z c n (i : Int))) := fun _ hlt => by
      refine Or.inr ⟨by omega, best_take (f := bringF Z c n) (ok := fun _ => true) (n := i) rfl ?_, by omega, rfl⟩
      rcases hx with h | h
      · exact Or.inl (by rw [h.1]; simp [bestN])
      · exact Or.inr (by rw [← h.2.1, ← h.2.2.2]; exact hlt)
    have T2 : i < 10 → ¬ m < bringF Z c n i → (((i + 1) = 0 ∧ x = 0 ∧ m = -100) ∨ (0 < (i + 1) ∧ x = bestN (bringF Z c n) (fun _ => true)  (i + 1) ∧ 0 ≤ x ∧ m = bringF Z c n x)) := fun hiN hlt => by
      rcases hx with h | h
      · have := hg2 i (by omega)
        omega
      · refine Or.inr ⟨by omega, ?_, h.2.2⟩
        rw [← best_keep (f := bringF Z c n) (ok := fun _ => true) (n := i) (fun h5 => ?_)]
        · exact h.2.1
        · rw [← h.2.1, ← h.2.2.2] at h5
          omega
    have J : i < 10 → ∀ x2 m2, (((i + 1) = 0 ∧ x2 = 0 ∧ m2 = -100) ∨ (0 < (i + 1) ∧ x2 = bestN (bringF Z c n) (fun _ => true)  (i + 1) ∧ 0 ≤ x2 ∧ m2 = bringF Z c n x2)) → V G 0 0 (mw (g_D G) a Z K Z R C) 92 [(0, .ref (a 0)), (1, .int (iI c)), (2, .int (iI n)), (3, .int (iI x2)), (4, .int (iI m2)), (5, .int (iI (i : Int)))] [] := by
      intro hiN x2 m2 e1
      refine r_iinc hG dX7_bring_92 rfl (by decide) rfl ?_
      refine r_goto (tgt := 39) hG dX7_bring_95 (by decide) ?_
      exact V_lv (ih hiN x2 m2 e1) ⟨rfl, rfl, rfl, rfl, rfl, rfl, trivial⟩
    refine r_iload hG dX7_bring_39 rfl ?_
    refine r_bipush hG dX7_bring_41 rfl ?_
    refine r_icmp_ge (tgt := 98) hG (by omega) (by omega) dX7_bring_43 (by decide) (fun c43 => ?_) (fun c43 => ?_)
    · refine r_iload_n (i := 3) hG dX7_bring_98 rfl rfl ?_
      have ei : i = 10 := by omega
      subst ei
      exact r_iret hG hE dX7_bring_99 (by unfold s_bring; dsimp only; rw [if_pos (by omega)]; exact congrArg iI (by omega)) ⟨Z, by unfold s_bring; dsimp only; rw [if_pos (by omega)]; rfl⟩
    · refine r_aload_n (i := 0) hG dX7_bring_46 rfl rfl ?_
      refine r_iload_n (i := 1) hG dX7_bring_47 rfl rfl ?_
      refine r_iconst hG dX7_bring_48 ?_
      refine r_iload hG dX7_bring_49 rfl ?_
      refine r_callVv hG (c_X7_put (g_l G) (g_D G) a Z K Z R C _ 1 _ (by omega) (giveY Z c i) (fun j hj => (mro_upf Z 1 (c := c) (by omega) (by omega) j hj).trans (mro_congr (give_rows Z c i) j)))  gX7_bring_X7_put rfl hyX7_put rfl (by decide) (by decide) 0 rfl rfl rfl (Nat.le_of_ble_eq_true rfl) ⟨Nat.zero_le _, Nat.zero_le _⟩ dX7_bring_51 (fun w hw => ?_)
      subst hw
      refine r_aload_n (i := 0) hG dX7_bring_54 rfl rfl ?_
      refine r_iload_n (i := 1) hG dX7_bring_55 rfl rfl ?_
      refine r_iload_n (i := 2) hG dX7_bring_56 rfl rfl ?_
      refine r_callVi hG (c_X7_gladOn (g_l G) (g_D G) a (giveY Z c i) K Z R C (Inv_give hI (by omega)) _ (by omega) (by show Z 5 0 + n < 2000000000; omega) _ (by omega))  gX7_bring_X7_gladOn rfl hyX7_gladOn rfl (by decide) (by decide) 0 rfl rfl rfl (Nat.le_of_ble_eq_true rfl) ⟨Nat.zero_le _, Nat.zero_le _⟩ dX7_bring_57 (fun w hw => ?_)
      subst hw
      refine V_top (x' := iI (bringF Z c n i)) rfl ?_
      refine r_istore hG dX7_bring_60 (by decide) rfl ?_
      refine r_iload hG dX7_bring_62 rfl ?_
      refine r_iload hG dX7_bring_64 rfl ?_
      refine r_icmp_le (tgt := 74) hG (by have := hg2 i (by omega); have := hmr (by omega); omega) (by have := hg2 i (by omega); have := hmr (by omega); omega) dX7_bring_66 (by decide) (fun c66 => ?_) (fun c66 => ?_)
      · refine r_iload_n (i := 3) hG dX7_bring_74 rfl rfl ?_
        refine r_istore_n (i := 3) hG dX7_bring_75 rfl (by decide) rfl ?_
        refine r_iload hG dX7_bring_76 rfl ?_
        refine r_iload hG dX7_bring_78 rfl ?_
        refine r_icmp_le (tgt := 88) hG (by have := hg2 i (by omega); have := hmr (by omega); omega) (by have := hg2 i (by omega); have := hmr (by omega); omega) dX7_bring_80 (by decide) (fun c80 => ?_) (fun c80 => ?_)
        · refine r_iload hG dX7_bring_88 rfl ?_
          refine r_istore hG dX7_bring_90 (by decide) rfl ?_
          first
            | (exfalso; omega)
            | exact V_lv (J (by omega) _ _ (T1 (by omega) (by omega))) ⟨rfl, rfl, rfl, rfl, rfl, rfl, trivial⟩
            | exact V_lv (J (by omega) _ _ (T2 (by omega) (by omega))) ⟨rfl, rfl, rfl, rfl, rfl, rfl, trivial⟩
        · refine r_iload hG dX7_bring_83 rfl ?_
          refine r_goto (tgt := 90) hG dX7_bring_85 (by decide) ?_
          refine r_istore hG dX7_bring_90 (by decide) rfl ?_
          first
            | (exfalso; omega)
            | exact V_lv (J (by omega) _ _ (T1 (by omega) (by omega))) ⟨rfl, rfl, rfl, rfl, rfl, rfl, trivial⟩
            | exact V_lv (J (by omega) _ _ (T2 (by omega) (by omega))) ⟨rfl, rfl, rfl, rfl, rfl, rfl, trivial⟩
      · refine r_iload hG dX7_bring_69 rfl ?_
        refine r_goto (tgt := 75) hG dX7_bring_71 (by decide) ?_
        refine r_istore_n (i := 3) hG dX7_bring_75 rfl (by decide) rfl ?_
        refine r_iload hG dX7_bring_76 rfl ?_
        refine r_iload hG dX7_bring_78 rfl ?_
        refine r_icmp_le (tgt := 88) hG (by have := hg2 i (by omega); have := hmr (by omega); omega) (by have := hg2 i (by omega); have := hmr (by omega); omega) dX7_bring_80 (by decide) (fun c80 => ?_) (fun c80 => ?_)
        · refine r_iload hG dX7_bring_88 rfl ?_
          refine r_istore hG dX7_bring_90 (by decide) rfl ?_
          first
            | (exfalso; omega)
            | exact V_lv (J (by omega) _ _ (T1 (by omega) (by omega))) ⟨rfl, rfl, rfl, rfl, rfl, rfl, trivial⟩
            | exact V_lv (J (by omega) _ _ (T2 (by omega) (by omega))) ⟨rfl, rfl, rfl, rfl, rfl, rfl, trivial⟩
        · refine r_iload hG dX7_bring_83 rfl ?_
          refine r_goto (tgt := 90) hG dX7_bring_85 (by decide) ?_
          refine r_istore hG dX7_bring_90 (by decide) rfl ?_
          first
            | (exfalso; omega)
            | exact V_lv (J (by omega) _ _ (T1 (by omega) (by omega))) ⟨rfl, rfl, rfl, rfl, rfl, rfl, trivial⟩
            | exact V_lv (J (by omega) _ _ (T2 (by omega) (by omega))) ⟨rfl, rfl, rfl, rfl, rfl, rfl, trivial⟩
  refine r_aload_n (i := 0) hG dX7_bring_0 rfl rfl ?_
  refine r_iload_n (i := 1) hG dX7_bring_1 rfl rfl ?_
  refine r_callVi hG (c_X7_isChild (g_l G) (g_D G) a Z K U R C hI _ (by omega))  gX7_bring_X7_isChild rfl hyX7_isChild rfl (by decide) (by decide) 0 rfl rfl rfl (Nat.le_of_ble_eq_true rfl) ⟨Nat.zero_le _, Nat.zero_le _⟩ dX7_bring_2 (fun w hw => ?_)
  subst hw
  refine rb_if_eq (tgt := 19) hG dX7_bring_5 (by decide) (fun c5 => ?_) (fun c5 => ?_)
  · try simp only [decide_eq_true_eq, decide_eq_false_iff_not] at c5
    refine r_aload_n (i := 0) hG dX7_bring_19 rfl rfl ?_
    refine r_ldc (n := -1000000001) hG (List.mem_of_getElem? (i := 1) rfl) rfl dX7_bring_20 ?_
    refine r_callVi hG (c_X7_finds (g_l G) (g_D G) a Z K U R C (-1000000001) 0 (by omega) (by omega))  gX7_bring_X7_finds rfl hyX7_finds rfl (by decide) (by decide) 0 rfl rfl rfl (Nat.le_of_ble_eq_true rfl) ⟨Nat.zero_le _, Nat.zero_le _⟩ dX7_bring_22 (fun w hw => ?_)
    subst hw
    exact r_iret hG hE dX7_bring_25 (by unfold s_bring; (try dsimp only); (repeat (first | rw [if_pos (by omega)] | rw [if_neg (by omega)])) <;> (first | rfl | skip)) ⟨U, (by unfold s_bring; (try dsimp only); (repeat (first | rw [if_pos (by omega)] | rw [if_neg (by omega)])) <;> (first | rfl | skip))⟩
  · try simp only [decide_eq_true_eq, decide_eq_false_iff_not] at c5
    refine r_iload_n (i := 2) hG dX7_bring_8 rfl rfl ?_
    refine r_i2l hG dX7_bring_9 ?_
    refine r_iconst hG dX7_bring_10 ?_
    refine r_bipush hG dX7_bring_11 rfl ?_
    refine r_call0i hG (c_X7_inI (g_l G) (g_D G) _ _ _ (by omega) (by omega) (by omega))  gX7_bring_X7_in rfl hyX7_in rfl (by decide) (by decide) rfl (Nat.le_of_ble_eq_true rfl) ⟨Nat.zero_le _, Nat.zero_le _⟩ dX7_bring_13 ?_
    refine rb_if_ne (tgt := 26) hG dX7_bring_16 (by decide) (fun c16 => ?_) (fun c16 => ?_)
    · try simp only [decide_eq_true_eq, decide_eq_false_iff_not] at c16
      refine r_aload_n (i := 0) hG dX7_bring_26 rfl rfl ?_
      refine r_callVv hG (c_X7_thinks (g_l G) (g_D G) a Z K U R C)  gX7_bring_X7_thinks rfl hyX7_thinks rfl (by decide) (by decide) 0 rfl rfl rfl (Nat.le_of_ble_eq_true rfl) ⟨Nat.zero_le _, Nat.zero_le _⟩ dX7_bring_27 (fun w hw => ?_)
      subst hw
      refine r_iconst hG dX7_bring_30 ?_
      refine r_istore_n (i := 3) hG dX7_bring_31 rfl (by decide) rfl ?_
      refine r_bipush hG dX7_bring_32 rfl ?_
      refine r_istore hG dX7_bring_34 (by decide) rfl ?_
      refine r_iconst hG dX7_bring_36 ?_
      refine r_istore hG dX7_bring_37 (by decide) rfl ?_
      exact V_lv (L (by omega) 0 (by omega) 0 (-100) (Or.inl ⟨rfl, rfl, rfl⟩)) ⟨rfl, rfl, rfl, rfl, rfl, rfl, trivial⟩
    · try simp only [decide_eq_true_eq, decide_eq_false_iff_not] at c16
      refine r_aload_n (i := 0) hG dX7_bring_19 rfl rfl ?_
      refine r_ldc (n := -1000000001) hG (List.mem_of_getElem? (i := 1) rfl) rfl dX7_bring_20 ?_
      refine r_callVi hG (c_X7_finds (g_l G) (g_D G) a Z K U R C (-1000000001) 0 (by omega) (by omega))  gX7_bring_X7_finds rfl hyX7_finds rfl (by decide) (by decide) 0 rfl rfl rfl (Nat.le_of_ble_eq_true rfl) ⟨Nat.zero_le _, Nat.zero_le _⟩ dX7_bring_22 (fun w hw => ?_)
      subst hw
      exact r_iret hG hE dX7_bring_25 (by unfold s_bring; (try dsimp only); (repeat (first | rw [if_pos (by omega)] | rw [if_neg (by omega)])) <;> (first | rfl | skip)) ⟨U, (by unfold s_bring; (try dsimp only); (repeat (first | rw [if_pos (by omega)] | rw [if_neg (by omega)])) <;> (first | rfl | skip))⟩
theorem hyX7_kind : hyV yX7_kind RX7 2 := by decide +kernel
set_option maxHeartbeats 4000000 in
set_option maxRecDepth 100000 in
theorem c_X7_kind (l : Launch) (D : va_G) (a : Nat → Nat) (Z K U R : YS) (C : Int → Int64) (hT : TI (Z, K, R, C)) (c n : Int) (hc : -2147483648 ≤ c ∧ c < 2147483648) (hn : -2147483648 ≤ n ∧ n < 2147483648) : Con l yX7_kind wsX7_kind 10 D (mw D a Z K U R C) [.ref (a 0), .int (iI c), .int (iI n)] (some (.int (iI ((s_kind (Z, K, R, C) c n).1)))) (fun ww => ∃ U2, ww = mwT D a (s_kind (Z, K, R, C) c n).2 U2) := by
  refine con_start (own := RX7) (by decide) rfl rfl (Nat.le_of_ble_eq_true rfl) ?_
  intro G hG hE hl hD
  subst hl
  subst hD
  have hI : Inv Z := hT.1.1
  have hN := hI.1
  have hr0 := hI.2.1
  have hu5 := hI.2.2.1
  have hrd : Z 5 0 ≤ 99999 := hT.1.2.2
  have L : ((0 ≤ c ∧ c < Z 5 2) ∧ 0 ≤ n ∧ n ≤ 40) → ∀ i : Nat, i ≤ 6 → ∀ x m, ((i = 0 ∧ x = 0 ∧ m = -1) ∨ (0 < i ∧ x = bestN (kindF Z c n) (fun _ => true)  i ∧ 0 ≤ x ∧ m = kindF Z c n x)) → V G 0 0 (mw (g_D G) a Z K Z R C) 38 [(0, .ref (a 0)), (1, .int (iI c)), (2, .int (iI n)), (3, .int (iI x)), (4, .int (iI m)), (5, .int (iI (i : Int)))] [] := by
    intro hoc
    refine down (fun i hi ih x m hx => ?_)
    have hgo := fun (o : Int) (ho : 0 ≤ o ∧ o < 6) => goZ_ok (Inv_up0 hI (i := c) (v := o) (by omega)) n.toNat
    have hg2 : ∀ o : Int, 0 ≤ o ∧ o < 6 → 0 ≤ kindF Z c n o ∧ kindF Z c n o ≤ 20 := fun o ho => (hgo o ho).1.2.2.2.2 _ (by have := Inv_c (hgo o ho).1 (c := c) (by omega); omega) (by have := Inv_c (hgo o ho).1 (c := c) (by omega); omega)
    have hmr : i < 6 → -200 ≤ m ∧ m ≤ 100 := fun hiN => by
      rcases hx with h | h
      · omega
      · have hb := bestN_rng (kindF Z c n) (fun _ => true) i
        have := hg2 x (by omega)
        omega
    have T1 : i < 6 → m < kindF Z c n i → (((i + 1) = 0 ∧ (i : Int) = 0 ∧ (kindF Z c n i) = -1) ∨ (0 < (i + 1) ∧ (i : Int) = bestN (kindF Z c n) (fun _ => true)  (i + 1) ∧ 0 ≤ (i : Int) ∧ (kindF Z c n i) = kindF Z c n (i : Int))) := fun _ hlt => by
      refine Or.inr ⟨by omega, best_take (f := kindF Z c n) (ok := fun _ => true) (n := i) rfl ?_, by omega, rfl⟩
      rcases hx with h | h
      · exact Or.inl (by rw [h.1]; simp [bestN])
      · exact Or.inr (by rw [← h.2.1, ← h.2.2.2]; exact hlt)
    have T2 : i < 6 → ¬ m < kindF Z c n i → (((i + 1) = 0 ∧ x = 0 ∧ m = -1) ∨ (0 < (i + 1) ∧ x = bestN (kindF Z c n) (fun _ => true)  (i + 1) ∧ 0 ≤ x ∧ m = kindF Z c n x)) := fun hiN hlt => by
      rcases hx with h | h
      · have := hg2 i (by omega)
        omega
      · refine Or.inr ⟨by omega, ?_, h.2.2⟩
        rw [← best_keep (f := kindF Z c n) (ok := fun _ => true) (n := i) (fun h5 => ?_)]
        · exact h.2.1
        · rw [← h.2.1, ← h.2.2.2] at h5
          omega
    have J : i < 6 → ∀ x2 m2, (((i + 1) = 0 ∧ x2 = 0 ∧ m2 = -1) ∨ (0 < (i + 1) ∧ x2 = bestN (kindF Z c n) (fun _ => true)  (i + 1) ∧ 0 ≤ x2 ∧ m2 = kindF Z c n x2)) → V G 0 0 (mw (g_D G) a Z K Z R C) 106 [(0, .ref (a 0)), (1, .int (iI c)), (2, .int (iI n)), (3, .int (iI x2)), (4, .int (iI m2)), (5, .int (iI (i : Int)))] [] := by
      intro hiN x2 m2 e1
      refine r_iinc hG dX7_kind_106 rfl (by decide) rfl ?_
      refine r_goto (tgt := 38) hG dX7_kind_109 (by decide) ?_
      exact V_lv (ih hiN x2 m2 e1) ⟨rfl, rfl, rfl, rfl, rfl, rfl, trivial⟩
    refine r_iload hG dX7_kind_38 rfl ?_
    refine r_iconst hG dX7_kind_40 ?_
    refine r_icmp_gt (tgt := 112) hG (by omega) (by omega) dX7_kind_41 (by decide) (fun c41 => ?_) (fun c41 => ?_)
    · refine r_iload_n (i := 3) hG dX7_kind_112 rfl rfl ?_
      have ei : i = 6 := by omega
      subst ei
      exact r_iret hG hE dX7_kind_113 (by unfold s_kind; dsimp only; rw [if_pos (by omega)]; exact congrArg iI (by omega)) ⟨Z, by unfold s_kind; dsimp only; rw [if_pos (by omega)]; rfl⟩
    · refine r_aload_n (i := 0) hG dX7_kind_44 rfl rfl ?_
      refine r_iload_n (i := 1) hG dX7_kind_45 rfl rfl ?_
      refine r_iconst hG dX7_kind_46 ?_
      refine r_iload hG dX7_kind_47 rfl ?_
      refine r_callVv hG (c_put0 (g_l G) (g_D G) a Z K Z R C _ _ (by omega))  gX7_kind_X7_put rfl hyX7_put rfl (by decide) (by decide) 0 rfl rfl rfl (Nat.le_of_ble_eq_true rfl) ⟨Nat.zero_le _, Nat.zero_le _⟩ dX7_kind_49 (fun w hw => ?_)
      subst hw
      refine r_aload_n (i := 0) hG dX7_kind_52 rfl rfl ?_
      refine r_iload_n (i := 2) hG dX7_kind_53 rfl rfl ?_
      refine r_callVv hG (c_X7_goesFor (g_l G) (g_D G) a (upY Z 0 c i) K Z R C (Inv_up0 hI (by omega)) _ (by omega) (by show Z 5 0 + n < 2000000000; omega))  gX7_kind_X7_goesFor rfl hyX7_goesFor rfl (by decide) (by decide) 0 rfl rfl rfl (Nat.le_of_ble_eq_true rfl) ⟨Nat.zero_le _, Nat.zero_le _⟩ dX7_kind_54 (fun w hw => ?_)
      subst hw
      refine r_aload_n (i := 0) hG dX7_kind_57 rfl rfl ?_
      refine r_iload_n (i := 1) hG dX7_kind_58 rfl rfl ?_
      refine r_iconst hG dX7_kind_59 ?_
      refine r_aload_n (i := 0) hG dX7_kind_60 rfl rfl ?_
      refine r_iload_n (i := 1) hG dX7_kind_61 rfl rfl ?_
      refine r_iconst hG dX7_kind_62 ?_
      refine r_callVi hG (c_it1 (g_l G) (g_D G) a (goZ (upY Z 0 c i) n.toNat) K Z R C _ (by omega))  gX7_kind_X7_it rfl hyX7_it rfl (by decide) (by decide) 0 rfl rfl rfl (Nat.le_of_ble_eq_true rfl) ⟨Nat.zero_le _, Nat.zero_le _⟩ dX7_kind_63 (fun w hw => ?_)
      subst hw
      refine r_iadd hG dX7_kind_66 ?_
      refine r_callVi hG (c_itL (g_l G) (g_D G) a (goZ (upY Z 0 c i) n.toNat) K Z R C _ _ (by omega) (by have := Inv_c (hgo i (by omega)).1 (c := c) (by omega); omega))  gX7_kind_X7_it rfl hyX7_it rfl (by decide) (by decide) 0 rfl rfl rfl (Nat.le_of_ble_eq_true rfl) ⟨Nat.zero_le _, Nat.zero_le _⟩ dX7_kind_67 (fun w hw => ?_)
      subst hw
      refine V_top (x' := iI (kindF Z c n i)) rfl ?_
      refine r_istore hG dX7_kind_70 (by decide) rfl ?_
      refine r_aload_n (i := 0) hG dX7_kind_72 rfl rfl ?_
      refine r_callVv hG (c_X7_putsBack (g_l G) (g_D G) a (goZ (upY Z 0 c i) n.toNat) K Z R C)  gX7_kind_X7_putsBack rfl hyX7_putsBack rfl (by decide) (by decide) 0 rfl rfl rfl (Nat.le_of_ble_eq_true rfl) ⟨Nat.zero_le _, Nat.zero_le _⟩ dX7_kind_73 (fun w hw => ?_)
      subst hw
      refine r_iload hG dX7_kind_76 rfl ?_
      refine r_iload hG dX7_kind_78 rfl ?_
      refine r_icmp_le (tgt := 88) hG (by have := hg2 i (by omega); have := hmr (by omega); omega) (by have := hg2 i (by omega); have := hmr (by omega); omega) dX7_kind_80 (by decide) (fun c80 => ?_) (fun c80 => ?_)
      · refine r_iload_n (i := 3) hG dX7_kind_88 rfl rfl ?_
        refine r_istore_n (i := 3) hG dX7_kind_89 rfl (by decide) rfl ?_
        refine r_iload hG dX7_kind_90 rfl ?_
        refine r_iload hG dX7_kind_92 rfl ?_
        refine r_icmp_le (tgt := 102) hG (by have := hg2 i (by omega); have := hmr (by omega); omega) (by have := hg2 i (by omega); have := hmr (by omega); omega) dX7_kind_94 (by decide) (fun c94 => ?_) (fun c94 => ?_)
        · refine r_iload hG dX7_kind_102 rfl ?_
          refine r_istore hG dX7_kind_104 (by decide) rfl ?_
          first
            | (exfalso; omega)
            | exact V_lv (J (by omega) _ _ (T1 (by omega) (by omega))) ⟨rfl, rfl, rfl, rfl, rfl, rfl, trivial⟩
            | exact V_lv (J (by omega) _ _ (T2 (by omega) (by omega))) ⟨rfl, rfl, rfl, rfl, rfl, rfl, trivial⟩
        · refine r_iload hG dX7_kind_97 rfl ?_
          refine r_goto (tgt := 104) hG dX7_kind_99 (by decide) ?_
          refine r_istore hG dX7_kind_104 (by decide) rfl ?_
          first
            | (exfalso; omega)
            | exact V_lv (J (by omega) _ _ (T1 (by omega) (by omega))) ⟨rfl, rfl, rfl, rfl, rfl, rfl, trivial⟩
            | exact V_lv (J (by omega) _ _ (T2 (by omega) (by omega))) ⟨rfl, rfl, rfl, rfl, rfl, rfl, trivial⟩
      · refine r_iload hG dX7_kind_83 rfl ?_
        refine r_goto (tgt := 89) hG dX7_kind_85 (by decide) ?_
        refine r_istore_n (i := 3) hG dX7_kind_89 rfl (by decide) rfl ?_
        refine r_iload hG dX7_kind_90 rfl ?_
        refine r_iload hG dX7_kind_92 rfl ?_
        refine r_icmp_le (tgt := 102) hG (by have := hg2 i (by omega); have := hmr (by omega); omega) (by have := hg2 i (by omega); have := hmr (by omega); omega) dX7_kind_94 (by decide) (fun c94 => ?_) (fun c94 => ?_)
        · refine r_iload hG dX7_kind_102 rfl ?_
          refine r_istore hG dX7_kind_104 (by decide) rfl ?_
          first
            | (exfalso; omega)
            | exact V_lv (J (by omega) _ _ (T1 (by omega) (by omega))) ⟨rfl, rfl, rfl, rfl, rfl, rfl, trivial⟩
            | exact V_lv (J (by omega) _ _ (T2 (by omega) (by omega))) ⟨rfl, rfl, rfl, rfl, rfl, rfl, trivial⟩
        · refine r_iload hG dX7_kind_97 rfl ?_
          refine r_goto (tgt := 104) hG dX7_kind_99 (by decide) ?_
          refine r_istore hG dX7_kind_104 (by decide) rfl ?_
          first
            | (exfalso; omega)
            | exact V_lv (J (by omega) _ _ (T1 (by omega) (by omega))) ⟨rfl, rfl, rfl, rfl, rfl, rfl, trivial⟩
            | exact V_lv (J (by omega) _ _ (T2 (by omega) (by omega))) ⟨rfl, rfl, rfl, rfl, rfl, rfl, trivial⟩
  refine r_aload_n (i := 0) hG dX7_kind_0 rfl rfl ?_
  refine r_iload_n (i := 1) hG dX7_kind_1 rfl rfl ?_
  refine r_callVi hG (c_X7_isChild (g_l G) (g_D G) a Z K U R C hI _ (by omega))  gX7_kind_X7_isChild rfl hyX7_isChild rfl (by decide) (by decide) 0 rfl rfl rfl (Nat.le_of_ble_eq_true rfl) ⟨Nat.zero_le _, Nat.zero_le _⟩ dX7_kind_2 (fun w hw => ?_)
  subst hw
  refine rb_if_eq (tgt := 19) hG dX7_kind_5 (by decide) (fun c5 => ?_) (fun c5 => ?_)
  · try simp only [decide_eq_true_eq, decide_eq_false_iff_not] at c5
    refine r_aload_n (i := 0) hG dX7_kind_19 rfl rfl ?_
    refine r_ldc (n := -1000000001) hG (List.mem_of_getElem? (i := 1) rfl) rfl dX7_kind_20 ?_
    refine r_callVi hG (c_X7_finds (g_l G) (g_D G) a Z K U R C (-1000000001) 0 (by omega) (by omega))  gX7_kind_X7_finds rfl hyX7_finds rfl (by decide) (by decide) 0 rfl rfl rfl (Nat.le_of_ble_eq_true rfl) ⟨Nat.zero_le _, Nat.zero_le _⟩ dX7_kind_22 (fun w hw => ?_)
    subst hw
    exact r_iret hG hE dX7_kind_25 (by unfold s_kind; (try dsimp only); (repeat (first | rw [if_pos (by omega)] | rw [if_neg (by omega)])) <;> (first | rfl | skip)) ⟨U, (by unfold s_kind; (try dsimp only); (repeat (first | rw [if_pos (by omega)] | rw [if_neg (by omega)])) <;> (first | rfl | skip))⟩
  · try simp only [decide_eq_true_eq, decide_eq_false_iff_not] at c5
    refine r_iload_n (i := 2) hG dX7_kind_8 rfl rfl ?_
    refine r_i2l hG dX7_kind_9 ?_
    refine r_iconst hG dX7_kind_10 ?_
    refine r_bipush hG dX7_kind_11 rfl ?_
    refine r_call0i hG (c_X7_inI (g_l G) (g_D G) _ _ _ (by omega) (by omega) (by omega))  gX7_kind_X7_in rfl hyX7_in rfl (by decide) (by decide) rfl (Nat.le_of_ble_eq_true rfl) ⟨Nat.zero_le _, Nat.zero_le _⟩ dX7_kind_13 ?_
    refine rb_if_ne (tgt := 26) hG dX7_kind_16 (by decide) (fun c16 => ?_) (fun c16 => ?_)
    · try simp only [decide_eq_true_eq, decide_eq_false_iff_not] at c16
      refine r_aload_n (i := 0) hG dX7_kind_26 rfl rfl ?_
      refine r_callVv hG (c_X7_thinks (g_l G) (g_D G) a Z K U R C)  gX7_kind_X7_thinks rfl hyX7_thinks rfl (by decide) (by decide) 0 rfl rfl rfl (Nat.le_of_ble_eq_true rfl) ⟨Nat.zero_le _, Nat.zero_le _⟩ dX7_kind_27 (fun w hw => ?_)
      subst hw
      refine r_iconst hG dX7_kind_30 ?_
      refine r_istore_n (i := 3) hG dX7_kind_31 rfl (by decide) rfl ?_
      refine r_iconst hG dX7_kind_32 ?_
      refine r_istore hG dX7_kind_33 (by decide) rfl ?_
      refine r_iconst hG dX7_kind_35 ?_
      refine r_istore hG dX7_kind_36 (by decide) rfl ?_
      exact V_lv (L (by omega) 0 (by omega) 0 (-1) (Or.inl ⟨rfl, rfl, rfl⟩)) ⟨rfl, rfl, rfl, rfl, rfl, rfl, trivial⟩
    · try simp only [decide_eq_true_eq, decide_eq_false_iff_not] at c16
      refine r_aload_n (i := 0) hG dX7_kind_19 rfl rfl ?_
      refine r_ldc (n := -1000000001) hG (List.mem_of_getElem? (i := 1) rfl) rfl dX7_kind_20 ?_
      refine r_callVi hG (c_X7_finds (g_l G) (g_D G) a Z K U R C (-1000000001) 0 (by omega) (by omega))  gX7_kind_X7_finds rfl hyX7_finds rfl (by decide) (by decide) 0 rfl rfl rfl (Nat.le_of_ble_eq_true rfl) ⟨Nat.zero_le _, Nat.zero_le _⟩ dX7_kind_22 (fun w hw => ?_)
      subst hw
      exact r_iret hG hE dX7_kind_25 (by unfold s_kind; (try dsimp only); (repeat (first | rw [if_pos (by omega)] | rw [if_neg (by omega)])) <;> (first | rfl | skip)) ⟨U, (by unfold s_kind; (try dsimp only); (repeat (first | rw [if_pos (by omega)] | rw [if_neg (by omega)])) <;> (first | rfl | skip))⟩
