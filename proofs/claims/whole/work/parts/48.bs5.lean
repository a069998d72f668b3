theorem best_pos (f : Int → Int) : ∀ n : Nat, 0 < n → 0 ≤ bestN f (fun _ => true) n
  | 0, h => absurd h (by omega)
  | n + 1, _ => by
    have h := bestN_rng f (fun _ => true) n
    unfold bestN
    split
    · omega
    · rename_i c
      simp only [Bool.true_and, Bool.or_eq_true, decide_eq_true_eq, not_or] at c
      omega
theorem Hol_give {Y : YS} (hI : Inv Y) (h : Hol Y) {c t : Int} (hc : 0 ≤ c ∧ c < Y 5 2) (ht : 0 ≤ t ∧ t ≤ 9) : Hol (giveY Y c t) := fun u h0 h1 => by
  have hN := hI.1
  show up1 (up1 (Y 8) (Y 1 c) (Y 8 (Y 1 c) - 1)) t (up1 (Y 8) (Y 1 c) (Y 8 (Y 1 c) - 1) t + 1) u = cntN (up1 (Y 1) c t) u (Y 5 2).toNat
  rw [cntN_up, if_pos (by omega)]
  have e := h u h0 h1
  unfold cnt at e
  have a1 : u = t → Y 8 u = Y 8 t := fun e => by rw [e]
  have a2 : u = Y 1 c → Y 8 u = Y 8 (Y 1 c) := fun e => by rw [e]
  unfold up1 eqI
  rw [← e]
  (repeat' split) <;> omega
theorem kX6_first_25 : Cond.fieldLink RX6 25 "BreakSwaps" "best" "LBreakSwaps$Best;" ∈ wsX6_first := List.mem_of_getElem? (i := 1) rfl
theorem kX6_first_10 : Cond.fieldLink RX6 10 "BreakSwaps" "live" "LBreakSwaps$Yard;" ∈ wsX6_first := List.mem_of_getElem? (i := 2) rfl
theorem kX6_first_158 : Cond.fieldLink RX6 158 "BreakSwaps$Yard" "size" "I" ∈ wsX6_first := List.mem_of_getElem? (i := 3) rfl
theorem kX6_first_19 : Cond.fieldLink RX6 19 "BreakSwaps" "trial" "LBreakSwaps$Yard;" ∈ wsX6_first := List.mem_of_getElem? (i := 4) rfl
theorem cX6_first_X4 : ∀ w ∈ wsX40, w ∈ wsX6_first := fun _ h => List.mem_cons_of_mem _ (List.mem_append_left _ (List.mem_append_right _ h))
theorem cX6_first_X6 : ∀ w ∈ wsX60, w ∈ wsX6_first := fun _ h => List.mem_cons_of_mem _ (List.mem_append_left _ (List.mem_append_left _ (List.mem_append_right _ h)))
theorem hyX6_first : hyV yX6_first RX6 2 := by decide +kernel
set_option maxHeartbeats 4000000 in
set_option maxRecDepth 100000 in
theorem c_X6_first (l : Launch) (D : va_G) (a : Nat → Nat) (Z K R : YS) (C : Int → Int64) (YT : YS) (J : Nat → Int) (hT : TI (Z, K, R, C)) (c n : Int) (hc : -2147483648 ≤ c ∧ c < 2147483648) (hn : -2147483648 ≤ n ∧ n < 2147483648) : Con l yX6_first wsX6_first 6 D (bw D a Z K R C YT J) [.ref (a 0), .int (iI c), .int (iI n)] (some (.int (iI ((s_first (Z, K, R, C) c n).1)))) (fun ww => ∃ Y2 J2, ww = bwT D a (s_first (Z, K, R, C) c n).2 Y2 J2) := by
  refine con_start (own := RX6) (by decide) rfl rfl (Nat.le_of_ble_eq_true rfl) ?_
  intro G hG hE hl hD
  subst hl
  subst hD
  have hI : Inv Z := hT.1.1
  have hH : Hol Z := hT.1.2.1
  have hN := hI.1
  have hr0 := hI.2.1
  have hu5 := hI.2.2.1
  have hrd : Z 5 0 ≤ 99999 := hT.1.2.2
  have L : ((0 ≤ c ∧ c < Z 5 2) ∧ 0 ≤ n ∧ n ≤ 40) → ∀ i : Nat, i ≤ (Z 5 2).toNat → ∀ (YT1 : YS) (J1 : Nat → Int), J1 9 = bestN (firstF Z c n) (fun o => decide (o ≠ c))  i → (0 ≤ J1 9 → J1 10 = firstF Z c n (J1 9)) → V G 0 0 (bw (g_D G) a (Z) (K) (R) (C) (YT1) (J1)) 33 [(0, .ref (a 0)), (1, .int (iI c)), (2, .int (iI n)), (3, .int (iI (i : Int)))] [] := by
    intro hoc
    have e0 : s_first (Z, K, R, C) c n = orFin (Z, K, R, C) 3 (bestN (firstF Z c n) (fun o => decide (o ≠ c))  (Z 5 2).toNat) := if_pos (by (try dsimp only); omega)
    refine down (fun i hi ih YT1 J1 hx hm => ?_)
    have hr := bestN_rng (firstF Z c n) (fun o => decide (o ≠ c)) i
    have hgo := fun (o : Int) (ho : 0 ≤ o ∧ o < 8) => goZ_ok (Inv_swap hI (c := c) (o := o) (by omega) ho) n.toNat
    have hg2 : ∀ o : Int, 0 ≤ o ∧ o < 8 → -20 ≤ firstF Z c n o ∧ firstF Z c n o ≤ 28 := fun o ho => glad_rng (hgo o ho).1 (by omega)
    have JJ : i < (Z 5 2).toNat → ∀ (YT3 : YS) (J3 : Nat → Int), J3 9 = bestN (firstF Z c n) (fun o => decide (o ≠ c))  (i + 1) → (0 ≤ J3 9 → J3 10 = firstF Z c n (J3 9)) → V G 0 0 (bw (g_D G) a (Z) (K) (R) (C) (YT3) (J3)) 93 [(0, .ref (a 0)), (1, .int (iI c)), (2, .int (iI n)), (3, .int (iI (i : Int)))] [] := by
      intro hiN YT3 J3 e1 e2
      refine r_iinc hG dX6_first_93 rfl (by decide) rfl ?_
      refine r_goto (tgt := 33) hG dX6_first_96 (by decide) ?_
      exact V_lv (ih hiN YT3 J3 e1 e2) ⟨rfl, rfl, rfl, rfl, trivial⟩
    refine r_iload_n (i := 3) hG dX6_first_33 rfl rfl ?_
    refine r_aload_n (i := 0) hG dX6_first_34 rfl rfl ?_
    refine r_get hG cX6_first_X6 0 0 rfl rfl (by decide) kX6_first_10 rfl dX6_first_35 ?_
    refine r_get hG cX6_first_X4 2 2 rfl rfl (by decide) kX6_first_158 rfl dX6_first_38 ?_
    refine r_icmp_ge (tgt := 99) hG (by omega) (by omega) dX6_first_41 (by decide) (fun c41 => ?_) (fun c41 => ?_)
    · refine r_aload_n (i := 0) hG dX6_first_99 rfl rfl ?_
      refine r_callVi hG (c_X6_bestOrNone (g_l G) (g_D G) a Z K R C YT1 J1 (by omega))  gX6_first_X6_bestOrNone rfl hyX6_bestOrNone rfl (by decide) (by decide) 0 rfl rfl rfl (Nat.le_of_ble_eq_true rfl) ⟨Nat.zero_le _, Nat.zero_le _⟩ dX6_first_100 (fun w hw => ?_)
      subst hw
      have ei : i = (Z 5 2).toNat := by omega
      subst ei
      by_cases hb : J1 9 < 0
      · exact r_iret hG hE dX6_first_103 (by rw [e0, ← hx, orFin_neg hb, if_pos hb]; rfl) ⟨YT1, J1, by rw [e0, ← hx, orFin_neg hb, if_pos hb]; rfl⟩
      · exact r_iret hG hE dX6_first_103 (by rw [e0, ← hx, orFin_pos hb, if_neg hb]) ⟨YT1, J1, by rw [e0, ← hx, orFin_pos hb, if_neg hb]; rfl⟩
    · refine r_iload_n (i := 3) hG dX6_first_44 rfl rfl ?_
      refine r_iload_n (i := 1) hG dX6_first_45 rfl rfl ?_
      refine r_icmp_eq (tgt := 93) hG (by omega) (by omega) dX6_first_46 (by decide) (fun c46 => ?_) (fun c46 => ?_)
      · exact V_lv (JJ (by omega) YT1 J1 (by rw [hx]; exact best_skip (f := firstF Z c n) (ok := fun o => decide (o ≠ c)) (decide_eq_false (by omega))) hm) ⟨rfl, rfl, rfl, rfl, trivial⟩
      · refine r_aload_n (i := 0) hG dX6_first_49 rfl rfl ?_
        refine r_get hG cX6_first_X6 0 2 rfl rfl (by decide) kX6_first_19 rfl dX6_first_50 ?_
        refine r_aload_n (i := 0) hG dX6_first_53 rfl rfl ?_
        refine r_get hG cX6_first_X6 0 0 rfl rfl (by decide) kX6_first_10 rfl dX6_first_54 ?_
        refine r_becT hG gX6_first_X4_become (by decide) (Nat.le_of_ble_eq_true rfl) ⟨Nat.zero_le _, Nat.zero_le _⟩ dX6_first_57 ?_
        refine r_aload_n (i := 0) hG dX6_first_60 rfl rfl ?_
        refine r_get hG cX6_first_X6 0 2 rfl rfl (by decide) kX6_first_19 rfl dX6_first_61 ?_
        refine r_iload_n (i := 1) hG dX6_first_64 rfl rfl ?_
        refine r_iload_n (i := 3) hG dX6_first_65 rfl rfl ?_
        refine r_midv hG (c_X4_exchange (g_l G) (g_D G) (fun i => a (18 + i)) (Z) ((jn J1 8 0) 6) ((jn J1 8 0) 7) ((jn J1 8 0) 8) hI _ _ (by omega) (by omega)) (bobj (g_D G) a (R) ++ (yw (g_D G) (fun i => a (2 + i)) (Z) ((jn J1 8 0) 0) ((jn J1 8 0) 1) ((jn J1 8 0) 2) ++ yw (g_D G) (fun i => a (10 + i)) (K) ((jn J1 8 0) 3) ((jn J1 8 0) 4) ((jn J1 8 0) 5))) (bestw (a 26) ((jn J1 8 0) 9) ((jn J1 8 0) 10) ++ (btxt (g_D G) a (R) (jn J1 8 0) ++ bshs (g_D G) a (R) (C))) rfl gX6_first_X4_exchange rfl hyX4_exchange rfl (by decide) (by decide) 0 rfl rfl rfl (Nat.le_of_ble_eq_true rfl) ⟨Nat.zero_le _, Nat.zero_le _⟩ dX6_first_66 ?_
        intro w hw
        subst hw
        refine V_ws (ws' := bw (g_D G) a (Z) (K) (R) (C) (swapZ Z c i) (jn J1 8 0)) rfl ?_
        refine r_aload_n (i := 0) hG dX6_first_69 rfl rfl ?_
        refine r_get hG cX6_first_X6 0 2 rfl rfl (by decide) kX6_first_19 rfl dX6_first_70 ?_
        refine r_iload_n (i := 2) hG dX6_first_73 rfl rfl ?_
        refine r_midv hG (c_X4_goOn (g_l G) (g_D G) (fun i => a (18 + i)) (swapZ Z c i) ((jn J1 8 0) 6) ((jn J1 8 0) 7) ((jn J1 8 0) 8) (Inv_swap hI (by omega) (by omega)) (Hol_swap hH (by omega) (by omega) (by omega)) _ (by omega) (by show Z 5 0 + n < 2000000000; omega)) (bobj (g_D G) a (R) ++ (yw (g_D G) (fun i => a (2 + i)) (Z) ((jn J1 8 0) 0) ((jn J1 8 0) 1) ((jn J1 8 0) 2) ++ yw (g_D G) (fun i => a (10 + i)) (K) ((jn J1 8 0) 3) ((jn J1 8 0) 4) ((jn J1 8 0) 5))) (bestw (a 26) ((jn J1 8 0) 9) ((jn J1 8 0) 10) ++ (btxt (g_D G) a (R) (jn J1 8 0) ++ bshs (g_D G) a (R) (C))) rfl gX6_first_X4_goOn rfl hyX4_goOn rfl (by decide) (by decide) 0 rfl rfl rfl (Nat.le_of_ble_eq_true rfl) ⟨Nat.zero_le _, Nat.zero_le _⟩ dX6_first_74 ?_
        rintro w ⟨x2, z2, q2, rfl⟩
        obtain ⟨J2, hJ2⟩ : ∃ J2 : Nat → Int, J2 = jn (jn (jn (jn J1 8 0) 6 x2) 7 z2) 8 q2 := ⟨_, rfl⟩
        have h9 : J2 9 = J1 9 := by rw [hJ2]; rfl
        have h10 : J2 10 = J1 10 := by rw [hJ2]; rfl
        refine V_ws (ws' := bw (g_D G) a (Z) (K) (R) (C) (goZ (swapZ Z c i) n.toNat) (J2)) (by rw [hJ2]; rfl) ?_
        refine r_aload_n (i := 0) hG dX6_first_77 rfl rfl ?_
        refine r_get hG cX6_first_X6 0 3 rfl rfl (by decide) kX6_first_25 rfl dX6_first_78 ?_
        refine r_iload_n (i := 3) hG dX6_first_81 rfl rfl ?_
        refine r_aload_n (i := 0) hG dX6_first_82 rfl rfl ?_
        refine r_get hG cX6_first_X6 0 2 rfl rfl (by decide) kX6_first_19 rfl dX6_first_83 ?_
        refine r_iload_n (i := 1) hG dX6_first_86 rfl rfl ?_
        refine r_midi hG (c_X4_gladOf (g_l G) (g_D G) (fun i => a (18 + i)) (goZ (swapZ Z c i) n.toNat) ((J2) 6) ((J2) 7) ((J2) 8) (hgo i (by omega)).1 ((hgo i (by omega)).2.2.2.2.2.2 (Hol_swap hH (by omega) (by omega) (by omega))) _ (by omega)) (bobj (g_D G) a (R) ++ (yw (g_D G) (fun i => a (2 + i)) (Z) ((J2) 0) ((J2) 1) ((J2) 2) ++ yw (g_D G) (fun i => a (10 + i)) (K) ((J2) 3) ((J2) 4) ((J2) 5))) (bestw (a 26) ((J2) 9) ((J2) 10) ++ (btxt (g_D G) a (R) (J2) ++ bshs (g_D G) a (R) (C))) rfl gX6_first_X4_gladOf rfl hyX4_gladOf rfl (by decide) (by decide) 0 rfl rfl rfl (Nat.le_of_ble_eq_true rfl) ⟨Nat.zero_le _, Nat.zero_le _⟩ dX6_first_87 ?_
        intro w hw
        subst hw
        refine V_ws (ws' := bw (g_D G) a (Z) (K) (R) (C) (goZ (swapZ Z c i) n.toNat) (J2)) rfl ?_
        refine r_midv hG (c_X0_offer (g_l G) (g_D G) (a 26) ((J2) 9) ((J2) 10) i (firstF Z c n i) (by omega) (fun h => by have := hm (by omega); have := hg2 (J1 9) (by omega); omega) (by have := hg2 i (by omega); omega)) (bobj (g_D G) a (R) ++ (yw (g_D G) (fun i => a (2 + i)) (Z) ((J2) 0) ((J2) 1) ((J2) 2) ++ (yw (g_D G) (fun i => a (10 + i)) (K) ((J2) 3) ((J2) 4) ((J2) 5) ++ yw (g_D G) (fun i => a (18 + i)) (goZ (swapZ Z c i) n.toNat) ((J2) 6) ((J2) 7) ((J2) 8)))) (btxt (g_D G) a (R) (J2) ++ bshs (g_D G) a (R) (C)) rfl gX6_first_X0_offer rfl hyX0_offer rfl (by decide) (by decide) 0 rfl rfl rfl (Nat.le_of_ble_eq_true rfl) ⟨Nat.zero_le _, Nat.zero_le _⟩ dX6_first_90 ?_
        intro w hw
        by_cases hcmp : (J2) 9 < 0 ∨ (J2) 10 < firstF Z c n i
        · rw [if_pos hcmp] at hw
          subst hw
          refine V_ws (ws' := bw (g_D G) a (Z) (K) (R) (C) (goZ (swapZ Z c i) n.toNat) (jn (jn (J2) 9 i) 10 (firstF Z c n i))) rfl ?_
          exact V_lv (JJ (by omega) _ _ (best_take (f := firstF Z c n) (ok := fun o => decide (o ≠ c)) (decide_eq_true (by omega)) (by rw [← hx]; exact (Int.lt_or_le (J1 9) 0).imp id (fun h0 => by have := hm h0; omega))) (fun _ => rfl)) ⟨rfl, rfl, rfl, rfl, trivial⟩
        · rw [if_neg hcmp] at hw
          subst hw
          refine V_ws (ws' := bw (g_D G) a (Z) (K) (R) (C) (goZ (swapZ Z c i) n.toNat) (J2)) rfl ?_
          exact V_lv (JJ (by omega) _ _ (by rw [h9, hx]; exact best_keep (f := firstF Z c n) (ok := fun o => decide (o ≠ c)) (fun h => by rw [← hx] at h; have := hm (by omega); omega)) (fun h => by rw [h9, h10]; exact hm (by omega))) ⟨rfl, rfl, rfl, rfl, trivial⟩
  refine r_aload_n (i := 0) hG dX6_first_0 rfl rfl ?_
  refine r_iload_n (i := 1) hG dX6_first_1 rfl rfl ?_
  refine r_callVi hG (c_X6_isThere (g_l G) (g_D G) a Z K R C YT J hI _ (by omega))  gX6_first_X6_isThere rfl hyX6_isThere rfl (by decide) (by decide) 0 rfl rfl rfl (Nat.le_of_ble_eq_true rfl) ⟨Nat.zero_le _, Nat.zero_le _⟩ dX6_first_2 (fun w hw => ?_)
  subst hw
  refine rb_if_eq (tgt := 18) hG dX6_first_5 (by decide) (fun c5 => ?_) (fun c5 => ?_)
  · try simp only [decide_eq_true_eq, decide_eq_false_iff_not] at c5
    refine r_aload_n (i := 0) hG dX6_first_18 rfl rfl ?_
    refine r_iconst hG dX6_first_19 ?_
    refine r_callVi hG (c_X6_finding (g_l G) (g_D G) a (Z) (K) (R) (C) (YT) (J) 0 (by omega))  gX6_first_X6_finding rfl hyX6_finding rfl (by decide) (by decide) 0 rfl rfl rfl (Nat.le_of_ble_eq_true rfl) ⟨Nat.zero_le _, Nat.zero_le _⟩ dX6_first_20 (fun w hw => ?_)
    subst hw
    exact r_iret hG hE dX6_first_23 (by unfold s_first; (try dsimp only); (repeat (first | rw [if_pos (by omega)] | rw [if_neg (by omega)])) <;> (first | rfl | skip)) ⟨YT, J, (by unfold s_first; (try dsimp only); (repeat (first | rw [if_pos (by omega)] | rw [if_neg (by omega)])) <;> (first | rfl | skip))⟩
  · try simp only [decide_eq_true_eq, decide_eq_false_iff_not] at c5
    refine r_iload_n (i := 2) hG dX6_first_8 rfl rfl ?_
    refine r_iconst hG dX6_first_9 ?_
    refine r_bipush hG dX6_first_10 rfl ?_
    refine r_call0i hG (c_X6_isWithin (g_l G) (g_D G) _ _ _ (by omega) (by omega) (by omega))  gX6_first_X6_isWithin rfl hyX6_isWithin rfl (by decide) (by decide) rfl (Nat.le_of_ble_eq_true rfl) ⟨Nat.zero_le _, Nat.zero_le _⟩ dX6_first_12 ?_
    refine rb_if_ne (tgt := 24) hG dX6_first_15 (by decide) (fun c15 => ?_) (fun c15 => ?_)
    · try simp only [decide_eq_true_eq, decide_eq_false_iff_not] at c15
      refine r_aload_n (i := 0) hG dX6_first_24 rfl rfl ?_
      refine r_get hG cX6_first_X6 0 3 rfl rfl (by decide) kX6_first_25 rfl dX6_first_25 ?_
      refine r_midv hG (c_X0_begin (g_l G) (g_D G) (a 26) ((J) 9) ((J) 10) ) (bobj (g_D G) a (R) ++ (yw (g_D G) (fun i => a (2 + i)) (Z) ((J) 0) ((J) 1) ((J) 2) ++ (yw (g_D G) (fun i => a (10 + i)) (K) ((J) 3) ((J) 4) ((J) 5) ++ yw (g_D G) (fun i => a (18 + i)) (YT) ((J) 6) ((J) 7) ((J) 8)))) (btxt (g_D G) a (R) (J) ++ bshs (g_D G) a (R) (C)) rfl gX6_first_X0_begin rfl hyX0_begin rfl (by decide) (by decide) 0 rfl rfl rfl (Nat.le_of_ble_eq_true rfl) ⟨Nat.zero_le _, Nat.zero_le _⟩ dX6_first_28 ?_
      intro w hw
      subst hw
      refine V_ws (ws' := bw (g_D G) a (Z) (K) (R) (C) (YT) (jn J 9 (-1))) rfl ?_
      refine r_iconst hG dX6_first_31 ?_
      refine r_istore_n (i := 3) hG dX6_first_32 rfl (by decide) rfl ?_
      exact V_lv (L (by omega) 0 (by omega) _ _ rfl (fun h => absurd h (by show ¬ (0 : Int) ≤ -1; omega))) ⟨rfl, rfl, rfl, rfl, trivial⟩
    · try simp only [decide_eq_true_eq, decide_eq_false_iff_not] at c15
      refine r_aload_n (i := 0) hG dX6_first_18 rfl rfl ?_
      refine r_iconst hG dX6_first_19 ?_
      refine r_callVi hG (c_X6_finding (g_l G) (g_D G) a (Z) (K) (R) (C) (YT) (J) 0 (by omega))  gX6_first_X6_finding rfl hyX6_finding rfl (by decide) (by decide) 0 rfl rfl rfl (Nat.le_of_ble_eq_true rfl) ⟨Nat.zero_le _, Nat.zero_le _⟩ dX6_first_20 (fun w hw => ?_)
      subst hw
      exact r_iret hG hE dX6_first_23 (by unfold s_first; (try dsimp only); (repeat (first | rw [if_pos (by omega)] | rw [if_neg (by omega)])) <;> (first | rfl | skip)) ⟨YT, J, (by unfold s_first; (try dsimp only); (repeat (first | rw [if_pos (by omega)] | rw [if_neg (by omega)])) <;> (first | rfl | skip))⟩
theorem kX6_bring_25 : Cond.fieldLink RX6 25 "BreakSwaps" "best" "LBreakSwaps$Best;" ∈ wsX6_bring := List.mem_of_getElem? (i := 1) rfl
theorem kX6_bring_19 : Cond.fieldLink RX6 19 "BreakSwaps" "trial" "LBreakSwaps$Yard;" ∈ wsX6_bring := List.mem_of_getElem? (i := 2) rfl
theorem kX6_bring_10 : Cond.fieldLink RX6 10 "BreakSwaps" "live" "LBreakSwaps$Yard;" ∈ wsX6_bring := List.mem_of_getElem? (i := 3) rfl
theorem cX6_bring_X6 : ∀ w ∈ wsX60, w ∈ wsX6_bring := fun _ h => List.mem_cons_of_mem _ (List.mem_append_left _ (List.mem_append_left _ (List.mem_append_right _ h)))
theorem hyX6_bring : hyV yX6_bring RX6 2 := by decide +kernel
set_option maxHeartbeats 4000000 in
set_option maxRecDepth 100000 in
theorem c_X6_bring (l : Launch) (D : va_G) (a : Nat → Nat) (Z K R : YS) (C : Int → Int64) (YT : YS) (J : Nat → Int) (hT : TI (Z, K, R, C)) (c n : Int) (hc : -2147483648 ≤ c ∧ c < 2147483648) (hn : -2147483648 ≤ n ∧ n < 2147483648) : Con l yX6_bring wsX6_bring 6 D (bw D a Z K R C YT J) [.ref (a 0), .int (iI c), .int (iI n)] (some (.int (iI ((s_bring (Z, K, R, C) c n).1)))) (fun ww => ∃ Y2 J2, ww = bwT D a (s_bring (Z, K, R, C) c n).2 Y2 J2) := by
  refine con_start (own := RX6) (by decide) rfl rfl (Nat.le_of_ble_eq_true rfl) ?_
  intro G hG hE hl hD
  subst hl
  subst hD
  have hI : Inv Z := hT.1.1
  have hH : Hol Z := hT.1.2.1
  have hN := hI.1
  have hr0 := hI.2.1
  have hu5 := hI.2.2.1
  have hrd : Z 5 0 ≤ 99999 := hT.1.2.2
  have L : ((0 ≤ c ∧ c < Z 5 2) ∧ 0 ≤ n ∧ n ≤ 40) → ∀ i : Nat, i ≤ 10 → ∀ (YT1 : YS) (J1 : Nat → Int), J1 9 = bestN (bringF Z c n) (fun _ => true)  i → (0 ≤ J1 9 → J1 10 = bringF Z c n (J1 9)) → V G 0 0 (bw (g_D G) a (Z) (K) (R) (C) (YT1) (J1)) 33 [(0, .ref (a 0)), (1, .int (iI c)), (2, .int (iI n)), (3, .int (iI (i : Int)))] [] := by
    intro hoc
    have e0 : s_bring (Z, K, R, C) c n = orFin (Z, K, R, C) 3 (bestN (bringF Z c n) (fun _ => true)  10) := by
      rw [orFin_pos (by have := best_pos (bringF Z c n) 10 (by omega); omega)]
      exact if_pos (by (try dsimp only); omega)
    refine down (fun i hi ih YT1 J1 hx hm => ?_)
    have hr := bestN_rng (bringF Z c n) (fun _ => true) i
    have hgo := fun (o : Int) (ho : 0 ≤ o ∧ o < 10) => goZ_ok (Inv_give hI (c := c) (t := o) (by omega)) n.toNat
    have hg2 : ∀ o : Int, 0 ≤ o ∧ o < 10 → -20 ≤ bringF Z c n o ∧ bringF Z c n o ≤ 28 := fun o ho => glad_rng (hgo o ho).1 (by omega)
    have JJ : i < 10 → ∀ (YT3 : YS) (J3 : Nat → Int), J3 9 = bestN (bringF Z c n) (fun _ => true)  (i + 1) → (0 ≤ J3 9 → J3 10 = bringF Z c n (J3 9)) → V G 0 0 (bw (g_D G) a (Z) (K) (R) (C) (YT3) (J3)) 83 [(0, .ref (a 0)), (1, .int (iI c)), (2, .int (iI n)), (3, .int (iI (i : Int)))] [] := by
      intro hiN YT3 J3 e1 e2
      refine r_iinc hG dX6_bring_83 rfl (by decide) rfl ?_
      refine r_goto (tgt := 33) hG dX6_bring_86 (by decide) ?_
      exact V_lv (ih hiN YT3 J3 e1 e2) ⟨rfl, rfl, rfl, rfl, trivial⟩
    
    refine r_iload_n (i := 3) hG dX6_bring_33 rfl rfl ?_
    refine r_bipush hG dX6_bring_34 rfl ?_
    refine r_icmp_ge (tgt := 89) hG (by omega) (by omega) dX6_bring_36 (by decide) (fun c36 => ?_) (fun c36 => ?_)
    · refine r_aload_n (i := 0) hG dX6_bring_89 rfl rfl ?_
      refine r_callVi hG (c_X6_bestOrNone (g_l G) (g_D G) a Z K R C YT1 J1 (by omega))  gX6_bring_X6_bestOrNone rfl hyX6_bestOrNone rfl (by decide) (by decide) 0 rfl rfl rfl (Nat.le_of_ble_eq_true rfl) ⟨Nat.zero_le _, Nat.zero_le _⟩ dX6_bring_90 (fun w hw => ?_)
      subst hw
      have ei : i = 10 := by omega
      subst ei
      by_cases hb : J1 9 < 0
      · exact r_iret hG hE dX6_bring_93 (by rw [e0, ← hx, orFin_neg hb, if_pos hb]; rfl) ⟨YT1, J1, by rw [e0, ← hx, orFin_neg hb, if_pos hb]; rfl⟩
      · exact r_iret hG hE dX6_bring_93 (by rw [e0, ← hx, orFin_pos hb, if_neg hb]) ⟨YT1, J1, by rw [e0, ← hx, orFin_pos hb, if_neg hb]; rfl⟩
    · refine r_aload_n (i := 0) hG dX6_bring_39 rfl rfl ?_
      refine r_get hG cX6_bring_X6 0 2 rfl rfl (by decide) kX6_bring_19 rfl dX6_bring_40 ?_
      refine r_aload_n (i := 0) hG dX6_bring_43 rfl rfl ?_
      refine r_get hG cX6_bring_X6 0 0 rfl rfl (by decide) kX6_bring_10 rfl dX6_bring_44 ?_
      refine r_becT hG gX6_bring_X4_become (by decide) (Nat.le_of_ble_eq_true rfl) ⟨Nat.zero_le _, Nat.zero_le _⟩ dX6_bring_47 ?_
      refine r_aload_n (i := 0) hG dX6_bring_50 rfl rfl ?_
      refine r_get hG cX6_bring_X6 0 2 rfl rfl (by decide) kX6_bring_19 rfl dX6_bring_51 ?_
      refine r_iload_n (i := 1) hG dX6_bring_54 rfl rfl ?_
      refine r_iload_n (i := 3) hG dX6_bring_55 rfl rfl ?_
      refine r_midv hG (c_X4_give (g_l G) (g_D G) (fun i => a (18 + i)) (Z) ((jn J1 8 0) 6) ((jn J1 8 0) 7) ((jn J1 8 0) 8) hI _ _ (by omega) (by omega)) (bobj (g_D G) a (R) ++ (yw (g_D G) (fun i => a (2 + i)) (Z) ((jn J1 8 0) 0) ((jn J1 8 0) 1) ((jn J1 8 0) 2) ++ yw (g_D G) (fun i => a (10 + i)) (K) ((jn J1 8 0) 3) ((jn J1 8 0) 4) ((jn J1 8 0) 5))) (bestw (a 26) ((jn J1 8 0) 9) ((jn J1 8 0) 10) ++ (btxt (g_D G) a (R) (jn J1 8 0) ++ bshs (g_D G) a (R) (C))) rfl gX6_bring_X4_give rfl hyX4_give rfl (by decide) (by decide) 0 rfl rfl rfl (Nat.le_of_ble_eq_true rfl) ⟨Nat.zero_le _, Nat.zero_le _⟩ dX6_bring_56 ?_
      intro w hw
      subst hw
      refine V_ws (ws' := bw (g_D G) a (Z) (K) (R) (C) (giveY Z c i) (jn J1 8 0)) rfl ?_
      refine r_aload_n (i := 0) hG dX6_bring_59 rfl rfl ?_
      refine r_get hG cX6_bring_X6 0 2 rfl rfl (by decide) kX6_bring_19 rfl dX6_bring_60 ?_
      refine r_iload_n (i := 2) hG dX6_bring_63 rfl rfl ?_
      refine r_midv hG (c_X4_goOn (g_l G) (g_D G) (fun i => a (18 + i)) (giveY Z c i) ((jn J1 8 0) 6) ((jn J1 8 0) 7) ((jn J1 8 0) 8) (Inv_give hI (by omega)) (Hol_give hI hH (by omega) (by omega)) _ (by omega) (by show Z 5 0 + n < 2000000000; omega)) (bobj (g_D G) a (R) ++ (yw (g_D G) (fun i => a (2 + i)) (Z) ((jn J1 8 0) 0) ((jn J1 8 0) 1) ((jn J1 8 0) 2) ++ yw (g_D G) (fun i => a (10 + i)) (K) ((jn J1 8 0) 3) ((jn J1 8 0) 4) ((jn J1 8 0) 5))) (bestw (a 26) ((jn J1 8 0) 9) ((jn J1 8 0) 10) ++ (btxt (g_D G) a (R) (jn J1 8 0) ++ bshs (g_D G) a (R) (C))) rfl gX6_bring_X4_goOn rfl hyX4_goOn rfl (by decide) (by decide) 0 rfl rfl rfl (Nat.le_of_ble_eq_true rfl) ⟨Nat.zero_le _, Nat.zero_le _⟩ dX6_bring_64 ?_
      rintro w ⟨x2, z2, q2, rfl⟩
      obtain ⟨J2, hJ2⟩ : ∃ J2 : Nat → Int, J2 = jn (jn (jn (jn J1 8 0) 6 x2) 7 z2) 8 q2 := ⟨_, rfl⟩
      have h9 : J2 9 = J1 9 := by rw [hJ2]; rfl
      have h10 : J2 10 = J1 10 := by rw [hJ2]; rfl
      refine V_ws (ws' := bw (g_D G) a (Z) (K) (R) (C) (goZ (giveY Z c i) n.toNat) (J2)) (by rw [hJ2]; rfl) ?_
      refine r_aload_n (i := 0) hG dX6_bring_67 rfl rfl ?_
      refine r_get hG cX6_bring_X6 0 3 rfl rfl (by decide) kX6_bring_25 rfl dX6_bring_68 ?_
      refine r_iload_n (i := 3) hG dX6_bring_71 rfl rfl ?_
      refine r_aload_n (i := 0) hG dX6_bring_72 rfl rfl ?_
      refine r_get hG cX6_bring_X6 0 2 rfl rfl (by decide) kX6_bring_19 rfl dX6_bring_73 ?_
      refine r_iload_n (i := 1) hG dX6_bring_76 rfl rfl ?_
      refine r_midi hG (c_X4_gladOf (g_l G) (g_D G) (fun i => a (18 + i)) (goZ (giveY Z c i) n.toNat) ((J2) 6) ((J2) 7) ((J2) 8) (hgo i (by omega)).1 ((hgo i (by omega)).2.2.2.2.2.2 (Hol_give hI hH (by omega) (by omega))) _ (by omega)) (bobj (g_D G) a (R) ++ (yw (g_D G) (fun i => a (2 + i)) (Z) ((J2) 0) ((J2) 1) ((J2) 2) ++ yw (g_D G) (fun i => a (10 + i)) (K) ((J2) 3) ((J2) 4) ((J2) 5))) (bestw (a 26) ((J2) 9) ((J2) 10) ++ (btxt (g_D G) a (R) (J2) ++ bshs (g_D G) a (R) (C))) rfl gX6_bring_X4_gladOf rfl hyX4_gladOf rfl (by decide) (by decide) 0 rfl rfl rfl (Nat.le_of_ble_eq_true rfl) ⟨Nat.zero_le _, Nat.zero_le _⟩ dX6_bring_77 ?_
      intro w hw
      subst hw
      refine V_ws (ws' := bw (g_D G) a (Z) (K) (R) (C) (goZ (giveY Z c i) n.toNat) (J2)) rfl ?_
      refine r_midv hG (c_X0_offer (g_l G) (g_D G) (a 26) ((J2) 9) ((J2) 10) i (bringF Z c n i) (by omega) (fun h => by have := hm (by omega); have := hg2 (J1 9) (by omega); omega) (by have := hg2 i (by omega); omega)) (bobj (g_D G) a (R) ++ (yw (g_D G) (fun i => a (2 + i)) (Z) ((J2) 0) ((J2) 1) ((J2) 2) ++ (yw (g_D G) (fun i => a (10 + i)) (K) ((J2) 3) ((J2) 4) ((J2) 5) ++ yw (g_D G) (fun i => a (18 + i)) (goZ (giveY Z c i) n.toNat) ((J2) 6) ((J2) 7) ((J2) 8)))) (btxt (g_D G) a (R) (J2) ++ bshs (g_D G) a (R) (C)) rfl gX6_bring_X0_offer rfl hyX0_offer rfl (by decide) (by decide) 0 rfl rfl rfl (Nat.le_of_ble_eq_true rfl) ⟨Nat.zero_le _, Nat.zero_le _⟩ dX6_bring_80 ?_
      intro w hw
      by_cases hcmp : (J2) 9 < 0 ∨ (J2) 10 < bringF Z c n i
      · rw [if_pos hcmp] at hw
        subst hw
        refine V_ws (ws' := bw (g_D G) a (Z) (K) (R) (C) (goZ (giveY Z c i) n.toNat) (jn (jn (J2) 9 i) 10 (bringF Z c n i))) rfl ?_
        exact V_lv (JJ (by omega) _ _ (best_take (f := bringF Z c n) (ok := fun _ => true) rfl (by rw [← hx]; exact (Int.lt_or_le (J1 9) 0).imp id (fun h0 => by have := hm h0; omega))) (fun _ => rfl)) ⟨rfl, rfl, rfl, rfl, trivial⟩
      · rw [if_neg hcmp] at hw
        subst hw
        refine V_ws (ws' := bw (g_D G) a (Z) (K) (R) (C) (goZ (giveY Z c i) n.toNat) (J2)) rfl ?_
        exact V_lv (JJ (by omega) _ _ (by rw [h9, hx]; exact best_keep (f := bringF Z c n) (ok := fun _ => true) (fun h => by rw [← hx] at h; have := hm (by omega); omega)) (fun h => by rw [h9, h10]; exact hm (by omega))) ⟨rfl, rfl, rfl, rfl, trivial⟩
  refine r_aload_n (i := 0) hG dX6_bring_0 rfl rfl ?_
  refine r_iload_n (i := 1) hG dX6_bring_1 rfl rfl ?_
  refine r_callVi hG (c_X6_isThere (g_l G) (g_D G) a Z K R C YT J hI _ (by omega))  gX6_bring_X6_isThere rfl hyX6_isThere rfl (by decide) (by decide) 0 rfl rfl rfl (Nat.le_of_ble_eq_true rfl) ⟨Nat.zero_le _, Nat.zero_le _⟩ dX6_bring_2 (fun w hw => ?_)
  subst hw
  refine rb_if_eq (tgt := 18) hG dX6_bring_5 (by decide) (fun c5 => ?_) (fun c5 => ?_)
  · try simp only [decide_eq_true_eq, decide_eq_false_iff_not] at c5
    refine r_aload_n (i := 0) hG dX6_bring_18 rfl rfl ?_
    refine r_iconst hG dX6_bring_19 ?_
    refine r_callVi hG (c_X6_finding (g_l G) (g_D G) a (Z) (K) (R) (C) (YT) (J) 0 (by omega))  gX6_bring_X6_finding rfl hyX6_finding rfl (by decide) (by decide) 0 rfl rfl rfl (Nat.le_of_ble_eq_true rfl) ⟨Nat.zero_le _, Nat.zero_le _⟩ dX6_bring_20 (fun w hw => ?_)
    subst hw
    exact r_iret hG hE dX6_bring_23 (by unfold s_bring; (try dsimp only); (repeat (first | rw [if_pos (by omega)] | rw [if_neg (by omega)])) <;> (first | rfl | skip)) ⟨YT, J, (by unfold s_bring; (try dsimp only); (repeat (first | rw [if_pos (by omega)] | rw [if_neg (by omega)])) <;> (first | rfl | skip))⟩
  · try simp only [decide_eq_true_eq, decide_eq_false_iff_not] at c5
    refine r_iload_n (i := 2) hG dX6_bring_8 rfl rfl ?_
    refine r_iconst hG dX6_bring_9 ?_
    refine r_bipush hG dX6_bring_10 rfl ?_
    refine r_call0i hG (c_X6_isWithin (g_l G) (g_D G) _ _ _ (by omega) (by omega) (by omega))  gX6_bring_X6_isWithin rfl hyX6_isWithin rfl (by decide) (by decide) rfl (Nat.le_of_ble_eq_true rfl) ⟨Nat.zero_le _, Nat.zero_le _⟩ dX6_bring_12 ?_
    refine rb_if_ne (tgt := 24) hG dX6_bring_15 (by decide) (fun c15 => ?_) (fun c15 => ?_)
    · try simp only [decide_eq_true_eq, decide_eq_false_iff_not] at c15
      refine r_aload_n (i := 0) hG dX6_bring_24 rfl rfl ?_
      refine r_get hG cX6_bring_X6 0 3 rfl rfl (by decide) kX6_bring_25 rfl dX6_bring_25 ?_
      refine r_midv hG (c_X0_begin (g_l G) (g_D G) (a 26) ((J) 9) ((J) 10) ) (bobj (g_D G) a (R) ++ (yw (g_D G) (fun i => a (2 + i)) (Z) ((J) 0) ((J) 1) ((J) 2) ++ (yw (g_D G) (fun i => a (10 + i)) (K) ((J) 3) ((J) 4) ((J) 5) ++ yw (g_D G) (fun i => a (18 + i)) (YT) ((J) 6) ((J) 7) ((J) 8)))) (btxt (g_D G) a (R) (J) ++ bshs (g_D G) a (R) (C)) rfl gX6_bring_X0_begin rfl hyX0_begin rfl (by decide) (by decide) 0 rfl rfl rfl (Nat.le_of_ble_eq_true rfl) ⟨Nat.zero_le _, Nat.zero_le _⟩ dX6_bring_28 ?_
      intro w hw
      subst hw
      refine V_ws (ws' := bw (g_D G) a (Z) (K) (R) (C) (YT) (jn J 9 (-1))) rfl ?_
      refine r_iconst hG dX6_bring_31 ?_
      refine r_istore_n (i := 3) hG dX6_bring_32 rfl (by decide) rfl ?_
      exact V_lv (L (by omega) 0 (by omega) _ _ rfl (fun h => absurd h (by show ¬ (0 : Int) ≤ -1; omega))) ⟨rfl, rfl, rfl, rfl, trivial⟩
    · try simp only [decide_eq_true_eq, decide_eq_false_iff_not] at c15
      refine r_aload_n (i := 0) hG dX6_bring_18 rfl rfl ?_
      refine r_iconst hG dX6_bring_19 ?_
      refine r_callVi hG (c_X6_finding (g_l G) (g_D G) a (Z) (K) (R) (C) (YT) (J) 0 (by omega))  gX6_bring_X6_finding rfl hyX6_finding rfl (by decide) (by decide) 0 rfl rfl rfl (Nat.le_of_ble_eq_true rfl) ⟨Nat.zero_le _, Nat.zero_le _⟩ dX6_bring_20 (fun w hw => ?_)
      subst hw
      exact r_iret hG hE dX6_bring_23 (by unfold s_bring; (try dsimp only); (repeat (first | rw [if_pos (by omega)] | rw [if_neg (by omega)])) <;> (first | rfl | skip)) ⟨YT, J, (by unfold s_bring; (try dsimp only); (repeat (first | rw [if_pos (by omega)] | rw [if_neg (by omega)])) <;> (first | rfl | skip))⟩
theorem kX6_kind_25 : Cond.fieldLink RX6 25 "BreakSwaps" "best" "LBreakSwaps$Best;" ∈ wsX6_kind := List.mem_of_getElem? (i := 1) rfl
theorem kX6_kind_19 : Cond.fieldLink RX6 19 "BreakSwaps" "trial" "LBreakSwaps$Yard;" ∈ wsX6_kind := List.mem_of_getElem? (i := 2) rfl
theorem kX6_kind_10 : Cond.fieldLink RX6 10 "BreakSwaps" "live" "LBreakSwaps$Yard;" ∈ wsX6_kind := List.mem_of_getElem? (i := 3) rfl
theorem kX6_kind_107 : Cond.fieldLink RX6 107 "BreakSwaps$Yard" "kinds" "[I" ∈ wsX6_kind := List.mem_of_getElem? (i := 4) rfl
theorem kX6_kind_110 : Cond.fieldLink RX6 110 "BreakSwaps$Yard" "has" "[I" ∈ wsX6_kind := List.mem_of_getElem? (i := 5) rfl
theorem cX6_kind_X4 : ∀ w ∈ wsX40, w ∈ wsX6_kind := fun _ h => List.mem_cons_of_mem _ (List.mem_append_left _ (List.mem_append_right _ h))
theorem cX6_kind_X6 : ∀ w ∈ wsX60, w ∈ wsX6_kind := fun _ h => List.mem_cons_of_mem _ (List.mem_append_left _ (List.mem_append_left _ (List.mem_append_right _ h)))
theorem hyX6_kind : hyV yX6_kind RX6 2 := by decide +kernel
set_option maxHeartbeats 4000000 in
set_option maxRecDepth 100000 in
theorem c_X6_kind (l : Launch) (D : va_G) (a : Nat → Nat) (Z K R : YS) (C : Int → Int64) (YT : YS) (J : Nat → Int) (hT : TI (Z, K, R, C)) (c n : Int) (hc : -2147483648 ≤ c ∧ c < 2147483648) (hn : -2147483648 ≤ n ∧ n < 2147483648) : Con l yX6_kind wsX6_kind 6 D (bw D a Z K R C YT J) [.ref (a 0), .int (iI c), .int (iI n)] (some (.int (iI ((s_kind (Z, K, R, C) c n).1)))) (fun ww => ∃ Y2 J2, ww = bwT D a (s_kind (Z, K, R, C) c n).2 Y2 J2) := by
  refine con_start (own := RX6) (by decide) rfl rfl (Nat.le_of_ble_eq_true rfl) ?_
  intro G hG hE hl hD
  subst hl
  subst hD
  have hI : Inv Z := hT.1.1
  have hH : Hol Z := hT.1.2.1
  have hN := hI.1
  have hr0 := hI.2.1
  have hu5 := hI.2.2.1
  have hrd : Z 5 0 ≤ 99999 := hT.1.2.2
  have L : ((0 ≤ c ∧ c < Z 5 2) ∧ 0 ≤ n ∧ n ≤ 40) → ∀ i : Nat, i ≤ 6 → ∀ (YT1 : YS) (J1 : Nat → Int), J1 9 = bestN (kindF Z c n) (fun _ => true)  i → (0 ≤ J1 9 → J1 10 = kindF Z c n (J1 9)) → V G 0 0 (bw (g_D G) a (Z) (K) (R) (C) (YT1) (J1)) 33 [(0, .ref (a 0)), (1, .int (iI c)), (2, .int (iI n)), (3, .int (iI (i : Int)))] [] := by
    intro hoc
    have e0 : s_kind (Z, K, R, C) c n = orFin (Z, K, R, C) 3 (bestN (kindF Z c n) (fun _ => true)  6) := by
      rw [orFin_pos (by have := best_pos (kindF Z c n) 6 (by omega); omega)]
      exact if_pos (by (try dsimp only); omega)
    refine down (fun i hi ih YT1 J1 hx hm => ?_)
    have hr := bestN_rng (kindF Z c n) (fun _ => true) i
    have hgo := fun (o : Int) (ho : 0 ≤ o ∧ o < 6) => goZ_ok (Inv_up0 hI (i := c) (v := o) (by omega)) n.toNat
    have hg2 : ∀ o : Int, 0 ≤ o ∧ o < 6 → 0 ≤ kindF Z c n o ∧ kindF Z c n o ≤ 20 := fun o ho => (hgo o ho).1.2.2.2.2 _ (by have := Inv_c (hgo o ho).1 (c := c) (by omega); omega) (by have := Inv_c (hgo o ho).1 (c := c) (by omega); omega)
    have JJ : i < 6 → ∀ (YT3 : YS) (J3 : Nat → Int), J3 9 = bestN (kindF Z c n) (fun _ => true)  (i + 1) → (0 ≤ J3 9 → J3 10 = kindF Z c n (J3 9)) → V G 0 0 (bw (g_D G) a (Z) (K) (R) (C) (YT3) (J3)) 93 [(0, .ref (a 0)), (1, .int (iI c)), (2, .int (iI n)), (3, .int (iI (i : Int)))] [] := by
      intro hiN YT3 J3 e1 e2
      refine r_iinc hG dX6_kind_93 rfl (by decide) rfl ?_
      refine r_goto (tgt := 33) hG dX6_kind_96 (by decide) ?_
      exact V_lv (ih hiN YT3 J3 e1 e2) ⟨rfl, rfl, rfl, rfl, trivial⟩
    
    refine r_iload_n (i := 3) hG dX6_kind_33 rfl rfl ?_
    refine r_bipush hG dX6_kind_34 rfl ?_
    refine r_icmp_ge (tgt := 99) hG (by omega) (by omega) dX6_kind_36 (by decide) (fun c36 => ?_) (fun c36 => ?_)
    · refine r_aload_n (i := 0) hG dX6_kind_99 rfl rfl ?_
      refine r_callVi hG (c_X6_bestOrNone (g_l G) (g_D G) a Z K R C YT1 J1 (by omega))  gX6_kind_X6_bestOrNone rfl hyX6_bestOrNone rfl (by decide) (by decide) 0 rfl rfl rfl (Nat.le_of_ble_eq_true rfl) ⟨Nat.zero_le _, Nat.zero_le _⟩ dX6_kind_100 (fun w hw => ?_)
      subst hw
      have ei : i = 6 := by omega
      subst ei
      by_cases hb : J1 9 < 0
      · exact r_iret hG hE dX6_kind_103 (by rw [e0, ← hx, orFin_neg hb, if_pos hb]; rfl) ⟨YT1, J1, by rw [e0, ← hx, orFin_neg hb, if_pos hb]; rfl⟩
      · exact r_iret hG hE dX6_kind_103 (by rw [e0, ← hx, orFin_pos hb, if_neg hb]) ⟨YT1, J1, by rw [e0, ← hx, orFin_pos hb, if_neg hb]; rfl⟩
    · refine r_aload_n (i := 0) hG dX6_kind_39 rfl rfl ?_
      refine r_get hG cX6_kind_X6 0 2 rfl rfl (by decide) kX6_kind_19 rfl dX6_kind_40 ?_
      refine r_aload_n (i := 0) hG dX6_kind_43 rfl rfl ?_
      refine r_get hG cX6_kind_X6 0 0 rfl rfl (by decide) kX6_kind_10 rfl dX6_kind_44 ?_
      refine r_becT hG gX6_kind_X4_become (by decide) (Nat.le_of_ble_eq_true rfl) ⟨Nat.zero_le _, Nat.zero_le _⟩ dX6_kind_47 ?_
      refine r_aload_n (i := 0) hG dX6_kind_50 rfl rfl ?_
      refine r_get hG cX6_kind_X6 0 2 rfl rfl (by decide) kX6_kind_19 rfl dX6_kind_51 ?_
      refine r_get hG cX6_kind_X4 18 3 rfl rfl (by decide) kX6_kind_107 rfl dX6_kind_54 ?_
      refine r_iload_n (i := 1) hG dX6_kind_57 rfl rfl ?_
      refine r_iload_n (i := 3) hG dX6_kind_58 rfl rfl ?_
      refine r_iast hG 19 rfl (by omega) (by decide) dX6_kind_59 rfl ?_
      refine r_aload_n (i := 0) hG dX6_kind_60 rfl rfl ?_
      refine r_get hG cX6_kind_X6 0 2 rfl rfl (by decide) kX6_kind_19 rfl dX6_kind_61 ?_
      refine r_iload_n (i := 2) hG dX6_kind_64 rfl rfl ?_
      refine r_midv hG (c_X4_goOn (g_l G) (g_D G) (fun i => a (18 + i)) (upY Z 0 c i) ((jn J1 8 0) 6) ((jn J1 8 0) 7) ((jn J1 8 0) 8) (Inv_up0 hI (by omega)) (hH) _ (by omega) (by show Z 5 0 + n < 2000000000; omega)) (bobj (g_D G) a (R) ++ (yw (g_D G) (fun i => a (2 + i)) (Z) ((jn J1 8 0) 0) ((jn J1 8 0) 1) ((jn J1 8 0) 2) ++ yw (g_D G) (fun i => a (10 + i)) (K) ((jn J1 8 0) 3) ((jn J1 8 0) 4) ((jn J1 8 0) 5))) (bestw (a 26) ((jn J1 8 0) 9) ((jn J1 8 0) 10) ++ (btxt (g_D G) a (R) (jn J1 8 0) ++ bshs (g_D G) a (R) (C))) rfl gX6_kind_X4_goOn rfl hyX4_goOn rfl (by decide) (by decide) 0 rfl rfl rfl (Nat.le_of_ble_eq_true rfl) ⟨Nat.zero_le _, Nat.zero_le _⟩ dX6_kind_65 ?_
      rintro w ⟨x2, z2, q2, rfl⟩
      obtain ⟨J2, hJ2⟩ : ∃ J2 : Nat → Int, J2 = jn (jn (jn (jn J1 8 0) 6 x2) 7 z2) 8 q2 := ⟨_, rfl⟩
      have h9 : J2 9 = J1 9 := by rw [hJ2]; rfl
      have h10 : J2 10 = J1 10 := by rw [hJ2]; rfl
      refine V_ws (ws' := bw (g_D G) a (Z) (K) (R) (C) (goZ (upY Z 0 c i) n.toNat) (J2)) (by rw [hJ2]; rfl) ?_
      refine r_aload_n (i := 0) hG dX6_kind_68 rfl rfl ?_
      refine r_get hG cX6_kind_X6 0 3 rfl rfl (by decide) kX6_kind_25 rfl dX6_kind_69 ?_
      refine r_iload_n (i := 3) hG dX6_kind_72 rfl rfl ?_
      refine r_aload_n (i := 0) hG dX6_kind_73 rfl rfl ?_
      refine r_get hG cX6_kind_X6 0 2 rfl rfl (by decide) kX6_kind_19 rfl dX6_kind_74 ?_
      refine r_iload_n (i := 1) hG dX6_kind_77 rfl rfl ?_
      refine r_aload_n (i := 0) hG dX6_kind_78 rfl rfl ?_
      refine r_get hG cX6_kind_X6 0 2 rfl rfl (by decide) kX6_kind_19 rfl dX6_kind_79 ?_
      refine r_get hG cX6_kind_X4 18 4 rfl rfl (by decide) kX6_kind_110 rfl dX6_kind_82 ?_
      refine r_iload_n (i := 1) hG dX6_kind_85 rfl rfl ?_
      refine r_iald hG 20 rfl (by omega) (by decide) dX6_kind_86 ?_
      refine r_midi hG (c_X4_likedBy (g_l G) (g_D G) (fun i => a (18 + i)) (goZ (upY Z 0 c i) n.toNat) ((J2) 6) ((J2) 7) ((J2) 8) _ _ (by omega) (by have := Inv_c (hgo i (by omega)).1 (c := c) (by omega); omega)) (bobj (g_D G) a (R) ++ (yw (g_D G) (fun i => a (2 + i)) (Z) ((J2) 0) ((J2) 1) ((J2) 2) ++ yw (g_D G) (fun i => a (10 + i)) (K) ((J2) 3) ((J2) 4) ((J2) 5))) (bestw (a 26) ((J2) 9) ((J2) 10) ++ (btxt (g_D G) a (R) (J2) ++ bshs (g_D G) a (R) (C))) rfl gX6_kind_X4_likedBy rfl hyX4_likedBy rfl (by decide) (by decide) 0 rfl rfl rfl (Nat.le_of_ble_eq_true rfl) ⟨Nat.zero_le _, Nat.zero_le _⟩ dX6_kind_87 ?_
      intro w hw
      subst hw
      refine V_ws (ws' := bw (g_D G) a (Z) (K) (R) (C) (goZ (upY Z 0 c i) n.toNat) (J2)) rfl ?_
      refine r_midv hG (c_X0_offer (g_l G) (g_D G) (a 26) ((J2) 9) ((J2) 10) i (kindF Z c n i) (by omega) (fun h => by have := hm (by omega); have := hg2 (J1 9) (by omega); omega) (by have := hg2 i (by omega); omega)) (bobj (g_D G) a (R) ++ (yw (g_D G) (fun i => a (2 + i)) (Z) ((J2) 0) ((J2) 1) ((J2) 2) ++ (yw (g_D G) (fun i => a (10 + i)) (K) ((J2) 3) ((J2) 4) ((J2) 5) ++ yw (g_D G) (fun i => a (18 + i)) (goZ (upY Z 0 c i) n.toNat) ((J2) 6) ((J2) 7) ((J2) 8)))) (btxt (g_D G) a (R) (J2) ++ bshs (g_D G) a (R) (C)) rfl gX6_kind_X0_offer rfl hyX0_offer rfl (by decide) (by decide) 0 rfl rfl rfl (Nat.le_of_ble_eq_true rfl) ⟨Nat.zero_le _, Nat.zero_le _⟩ dX6_kind_90 ?_
      intro w hw
      by_cases hcmp : (J2) 9 < 0 ∨ (J2) 10 < kindF Z c n i
      · rw [if_pos hcmp] at hw
        subst hw
        refine V_ws (ws' := bw (g_D G) a (Z) (K) (R) (C) (goZ (upY Z 0 c i) n.toNat) (jn (jn (J2) 9 i) 10 (kindF Z c n i))) rfl ?_
        exact V_lv (JJ (by omega) _ _ (best_take (f := kindF Z c n) (ok := fun _ => true) rfl (by rw [← hx]; exact (Int.lt_or_le (J1 9) 0).imp id (fun h0 => by have := hm h0; omega))) (fun _ => rfl)) ⟨rfl, rfl, rfl, rfl, trivial⟩
      · rw [if_neg hcmp] at hw
        subst hw
        refine V_ws (ws' := bw (g_D G) a (Z) (K) (R) (C) (goZ (upY Z 0 c i) n.toNat) (J2)) rfl ?_
        exact V_lv (JJ (by omega) _ _ (by rw [h9, hx]; exact best_keep (f := kindF Z c n) (ok := fun _ => true) (fun h => by rw [← hx] at h; have := hm (by omega); omega)) (fun h => by rw [h9, h10]; exact hm (by omega))) ⟨rfl, rfl, rfl, rfl, trivial⟩
  refine r_aload_n (i := 0) hG dX6_kind_0 rfl rfl ?_
  refine r_iload_n (i := 1) hG dX6_kind_1 rfl rfl ?_
  refine r_callVi hG (c_X6_isThere (g_l G) (g_D G) a Z K R C YT J hI _ (by omega))  gX6_kind_X6_isThere rfl hyX6_isThere rfl (by decide) (by decide) 0 rfl rfl rfl (Nat.le_of_ble_eq_true rfl) ⟨Nat.zero_le _, Nat.zero_le _⟩ dX6_kind_2 (fun w hw => ?_)
  subst hw
  refine rb_if_eq (tgt := 18) hG dX6_kind_5 (by decide) (fun c5 => ?_) (fun c5 => ?_)
  · try simp only [decide_eq_true_eq, decide_eq_false_iff_not] at c5
    refine r_aload_n (i := 0) hG dX6_kind_18 rfl rfl ?_
    refine r_iconst hG dX6_kind_19 ?_
    refine r_callVi hG (c_X6_finding (g_l G) (g_D G) a (Z) (K) (R) (C) (YT) (J) 0 (by omega))  gX6_kind_X6_finding rfl hyX6_finding rfl (by decide) (by decide) 0 rfl rfl rfl (Nat.le_of_ble_eq_true rfl) ⟨Nat.zero_le _, Nat.zero_le _⟩ dX6_kind_20 (fun w hw => ?_)
    subst hw
    exact r_iret hG hE dX6_kind_23 (by unfold s_kind; (try dsimp only); (repeat (first | rw [if_pos (by omega)] | rw [if_neg (by omega)])) <;> (first | rfl | skip)) ⟨YT, J, (by unfold s_kind; (try dsimp only); (repeat (first | rw [if_pos (by omega)] | rw [if_neg (by omega)])) <;> (first | rfl | skip))⟩
  · try simp only [decide_eq_true_eq, decide_eq_false_iff_not] at c5
    refine r_iload_n (i := 2) hG dX6_kind_8 rfl rfl ?_
    refine r_iconst hG dX6_kind_9 ?_
    refine r_bipush hG dX6_kind_10 rfl ?_
    refine r_call0i hG (c_X6_isWithin (g_l G) (g_D G) _ _ _ (by omega) (by omega) (by omega))  gX6_kind_X6_isWithin rfl hyX6_isWithin rfl (by decide) (by decide) rfl (Nat.le_of_ble_eq_true rfl) ⟨Nat.zero_le _, Nat.zero_le _⟩ dX6_kind_12 ?_
    refine rb_if_ne (tgt := 24) hG dX6_kind_15 (by decide) (fun c15 => ?_) (fun c15 => ?_)
    · try simp only [decide_eq_true_eq, decide_eq_false_iff_not] at c15
      refine r_aload_n (i := 0) hG dX6_kind_24 rfl rfl ?_
      refine r_get hG cX6_kind_X6 0 3 rfl rfl (by decide) kX6_kind_25 rfl dX6_kind_25 ?_
      refine r_midv hG (c_X0_begin (g_l G) (g_D G) (a 26) ((J) 9) ((J) 10) ) (bobj (g_D G) a (R) ++ (yw (g_D G) (fun i => a (2 + i)) (Z) ((J) 0) ((J) 1) ((J) 2) ++ (yw (g_D G) (fun i => a (10 + i)) (K) ((J) 3) ((J) 4) ((J) 5) ++ yw (g_D G) (fun i => a (18 + i)) (YT) ((J) 6) ((J) 7) ((J) 8)))) (btxt (g_D G) a (R) (J) ++ bshs (g_D G) a (R) (C)) rfl gX6_kind_X0_begin rfl hyX0_begin rfl (by decide) (by decide) 0 rfl rfl rfl (Nat.le_of_ble_eq_true rfl) ⟨Nat.zero_le _, Nat.zero_le _⟩ dX6_kind_28 ?_
      intro w hw
      subst hw
      refine V_ws (ws' := bw (g_D G) a (Z) (K) (R) (C) (YT) (jn J 9 (-1))) rfl ?_
      refine r_iconst hG dX6_kind_31 ?_
      refine r_istore_n (i := 3) hG dX6_kind_32 rfl (by decide) rfl ?_
      exact V_lv (L (by omega) 0 (by omega) _ _ rfl (fun h => absurd h (by show ¬ (0 : Int) ≤ -1; omega))) ⟨rfl, rfl, rfl, rfl, trivial⟩
    · try simp only [decide_eq_true_eq, decide_eq_false_iff_not] at c15
      refine r_aload_n (i := 0) hG dX6_kind_18 rfl rfl ?_
      refine r_iconst hG dX6_kind_19 ?_
      refine r_callVi hG (c_X6_finding (g_l G) (g_D G) a (Z) (K) (R) (C) (YT) (J) 0 (by omega))  gX6_kind_X6_finding rfl hyX6_finding rfl (by decide) (by decide) 0 rfl rfl rfl (Nat.le_of_ble_eq_true rfl) ⟨Nat.zero_le _, Nat.zero_le _⟩ dX6_kind_20 (fun w hw => ?_)
      subst hw
      exact r_iret hG hE dX6_kind_23 (by unfold s_kind; (try dsimp only); (repeat (first | rw [if_pos (by omega)] | rw [if_neg (by omega)])) <;> (first | rfl | skip)) ⟨YT, J, (by unfold s_kind; (try dsimp only); (repeat (first | rw [if_pos (by omega)] | rw [if_neg (by omega)])) <;> (first | rfl | skip))⟩
theorem kX6_away_25 : Cond.fieldLink RX6 25 "BreakSwaps" "best" "LBreakSwaps$Best;" ∈ wsX6_away := List.mem_of_getElem? (i := 1) rfl
theorem kX6_away_10 : Cond.fieldLink RX6 10 "BreakSwaps" "live" "LBreakSwaps$Yard;" ∈ wsX6_away := List.mem_of_getElem? (i := 2) rfl
theorem kX6_away_158 : Cond.fieldLink RX6 158 "BreakSwaps$Yard" "size" "I" ∈ wsX6_away := List.mem_of_getElem? (i := 3) rfl
theorem kX6_away_19 : Cond.fieldLink RX6 19 "BreakSwaps" "trial" "LBreakSwaps$Yard;" ∈ wsX6_away := List.mem_of_getElem? (i := 4) rfl
theorem kX6_away_116 : Cond.fieldLink RX6 116 "BreakSwaps$Yard" "trusts" "[I" ∈ wsX6_away := List.mem_of_getElem? (i := 5) rfl
theorem cX6_away_X4 : ∀ w ∈ wsX40, w ∈ wsX6_away := fun _ h => List.mem_cons_of_mem _ (List.mem_append_left _ (List.mem_append_right _ h))
theorem cX6_away_X6 : ∀ w ∈ wsX60, w ∈ wsX6_away := fun _ h => List.mem_cons_of_mem _ (List.mem_append_left _ (List.mem_append_left _ (List.mem_append_right _ h)))
theorem hyX6_away : hyV yX6_away RX6 1 := by decide +kernel
set_option maxHeartbeats 4000000 in
set_option maxRecDepth 100000 in
theorem c_X6_away (l : Launch) (D : va_G) (a : Nat → Nat) (Z K R : YS) (C : Int → Int64) (YT : YS) (J : Nat → Int) (hT : TI (Z, K, R, C)) (n : Int) (hn : -2147483648 ≤ n ∧ n < 2147483648) : Con l yX6_away wsX6_away 6 D (bw D a Z K R C YT J) [.ref (a 0), .int (iI n)] (some (.int (iI ((s_away (Z, K, R, C) n).1)))) (fun ww => ∃ Y2 J2, ww = bwT D a (s_away (Z, K, R, C) n).2 Y2 J2) := by
  refine con_start (own := RX6) (by decide) rfl rfl (Nat.le_of_ble_eq_true rfl) ?_
  intro G hG hE hl hD
  subst hl
  subst hD
  have hI : Inv Z := hT.1.1
  have hH : Hol Z := hT.1.2.1
  have hN := hI.1
  have hr0 := hI.2.1
  have hu5 := hI.2.2.1
  have hrd : Z 5 0 ≤ 99999 := hT.1.2.2
  have L : (0 ≤ n ∧ n ≤ 40) → ∀ i : Nat, i ≤ (Z 5 2).toNat → ∀ (YT1 : YS) (J1 : Nat → Int), J1 9 = bestN (awayF Z n) (fun _ => true)  i → (0 ≤ J1 9 → J1 10 = awayF Z n (J1 9)) → V G 0 0 (bw (g_D G) a (Z) (K) (R) (C) (YT1) (J1)) 25 [(0, .ref (a 0)), (1, .int (iI n)), (2, .int (iI (i : Int)))] [] := by
    intro hoc
    have e0 : s_away (Z, K, R, C) n = orFin (Z, K, R, C) 3 (bestN (awayF Z n) (fun _ => true)  (Z 5 2).toNat) := if_pos (by (try dsimp only); omega)
    refine down (fun i hi ih YT1 J1 hx hm => ?_)
    have hr := bestN_rng (awayF Z n) (fun _ => true) i
    have hgo := fun (o : Int) (ho : 0 ≤ o ∧ o < 8) => goZ_ok (Inv_up3 hI (i := o) (v := 0) (by omega)) n.toNat
    have hg2 : ∀ o : Int, 0 ≤ o ∧ o < 8 → -200 ≤ awayF Z n o ∧ awayF Z n o ≤ 300 := fun o ho => glads_rng (hgo o ho).1 (by omega)
    have JJ : i < (Z 5 2).toNat → ∀ (YT3 : YS) (J3 : Nat → Int), J3 9 = bestN (awayF Z n) (fun _ => true)  (i + 1) → (0 ≤ J3 9 → J3 10 = awayF Z n (J3 9)) → V G 0 0 (bw (g_D G) a (Z) (K) (R) (C) (YT3) (J3)) 80 [(0, .ref (a 0)), (1, .int (iI n)), (2, .int (iI (i : Int)))] [] := by
      intro hiN YT3 J3 e1 e2
      refine r_iinc hG dX6_away_80 rfl (by decide) rfl ?_
      refine r_goto (tgt := 25) hG dX6_away_83 (by decide) ?_
      exact V_lv (ih hiN YT3 J3 e1 e2) ⟨rfl, rfl, rfl, trivial⟩
    
    refine r_iload_n (i := 2) hG dX6_away_25 rfl rfl ?_
    refine r_aload_n (i := 0) hG dX6_away_26 rfl rfl ?_
    refine r_get hG cX6_away_X6 0 0 rfl rfl (by decide) kX6_away_10 rfl dX6_away_27 ?_
    refine r_get hG cX6_away_X4 2 2 rfl rfl (by decide) kX6_away_158 rfl dX6_away_30 ?_
    refine r_icmp_ge (tgt := 86) hG (by omega) (by omega) dX6_away_33 (by decide) (fun c33 => ?_) (fun c33 => ?_)
    · refine r_aload_n (i := 0) hG dX6_away_86 rfl rfl ?_
      refine r_callVi hG (c_X6_bestOrNone (g_l G) (g_D G) a Z K R C YT1 J1 (by omega))  gX6_away_X6_bestOrNone rfl hyX6_bestOrNone rfl (by decide) (by decide) 0 rfl rfl rfl (Nat.le_of_ble_eq_true rfl) ⟨Nat.zero_le _, Nat.zero_le _⟩ dX6_away_87 (fun w hw => ?_)
      subst hw
      have ei : i = (Z 5 2).toNat := by omega
      subst ei
      by_cases hb : J1 9 < 0
      · exact r_iret hG hE dX6_away_90 (by rw [e0, ← hx, orFin_neg hb, if_pos hb]; rfl) ⟨YT1, J1, by rw [e0, ← hx, orFin_neg hb, if_pos hb]; rfl⟩
      · exact r_iret hG hE dX6_away_90 (by rw [e0, ← hx, orFin_pos hb, if_neg hb]) ⟨YT1, J1, by rw [e0, ← hx, orFin_pos hb, if_neg hb]; rfl⟩
    · refine r_aload_n (i := 0) hG dX6_away_36 rfl rfl ?_
      refine r_get hG cX6_away_X6 0 2 rfl rfl (by decide) kX6_away_19 rfl dX6_away_37 ?_
      refine r_aload_n (i := 0) hG dX6_away_40 rfl rfl ?_
      refine r_get hG cX6_away_X6 0 0 rfl rfl (by decide) kX6_away_10 rfl dX6_away_41 ?_
      refine r_becT hG gX6_away_X4_become (by decide) (Nat.le_of_ble_eq_true rfl) ⟨Nat.zero_le _, Nat.zero_le _⟩ dX6_away_44 ?_
      refine r_aload_n (i := 0) hG dX6_away_47 rfl rfl ?_
      refine r_get hG cX6_away_X6 0 2 rfl rfl (by decide) kX6_away_19 rfl dX6_away_48 ?_
      refine r_get hG cX6_away_X4 18 6 rfl rfl (by decide) kX6_away_116 rfl dX6_away_51 ?_
      refine r_iload_n (i := 2) hG dX6_away_54 rfl rfl ?_
      refine r_iconst hG dX6_away_55 ?_
      refine r_iast hG 22 rfl (by omega) (by decide) dX6_away_56 rfl ?_
      refine r_aload_n (i := 0) hG dX6_away_57 rfl rfl ?_
      refine r_get hG cX6_away_X6 0 2 rfl rfl (by decide) kX6_away_19 rfl dX6_away_58 ?_
      refine r_iload_n (i := 1) hG dX6_away_61 rfl rfl ?_
      refine r_midv hG (c_X4_goOn (g_l G) (g_D G) (fun i => a (18 + i)) (upY Z 3 i 0) ((jn J1 8 0) 6) ((jn J1 8 0) 7) ((jn J1 8 0) 8) (Inv_up3 hI (by omega)) (hH) _ (by omega) (by show Z 5 0 + n < 2000000000; omega)) (bobj (g_D G) a (R) ++ (yw (g_D G) (fun i => a (2 + i)) (Z) ((jn J1 8 0) 0) ((jn J1 8 0) 1) ((jn J1 8 0) 2) ++ yw (g_D G) (fun i => a (10 + i)) (K) ((jn J1 8 0) 3) ((jn J1 8 0) 4) ((jn J1 8 0) 5))) (bestw (a 26) ((jn J1 8 0) 9) ((jn J1 8 0) 10) ++ (btxt (g_D G) a (R) (jn J1 8 0) ++ bshs (g_D G) a (R) (C))) rfl gX6_away_X4_goOn rfl hyX4_goOn rfl (by decide) (by decide) 0 rfl rfl rfl (Nat.le_of_ble_eq_true rfl) ⟨Nat.zero_le _, Nat.zero_le _⟩ dX6_away_62 ?_
      rintro w ⟨x2, z2, q2, rfl⟩
      obtain ⟨J2, hJ2⟩ : ∃ J2 : Nat → Int, J2 = jn (jn (jn (jn J1 8 0) 6 x2) 7 z2) 8 q2 := ⟨_, rfl⟩
      have h9 : J2 9 = J1 9 := by rw [hJ2]; rfl
      have h10 : J2 10 = J1 10 := by rw [hJ2]; rfl
      refine V_ws (ws' := bw (g_D G) a (Z) (K) (R) (C) (goZ (upY Z 3 i 0) n.toNat) (J2)) (by rw [hJ2]; rfl) ?_
      refine r_aload_n (i := 0) hG dX6_away_65 rfl rfl ?_
      refine r_get hG cX6_away_X6 0 3 rfl rfl (by decide) kX6_away_25 rfl dX6_away_66 ?_
      refine r_iload_n (i := 2) hG dX6_away_69 rfl rfl ?_
      refine r_aload_n (i := 0) hG dX6_away_70 rfl rfl ?_
      refine r_get hG cX6_away_X6 0 2 rfl rfl (by decide) kX6_away_19 rfl dX6_away_71 ?_
      refine r_midi hG (c_X4_gladOfAll (g_l G) (g_D G) (fun i => a (18 + i)) (goZ (upY Z 3 i 0) n.toNat) ((J2) 6) ((J2) 7) ((J2) 8) (hgo i (by omega)).1 ((hgo i (by omega)).2.2.2.2.2.2 hH)) (bobj (g_D G) a (R) ++ (yw (g_D G) (fun i => a (2 + i)) (Z) ((J2) 0) ((J2) 1) ((J2) 2) ++ yw (g_D G) (fun i => a (10 + i)) (K) ((J2) 3) ((J2) 4) ((J2) 5))) (bestw (a 26) ((J2) 9) ((J2) 10) ++ (btxt (g_D G) a (R) (J2) ++ bshs (g_D G) a (R) (C))) rfl gX6_away_X4_gladOfAll rfl hyX4_gladOfAll rfl (by decide) (by decide) 0 rfl rfl rfl (Nat.le_of_ble_eq_true rfl) ⟨Nat.zero_le _, Nat.zero_le _⟩ dX6_away_74 ?_
      intro w hw
      subst hw
      refine V_ws (ws' := bw (g_D G) a (Z) (K) (R) (C) (goZ (upY Z 3 i 0) n.toNat) (J2)) rfl ?_
      refine V_top (x' := iI (awayF Z n i)) (by rw [(hgo i (by omega)).2.1]; rfl) ?_
      refine r_midv hG (c_X0_offer (g_l G) (g_D G) (a 26) ((J2) 9) ((J2) 10) i (awayF Z n i) (by omega) (fun h => by have := hm (by omega); have := hg2 (J1 9) (by omega); omega) (by have := hg2 i (by omega); omega)) (bobj (g_D G) a (R) ++ (yw (g_D G) (fun i => a (2 + i)) (Z) ((J2) 0) ((J2) 1) ((J2) 2) ++ (yw (g_D G) (fun i => a (10 + i)) (K) ((J2) 3) ((J2) 4) ((J2) 5) ++ yw (g_D G) (fun i => a (18 + i)) (goZ (upY Z 3 i 0) n.toNat) ((J2) 6) ((J2) 7) ((J2) 8)))) (btxt (g_D G) a (R) (J2) ++ bshs (g_D G) a (R) (C)) rfl gX6_away_X0_offer rfl hyX0_offer rfl (by decide) (by decide) 0 rfl rfl rfl (Nat.le_of_ble_eq_true rfl) ⟨Nat.zero_le _, Nat.zero_le _⟩ dX6_away_77 ?_
      intro w hw
      by_cases hcmp : (J2) 9 < 0 ∨ (J2) 10 < awayF Z n i
      · rw [if_pos hcmp] at hw
        subst hw
        refine V_ws (ws' := bw (g_D G) a (Z) (K) (R) (C) (goZ (upY Z 3 i 0) n.toNat) (jn (jn (J2) 9 i) 10 (awayF Z n i))) rfl ?_
        exact V_lv (JJ (by omega) _ _ (best_take (f := awayF Z n) (ok := fun _ => true) rfl (by rw [← hx]; exact (Int.lt_or_le (J1 9) 0).imp id (fun h0 => by have := hm h0; omega))) (fun _ => rfl)) ⟨rfl, rfl, rfl, trivial⟩
      · rw [if_neg hcmp] at hw
        subst hw
        refine V_ws (ws' := bw (g_D G) a (Z) (K) (R) (C) (goZ (upY Z 3 i 0) n.toNat) (J2)) rfl ?_
        exact V_lv (JJ (by omega) _ _ (by rw [h9, hx]; exact best_keep (f := awayF Z n) (ok := fun _ => true) (fun h => by rw [← hx] at h; have := hm (by omega); omega)) (fun h => by rw [h9, h10]; exact hm (by omega))) ⟨rfl, rfl, rfl, trivial⟩
  refine r_iload_n (i := 1) hG dX6_away_0 rfl rfl ?_
  refine r_iconst hG dX6_away_1 ?_
  refine r_bipush hG dX6_away_2 rfl ?_
  refine r_call0i hG (c_X6_isWithin (g_l G) (g_D G) _ _ _ (by omega) (by omega) (by omega))  gX6_away_X6_isWithin rfl hyX6_isWithin rfl (by decide) (by decide) rfl (Nat.le_of_ble_eq_true rfl) ⟨Nat.zero_le _, Nat.zero_le _⟩ dX6_away_4 ?_
  refine rb_if_ne (tgt := 16) hG dX6_away_7 (by decide) (fun c7 => ?_) (fun c7 => ?_)
  · try simp only [decide_eq_true_eq, decide_eq_false_iff_not] at c7
    refine r_aload_n (i := 0) hG dX6_away_16 rfl rfl ?_
    refine r_get hG cX6_away_X6 0 3 rfl rfl (by decide) kX6_away_25 rfl dX6_away_17 ?_
    refine r_midv hG (c_X0_begin (g_l G) (g_D G) (a 26) ((J) 9) ((J) 10) ) (bobj (g_D G) a (R) ++ (yw (g_D G) (fun i => a (2 + i)) (Z) ((J) 0) ((J) 1) ((J) 2) ++ (yw (g_D G) (fun i => a (10 + i)) (K) ((J) 3) ((J) 4) ((J) 5) ++ yw (g_D G) (fun i => a (18 + i)) (YT) ((J) 6) ((J) 7) ((J) 8)))) (btxt (g_D G) a (R) (J) ++ bshs (g_D G) a (R) (C)) rfl gX6_away_X0_begin rfl hyX0_begin rfl (by decide) (by decide) 0 rfl rfl rfl (Nat.le_of_ble_eq_true rfl) ⟨Nat.zero_le _, Nat.zero_le _⟩ dX6_away_20 ?_
    intro w hw
    subst hw
    refine V_ws (ws' := bw (g_D G) a (Z) (K) (R) (C) (YT) (jn J 9 (-1))) rfl ?_
    refine r_iconst hG dX6_away_23 ?_
    refine r_istore_n (i := 2) hG dX6_away_24 rfl (by decide) rfl ?_
    exact V_lv (L (by omega) 0 (by omega) _ _ rfl (fun h => absurd h (by show ¬ (0 : Int) ≤ -1; omega))) ⟨rfl, rfl, rfl, trivial⟩
  · try simp only [decide_eq_true_eq, decide_eq_false_iff_not] at c7
    refine r_aload_n (i := 0) hG dX6_away_10 rfl rfl ?_
    refine r_iconst hG dX6_away_11 ?_
    refine r_callVi hG (c_X6_finding (g_l G) (g_D G) a (Z) (K) (R) (C) (YT) (J) 0 (by omega))  gX6_away_X6_finding rfl hyX6_finding rfl (by decide) (by decide) 0 rfl rfl rfl (Nat.le_of_ble_eq_true rfl) ⟨Nat.zero_le _, Nat.zero_le _⟩ dX6_away_12 (fun w hw => ?_)
    subst hw
    exact r_iret hG hE dX6_away_15 (by unfold s_away; (try dsimp only); (repeat (first | rw [if_pos (by omega)] | rw [if_neg (by omega)])) <;> (first | rfl | skip)) ⟨YT, J, (by unfold s_away; (try dsimp only); (repeat (first | rw [if_pos (by omega)] | rw [if_neg (by omega)])) <;> (first | rfl | skip))⟩
theorem kX6_winner_19 : Cond.fieldLink RX6 19 "BreakSwaps" "trial" "LBreakSwaps$Yard;" ∈ wsX6_winner := List.mem_of_getElem? (i := 1) rfl
theorem kX6_winner_10 : Cond.fieldLink RX6 10 "BreakSwaps" "live" "LBreakSwaps$Yard;" ∈ wsX6_winner := List.mem_of_getElem? (i := 2) rfl
theorem kX6_winner_25 : Cond.fieldLink RX6 25 "BreakSwaps" "best" "LBreakSwaps$Best;" ∈ wsX6_winner := List.mem_of_getElem? (i := 3) rfl
theorem kX6_winner_158 : Cond.fieldLink RX6 158 "BreakSwaps$Yard" "size" "I" ∈ wsX6_winner := List.mem_of_getElem? (i := 4) rfl
theorem cX6_winner_X4 : ∀ w ∈ wsX40, w ∈ wsX6_winner := fun _ h => List.mem_cons_of_mem _ (List.mem_append_left _ (List.mem_append_right _ h))
theorem cX6_winner_X6 : ∀ w ∈ wsX60, w ∈ wsX6_winner := fun _ h => List.mem_cons_of_mem _ (List.mem_append_left _ (List.mem_append_left _ (List.mem_append_right _ h)))
theorem hyX6_winner : hyV yX6_winner RX6 1 := by decide +kernel
set_option maxHeartbeats 4000000 in
set_option maxRecDepth 100000 in
theorem c_X6_winner (l : Launch) (D : va_G) (a : Nat → Nat) (Z K R : YS) (C : Int → Int64) (YT : YS) (J : Nat → Int) (hT : TI (Z, K, R, C)) (n : Int) (hn : -2147483648 ≤ n ∧ n < 2147483648) : Con l yX6_winner wsX6_winner 6 D (bw D a Z K R C YT J) [.ref (a 0), .int (iI n)] (some (.int (iI ((s_winner (Z, K, R, C) n).1)))) (fun ww => ∃ Y2 J2, ww = bwT D a (s_winner (Z, K, R, C) n).2 Y2 J2) := by
  refine con_start (own := RX6) (by decide) rfl rfl (Nat.le_of_ble_eq_true rfl) ?_
  intro G hG hE hl hD
  subst hl
  subst hD
  have hI : Inv Z := hT.1.1
  have hH : Hol Z := hT.1.2.1
  have hN := hI.1
  have hr0 := hI.2.1
  have hu5 := hI.2.2.1
  have hrd : Z 5 0 ≤ 99999 := hT.1.2.2
  have L : (0 ≤ n ∧ n ≤ 100) → ∀ i : Nat, i ≤ (Z 5 2).toNat → ∀ (J1 : Nat → Int), J1 9 = bestN (winF Z n) (fun _ => true)  i → (0 ≤ J1 9 → J1 10 = winF Z n (J1 9)) → V G 0 0 (bw (g_D G) a (Z) (K) (R) (C) (goZ Z n.toNat) (J1)) 44 [(0, .ref (a 0)), (1, .int (iI n)), (2, .int (iI (i : Int)))] [] := by
    intro hoc
    have e0 : s_winner (Z, K, R, C) n = orFin (Z, K, R, C) 3 (bestN (winF Z n) (fun _ => true)  (Z 5 2).toNat) := if_pos (by (try dsimp only); omega)
    refine down (fun i hi ih J1 hx hm => ?_)
    have hr := bestN_rng (winF Z n) (fun _ => true) i
    have hgo := goZ_ok hI n.toNat
    have h9 : J1 9 = J1 9 := rfl
    have h10 : J1 10 = J1 10 := rfl
    have hg2 : ∀ o : Int, 0 ≤ o ∧ o < 8 → -100 ≤ winF Z n o ∧ winF Z n o ≤ 100 := fun o ho => by
      have h1 := glad_rng hgo.1 ho
      have h2 := glad_rng hI ho
      unfold winF
      omega
    have JJ : i < (Z 5 2).toNat → ∀ (J3 : Nat → Int), J3 9 = bestN (winF Z n) (fun _ => true)  (i + 1) → (0 ≤ J3 9 → J3 10 = winF Z n (J3 9)) → V G 0 0 (bw (g_D G) a (Z) (K) (R) (C) (goZ Z n.toNat) (J3)) 80 [(0, .ref (a 0)), (1, .int (iI n)), (2, .int (iI (i : Int)))] [] := by
      intro hiN J3 e1 e2
      refine r_iinc hG dX6_winner_80 rfl (by decide) rfl ?_
      refine r_goto (tgt := 44) hG dX6_winner_83 (by decide) ?_
      exact V_lv (ih hiN J3 e1 e2) ⟨rfl, rfl, rfl, trivial⟩
    
    refine r_iload_n (i := 2) hG dX6_winner_44 rfl rfl ?_
    refine r_aload_n (i := 0) hG dX6_winner_45 rfl rfl ?_
    refine r_get hG cX6_winner_X6 0 0 rfl rfl (by decide) kX6_winner_10 rfl dX6_winner_46 ?_
    refine r_get hG cX6_winner_X4 2 2 rfl rfl (by decide) kX6_winner_158 rfl dX6_winner_49 ?_
    refine r_icmp_ge (tgt := 86) hG (by omega) (by omega) dX6_winner_52 (by decide) (fun c52 => ?_) (fun c52 => ?_)
    · refine r_aload_n (i := 0) hG dX6_winner_86 rfl rfl ?_
      refine r_callVi hG (c_X6_bestOrNone (g_l G) (g_D G) a Z K R C (goZ Z n.toNat) J1 (by omega))  gX6_winner_X6_bestOrNone rfl hyX6_bestOrNone rfl (by decide) (by decide) 0 rfl rfl rfl (Nat.le_of_ble_eq_true rfl) ⟨Nat.zero_le _, Nat.zero_le _⟩ dX6_winner_87 (fun w hw => ?_)
      subst hw
      have ei : i = (Z 5 2).toNat := by omega
      subst ei
      by_cases hb : J1 9 < 0
      · exact r_iret hG hE dX6_winner_90 (by rw [e0, ← hx, orFin_neg hb, if_pos hb]; rfl) ⟨(goZ Z n.toNat), J1, by rw [e0, ← hx, orFin_neg hb, if_pos hb]; rfl⟩
      · exact r_iret hG hE dX6_winner_90 (by rw [e0, ← hx, orFin_pos hb, if_neg hb]) ⟨(goZ Z n.toNat), J1, by rw [e0, ← hx, orFin_pos hb, if_neg hb]; rfl⟩
    · refine r_aload_n (i := 0) hG dX6_winner_55 rfl rfl ?_
      refine r_get hG cX6_winner_X6 0 3 rfl rfl (by decide) kX6_winner_25 rfl dX6_winner_56 ?_
      refine r_iload_n (i := 2) hG dX6_winner_59 rfl rfl ?_
      refine r_aload_n (i := 0) hG dX6_winner_60 rfl rfl ?_
      refine r_get hG cX6_winner_X6 0 2 rfl rfl (by decide) kX6_winner_19 rfl dX6_winner_61 ?_
      refine r_iload_n (i := 2) hG dX6_winner_64 rfl rfl ?_
      refine r_midi hG (c_X4_gladOf (g_l G) (g_D G) (fun i => a (18 + i)) (goZ Z n.toNat) ((J1) 6) ((J1) 7) ((J1) 8) hgo.1 (hgo.2.2.2.2.2.2 hH) _ (by omega)) (bobj (g_D G) a (R) ++ (yw (g_D G) (fun i => a (2 + i)) (Z) ((J1) 0) ((J1) 1) ((J1) 2) ++ yw (g_D G) (fun i => a (10 + i)) (K) ((J1) 3) ((J1) 4) ((J1) 5))) (bestw (a 26) ((J1) 9) ((J1) 10) ++ (btxt (g_D G) a (R) (J1) ++ bshs (g_D G) a (R) (C))) rfl gX6_winner_X4_gladOf rfl hyX4_gladOf rfl (by decide) (by decide) 0 rfl rfl rfl (Nat.le_of_ble_eq_true rfl) ⟨Nat.zero_le _, Nat.zero_le _⟩ dX6_winner_65 ?_
      intro w hw
      subst hw
      refine V_ws (ws' := bw (g_D G) a (Z) (K) (R) (C) (goZ Z n.toNat) (J1)) rfl ?_
      refine r_aload_n (i := 0) hG dX6_winner_68 rfl rfl ?_
      refine r_get hG cX6_winner_X6 0 0 rfl rfl (by decide) kX6_winner_10 rfl dX6_winner_69 ?_
      refine r_iload_n (i := 2) hG dX6_winner_72 rfl rfl ?_
      refine r_midi hG (c_X4_gladOf (g_l G) (g_D G) (fun i => a (2 + i)) (Z) ((J1) 0) ((J1) 1) ((J1) 2) hI hH _ (by omega)) (bobj (g_D G) a (R)) (yw (g_D G) (fun i => a (10 + i)) (K) ((J1) 3) ((J1) 4) ((J1) 5) ++ (yw (g_D G) (fun i => a (18 + i)) (goZ Z n.toNat) ((J1) 6) ((J1) 7) ((J1) 8) ++ (bestw (a 26) ((J1) 9) ((J1) 10) ++ (btxt (g_D G) a (R) (J1) ++ bshs (g_D G) a (R) (C))))) rfl gX6_winner_X4_gladOf rfl hyX4_gladOf rfl (by decide) (by decide) 0 rfl rfl rfl (Nat.le_of_ble_eq_true rfl) ⟨Nat.zero_le _, Nat.zero_le _⟩ dX6_winner_73 ?_
      intro w hw
      subst hw
      refine V_ws (ws' := bw (g_D G) a (Z) (K) (R) (C) (goZ Z n.toNat) (J1)) rfl ?_
      refine r_isub hG dX6_winner_76 ?_
      refine r_midv hG (c_X0_offer (g_l G) (g_D G) (a 26) ((J1) 9) ((J1) 10) i (winF Z n i) (by omega) (fun h => by have := hm (by omega); have := hg2 (J1 9) (by omega); omega) (by have := hg2 i (by omega); omega)) (bobj (g_D G) a (R) ++ (yw (g_D G) (fun i => a (2 + i)) (Z) ((J1) 0) ((J1) 1) ((J1) 2) ++ (yw (g_D G) (fun i => a (10 + i)) (K) ((J1) 3) ((J1) 4) ((J1) 5) ++ yw (g_D G) (fun i => a (18 + i)) (goZ Z n.toNat) ((J1) 6) ((J1) 7) ((J1) 8)))) (btxt (g_D G) a (R) (J1) ++ bshs (g_D G) a (R) (C)) rfl gX6_winner_X0_offer rfl hyX0_offer rfl (by decide) (by decide) 0 rfl rfl rfl (Nat.le_of_ble_eq_true rfl) ⟨Nat.zero_le _, Nat.zero_le _⟩ dX6_winner_77 ?_
      intro w hw
      by_cases hcmp : (J1) 9 < 0 ∨ (J1) 10 < winF Z n i
      · rw [if_pos hcmp] at hw
        subst hw
        refine V_ws (ws' := bw (g_D G) a (Z) (K) (R) (C) (goZ Z n.toNat) (jn (jn (J1) 9 i) 10 (winF Z n i))) rfl ?_
        exact V_lv (JJ (by omega) _ (best_take (f := winF Z n) (ok := fun _ => true) rfl (by rw [← hx]; exact (Int.lt_or_le (J1 9) 0).imp id (fun h0 => by have := hm h0; omega))) (fun _ => rfl)) ⟨rfl, rfl, rfl, trivial⟩
      · rw [if_neg hcmp] at hw
        subst hw
        refine V_ws (ws' := bw (g_D G) a (Z) (K) (R) (C) (goZ Z n.toNat) (J1)) rfl ?_
        exact V_lv (JJ (by omega) _ (by rw [h9, hx]; exact best_keep (f := winF Z n) (ok := fun _ => true) (fun h => by rw [← hx] at h; have := hm (by omega); omega)) (fun h => by rw [h9, h10]; exact hm (by omega))) ⟨rfl, rfl, rfl, trivial⟩
  refine r_iload_n (i := 1) hG dX6_winner_0 rfl rfl ?_
  refine r_iconst hG dX6_winner_1 ?_
  refine r_bipush hG dX6_winner_2 rfl ?_
  refine r_call0i hG (c_X6_isWithin (g_l G) (g_D G) _ _ _ (by omega) (by omega) (by omega))  gX6_winner_X6_isWithin rfl hyX6_isWithin rfl (by decide) (by decide) rfl (Nat.le_of_ble_eq_true rfl) ⟨Nat.zero_le _, Nat.zero_le _⟩ dX6_winner_4 ?_
  refine rb_if_ne (tgt := 16) hG dX6_winner_7 (by decide) (fun c7 => ?_) (fun c7 => ?_)
  · try simp only [decide_eq_true_eq, decide_eq_false_iff_not] at c7
    refine r_aload_n (i := 0) hG dX6_winner_16 rfl rfl ?_
    refine r_get hG cX6_winner_X6 0 2 rfl rfl (by decide) kX6_winner_19 rfl dX6_winner_17 ?_
    refine r_aload_n (i := 0) hG dX6_winner_20 rfl rfl ?_
    refine r_get hG cX6_winner_X6 0 0 rfl rfl (by decide) kX6_winner_10 rfl dX6_winner_21 ?_
    refine r_becT hG gX6_winner_X4_become (by decide) (Nat.le_of_ble_eq_true rfl) ⟨Nat.zero_le _, Nat.zero_le _⟩ dX6_winner_24 ?_
    refine r_aload_n (i := 0) hG dX6_winner_27 rfl rfl ?_
    refine r_get hG cX6_winner_X6 0 2 rfl rfl (by decide) kX6_winner_19 rfl dX6_winner_28 ?_
    refine r_iload_n (i := 1) hG dX6_winner_31 rfl rfl ?_
    refine r_midv hG (c_X4_goOn (g_l G) (g_D G) (fun i => a (18 + i)) (Z) ((jn J 8 0) 6) ((jn J 8 0) 7) ((jn J 8 0) 8) hI hH _ (by omega) (by omega)) (bobj (g_D G) a (R) ++ (yw (g_D G) (fun i => a (2 + i)) (Z) ((jn J 8 0) 0) ((jn J 8 0) 1) ((jn J 8 0) 2) ++ yw (g_D G) (fun i => a (10 + i)) (K) ((jn J 8 0) 3) ((jn J 8 0) 4) ((jn J 8 0) 5))) (bestw (a 26) ((jn J 8 0) 9) ((jn J 8 0) 10) ++ (btxt (g_D G) a (R) (jn J 8 0) ++ bshs (g_D G) a (R) (C))) rfl gX6_winner_X4_goOn rfl hyX4_goOn rfl (by decide) (by decide) 0 rfl rfl rfl (Nat.le_of_ble_eq_true rfl) ⟨Nat.zero_le _, Nat.zero_le _⟩ dX6_winner_32 ?_
    rintro w ⟨x2, z2, q2, rfl⟩
    obtain ⟨J2, hJ2⟩ : ∃ J2 : Nat → Int, J2 = jn (jn (jn (jn J 8 0) 6 x2) 7 z2) 8 q2 := ⟨_, rfl⟩
    refine V_ws (ws' := bw (g_D G) a (Z) (K) (R) (C) (goZ Z n.toNat) (J2)) (by rw [hJ2]; rfl) ?_
    refine r_aload_n (i := 0) hG dX6_winner_35 rfl rfl ?_
    refine r_get hG cX6_winner_X6 0 3 rfl rfl (by decide) kX6_winner_25 rfl dX6_winner_36 ?_
    refine r_midv hG (c_X0_begin (g_l G) (g_D G) (a 26) ((J2) 9) ((J2) 10) ) (bobj (g_D G) a (R) ++ (yw (g_D G) (fun i => a (2 + i)) (Z) ((J2) 0) ((J2) 1) ((J2) 2) ++ (yw (g_D G) (fun i => a (10 + i)) (K) ((J2) 3) ((J2) 4) ((J2) 5) ++ yw (g_D G) (fun i => a (18 + i)) (goZ Z n.toNat) ((J2) 6) ((J2) 7) ((J2) 8)))) (btxt (g_D G) a (R) (J2) ++ bshs (g_D G) a (R) (C)) rfl gX6_winner_X0_begin rfl hyX0_begin rfl (by decide) (by decide) 0 rfl rfl rfl (Nat.le_of_ble_eq_true rfl) ⟨Nat.zero_le _, Nat.zero_le _⟩ dX6_winner_39 ?_
    intro w hw
    subst hw
    refine V_ws (ws' := bw (g_D G) a (Z) (K) (R) (C) (goZ Z n.toNat) (jn J2 9 (-1))) rfl ?_
    refine r_iconst hG dX6_winner_42 ?_
    refine r_istore_n (i := 2) hG dX6_winner_43 rfl (by decide) rfl ?_
    exact V_lv (L (by omega) 0 (by omega) _ rfl (fun h => absurd h (by show ¬ (0 : Int) ≤ -1; omega))) ⟨rfl, rfl, rfl, trivial⟩
  · try simp only [decide_eq_true_eq, decide_eq_false_iff_not] at c7
    refine r_aload_n (i := 0) hG dX6_winner_10 rfl rfl ?_
    refine r_iconst hG dX6_winner_11 ?_
    refine r_callVi hG (c_X6_finding (g_l G) (g_D G) a (Z) (K) (R) (C) (YT) (J) 0 (by omega))  gX6_winner_X6_finding rfl hyX6_finding rfl (by decide) (by decide) 0 rfl rfl rfl (Nat.le_of_ble_eq_true rfl) ⟨Nat.zero_le _, Nat.zero_le _⟩ dX6_winner_12 (fun w hw => ?_)
    subst hw
    exact r_iret hG hE dX6_winner_15 (by unfold s_winner; (try dsimp only); (repeat (first | rw [if_pos (by omega)] | rw [if_neg (by omega)])) <;> (first | rfl | skip)) ⟨YT, J, (by unfold s_winner; (try dsimp only); (repeat (first | rw [if_pos (by omega)] | rw [if_neg (by omega)])) <;> (first | rfl | skip))⟩
theorem kX6_trust_19 : Cond.fieldLink RX6 19 "BreakSwaps" "trial" "LBreakSwaps$Yard;" ∈ wsX6_trust := List.mem_of_getElem? (i := 1) rfl
theorem kX6_trust_10 : Cond.fieldLink RX6 10 "BreakSwaps" "live" "LBreakSwaps$Yard;" ∈ wsX6_trust := List.mem_of_getElem? (i := 2) rfl
theorem kX6_trust_116 : Cond.fieldLink RX6 116 "BreakSwaps$Yard" "trusts" "[I" ∈ wsX6_trust := List.mem_of_getElem? (i := 3) rfl
theorem cX6_trust_X4 : ∀ w ∈ wsX40, w ∈ wsX6_trust := fun _ h => List.mem_cons_of_mem _ (List.mem_append_left _ (List.mem_append_right _ h))
theorem cX6_trust_X6 : ∀ w ∈ wsX60, w ∈ wsX6_trust := fun _ h => List.mem_cons_of_mem _ (List.mem_append_left _ (List.mem_append_left _ (List.mem_append_right _ h)))
theorem hyX6_trust : hyV yX6_trust RX6 3 := by decide +kernel
set_option maxHeartbeats 4000000 in
set_option maxRecDepth 100000 in
theorem c_X6_trust (l : Launch) (D : va_G) (a : Nat → Nat) (Z K R : YS) (C : Int → Int64) (YT : YS) (J : Nat → Int) (hT : TI (Z, K, R, C)) (c n v : Int) (hc : -2147483648 ≤ c ∧ c < 2147483648) (hn : -2147483648 ≤ n ∧ n < 2147483648) (hv : -2147483648 ≤ v ∧ v < 2147483648) : Con l yX6_trust wsX6_trust 6 D (bw D a Z K R C YT J) [.ref (a 0), .int (iI c), .int (iI n), .int (iI v)] (some (.int (iI ((s_trust (Z, K, R, C) c n v).1)))) (fun ww => ∃ Y2 J2, ww = bwT D a (s_trust (Z, K, R, C) c n v).2 Y2 J2) := by
  refine con_start (own := RX6) (by decide) rfl rfl (Nat.le_of_ble_eq_true rfl) ?_
  intro G hG hE hl hD
  subst hl
  subst hD
  have hI : Inv Z := hT.1.1
  have hH : Hol Z := hT.1.2.1
  have hN := hI.1
  have hr0 := hI.2.1
  have hu5 := hI.2.2.1
  have hrd : Z 5 0 ≤ 99999 := hT.1.2.2
  have L : ((0 ≤ c ∧ c < Z 5 2) ∧ (0 ≤ n ∧ n ≤ 40) ∧ -20 ≤ v ∧ v ≤ 40) → ∀ i : Nat, i ≤ 100 → ∀ (YT1 : YS) (J1 : Nat → Int), (∀ j : Nat, j < i → trustF Z c n v j = false) → V G 0 0 (bw (g_D G) a (Z) (K) (R) (C) (YT1) (J1)) 38 [(0, .ref (a 0)), (1, .int (iI c)), (2, .int (iI n)), (3, .int (iI v)), (4, .int (iI (i : Int)))] [] := by
    intro hoc
    have e0 : s_trust (Z, K, R, C) c n v = orFin (Z, K, R, C) 3 (leastN (trustF Z c n v) 100) := if_pos (by (try dsimp only); omega)
    refine down (fun i hi ih YT1 J1 hf => ?_)
    have hgo := fun (h : i < 100) => goZ_ok (Inv_up3 hI (i := c) (v := (i : Int)) (by omega)) n.toNat
    have hgr := fun (h : i < 100) => glad_rng (hgo h).1 (c := c) (by omega)
    have hN1 : glad (goZ (upY Z 3 c i) n.toNat) c < v → ∀ j : Nat, j < i + 1 → trustF Z c n v j = false := fun hne j hj => by
      by_cases e : j = i
      · subst e; exact decide_eq_false (by omega)
      · exact hf j (by omega)
    refine r_iload hG dX6_trust_38 rfl ?_
    refine r_bipush hG dX6_trust_40 rfl ?_
    refine r_icmp_gt (tgt := 96) hG (by omega) (by omega) dX6_trust_42 (by decide) (fun c42 => ?_) (fun c42 => ?_)
    · refine r_aload_n (i := 0) hG dX6_trust_96 rfl rfl ?_
      refine r_iconst hG dX6_trust_97 ?_
      refine r_callVi hG (c_X6_finding (g_l G) (g_D G) a (Z) (K) (R) (C) (YT1) (J1) 3 (by omega))  gX6_trust_X6_finding rfl hyX6_finding rfl (by decide) (by decide) 0 rfl rfl rfl (Nat.le_of_ble_eq_true rfl) ⟨Nat.zero_le _, Nat.zero_le _⟩ dX6_trust_98 (fun w hw => ?_)
      subst hw
      have e1 := leastN_none (f := trustF Z c n v) (n := 100) (fun j hj => hf j (by omega))
      exact r_iret hG hE dX6_trust_101 (by rw [e0, e1, orFin_neg (by omega)]; rfl) ⟨YT1, J1, by rw [e0, e1, orFin_neg (by omega)]; rfl⟩
    · refine r_aload_n (i := 0) hG dX6_trust_45 rfl rfl ?_
      refine r_get hG cX6_trust_X6 0 2 rfl rfl (by decide) kX6_trust_19 rfl dX6_trust_46 ?_
      refine r_aload_n (i := 0) hG dX6_trust_49 rfl rfl ?_
      refine r_get hG cX6_trust_X6 0 0 rfl rfl (by decide) kX6_trust_10 rfl dX6_trust_50 ?_
      refine r_becT hG gX6_trust_X4_become (by decide) (Nat.le_of_ble_eq_true rfl) ⟨Nat.zero_le _, Nat.zero_le _⟩ dX6_trust_53 ?_
      refine r_aload_n (i := 0) hG dX6_trust_56 rfl rfl ?_
      refine r_get hG cX6_trust_X6 0 2 rfl rfl (by decide) kX6_trust_19 rfl dX6_trust_57 ?_
      refine r_get hG cX6_trust_X4 18 6 rfl rfl (by decide) kX6_trust_116 rfl dX6_trust_60 ?_
      refine r_iload_n (i := 1) hG dX6_trust_63 rfl rfl ?_
      refine r_iload hG dX6_trust_64 rfl ?_
      refine r_iast hG 22 rfl (by omega) (by decide) dX6_trust_66 rfl ?_
      refine r_aload_n (i := 0) hG dX6_trust_67 rfl rfl ?_
      refine r_get hG cX6_trust_X6 0 2 rfl rfl (by decide) kX6_trust_19 rfl dX6_trust_68 ?_
      refine r_iload_n (i := 2) hG dX6_trust_71 rfl rfl ?_
      refine r_midv hG (c_X4_goOn (g_l G) (g_D G) (fun i => a (18 + i)) (upY Z 3 c i) ((jn J1 8 0) 6) ((jn J1 8 0) 7) ((jn J1 8 0) 8) (Inv_up3 hI (by omega)) (hH) _ (by omega) (by show Z 5 0 + n < 2000000000; omega)) (bobj (g_D G) a (R) ++ (yw (g_D G) (fun i => a (2 + i)) (Z) ((jn J1 8 0) 0) ((jn J1 8 0) 1) ((jn J1 8 0) 2) ++ yw (g_D G) (fun i => a (10 + i)) (K) ((jn J1 8 0) 3) ((jn J1 8 0) 4) ((jn J1 8 0) 5))) (bestw (a 26) ((jn J1 8 0) 9) ((jn J1 8 0) 10) ++ (btxt (g_D G) a (R) (jn J1 8 0) ++ bshs (g_D G) a (R) (C))) rfl gX6_trust_X4_goOn rfl hyX4_goOn rfl (by decide) (by decide) 0 rfl rfl rfl (Nat.le_of_ble_eq_true rfl) ⟨Nat.zero_le _, Nat.zero_le _⟩ dX6_trust_72 ?_
      rintro w ⟨x2, z2, q2, rfl⟩
      obtain ⟨J2, hJ2⟩ : ∃ J2 : Nat → Int, J2 = jn (jn (jn (jn J1 8 0) 6 x2) 7 z2) 8 q2 := ⟨_, rfl⟩
      have h9 : J2 9 = J1 9 := by rw [hJ2]; rfl
      have h10 : J2 10 = J1 10 := by rw [hJ2]; rfl
      refine V_ws (ws' := bw (g_D G) a (Z) (K) (R) (C) (goZ (upY Z 3 c i) n.toNat) (J2)) (by rw [hJ2]; rfl) ?_
      refine r_aload_n (i := 0) hG dX6_trust_75 rfl rfl ?_
      refine r_get hG cX6_trust_X6 0 2 rfl rfl (by decide) kX6_trust_19 rfl dX6_trust_76 ?_
      refine r_iload_n (i := 1) hG dX6_trust_79 rfl rfl ?_
      refine r_midi hG (c_X4_gladOf (g_l G) (g_D G) (fun i => a (18 + i)) (goZ (upY Z 3 c i) n.toNat) ((J2) 6) ((J2) 7) ((J2) 8) (hgo (by omega)).1 ((hgo (by omega)).2.2.2.2.2.2 hH) _ (by omega)) (bobj (g_D G) a (R) ++ (yw (g_D G) (fun i => a (2 + i)) (Z) ((J2) 0) ((J2) 1) ((J2) 2) ++ yw (g_D G) (fun i => a (10 + i)) (K) ((J2) 3) ((J2) 4) ((J2) 5))) (bestw (a 26) ((J2) 9) ((J2) 10) ++ (btxt (g_D G) a (R) (J2) ++ bshs (g_D G) a (R) (C))) rfl gX6_trust_X4_gladOf rfl hyX4_gladOf rfl (by decide) (by decide) 0 rfl rfl rfl (Nat.le_of_ble_eq_true rfl) ⟨Nat.zero_le _, Nat.zero_le _⟩ dX6_trust_80 ?_
      intro w hw
      subst hw
      refine V_ws (ws' := bw (g_D G) a (Z) (K) (R) (C) (goZ (upY Z 3 c i) n.toNat) (J2)) rfl ?_
      refine r_iload_n (i := 3) hG dX6_trust_83 rfl rfl ?_
      refine r_icmp_lt (tgt := 90) hG (by have := hgr (by omega); omega) (by omega) dX6_trust_84 (by decide) (fun c84 => ?_) (fun c84 => ?_)
      · refine r_iinc hG dX6_trust_90 rfl (by decide) rfl ?_
        refine r_goto (tgt := 38) hG dX6_trust_93 (by decide) ?_
        exact V_lv (ih (by omega) _ J2 (hN1 c84)) ⟨rfl, rfl, rfl, rfl, rfl, trivial⟩
      · refine r_iload hG dX6_trust_87 rfl ?_
        have e1 := leastN_at (f := trustF Z c n v) (i := i) hf (decide_eq_true (Int.not_lt.mp c84)) (n := 100) (by omega)
        exact r_iret hG hE dX6_trust_89 (by rw [e0, e1, orFin_pos (by omega)]) ⟨_, J2, by rw [e0, e1, orFin_pos (by omega)]; rfl⟩
  refine r_aload_n (i := 0) hG dX6_trust_0 rfl rfl ?_
  refine r_iload_n (i := 1) hG dX6_trust_1 rfl rfl ?_
  refine r_callVi hG (c_X6_isThere (g_l G) (g_D G) a Z K R C YT J hI _ (by omega))  gX6_trust_X6_isThere rfl hyX6_isThere rfl (by decide) (by decide) 0 rfl rfl rfl (Nat.le_of_ble_eq_true rfl) ⟨Nat.zero_le _, Nat.zero_le _⟩ dX6_trust_2 (fun w hw => ?_)
  subst hw
  refine rb_if_eq (tgt := 29) hG dX6_trust_5 (by decide) (fun c5 => ?_) (fun c5 => ?_)
  · try simp only [decide_eq_true_eq, decide_eq_false_iff_not] at c5
    refine r_aload_n (i := 0) hG dX6_trust_29 rfl rfl ?_
    refine r_iconst hG dX6_trust_30 ?_
    refine r_callVi hG (c_X6_finding (g_l G) (g_D G) a (Z) (K) (R) (C) (YT) (J) 0 (by omega))  gX6_trust_X6_finding rfl hyX6_finding rfl (by decide) (by decide) 0 rfl rfl rfl (Nat.le_of_ble_eq_true rfl) ⟨Nat.zero_le _, Nat.zero_le _⟩ dX6_trust_31 (fun w hw => ?_)
    subst hw
    exact r_iret hG hE dX6_trust_34 (by unfold s_trust; (try dsimp only); (repeat (first | rw [if_pos (by omega)] | rw [if_neg (by omega)])) <;> (first | rfl | skip)) ⟨YT, J, (by unfold s_trust; (try dsimp only); (repeat (first | rw [if_pos (by omega)] | rw [if_neg (by omega)])) <;> (first | rfl | skip))⟩
  · try simp only [decide_eq_true_eq, decide_eq_false_iff_not] at c5
    refine r_iload_n (i := 2) hG dX6_trust_8 rfl rfl ?_
    refine r_iconst hG dX6_trust_9 ?_
    refine r_bipush hG dX6_trust_10 rfl ?_
    refine r_call0i hG (c_X6_isWithin (g_l G) (g_D G) _ _ _ (by omega) (by omega) (by omega))  gX6_trust_X6_isWithin rfl hyX6_isWithin rfl (by decide) (by decide) rfl (Nat.le_of_ble_eq_true rfl) ⟨Nat.zero_le _, Nat.zero_le _⟩ dX6_trust_12 ?_
    refine rb_if_eq (tgt := 29) hG dX6_trust_15 (by decide) (fun c15 => ?_) (fun c15 => ?_)
    · try simp only [decide_eq_true_eq, decide_eq_false_iff_not] at c15
      refine r_aload_n (i := 0) hG dX6_trust_29 rfl rfl ?_
      refine r_iconst hG dX6_trust_30 ?_
      refine r_callVi hG (c_X6_finding (g_l G) (g_D G) a (Z) (K) (R) (C) (YT) (J) 0 (by omega))  gX6_trust_X6_finding rfl hyX6_finding rfl (by decide) (by decide) 0 rfl rfl rfl (Nat.le_of_ble_eq_true rfl) ⟨Nat.zero_le _, Nat.zero_le _⟩ dX6_trust_31 (fun w hw => ?_)
      subst hw
      exact r_iret hG hE dX6_trust_34 (by unfold s_trust; (try dsimp only); (repeat (first | rw [if_pos (by omega)] | rw [if_neg (by omega)])) <;> (first | rfl | skip)) ⟨YT, J, (by unfold s_trust; (try dsimp only); (repeat (first | rw [if_pos (by omega)] | rw [if_neg (by omega)])) <;> (first | rfl | skip))⟩
    · try simp only [decide_eq_true_eq, decide_eq_false_iff_not] at c15
      refine r_iload_n (i := 3) hG dX6_trust_18 rfl rfl ?_
      refine r_bipush hG dX6_trust_19 rfl ?_
      refine r_bipush hG dX6_trust_21 rfl ?_
      refine r_call0i hG (c_X6_isWithin (g_l G) (g_D G) _ _ _ (by omega) (by omega) (by omega))  gX6_trust_X6_isWithin rfl hyX6_isWithin rfl (by decide) (by decide) rfl (Nat.le_of_ble_eq_true rfl) ⟨Nat.zero_le _, Nat.zero_le _⟩ dX6_trust_23 ?_
      refine rb_if_ne (tgt := 35) hG dX6_trust_26 (by decide) (fun c26 => ?_) (fun c26 => ?_)
      · try simp only [decide_eq_true_eq, decide_eq_false_iff_not] at c26
        refine r_iconst hG dX6_trust_35 ?_
        refine r_istore hG dX6_trust_36 (by decide) rfl ?_
        exact V_lv (L (by omega) 0 (by omega) YT J (fun j hj => absurd hj (by omega))) ⟨rfl, rfl, rfl, rfl, rfl, trivial⟩
      · try simp only [decide_eq_true_eq, decide_eq_false_iff_not] at c26
        refine r_aload_n (i := 0) hG dX6_trust_29 rfl rfl ?_
        refine r_iconst hG dX6_trust_30 ?_
        refine r_callVi hG (c_X6_finding (g_l G) (g_D G) a (Z) (K) (R) (C) (YT) (J) 0 (by omega))  gX6_trust_X6_finding rfl hyX6_finding rfl (by decide) (by decide) 0 rfl rfl rfl (Nat.le_of_ble_eq_true rfl) ⟨Nat.zero_le _, Nat.zero_le _⟩ dX6_trust_31 (fun w hw => ?_)
        subst hw
        exact r_iret hG hE dX6_trust_34 (by unfold s_trust; (try dsimp only); (repeat (first | rw [if_pos (by omega)] | rw [if_neg (by omega)])) <;> (first | rfl | skip)) ⟨YT, J, (by unfold s_trust; (try dsimp only); (repeat (first | rw [if_pos (by omega)] | rw [if_neg (by omega)])) <;> (first | rfl | skip))⟩
