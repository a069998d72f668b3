theorem kX1_isUnder_11 : Cond.fieldLink RX1 11 "BreakSwaps$Kinds" "ABOVE" "[I" ∈ wsX1_isUnder := List.mem_of_getElem? (i := 1) rfl
theorem hyX1_isUnder : hyS yX1_isUnder 2 := by decide +kernel
set_option maxHeartbeats 4000000 in
set_option maxRecDepth 100000 in
theorem c_X1_isUnder (l : Launch) (D : va_G) (k t : Int) (hk : 0 ≤ k ∧ k ≤ 5) (ht : 0 ≤ t ∧ t ≤ 5) : Con l yX1_isUnder wsX1_isUnder 0 D [] [.int (iI k), .int (iI t)] (some (.int (iI (b2 (undK k t))))) (fun w => w = []) := by
  refine con_start (own := RX1) (by decide) rfl rfl (Nat.le_of_ble_eq_true rfl) ?_
  intro G hG hE hl hD
  subst hl
  subst hD
  have L : ∀ i : Nat, i ≤ 6 → ∀ x : Int, (-1 ≤ x ∧ x ≤ 5) → undK k t = undN (6 - i) x t → V G 0 0 [] 4 [(0, .int (iI k)), (1, .int (iI t)), (2, .int (iI x)), (3, .int (iI (i : Int)))] [] := by
    refine down (fun i hi ih x hx he => ?_)
    have ha := abv_rng x.toNat
    refine r_iload_n (i := 3) hG dX1_isUnder_4 rfl rfl ?_
    refine r_bipush hG dX1_isUnder_5 rfl ?_
    refine r_icmp_ge (tgt := 33) hG (by omega) (by omega) dX1_isUnder_7 (by decide) (fun c7 => ?_) (fun c7 => ?_)
    · refine r_iconst hG dX1_isUnder_33 ?_
      exact r_zret hG hE dX1_isUnder_34 (by rw [he, undN_f (by omega)]; rfl) rfl
    · refine r_iload_n (i := 2) hG dX1_isUnder_10 rfl rfl ?_
      refine r_if_lt (tgt := 33) hG (by omega) dX1_isUnder_11 (by decide) (fun c11 => ?_) (fun c11 => ?_)
      · refine r_iconst hG dX1_isUnder_33 ?_
        exact r_zret hG hE dX1_isUnder_34 (by rw [he, undN_f (by omega)]; rfl) rfl
      · refine r_iload_n (i := 2) hG dX1_isUnder_14 rfl rfl ?_
        refine r_iload_n (i := 1) hG dX1_isUnder_15 rfl rfl ?_
        refine r_icmp_ne (tgt := 21) hG (by omega) (by omega) dX1_isUnder_16 (by decide) (fun c16 => ?_) (fun c16 => ?_)
        · refine r_gets hG hG.sp.1.1.1 kX1_isUnder_11 dX1_isUnder_21 ?_
          refine r_iload_n (i := 2) hG dX1_isUnder_24 rfl rfl ?_
          refine r_ti hG hG.sp.1.1.2 (by omega) (by decide) dX1_isUnder_25 ?_
          refine r_istore_n (i := 2) hG dX1_isUnder_26 rfl (by decide) rfl ?_
          refine r_iinc hG dX1_isUnder_27 rfl (by decide) rfl ?_
          refine r_goto (tgt := 4) hG dX1_isUnder_30 (by decide) ?_
          exact V_lv (ih (by omega) (abv x.toNat) (by omega) (by rw [he, undN_s (by omega) (by omega) (by omega)])) ⟨rfl, rfl, rfl, rfl, trivial⟩
        · refine r_iconst hG dX1_isUnder_19 ?_
          exact r_zret hG hE dX1_isUnder_20 (by rw [he, undN_t (by omega) (by omega) (by omega)]; rfl) rfl
  refine r_iload_n (i := 0) hG dX1_isUnder_0 rfl rfl ?_
  refine r_istore_n (i := 2) hG dX1_isUnder_1 rfl (by decide) rfl ?_
  refine r_iconst hG dX1_isUnder_2 ?_
  refine r_istore_n (i := 3) hG dX1_isUnder_3 rfl (by decide) rfl ?_
  exact V_lv (L 0 (by omega) k (by omega) (und_6 hk ht)) ⟨rfl, rfl, rfl, rfl, trivial⟩
theorem kX6_who_10 : Cond.fieldLink RX6 10 "BreakSwaps" "live" "LBreakSwaps$Yard;" ∈ wsX6_who := List.mem_of_getElem? (i := 1) rfl
theorem cX6_who_X6 : ∀ w ∈ wsX60, w ∈ wsX6_who := fun _ h => List.mem_cons_of_mem _ (List.mem_append_left _ (List.mem_append_right _ h))
theorem hyX6_who : hyV yX6_who RX6 1 := by decide +kernel
set_option maxHeartbeats 4000000 in
set_option maxRecDepth 100000 in
theorem c_X6_who (l : Launch) (D : va_G) (a : Nat → Nat) (Z K R : YS) (C : Int → Int64) (YT : YS) (J : Nat → Int) (hT : TI (Z, K, R, C)) (t : Int) (ht : -2147483648 ≤ t ∧ t < 2147483648) : Con l yX6_who wsX6_who 2 D (bw D a Z K R C YT J) [.ref (a 0), .int (iI t)] (some (.int (iI ((s_who (Z, K, R, C) t).1)))) (fun ww => ∃ Y2 J2, ww = bwT D a (s_who (Z, K, R, C) t).2 Y2 J2) := by
  refine con_start (own := RX6) (by decide) rfl rfl (Nat.le_of_ble_eq_true rfl) ?_
  intro G hG hE hl hD
  subst hl
  subst hD
  have hI : Inv Z := hT.1.1
  have hH : Hol Z := hT.1.2.1
  have hN := hI.1
  have hr0 := hI.2.1
  have hu5 := hI.2.2.1
  have hrd : Z 5 0 ≤ 99999 := hT.1.2.2
  refine r_iload_n (i := 1) hG dX6_who_0 rfl rfl ?_
  refine r_call0i hG (c_X6_isThing (g_l G) (g_D G) _ (by omega))  gX6_who_X6_isThing rfl hyX6_isThing rfl (by decide) (by decide) rfl (Nat.le_of_ble_eq_true rfl) ⟨Nat.zero_le _, Nat.zero_le _⟩ dX6_who_1 ?_
  refine rb_if_ne (tgt := 13) hG dX6_who_4 (by decide) (fun c4 => ?_) (fun c4 => ?_)
  · try simp only [decide_eq_true_eq, decide_eq_false_iff_not] at c4
    refine r_aload_n (i := 0) hG dX6_who_13 rfl rfl ?_
    refine r_get hG cX6_who_X6 0 0 rfl rfl (by decide) kX6_who_10 rfl dX6_who_14 ?_
    refine r_iload_n (i := 1) hG dX6_who_17 rfl rfl ?_
    refine r_midi hG (c_X4_holdersOf (g_l G) (g_D G) (fun i => a (2 + i)) (Z) ((J) 0) ((J) 1) ((J) 2) hI _ (by omega)) (bobj (g_D G) a (R)) (yw (g_D G) (fun i => a (10 + i)) (K) ((J) 3) ((J) 4) ((J) 5) ++ (yw (g_D G) (fun i => a (18 + i)) (YT) ((J) 6) ((J) 7) ((J) 8) ++ (bestw (a 26) ((J) 9) ((J) 10) ++ (btxt (g_D G) a (R) (J) ++ bshs (g_D G) a (R) (C))))) rfl gX6_who_X4_holdersOf rfl hyX4_holdersOf rfl (by decide) (by decide) 0 rfl rfl rfl (Nat.le_of_ble_eq_true rfl) ⟨Nat.zero_le _, Nat.zero_le _⟩ dX6_who_18 ?_
    intro w hw
    subst hw
    refine V_ws (ws' := bw (g_D G) a (Z) (K) (R) (C) (YT) (J)) rfl ?_
    exact r_iret hG hE dX6_who_21 (by unfold s_who; (try dsimp only); (repeat (first | rw [if_pos (by omega)] | rw [if_neg (by omega)])) <;> (first | rfl | skip)) ⟨YT, J, (by unfold s_who; (try dsimp only); (repeat (first | rw [if_pos (by omega)] | rw [if_neg (by omega)])) <;> (first | rfl | skip))⟩
  · try simp only [decide_eq_true_eq, decide_eq_false_iff_not] at c4
    refine r_aload_n (i := 0) hG dX6_who_7 rfl rfl ?_
    refine r_iconst hG dX6_who_8 ?_
    refine r_callVi hG (c_X6_finding (g_l G) (g_D G) a (Z) (K) (R) (C) (YT) (J) 0 (by omega))  gX6_who_X6_finding rfl hyX6_finding rfl (by decide) (by decide) 0 rfl rfl rfl (Nat.le_of_ble_eq_true rfl) ⟨Nat.zero_le _, Nat.zero_le _⟩ dX6_who_9 (fun w hw => ?_)
    subst hw
    exact r_iret hG hE dX6_who_12 (by unfold s_who; (try dsimp only); (repeat (first | rw [if_pos (by omega)] | rw [if_neg (by omega)])) <;> (first | rfl | skip)) ⟨YT, J, (by unfold s_who; (try dsimp only); (repeat (first | rw [if_pos (by omega)] | rw [if_neg (by omega)])) <;> (first | rfl | skip))⟩
theorem kX6_child_10 : Cond.fieldLink RX6 10 "BreakSwaps" "live" "LBreakSwaps$Yard;" ∈ wsX6_child := List.mem_of_getElem? (i := 1) rfl
theorem cX6_child_X6 : ∀ w ∈ wsX60, w ∈ wsX6_child := fun _ h => List.mem_cons_of_mem _ (List.mem_append_left _ (List.mem_append_right _ h))
theorem hyX6_child : hyV yX6_child RX6 2 := by decide +kernel
set_option maxHeartbeats 4000000 in
set_option maxRecDepth 100000 in
theorem c_X6_child (l : Launch) (D : va_G) (a : Nat → Nat) (Z K R : YS) (C : Int → Int64) (YT : YS) (J : Nat → Int) (hT : TI (Z, K, R, C)) (k t : Int) (hk : -2147483648 ≤ k ∧ k < 2147483648) (ht : -2147483648 ≤ t ∧ t < 2147483648) : Con l yX6_child wsX6_child 3 D (bw D a Z K R C YT J) [.ref (a 0), .int (iI k), .int (iI t)] (some (.int (iI ((s_child (Z, K, R, C) k t).1)))) (fun ww => ∃ Y2 J2, ww = bwT D a (s_child (Z, K, R, C) k t).2 Y2 J2) := by
  refine con_start (own := RX6) (by decide) rfl rfl (Nat.le_of_ble_eq_true rfl) ?_
  intro G hG hE hl hD
  subst hl
  subst hD
  have hI : Inv Z := hT.1.1
  have hH : Hol Z := hT.1.2.1
  have hN := hI.1
  have hr0 := hI.2.1
  have hu5 := hI.2.2.1
  have hrd : Z 5 0 ≤ 99999 := hT.1.2.2
  refine r_iload_n (i := 1) hG dX6_child_0 rfl rfl ?_
  refine r_call0i hG (c_X1_isKind (g_l G) (g_D G) _ (by omega))  gX6_child_X1_isKind rfl hyX1_isKind rfl (by decide) (by decide) rfl (Nat.le_of_ble_eq_true rfl) ⟨Nat.zero_le _, Nat.zero_le _⟩ dX6_child_1 ?_
  refine rb_if_eq (tgt := 14) hG dX6_child_4 (by decide) (fun c4 => ?_) (fun c4 => ?_)
  · try simp only [decide_eq_true_eq, decide_eq_false_iff_not] at c4
    refine r_aload_n (i := 0) hG dX6_child_14 rfl rfl ?_
    refine r_iconst hG dX6_child_15 ?_
    refine r_callVi hG (c_X6_finding (g_l G) (g_D G) a (Z) (K) (R) (C) (YT) (J) 0 (by omega))  gX6_child_X6_finding rfl hyX6_finding rfl (by decide) (by decide) 0 rfl rfl rfl (Nat.le_of_ble_eq_true rfl) ⟨Nat.zero_le _, Nat.zero_le _⟩ dX6_child_16 (fun w hw => ?_)
    subst hw
    exact r_iret hG hE dX6_child_19 (by unfold s_child; (try dsimp only); (repeat (first | rw [if_pos (by omega)] | rw [if_neg (by omega)])) <;> (first | rfl | skip)) ⟨YT, J, (by unfold s_child; (try dsimp only); (repeat (first | rw [if_pos (by omega)] | rw [if_neg (by omega)])) <;> (first | rfl | skip))⟩
  · try simp only [decide_eq_true_eq, decide_eq_false_iff_not] at c4
    refine r_iload_n (i := 2) hG dX6_child_7 rfl rfl ?_
    refine r_call0i hG (c_X6_isThing (g_l G) (g_D G) _ (by omega))  gX6_child_X6_isThing rfl hyX6_isThing rfl (by decide) (by decide) rfl (Nat.le_of_ble_eq_true rfl) ⟨Nat.zero_le _, Nat.zero_le _⟩ dX6_child_8 ?_
    refine rb_if_ne (tgt := 20) hG dX6_child_11 (by decide) (fun c11 => ?_) (fun c11 => ?_)
    · try simp only [decide_eq_true_eq, decide_eq_false_iff_not] at c11
      refine r_aload_n (i := 0) hG dX6_child_20 rfl rfl ?_
      refine r_get hG cX6_child_X6 0 0 rfl rfl (by decide) kX6_child_10 rfl dX6_child_21 ?_
      refine r_midi hG (c_X4_isFull (g_l G) (g_D G) (fun i => a (2 + i)) (Z) ((J) 0) ((J) 1) ((J) 2) hI) (bobj (g_D G) a (R)) (yw (g_D G) (fun i => a (10 + i)) (K) ((J) 3) ((J) 4) ((J) 5) ++ (yw (g_D G) (fun i => a (18 + i)) (YT) ((J) 6) ((J) 7) ((J) 8) ++ (bestw (a 26) ((J) 9) ((J) 10) ++ (btxt (g_D G) a (R) (J) ++ bshs (g_D G) a (R) (C))))) rfl gX6_child_X4_isFull rfl hyX4_isFull rfl (by decide) (by decide) 0 rfl rfl rfl (Nat.le_of_ble_eq_true rfl) ⟨Nat.zero_le _, Nat.zero_le _⟩ dX6_child_24 ?_
      intro w hw
      subst hw
      refine V_ws (ws' := bw (g_D G) a (Z) (K) (R) (C) (YT) (J)) rfl ?_
      refine rb_if_eq (tgt := 36) hG dX6_child_27 (by decide) (fun c27 => ?_) (fun c27 => ?_)
      · try simp only [decide_eq_true_eq, decide_eq_false_iff_not] at c27
        refine r_aload_n (i := 0) hG dX6_child_36 rfl rfl ?_
        refine r_get hG cX6_child_X6 0 0 rfl rfl (by decide) kX6_child_10 rfl dX6_child_37 ?_
        refine r_iload_n (i := 1) hG dX6_child_40 rfl rfl ?_
        refine r_iload_n (i := 2) hG dX6_child_41 rfl rfl ?_
        refine r_midi hG (c_X4_addOne (g_l G) (g_D G) (fun i => a (2 + i)) (Z) ((J) 0) ((J) 1) ((J) 2) hI (by omega) _ _ (by omega)) (bobj (g_D G) a (R)) (yw (g_D G) (fun i => a (10 + i)) (K) ((J) 3) ((J) 4) ((J) 5) ++ (yw (g_D G) (fun i => a (18 + i)) (YT) ((J) 6) ((J) 7) ((J) 8) ++ (bestw (a 26) ((J) 9) ((J) 10) ++ (btxt (g_D G) a (R) (J) ++ bshs (g_D G) a (R) (C))))) rfl gX6_child_X4_addOne rfl hyX4_addOne rfl (by decide) (by decide) 0 rfl rfl rfl (Nat.le_of_ble_eq_true rfl) ⟨Nat.zero_le _, Nat.zero_le _⟩ dX6_child_42 ?_
        intro w hw
        subst hw
        refine V_ws (ws' := bw (g_D G) a (addY Z k t) (K) (R) (C) (YT) (J)) rfl ?_
        exact r_iret hG hE dX6_child_45 (by unfold s_child; (try dsimp only); (repeat (first | rw [if_pos (by omega)] | rw [if_neg (by omega)])) <;> (first | rfl | skip)) ⟨YT, J, (by unfold s_child; (try dsimp only); (repeat (first | rw [if_pos (by omega)] | rw [if_neg (by omega)])) <;> (first | rfl | skip))⟩
      · try simp only [decide_eq_true_eq, decide_eq_false_iff_not] at c27
        refine r_aload_n (i := 0) hG dX6_child_30 rfl rfl ?_
        refine r_iconst hG dX6_child_31 ?_
        refine r_callVi hG (c_X6_finding (g_l G) (g_D G) a (Z) (K) (R) (C) (YT) (J) 1 (by omega))  gX6_child_X6_finding rfl hyX6_finding rfl (by decide) (by decide) 0 rfl rfl rfl (Nat.le_of_ble_eq_true rfl) ⟨Nat.zero_le _, Nat.zero_le _⟩ dX6_child_32 (fun w hw => ?_)
        subst hw
        exact r_iret hG hE dX6_child_35 (by unfold s_child; (try dsimp only); (repeat (first | rw [if_pos (by omega)] | rw [if_neg (by omega)])) <;> (first | rfl | skip)) ⟨YT, J, (by unfold s_child; (try dsimp only); (repeat (first | rw [if_pos (by omega)] | rw [if_neg (by omega)])) <;> (first | rfl | skip))⟩
    · try simp only [decide_eq_true_eq, decide_eq_false_iff_not] at c11
      refine r_aload_n (i := 0) hG dX6_child_14 rfl rfl ?_
      refine r_iconst hG dX6_child_15 ?_
      refine r_callVi hG (c_X6_finding (g_l G) (g_D G) a (Z) (K) (R) (C) (YT) (J) 0 (by omega))  gX6_child_X6_finding rfl hyX6_finding rfl (by decide) (by decide) 0 rfl rfl rfl (Nat.le_of_ble_eq_true rfl) ⟨Nat.zero_le _, Nat.zero_le _⟩ dX6_child_16 (fun w hw => ?_)
      subst hw
      exact r_iret hG hE dX6_child_19 (by unfold s_child; (try dsimp only); (repeat (first | rw [if_pos (by omega)] | rw [if_neg (by omega)])) <;> (first | rfl | skip)) ⟨YT, J, (by unfold s_child; (try dsimp only); (repeat (first | rw [if_pos (by omega)] | rw [if_neg (by omega)])) <;> (first | rfl | skip))⟩
theorem kX6_of_10 : Cond.fieldLink RX6 10 "BreakSwaps" "live" "LBreakSwaps$Yard;" ∈ wsX6_of := List.mem_of_getElem? (i := 1) rfl
theorem kX6_of_107 : Cond.fieldLink RX6 107 "BreakSwaps$Yard" "kinds" "[I" ∈ wsX6_of := List.mem_of_getElem? (i := 2) rfl
theorem kX6_of_110 : Cond.fieldLink RX6 110 "BreakSwaps$Yard" "has" "[I" ∈ wsX6_of := List.mem_of_getElem? (i := 3) rfl
theorem kX6_of_113 : Cond.fieldLink RX6 113 "BreakSwaps$Yard" "swapped" "[I" ∈ wsX6_of := List.mem_of_getElem? (i := 4) rfl
theorem kX6_of_116 : Cond.fieldLink RX6 116 "BreakSwaps$Yard" "trusts" "[I" ∈ wsX6_of := List.mem_of_getElem? (i := 5) rfl
theorem kX6_of_68 : Cond.fieldLink RX6 68 "BreakSwaps$Yard" "round" "I" ∈ wsX6_of := List.mem_of_getElem? (i := 6) rfl
theorem cX6_of_X4 : ∀ w ∈ wsX40, w ∈ wsX6_of := fun _ h => List.mem_cons_of_mem _ (List.mem_append_right _ h)
theorem cX6_of_X6 : ∀ w ∈ wsX60, w ∈ wsX6_of := fun _ h => List.mem_cons_of_mem _ (List.mem_append_left _ (List.mem_append_right _ h))
theorem hyX6_of : hyV yX6_of RX6 2 := by decide +kernel
set_option maxHeartbeats 4000000 in
set_option maxRecDepth 100000 in
theorem c_X6_of (l : Launch) (D : va_G) (a : Nat → Nat) (Z K R : YS) (C : Int → Int64) (YT : YS) (J : Nat → Int) (hT : TI (Z, K, R, C)) (c w : Int) (hc : -2147483648 ≤ c ∧ c < 2147483648) (hw : -2147483648 ≤ w ∧ w < 2147483648) : Con l yX6_of wsX6_of 4 D (bw D a Z K R C YT J) [.ref (a 0), .int (iI c), .int (iI w)] (some (.int (iI ((s_of (Z, K, R, C) c w).1)))) (fun ww => ∃ Y2 J2, ww = bwT D a (s_of (Z, K, R, C) c w).2 Y2 J2) := by
  refine con_start (own := RX6) (by decide) rfl rfl (Nat.le_of_ble_eq_true rfl) ?_
  intro G hG hE hl hD
  subst hl
  subst hD
  have hI : Inv Z := hT.1.1
  have hH : Hol Z := hT.1.2.1
  have hN := hI.1
  have hr0 := hI.2.1
  have hu5 := hI.2.2.1
  have hrd : Z 5 0 ≤ 99999 := hT.1.2.2
  refine r_aload_n (i := 0) hG dX6_of_0 rfl rfl ?_
  refine r_iload_n (i := 1) hG dX6_of_1 rfl rfl ?_
  refine r_callVi hG (c_X6_isThere (g_l G) (g_D G) a Z K R C YT J hI _ (by omega))  gX6_of_X6_isThere rfl hyX6_isThere rfl (by decide) (by decide) 0 rfl rfl rfl (Nat.le_of_ble_eq_true rfl) ⟨Nat.zero_le _, Nat.zero_le _⟩ dX6_of_2 (fun w hw => ?_)
  subst hw
  refine rb_if_ne (tgt := 14) hG dX6_of_5 (by decide) (fun c5 => ?_) (fun c5 => ?_)
  · try simp only [decide_eq_true_eq, decide_eq_false_iff_not] at c5
    refine r_iload_n (i := 2) hG dX6_of_14 rfl rfl ?_
    rcases (show w = 0 ∨ w = 1 ∨ w = 2 ∨ w = 3 ∨ w = 4 ∨ w = 5 ∨ w = 6 ∨ (w < 0 ∨ 6 < w) by omega) with c15 | c15 | c15 | c15 | c15 | c15 | c15 | c15
    · refine r_tsIn (tgt := 56) hG 0 c15 dX6_of_15 (by omega) rfl (by decide) ?_
      refine r_aload_n (i := 0) hG dX6_of_56 rfl rfl ?_
      refine r_get hG cX6_of_X6 0 0 rfl rfl (by decide) kX6_of_10 rfl dX6_of_57 ?_
      refine r_get hG cX6_of_X4 2 3 rfl rfl (by decide) kX6_of_107 rfl dX6_of_60 ?_
      refine r_iload_n (i := 1) hG dX6_of_63 rfl rfl ?_
      refine r_iald hG 3 rfl (by omega) (by decide) dX6_of_64 ?_
      exact r_iret hG hE dX6_of_65 (by unfold s_of; (try dsimp only); (repeat (first | rw [if_pos (by omega)] | rw [if_neg (by omega)])) <;> (first | rfl | skip)) ⟨YT, J, (by unfold s_of; (try dsimp only); (repeat (first | rw [if_pos (by omega)] | rw [if_neg (by omega)])) <;> (first | rfl | skip))⟩
    · refine r_tsIn (tgt := 66) hG 1 c15 dX6_of_15 (by omega) rfl (by decide) ?_
      refine r_aload_n (i := 0) hG dX6_of_66 rfl rfl ?_
      refine r_get hG cX6_of_X6 0 0 rfl rfl (by decide) kX6_of_10 rfl dX6_of_67 ?_
      refine r_get hG cX6_of_X4 2 4 rfl rfl (by decide) kX6_of_110 rfl dX6_of_70 ?_
      refine r_iload_n (i := 1) hG dX6_of_73 rfl rfl ?_
      refine r_iald hG 4 rfl (by omega) (by decide) dX6_of_74 ?_
      exact r_iret hG hE dX6_of_75 (by unfold s_of; (try dsimp only); (repeat (first | rw [if_pos (by omega)] | rw [if_neg (by omega)])) <;> (first | rfl | skip)) ⟨YT, J, (by unfold s_of; (try dsimp only); (repeat (first | rw [if_pos (by omega)] | rw [if_neg (by omega)])) <;> (first | rfl | skip))⟩
    · refine r_tsIn (tgt := 76) hG 2 c15 dX6_of_15 (by omega) rfl (by decide) ?_
      refine r_aload_n (i := 0) hG dX6_of_76 rfl rfl ?_
      refine r_get hG cX6_of_X6 0 0 rfl rfl (by decide) kX6_of_10 rfl dX6_of_77 ?_
      refine r_get hG cX6_of_X4 2 5 rfl rfl (by decide) kX6_of_113 rfl dX6_of_80 ?_
      refine r_iload_n (i := 1) hG dX6_of_83 rfl rfl ?_
      refine r_iald hG 5 rfl (by omega) (by decide) dX6_of_84 ?_
      exact r_iret hG hE dX6_of_85 (by unfold s_of; (try dsimp only); (repeat (first | rw [if_pos (by omega)] | rw [if_neg (by omega)])) <;> (first | rfl | skip)) ⟨YT, J, (by unfold s_of; (try dsimp only); (repeat (first | rw [if_pos (by omega)] | rw [if_neg (by omega)])) <;> (first | rfl | skip))⟩
    · refine r_tsIn (tgt := 86) hG 3 c15 dX6_of_15 (by omega) rfl (by decide) ?_
      refine r_aload_n (i := 0) hG dX6_of_86 rfl rfl ?_
      refine r_get hG cX6_of_X6 0 0 rfl rfl (by decide) kX6_of_10 rfl dX6_of_87 ?_
      refine r_get hG cX6_of_X4 2 6 rfl rfl (by decide) kX6_of_116 rfl dX6_of_90 ?_
      refine r_iload_n (i := 1) hG dX6_of_93 rfl rfl ?_
      refine r_iald hG 6 rfl (by omega) (by decide) dX6_of_94 ?_
      exact r_iret hG hE dX6_of_95 (by unfold s_of; (try dsimp only); (repeat (first | rw [if_pos (by omega)] | rw [if_neg (by omega)])) <;> (first | rfl | skip)) ⟨YT, J, (by unfold s_of; (try dsimp only); (repeat (first | rw [if_pos (by omega)] | rw [if_neg (by omega)])) <;> (first | rfl | skip))⟩
    · refine r_tsIn (tgt := 96) hG 4 c15 dX6_of_15 (by omega) rfl (by decide) ?_
      refine r_aload_n (i := 0) hG dX6_of_96 rfl rfl ?_
      refine r_get hG cX6_of_X6 0 0 rfl rfl (by decide) kX6_of_10 rfl dX6_of_97 ?_
      refine r_iload_n (i := 1) hG dX6_of_100 rfl rfl ?_
      refine r_midi hG (c_X4_gladOf (g_l G) (g_D G) (fun i => a (2 + i)) (Z) ((J) 0) ((J) 1) ((J) 2) hI hH _ (by omega)) (bobj (g_D G) a (R)) (yw (g_D G) (fun i => a (10 + i)) (K) ((J) 3) ((J) 4) ((J) 5) ++ (yw (g_D G) (fun i => a (18 + i)) (YT) ((J) 6) ((J) 7) ((J) 8) ++ (bestw (a 26) ((J) 9) ((J) 10) ++ (btxt (g_D G) a (R) (J) ++ bshs (g_D G) a (R) (C))))) rfl gX6_of_X4_gladOf rfl hyX4_gladOf rfl (by decide) (by decide) 0 rfl rfl rfl (Nat.le_of_ble_eq_true rfl) ⟨Nat.zero_le _, Nat.zero_le _⟩ dX6_of_101 ?_
      intro w hw
      subst hw
      refine V_ws (ws' := bw (g_D G) a (Z) (K) (R) (C) (YT) (J)) rfl ?_
      exact r_iret hG hE dX6_of_104 (by unfold s_of; (try dsimp only); (repeat (first | rw [if_pos (by omega)] | rw [if_neg (by omega)])) <;> (first | rfl | skip)) ⟨YT, J, (by unfold s_of; (try dsimp only); (repeat (first | rw [if_pos (by omega)] | rw [if_neg (by omega)])) <;> (first | rfl | skip))⟩
    · refine r_tsIn (tgt := 105) hG 5 c15 dX6_of_15 (by omega) rfl (by decide) ?_
      refine r_aload_n (i := 0) hG dX6_of_105 rfl rfl ?_
      refine r_get hG cX6_of_X6 0 0 rfl rfl (by decide) kX6_of_10 rfl dX6_of_106 ?_
      refine r_get hG cX6_of_X4 2 3 rfl rfl (by decide) kX6_of_107 rfl dX6_of_109 ?_
      refine r_iload_n (i := 1) hG dX6_of_112 rfl rfl ?_
      refine r_iald hG 3 rfl (by omega) (by decide) dX6_of_113 ?_
      refine r_aload_n (i := 0) hG dX6_of_114 rfl rfl ?_
      refine r_get hG cX6_of_X6 0 0 rfl rfl (by decide) kX6_of_10 rfl dX6_of_115 ?_
      refine r_get hG cX6_of_X4 2 0 rfl rfl (by decide) kX6_of_68 rfl dX6_of_118 ?_
      refine r_call0i hG (c_X1_asksOf (g_l G) (g_D G) _ _ (by have := Inv_c hI (c := c) (by omega); omega) (by omega))  gX6_of_X1_asksOf rfl hyX1_asksOf rfl (by decide) (by decide) rfl (Nat.le_of_ble_eq_true rfl) ⟨Nat.zero_le _, Nat.zero_le _⟩ dX6_of_121 ?_
      exact r_iret hG hE dX6_of_124 (by unfold s_of; (try dsimp only); (repeat (first | rw [if_pos (by omega)] | rw [if_neg (by omega)])) <;> (first | rfl | skip)) ⟨YT, J, (by unfold s_of; (try dsimp only); (repeat (first | rw [if_pos (by omega)] | rw [if_neg (by omega)])) <;> (first | rfl | skip))⟩
    · refine r_tsIn (tgt := 125) hG 6 c15 dX6_of_15 (by omega) rfl (by decide) ?_
      refine r_aload_n (i := 0) hG dX6_of_125 rfl rfl ?_
      refine r_get hG cX6_of_X6 0 0 rfl rfl (by decide) kX6_of_10 rfl dX6_of_126 ?_
      refine r_get hG cX6_of_X4 2 3 rfl rfl (by decide) kX6_of_107 rfl dX6_of_129 ?_
      refine r_iload_n (i := 1) hG dX6_of_132 rfl rfl ?_
      refine r_iald hG 3 rfl (by omega) (by decide) dX6_of_133 ?_
      refine r_call0i hG (c_X1_losesOf (g_l G) (g_D G) _ (by have := Inv_c hI (c := c) (by omega); omega))  gX6_of_X1_losesOf rfl hyX1_losesOf rfl (by decide) (by decide) rfl (Nat.le_of_ble_eq_true rfl) ⟨Nat.zero_le _, Nat.zero_le _⟩ dX6_of_134 ?_
      exact r_iret hG hE dX6_of_137 (by unfold s_of; (try dsimp only); (repeat (first | rw [if_pos (by omega)] | rw [if_neg (by omega)])) <;> (first | rfl | skip)) ⟨YT, J, (by unfold s_of; (try dsimp only); (repeat (first | rw [if_pos (by omega)] | rw [if_neg (by omega)])) <;> (first | rfl | skip))⟩
    · refine r_tsOut (tgt := 138) hG (by omega) dX6_of_15 c15 (by decide) ?_
      refine r_aload_n (i := 0) hG dX6_of_138 rfl rfl ?_
      refine r_iconst hG dX6_of_139 ?_
      refine r_callVi hG (c_X6_finding (g_l G) (g_D G) a (Z) (K) (R) (C) (YT) (J) 0 (by omega))  gX6_of_X6_finding rfl hyX6_finding rfl (by decide) (by decide) 0 rfl rfl rfl (Nat.le_of_ble_eq_true rfl) ⟨Nat.zero_le _, Nat.zero_le _⟩ dX6_of_140 (fun w hw => ?_)
      subst hw
      exact r_iret hG hE dX6_of_143 (by unfold s_of; (try dsimp only); (repeat (first | rw [if_pos (by omega)] | rw [if_neg (by omega)])) <;> (first | rfl | skip)) ⟨YT, J, (by unfold s_of; (try dsimp only); (repeat (first | rw [if_pos (by omega)] | rw [if_neg (by omega)])) <;> (first | rfl | skip))⟩
  · try simp only [decide_eq_true_eq, decide_eq_false_iff_not] at c5
    refine r_aload_n (i := 0) hG dX6_of_8 rfl rfl ?_
    refine r_iconst hG dX6_of_9 ?_
    refine r_callVi hG (c_X6_finding (g_l G) (g_D G) a (Z) (K) (R) (C) (YT) (J) 0 (by omega))  gX6_of_X6_finding rfl hyX6_finding rfl (by decide) (by decide) 0 rfl rfl rfl (Nat.le_of_ble_eq_true rfl) ⟨Nat.zero_le _, Nat.zero_le _⟩ dX6_of_10 (fun w hw => ?_)
    subst hw
    exact r_iret hG hE dX6_of_13 (by unfold s_of; (try dsimp only); (repeat (first | rw [if_pos (by omega)] | rw [if_neg (by omega)])) <;> (first | rfl | skip)) ⟨YT, J, (by unfold s_of; (try dsimp only); (repeat (first | rw [if_pos (by omega)] | rw [if_neg (by omega)])) <;> (first | rfl | skip))⟩
theorem kX6_set_10 : Cond.fieldLink RX6 10 "BreakSwaps" "live" "LBreakSwaps$Yard;" ∈ wsX6_set := List.mem_of_getElem? (i := 1) rfl
theorem kX6_set_110 : Cond.fieldLink RX6 110 "BreakSwaps$Yard" "has" "[I" ∈ wsX6_set := List.mem_of_getElem? (i := 2) rfl
theorem kX6_set_113 : Cond.fieldLink RX6 113 "BreakSwaps$Yard" "swapped" "[I" ∈ wsX6_set := List.mem_of_getElem? (i := 3) rfl
theorem kX6_set_116 : Cond.fieldLink RX6 116 "BreakSwaps$Yard" "trusts" "[I" ∈ wsX6_set := List.mem_of_getElem? (i := 4) rfl
theorem cX6_set_X4 : ∀ w ∈ wsX40, w ∈ wsX6_set := fun _ h => List.mem_cons_of_mem _ (List.mem_append_right _ h)
theorem cX6_set_X6 : ∀ w ∈ wsX60, w ∈ wsX6_set := fun _ h => List.mem_cons_of_mem _ (List.mem_append_left _ (List.mem_append_right _ h))
theorem hyX6_set : hyV yX6_set RX6 3 := by decide +kernel
set_option maxHeartbeats 4000000 in
set_option maxRecDepth 100000 in
theorem c_X6_set (l : Launch) (D : va_G) (a : Nat → Nat) (Z K R : YS) (C : Int → Int64) (YT : YS) (J : Nat → Int) (hT : TI (Z, K, R, C)) (c w v : Int) (hc : -2147483648 ≤ c ∧ c < 2147483648) (hw : -2147483648 ≤ w ∧ w < 2147483648) (hv : -2147483648 ≤ v ∧ v < 2147483648) : Con l yX6_set wsX6_set 3 D (bw D a Z K R C YT J) [.ref (a 0), .int (iI c), .int (iI w), .int (iI v)] (some (.int (iI ((s_set (Z, K, R, C) c w v).1)))) (fun ww => ∃ Y2 J2, ww = bwT D a (s_set (Z, K, R, C) c w v).2 Y2 J2) := by
  refine con_start (own := RX6) (by decide) rfl rfl (Nat.le_of_ble_eq_true rfl) ?_
  intro G hG hE hl hD
  subst hl
  subst hD
  have hI : Inv Z := hT.1.1
  have hH : Hol Z := hT.1.2.1
  have hN := hI.1
  have hr0 := hI.2.1
  have hu5 := hI.2.2.1
  have hrd : Z 5 0 ≤ 99999 := hT.1.2.2
  have hM : 0 ≤ mostK w ∧ mostK w ≤ 9999 := by unfold mostK; (repeat' split) <;> omega
  have h1 := @mostK_1 w
  have h2 := @mostK_2 w
  refine r_aload_n (i := 0) hG dX6_set_0 rfl rfl ?_
  refine r_iload_n (i := 1) hG dX6_set_1 rfl rfl ?_
  refine r_callVi hG (c_X6_isThere (g_l G) (g_D G) a Z K R C YT J hI _ (by omega))  gX6_set_X6_isThere rfl hyX6_isThere rfl (by decide) (by decide) 0 rfl rfl rfl (Nat.le_of_ble_eq_true rfl) ⟨Nat.zero_le _, Nat.zero_le _⟩ dX6_set_2 (fun w hw => ?_)
  subst hw
  refine rb_if_eq (tgt := 29) hG dX6_set_5 (by decide) (fun c5 => ?_) (fun c5 => ?_)
  · try simp only [decide_eq_true_eq, decide_eq_false_iff_not] at c5
    refine r_aload_n (i := 0) hG dX6_set_29 rfl rfl ?_
    refine r_iconst hG dX6_set_30 ?_
    refine r_callVi hG (c_X6_finding (g_l G) (g_D G) a (Z) (K) (R) (C) (YT) (J) 0 (by omega))  gX6_set_X6_finding rfl hyX6_finding rfl (by decide) (by decide) 0 rfl rfl rfl (Nat.le_of_ble_eq_true rfl) ⟨Nat.zero_le _, Nat.zero_le _⟩ dX6_set_31 (fun w hw => ?_)
    subst hw
    exact r_iret hG hE dX6_set_34 (by unfold s_set; (try dsimp only); (repeat (first | rw [if_pos (by omega)] | rw [if_neg (by omega)])) <;> (first | rfl | skip)) ⟨YT, J, (by unfold s_set; (try dsimp only); (repeat (first | rw [if_pos (by omega)] | rw [if_neg (by omega)])) <;> (first | rfl | skip))⟩
  · try simp only [decide_eq_true_eq, decide_eq_false_iff_not] at c5
    refine r_iload_n (i := 2) hG dX6_set_8 rfl rfl ?_
    refine r_iconst hG dX6_set_9 ?_
    refine r_iconst hG dX6_set_10 ?_
    refine r_call0i hG (c_X6_isWithin (g_l G) (g_D G) _ _ _ (by omega) (by omega) (by omega))  gX6_set_X6_isWithin rfl hyX6_isWithin rfl (by decide) (by decide) rfl (Nat.le_of_ble_eq_true rfl) ⟨Nat.zero_le _, Nat.zero_le _⟩ dX6_set_11 ?_
    refine rb_if_eq (tgt := 29) hG dX6_set_14 (by decide) (fun c14 => ?_) (fun c14 => ?_)
    · try simp only [decide_eq_true_eq, decide_eq_false_iff_not] at c14
      refine r_aload_n (i := 0) hG dX6_set_29 rfl rfl ?_
      refine r_iconst hG dX6_set_30 ?_
      refine r_callVi hG (c_X6_finding (g_l G) (g_D G) a (Z) (K) (R) (C) (YT) (J) 0 (by omega))  gX6_set_X6_finding rfl hyX6_finding rfl (by decide) (by decide) 0 rfl rfl rfl (Nat.le_of_ble_eq_true rfl) ⟨Nat.zero_le _, Nat.zero_le _⟩ dX6_set_31 (fun w hw => ?_)
      subst hw
      exact r_iret hG hE dX6_set_34 (by unfold s_set; (try dsimp only); (repeat (first | rw [if_pos (by omega)] | rw [if_neg (by omega)])) <;> (first | rfl | skip)) ⟨YT, J, (by unfold s_set; (try dsimp only); (repeat (first | rw [if_pos (by omega)] | rw [if_neg (by omega)])) <;> (first | rfl | skip))⟩
    · try simp only [decide_eq_true_eq, decide_eq_false_iff_not] at c14
      refine r_iload_n (i := 3) hG dX6_set_17 rfl rfl ?_
      refine r_iconst hG dX6_set_18 ?_
      refine r_iload_n (i := 2) hG dX6_set_19 rfl rfl ?_
      refine r_call0i hG (c_X6_mostOf (g_l G) (g_D G) _ (by omega))  gX6_set_X6_mostOf rfl hyX6_mostOf rfl (by decide) (by decide) rfl (Nat.le_of_ble_eq_true rfl) ⟨Nat.zero_le _, Nat.zero_le _⟩ dX6_set_20 ?_
      refine r_call0i hG (c_X6_isWithin (g_l G) (g_D G) _ _ _ (by omega) (by omega) (by omega))  gX6_set_X6_isWithin rfl hyX6_isWithin rfl (by decide) (by decide) rfl (Nat.le_of_ble_eq_true rfl) ⟨Nat.zero_le _, Nat.zero_le _⟩ dX6_set_23 ?_
      refine rb_if_ne (tgt := 35) hG dX6_set_26 (by decide) (fun c26 => ?_) (fun c26 => ?_)
      · try simp only [decide_eq_true_eq, decide_eq_false_iff_not] at c26
        refine r_iload_n (i := 2) hG dX6_set_35 rfl rfl ?_
        refine r_iconst hG dX6_set_36 ?_
        refine r_icmp_ne (tgt := 63) hG (by omega) (by omega) dX6_set_37 (by decide) (fun c37 => ?_) (fun c37 => ?_)
        · refine r_iload_n (i := 2) hG dX6_set_63 rfl rfl ?_
          refine r_iconst hG dX6_set_64 ?_
          refine r_icmp_ne (tgt := 92) hG (by omega) (by omega) dX6_set_65 (by decide) (fun c65 => ?_) (fun c65 => ?_)
          · refine r_aload_n (i := 0) hG dX6_set_92 rfl rfl ?_
            refine r_get hG cX6_set_X6 0 0 rfl rfl (by decide) kX6_set_10 rfl dX6_set_93 ?_
            refine r_get hG cX6_set_X4 2 6 rfl rfl (by decide) kX6_set_116 rfl dX6_set_96 ?_
            refine r_iload_n (i := 1) hG dX6_set_99 rfl rfl ?_
            refine r_iald hG 6 rfl (by omega) (by decide) dX6_set_100 ?_
            refine r_istore hG dX6_set_101 (by decide) rfl ?_
            refine r_aload_n (i := 0) hG dX6_set_103 rfl rfl ?_
            refine r_get hG cX6_set_X6 0 0 rfl rfl (by decide) kX6_set_10 rfl dX6_set_104 ?_
            refine r_get hG cX6_set_X4 2 6 rfl rfl (by decide) kX6_set_116 rfl dX6_set_107 ?_
            refine r_iload_n (i := 1) hG dX6_set_110 rfl rfl ?_
            refine r_iload_n (i := 3) hG dX6_set_111 rfl rfl ?_
            refine r_iast hG 6 rfl (by omega) (by decide) dX6_set_112 rfl ?_
            refine r_iload hG dX6_set_113 rfl ?_
            exact r_iret hG hE dX6_set_115 (by unfold s_set; (try dsimp only); (repeat (first | rw [if_pos (by omega)] | rw [if_neg (by omega)])) <;> (first | rfl | skip)) ⟨YT, J, (by unfold s_set; (try dsimp only); (repeat (first | rw [if_pos (by omega)] | rw [if_neg (by omega)])) <;> (first | rfl | skip))⟩
          · refine r_aload_n (i := 0) hG dX6_set_68 rfl rfl ?_
            refine r_get hG cX6_set_X6 0 0 rfl rfl (by decide) kX6_set_10 rfl dX6_set_69 ?_
            refine r_get hG cX6_set_X4 2 5 rfl rfl (by decide) kX6_set_113 rfl dX6_set_72 ?_
            refine r_iload_n (i := 1) hG dX6_set_75 rfl rfl ?_
            refine r_iald hG 5 rfl (by omega) (by decide) dX6_set_76 ?_
            refine r_istore hG dX6_set_77 (by decide) rfl ?_
            refine r_aload_n (i := 0) hG dX6_set_79 rfl rfl ?_
            refine r_get hG cX6_set_X6 0 0 rfl rfl (by decide) kX6_set_10 rfl dX6_set_80 ?_
            refine r_get hG cX6_set_X4 2 5 rfl rfl (by decide) kX6_set_113 rfl dX6_set_83 ?_
            refine r_iload_n (i := 1) hG dX6_set_86 rfl rfl ?_
            refine r_iload_n (i := 3) hG dX6_set_87 rfl rfl ?_
            refine r_iast hG 5 rfl (by omega) (by decide) dX6_set_88 rfl ?_
            refine r_goto (tgt := 113) hG dX6_set_89 (by decide) ?_
            refine r_iload hG dX6_set_113 rfl ?_
            exact r_iret hG hE dX6_set_115 (by unfold s_set; (try dsimp only); (repeat (first | rw [if_pos (by omega)] | rw [if_neg (by omega)])) <;> (first | rfl | skip)) ⟨YT, J, (by unfold s_set; (try dsimp only); (repeat (first | rw [if_pos (by omega)] | rw [if_neg (by omega)])) <;> (first | rfl | skip))⟩
        · refine r_aload_n (i := 0) hG dX6_set_40 rfl rfl ?_
          refine r_get hG cX6_set_X6 0 0 rfl rfl (by decide) kX6_set_10 rfl dX6_set_41 ?_
          refine r_get hG cX6_set_X4 2 4 rfl rfl (by decide) kX6_set_110 rfl dX6_set_44 ?_
          refine r_iload_n (i := 1) hG dX6_set_47 rfl rfl ?_
          refine r_iald hG 4 rfl (by omega) (by decide) dX6_set_48 ?_
          refine r_istore hG dX6_set_49 (by decide) rfl ?_
          refine r_aload_n (i := 0) hG dX6_set_51 rfl rfl ?_
          refine r_get hG cX6_set_X6 0 0 rfl rfl (by decide) kX6_set_10 rfl dX6_set_52 ?_
          refine r_iload_n (i := 1) hG dX6_set_55 rfl rfl ?_
          refine r_iload_n (i := 3) hG dX6_set_56 rfl rfl ?_
          refine r_midv hG (c_X4_give (g_l G) (g_D G) (fun i => a (2 + i)) (Z) ((J) 0) ((J) 1) ((J) 2) hI _ _ (by omega) (by have := h1 (by omega); omega)) (bobj (g_D G) a (R)) (yw (g_D G) (fun i => a (10 + i)) (K) ((J) 3) ((J) 4) ((J) 5) ++ (yw (g_D G) (fun i => a (18 + i)) (YT) ((J) 6) ((J) 7) ((J) 8) ++ (bestw (a 26) ((J) 9) ((J) 10) ++ (btxt (g_D G) a (R) (J) ++ bshs (g_D G) a (R) (C))))) rfl gX6_set_X4_give rfl hyX4_give rfl (by decide) (by decide) 0 rfl rfl rfl (Nat.le_of_ble_eq_true rfl) ⟨Nat.zero_le _, Nat.zero_le _⟩ dX6_set_57 ?_
          intro w hw
          subst hw
          refine V_ws (ws' := bw (g_D G) a (giveY Z c v) (K) (R) (C) (YT) (J)) rfl ?_
          refine r_goto (tgt := 113) hG dX6_set_60 (by decide) ?_
          refine r_iload hG dX6_set_113 rfl ?_
          exact r_iret hG hE dX6_set_115 (by unfold s_set; (try dsimp only); (repeat (first | rw [if_pos (by omega)] | rw [if_neg (by omega)])) <;> (first | rfl | skip)) ⟨YT, J, (by unfold s_set; (try dsimp only); (repeat (first | rw [if_pos (by omega)] | rw [if_neg (by omega)])) <;> (first | rfl | skip))⟩
      · try simp only [decide_eq_true_eq, decide_eq_false_iff_not] at c26
        refine r_aload_n (i := 0) hG dX6_set_29 rfl rfl ?_
        refine r_iconst hG dX6_set_30 ?_
        refine r_callVi hG (c_X6_finding (g_l G) (g_D G) a (Z) (K) (R) (C) (YT) (J) 0 (by omega))  gX6_set_X6_finding rfl hyX6_finding rfl (by decide) (by decide) 0 rfl rfl rfl (Nat.le_of_ble_eq_true rfl) ⟨Nat.zero_le _, Nat.zero_le _⟩ dX6_set_31 (fun w hw => ?_)
        subst hw
        exact r_iret hG hE dX6_set_34 (by unfold s_set; (try dsimp only); (repeat (first | rw [if_pos (by omega)] | rw [if_neg (by omega)])) <;> (first | rfl | skip)) ⟨YT, J, (by unfold s_set; (try dsimp only); (repeat (first | rw [if_pos (by omega)] | rw [if_neg (by omega)])) <;> (first | rfl | skip))⟩
theorem kX6_likes_10 : Cond.fieldLink RX6 10 "BreakSwaps" "live" "LBreakSwaps$Yard;" ∈ wsX6_likes := List.mem_of_getElem? (i := 1) rfl
theorem cX6_likes_X6 : ∀ w ∈ wsX60, w ∈ wsX6_likes := fun _ h => List.mem_cons_of_mem _ (List.mem_append_left _ (List.mem_append_right _ h))
theorem hyX6_likes : hyV yX6_likes RX6 3 := by decide +kernel
set_option maxHeartbeats 4000000 in
set_option maxRecDepth 100000 in
theorem c_X6_likes (l : Launch) (D : va_G) (a : Nat → Nat) (Z K R : YS) (C : Int → Int64) (YT : YS) (J : Nat → Int) (hT : TI (Z, K, R, C)) (c t v : Int) (hc : -2147483648 ≤ c ∧ c < 2147483648) (ht : -2147483648 ≤ t ∧ t < 2147483648) (hv : -2147483648 ≤ v ∧ v < 2147483648) : Con l yX6_likes wsX6_likes 3 D (bw D a Z K R C YT J) [.ref (a 0), .int (iI c), .int (iI t), .int (iI v)] (some (.int (iI ((s_likes (Z, K, R, C) c t v).1)))) (fun ww => ∃ Y2 J2, ww = bwT D a (s_likes (Z, K, R, C) c t v).2 Y2 J2) := by
  refine con_start (own := RX6) (by decide) rfl rfl (Nat.le_of_ble_eq_true rfl) ?_
  intro G hG hE hl hD
  subst hl
  subst hD
  have hI : Inv Z := hT.1.1
  have hH : Hol Z := hT.1.2.1
  have hN := hI.1
  have hr0 := hI.2.1
  have hu5 := hI.2.2.1
  have hrd : Z 5 0 ≤ 99999 := hT.1.2.2
  refine r_aload_n (i := 0) hG dX6_likes_0 rfl rfl ?_
  refine r_iload_n (i := 1) hG dX6_likes_1 rfl rfl ?_
  refine r_callVi hG (c_X6_isThere (g_l G) (g_D G) a Z K R C YT J hI _ (by omega))  gX6_likes_X6_isThere rfl hyX6_isThere rfl (by decide) (by decide) 0 rfl rfl rfl (Nat.le_of_ble_eq_true rfl) ⟨Nat.zero_le _, Nat.zero_le _⟩ dX6_likes_2 (fun w hw => ?_)
  subst hw
  refine rb_if_eq (tgt := 25) hG dX6_likes_5 (by decide) (fun c5 => ?_) (fun c5 => ?_)
  · try simp only [decide_eq_true_eq, decide_eq_false_iff_not] at c5
    refine r_aload_n (i := 0) hG dX6_likes_25 rfl rfl ?_
    refine r_iconst hG dX6_likes_26 ?_
    refine r_callVi hG (c_X6_finding (g_l G) (g_D G) a (Z) (K) (R) (C) (YT) (J) 0 (by omega))  gX6_likes_X6_finding rfl hyX6_finding rfl (by decide) (by decide) 0 rfl rfl rfl (Nat.le_of_ble_eq_true rfl) ⟨Nat.zero_le _, Nat.zero_le _⟩ dX6_likes_27 (fun w hw => ?_)
    subst hw
    exact r_iret hG hE dX6_likes_30 (by unfold s_likes; (try dsimp only); (repeat (first | rw [if_pos (by omega)] | rw [if_neg (by omega)])) <;> (first | rfl | skip)) ⟨YT, J, (by unfold s_likes; (try dsimp only); (repeat (first | rw [if_pos (by omega)] | rw [if_neg (by omega)])) <;> (first | rfl | skip))⟩
  · try simp only [decide_eq_true_eq, decide_eq_false_iff_not] at c5
    refine r_iload_n (i := 2) hG dX6_likes_8 rfl rfl ?_
    refine r_call0i hG (c_X6_isThing (g_l G) (g_D G) _ (by omega))  gX6_likes_X6_isThing rfl hyX6_isThing rfl (by decide) (by decide) rfl (Nat.le_of_ble_eq_true rfl) ⟨Nat.zero_le _, Nat.zero_le _⟩ dX6_likes_9 ?_
    refine rb_if_eq (tgt := 25) hG dX6_likes_12 (by decide) (fun c12 => ?_) (fun c12 => ?_)
    · try simp only [decide_eq_true_eq, decide_eq_false_iff_not] at c12
      refine r_aload_n (i := 0) hG dX6_likes_25 rfl rfl ?_
      refine r_iconst hG dX6_likes_26 ?_
      refine r_callVi hG (c_X6_finding (g_l G) (g_D G) a (Z) (K) (R) (C) (YT) (J) 0 (by omega))  gX6_likes_X6_finding rfl hyX6_finding rfl (by decide) (by decide) 0 rfl rfl rfl (Nat.le_of_ble_eq_true rfl) ⟨Nat.zero_le _, Nat.zero_le _⟩ dX6_likes_27 (fun w hw => ?_)
      subst hw
      exact r_iret hG hE dX6_likes_30 (by unfold s_likes; (try dsimp only); (repeat (first | rw [if_pos (by omega)] | rw [if_neg (by omega)])) <;> (first | rfl | skip)) ⟨YT, J, (by unfold s_likes; (try dsimp only); (repeat (first | rw [if_pos (by omega)] | rw [if_neg (by omega)])) <;> (first | rfl | skip))⟩
    · try simp only [decide_eq_true_eq, decide_eq_false_iff_not] at c12
      refine r_iload_n (i := 3) hG dX6_likes_15 rfl rfl ?_
      refine r_iconst hG dX6_likes_16 ?_
      refine r_bipush hG dX6_likes_17 rfl ?_
      refine r_call0i hG (c_X6_isWithin (g_l G) (g_D G) _ _ _ (by omega) (by omega) (by omega))  gX6_likes_X6_isWithin rfl hyX6_isWithin rfl (by decide) (by decide) rfl (Nat.le_of_ble_eq_true rfl) ⟨Nat.zero_le _, Nat.zero_le _⟩ dX6_likes_19 ?_
      refine rb_if_ne (tgt := 31) hG dX6_likes_22 (by decide) (fun c22 => ?_) (fun c22 => ?_)
      · try simp only [decide_eq_true_eq, decide_eq_false_iff_not] at c22
        refine r_aload_n (i := 0) hG dX6_likes_31 rfl rfl ?_
        refine r_get hG cX6_likes_X6 0 0 rfl rfl (by decide) kX6_likes_10 rfl dX6_likes_32 ?_
        refine r_iload_n (i := 1) hG dX6_likes_35 rfl rfl ?_
        refine r_iload_n (i := 2) hG dX6_likes_36 rfl rfl ?_
        refine r_midi hG (c_X4_likedBy (g_l G) (g_D G) (fun i => a (2 + i)) (Z) ((J) 0) ((J) 1) ((J) 2) _ _ (by omega) (by omega)) (bobj (g_D G) a (R)) (yw (g_D G) (fun i => a (10 + i)) (K) ((J) 3) ((J) 4) ((J) 5) ++ (yw (g_D G) (fun i => a (18 + i)) (YT) ((J) 6) ((J) 7) ((J) 8) ++ (bestw (a 26) ((J) 9) ((J) 10) ++ (btxt (g_D G) a (R) (J) ++ bshs (g_D G) a (R) (C))))) rfl gX6_likes_X4_likedBy rfl hyX4_likedBy rfl (by decide) (by decide) 0 rfl rfl rfl (Nat.le_of_ble_eq_true rfl) ⟨Nat.zero_le _, Nat.zero_le _⟩ dX6_likes_37 ?_
        intro w hw
        subst hw
        refine V_ws (ws' := bw (g_D G) a (Z) (K) (R) (C) (YT) (J)) rfl ?_
        refine r_istore hG dX6_likes_40 (by decide) rfl ?_
        refine r_aload_n (i := 0) hG dX6_likes_42 rfl rfl ?_
        refine r_get hG cX6_likes_X6 0 0 rfl rfl (by decide) kX6_likes_10 rfl dX6_likes_43 ?_
        refine r_iload_n (i := 1) hG dX6_likes_46 rfl rfl ?_
        refine r_iload_n (i := 2) hG dX6_likes_47 rfl rfl ?_
        refine r_iload_n (i := 3) hG dX6_likes_48 rfl rfl ?_
        refine r_midv hG (c_X4_makeLike (g_l G) (g_D G) (fun i => a (2 + i)) (Z) ((J) 0) ((J) 1) ((J) 2) _ _ _ (by omega) (by omega)) (bobj (g_D G) a (R)) (yw (g_D G) (fun i => a (10 + i)) (K) ((J) 3) ((J) 4) ((J) 5) ++ (yw (g_D G) (fun i => a (18 + i)) (YT) ((J) 6) ((J) 7) ((J) 8) ++ (bestw (a 26) ((J) 9) ((J) 10) ++ (btxt (g_D G) a (R) (J) ++ bshs (g_D G) a (R) (C))))) rfl gX6_likes_X4_makeLike rfl hyX4_makeLike rfl (by decide) (by decide) 0 rfl rfl rfl (Nat.le_of_ble_eq_true rfl) ⟨Nat.zero_le _, Nat.zero_le _⟩ dX6_likes_49 ?_
        intro w hw
        subst hw
        refine V_ws (ws' := bw (g_D G) a (upY Z 4 (c * 10 + t) v) (K) (R) (C) (YT) (J)) rfl ?_
        refine r_iload hG dX6_likes_52 rfl ?_
        exact r_iret hG hE dX6_likes_54 (by unfold s_likes; (try dsimp only); (repeat (first | rw [if_pos (by omega)] | rw [if_neg (by omega)])) <;> (first | rfl | skip)) ⟨YT, J, (by unfold s_likes; (try dsimp only); (repeat (first | rw [if_pos (by omega)] | rw [if_neg (by omega)])) <;> (first | rfl | skip))⟩
      · try simp only [decide_eq_true_eq, decide_eq_false_iff_not] at c22
        refine r_aload_n (i := 0) hG dX6_likes_25 rfl rfl ?_
        refine r_iconst hG dX6_likes_26 ?_
        refine r_callVi hG (c_X6_finding (g_l G) (g_D G) a (Z) (K) (R) (C) (YT) (J) 0 (by omega))  gX6_likes_X6_finding rfl hyX6_finding rfl (by decide) (by decide) 0 rfl rfl rfl (Nat.le_of_ble_eq_true rfl) ⟨Nat.zero_le _, Nat.zero_le _⟩ dX6_likes_27 (fun w hw => ?_)
        subst hw
        exact r_iret hG hE dX6_likes_30 (by unfold s_likes; (try dsimp only); (repeat (first | rw [if_pos (by omega)] | rw [if_neg (by omega)])) <;> (first | rfl | skip)) ⟨YT, J, (by unfold s_likes; (try dsimp only); (repeat (first | rw [if_pos (by omega)] | rw [if_neg (by omega)])) <;> (first | rfl | skip))⟩
theorem kX6_worth_10 : Cond.fieldLink RX6 10 "BreakSwaps" "live" "LBreakSwaps$Yard;" ∈ wsX6_worth := List.mem_of_getElem? (i := 1) rfl
theorem cX6_worth_X6 : ∀ w ∈ wsX60, w ∈ wsX6_worth := fun _ h => List.mem_cons_of_mem _ (List.mem_append_left _ (List.mem_append_right _ h))
theorem hyX6_worth : hyV yX6_worth RX6 2 := by decide +kernel
set_option maxHeartbeats 4000000 in
set_option maxRecDepth 100000 in
theorem c_X6_worth (l : Launch) (D : va_G) (a : Nat → Nat) (Z K R : YS) (C : Int → Int64) (YT : YS) (J : Nat → Int) (hT : TI (Z, K, R, C)) (c t : Int) (hc : -2147483648 ≤ c ∧ c < 2147483648) (ht : -2147483648 ≤ t ∧ t < 2147483648) : Con l yX6_worth wsX6_worth 4 D (bw D a Z K R C YT J) [.ref (a 0), .int (iI c), .int (iI t)] (some (.int (iI ((s_worth (Z, K, R, C) c t).1)))) (fun ww => ∃ Y2 J2, ww = bwT D a (s_worth (Z, K, R, C) c t).2 Y2 J2) := by
  refine con_start (own := RX6) (by decide) rfl rfl (Nat.le_of_ble_eq_true rfl) ?_
  intro G hG hE hl hD
  subst hl
  subst hD
  have hI : Inv Z := hT.1.1
  have hH : Hol Z := hT.1.2.1
  have hN := hI.1
  have hr0 := hI.2.1
  have hu5 := hI.2.2.1
  have hrd : Z 5 0 ≤ 99999 := hT.1.2.2
  refine r_aload_n (i := 0) hG dX6_worth_0 rfl rfl ?_
  refine r_iload_n (i := 1) hG dX6_worth_1 rfl rfl ?_
  refine r_callVi hG (c_X6_isThere (g_l G) (g_D G) a Z K R C YT J hI _ (by omega))  gX6_worth_X6_isThere rfl hyX6_isThere rfl (by decide) (by decide) 0 rfl rfl rfl (Nat.le_of_ble_eq_true rfl) ⟨Nat.zero_le _, Nat.zero_le _⟩ dX6_worth_2 (fun w hw => ?_)
  subst hw
  refine rb_if_eq (tgt := 15) hG dX6_worth_5 (by decide) (fun c5 => ?_) (fun c5 => ?_)
  · try simp only [decide_eq_true_eq, decide_eq_false_iff_not] at c5
    refine r_aload_n (i := 0) hG dX6_worth_15 rfl rfl ?_
    refine r_iconst hG dX6_worth_16 ?_
    refine r_callVi hG (c_X6_finding (g_l G) (g_D G) a (Z) (K) (R) (C) (YT) (J) 0 (by omega))  gX6_worth_X6_finding rfl hyX6_finding rfl (by decide) (by decide) 0 rfl rfl rfl (Nat.le_of_ble_eq_true rfl) ⟨Nat.zero_le _, Nat.zero_le _⟩ dX6_worth_17 (fun w hw => ?_)
    subst hw
    exact r_iret hG hE dX6_worth_20 (by unfold s_worth; (try dsimp only); (repeat (first | rw [if_pos (by omega)] | rw [if_neg (by omega)])) <;> (first | rfl | skip)) ⟨YT, J, (by unfold s_worth; (try dsimp only); (repeat (first | rw [if_pos (by omega)] | rw [if_neg (by omega)])) <;> (first | rfl | skip))⟩
  · try simp only [decide_eq_true_eq, decide_eq_false_iff_not] at c5
    refine r_iload_n (i := 2) hG dX6_worth_8 rfl rfl ?_
    refine r_call0i hG (c_X6_isThing (g_l G) (g_D G) _ (by omega))  gX6_worth_X6_isThing rfl hyX6_isThing rfl (by decide) (by decide) rfl (Nat.le_of_ble_eq_true rfl) ⟨Nat.zero_le _, Nat.zero_le _⟩ dX6_worth_9 ?_
    refine rb_if_ne (tgt := 21) hG dX6_worth_12 (by decide) (fun c12 => ?_) (fun c12 => ?_)
    · try simp only [decide_eq_true_eq, decide_eq_false_iff_not] at c12
      refine r_aload_n (i := 0) hG dX6_worth_21 rfl rfl ?_
      refine r_get hG cX6_worth_X6 0 0 rfl rfl (by decide) kX6_worth_10 rfl dX6_worth_22 ?_
      refine r_iload_n (i := 1) hG dX6_worth_25 rfl rfl ?_
      refine r_iload_n (i := 2) hG dX6_worth_26 rfl rfl ?_
      refine r_midi hG (c_X4_worthTo (g_l G) (g_D G) (fun i => a (2 + i)) (Z) ((J) 0) ((J) 1) ((J) 2) hI hH _ _ (by omega) (by omega)) (bobj (g_D G) a (R)) (yw (g_D G) (fun i => a (10 + i)) (K) ((J) 3) ((J) 4) ((J) 5) ++ (yw (g_D G) (fun i => a (18 + i)) (YT) ((J) 6) ((J) 7) ((J) 8) ++ (bestw (a 26) ((J) 9) ((J) 10) ++ (btxt (g_D G) a (R) (J) ++ bshs (g_D G) a (R) (C))))) rfl gX6_worth_X4_worthTo rfl hyX4_worthTo rfl (by decide) (by decide) 0 rfl rfl rfl (Nat.le_of_ble_eq_true rfl) ⟨Nat.zero_le _, Nat.zero_le _⟩ dX6_worth_27 ?_
      intro w hw
      subst hw
      refine V_ws (ws' := bw (g_D G) a (Z) (K) (R) (C) (YT) (J)) rfl ?_
      exact r_iret hG hE dX6_worth_30 (by unfold s_worth; (try dsimp only); (repeat (first | rw [if_pos (by omega)] | rw [if_neg (by omega)])) <;> (first | rfl | skip)) ⟨YT, J, (by unfold s_worth; (try dsimp only); (repeat (first | rw [if_pos (by omega)] | rw [if_neg (by omega)])) <;> (first | rfl | skip))⟩
    · try simp only [decide_eq_true_eq, decide_eq_false_iff_not] at c12
      refine r_aload_n (i := 0) hG dX6_worth_15 rfl rfl ?_
      refine r_iconst hG dX6_worth_16 ?_
      refine r_callVi hG (c_X6_finding (g_l G) (g_D G) a (Z) (K) (R) (C) (YT) (J) 0 (by omega))  gX6_worth_X6_finding rfl hyX6_finding rfl (by decide) (by decide) 0 rfl rfl rfl (Nat.le_of_ble_eq_true rfl) ⟨Nat.zero_le _, Nat.zero_le _⟩ dX6_worth_17 (fun w hw => ?_)
      subst hw
      exact r_iret hG hE dX6_worth_20 (by unfold s_worth; (try dsimp only); (repeat (first | rw [if_pos (by omega)] | rw [if_neg (by omega)])) <;> (first | rfl | skip)) ⟨YT, J, (by unfold s_worth; (try dsimp only); (repeat (first | rw [if_pos (by omega)] | rw [if_neg (by omega)])) <;> (first | rfl | skip))⟩
theorem kX6_agrees_10 : Cond.fieldLink RX6 10 "BreakSwaps" "live" "LBreakSwaps$Yard;" ∈ wsX6_agrees := List.mem_of_getElem? (i := 1) rfl
theorem cX6_agrees_X6 : ∀ w ∈ wsX60, w ∈ wsX6_agrees := fun _ h => List.mem_cons_of_mem _ (List.mem_append_left _ (List.mem_append_right _ h))
theorem hyX6_agrees : hyV yX6_agrees RX6 2 := by decide +kernel
set_option maxHeartbeats 4000000 in
set_option maxRecDepth 100000 in
theorem c_X6_agrees (l : Launch) (D : va_G) (a : Nat → Nat) (Z K R : YS) (C : Int → Int64) (YT : YS) (J : Nat → Int) (hT : TI (Z, K, R, C)) (c t : Int) (hc : -2147483648 ≤ c ∧ c < 2147483648) (ht : -2147483648 ≤ t ∧ t < 2147483648) : Con l yX6_agrees wsX6_agrees 4 D (bw D a Z K R C YT J) [.ref (a 0), .int (iI c), .int (iI t)] (some (.int (iI ((s_agrees (Z, K, R, C) c t).1)))) (fun ww => ∃ Y2 J2, ww = bwT D a (s_agrees (Z, K, R, C) c t).2 Y2 J2) := by
  refine con_start (own := RX6) (by decide) rfl rfl (Nat.le_of_ble_eq_true rfl) ?_
  intro G hG hE hl hD
  subst hl
  subst hD
  have hI : Inv Z := hT.1.1
  have hH : Hol Z := hT.1.2.1
  have hN := hI.1
  have hr0 := hI.2.1
  have hu5 := hI.2.2.1
  have hrd : Z 5 0 ≤ 99999 := hT.1.2.2
  refine r_aload_n (i := 0) hG dX6_agrees_0 rfl rfl ?_
  refine r_iload_n (i := 1) hG dX6_agrees_1 rfl rfl ?_
  refine r_callVi hG (c_X6_isThere (g_l G) (g_D G) a Z K R C YT J hI _ (by omega))  gX6_agrees_X6_isThere rfl hyX6_isThere rfl (by decide) (by decide) 0 rfl rfl rfl (Nat.le_of_ble_eq_true rfl) ⟨Nat.zero_le _, Nat.zero_le _⟩ dX6_agrees_2 (fun w hw => ?_)
  subst hw
  refine rb_if_eq (tgt := 15) hG dX6_agrees_5 (by decide) (fun c5 => ?_) (fun c5 => ?_)
  · try simp only [decide_eq_true_eq, decide_eq_false_iff_not] at c5
    refine r_aload_n (i := 0) hG dX6_agrees_15 rfl rfl ?_
    refine r_iconst hG dX6_agrees_16 ?_
    refine r_callVi hG (c_X6_finding (g_l G) (g_D G) a (Z) (K) (R) (C) (YT) (J) 0 (by omega))  gX6_agrees_X6_finding rfl hyX6_finding rfl (by decide) (by decide) 0 rfl rfl rfl (Nat.le_of_ble_eq_true rfl) ⟨Nat.zero_le _, Nat.zero_le _⟩ dX6_agrees_17 (fun w hw => ?_)
    subst hw
    exact r_iret hG hE dX6_agrees_20 (by unfold s_agrees; (try dsimp only); (repeat (first | rw [if_pos (by omega)] | rw [if_neg (by omega)])) <;> (first | rfl | skip)) ⟨YT, J, (by unfold s_agrees; (try dsimp only); (repeat (first | rw [if_pos (by omega)] | rw [if_neg (by omega)])) <;> (first | rfl | skip))⟩
  · try simp only [decide_eq_true_eq, decide_eq_false_iff_not] at c5
    refine r_iload_n (i := 2) hG dX6_agrees_8 rfl rfl ?_
    refine r_call0i hG (c_X6_isThing (g_l G) (g_D G) _ (by omega))  gX6_agrees_X6_isThing rfl hyX6_isThing rfl (by decide) (by decide) rfl (Nat.le_of_ble_eq_true rfl) ⟨Nat.zero_le _, Nat.zero_le _⟩ dX6_agrees_9 ?_
    refine rb_if_ne (tgt := 21) hG dX6_agrees_12 (by decide) (fun c12 => ?_) (fun c12 => ?_)
    · try simp only [decide_eq_true_eq, decide_eq_false_iff_not] at c12
      refine r_aload_n (i := 0) hG dX6_agrees_21 rfl rfl ?_
      refine r_get hG cX6_agrees_X6 0 0 rfl rfl (by decide) kX6_agrees_10 rfl dX6_agrees_22 ?_
      refine r_iload_n (i := 1) hG dX6_agrees_25 rfl rfl ?_
      refine r_iload_n (i := 2) hG dX6_agrees_26 rfl rfl ?_
      refine r_midi hG (c_X4_agreesTo (g_l G) (g_D G) (fun i => a (2 + i)) (Z) ((J) 0) ((J) 1) ((J) 2) hI hH _ _ (by omega) (by omega)) (bobj (g_D G) a (R)) (yw (g_D G) (fun i => a (10 + i)) (K) ((J) 3) ((J) 4) ((J) 5) ++ (yw (g_D G) (fun i => a (18 + i)) (YT) ((J) 6) ((J) 7) ((J) 8) ++ (bestw (a 26) ((J) 9) ((J) 10) ++ (btxt (g_D G) a (R) (J) ++ bshs (g_D G) a (R) (C))))) rfl gX6_agrees_X4_agreesTo rfl hyX4_agreesTo rfl (by decide) (by decide) 0 rfl rfl rfl (Nat.le_of_ble_eq_true rfl) ⟨Nat.zero_le _, Nat.zero_le _⟩ dX6_agrees_27 ?_
      intro w hw
      subst hw
      refine V_ws (ws' := bw (g_D G) a (Z) (K) (R) (C) (YT) (J)) rfl ?_
      refine rb_if_eq (tgt := 37) hG dX6_agrees_30 (by decide) (fun c30 => ?_) (fun c30 => ?_)
      · try simp only [decide_eq_true_eq, decide_eq_false_iff_not] at c30
        refine r_iconst hG dX6_agrees_37 ?_
        exact r_iret hG hE dX6_agrees_38 (by unfold s_agrees; (try dsimp only); (repeat (first | rw [if_pos (by omega)] | rw [if_neg (by omega)])); rw [c30]; rfl) ⟨YT, J, (by unfold s_agrees; (try dsimp only); (repeat (first | rw [if_pos (by omega)] | rw [if_neg (by omega)])) <;> (first | rfl | skip))⟩
      · try simp only [decide_eq_true_eq, decide_eq_false_iff_not] at c30
        refine r_iconst hG dX6_agrees_33 ?_
        refine r_goto (tgt := 38) hG dX6_agrees_34 (by decide) ?_
        exact r_iret hG hE dX6_agrees_38 (by unfold s_agrees; (try dsimp only); (repeat (first | rw [if_pos (by omega)] | rw [if_neg (by omega)])); rw [c30]; rfl) ⟨YT, J, (by unfold s_agrees; (try dsimp only); (repeat (first | rw [if_pos (by omega)] | rw [if_neg (by omega)])) <;> (first | rfl | skip))⟩
    · try simp only [decide_eq_true_eq, decide_eq_false_iff_not] at c12
      refine r_aload_n (i := 0) hG dX6_agrees_15 rfl rfl ?_
      refine r_iconst hG dX6_agrees_16 ?_
      refine r_callVi hG (c_X6_finding (g_l G) (g_D G) a (Z) (K) (R) (C) (YT) (J) 0 (by omega))  gX6_agrees_X6_finding rfl hyX6_finding rfl (by decide) (by decide) 0 rfl rfl rfl (Nat.le_of_ble_eq_true rfl) ⟨Nat.zero_le _, Nat.zero_le _⟩ dX6_agrees_17 (fun w hw => ?_)
      subst hw
      exact r_iret hG hE dX6_agrees_20 (by unfold s_agrees; (try dsimp only); (repeat (first | rw [if_pos (by omega)] | rw [if_neg (by omega)])) <;> (first | rfl | skip)) ⟨YT, J, (by unfold s_agrees; (try dsimp only); (repeat (first | rw [if_pos (by omega)] | rw [if_neg (by omega)])) <;> (first | rfl | skip))⟩
theorem kX6_turn_10 : Cond.fieldLink RX6 10 "BreakSwaps" "live" "LBreakSwaps$Yard;" ∈ wsX6_turn := List.mem_of_getElem? (i := 1) rfl
theorem kX6_turn_107 : Cond.fieldLink RX6 107 "BreakSwaps$Yard" "kinds" "[I" ∈ wsX6_turn := List.mem_of_getElem? (i := 2) rfl
theorem cX6_turn_X4 : ∀ w ∈ wsX40, w ∈ wsX6_turn := fun _ h => List.mem_cons_of_mem _ (List.mem_append_right _ h)
theorem cX6_turn_X6 : ∀ w ∈ wsX60, w ∈ wsX6_turn := fun _ h => List.mem_cons_of_mem _ (List.mem_append_left _ (List.mem_append_right _ h))
theorem hyX6_turn : hyV yX6_turn RX6 2 := by decide +kernel
set_option maxHeartbeats 4000000 in
set_option maxRecDepth 100000 in
theorem c_X6_turn (l : Launch) (D : va_G) (a : Nat → Nat) (Z K R : YS) (C : Int → Int64) (YT : YS) (J : Nat → Int) (hT : TI (Z, K, R, C)) (c k : Int) (hc : -2147483648 ≤ c ∧ c < 2147483648) (hk : -2147483648 ≤ k ∧ k < 2147483648) : Con l yX6_turn wsX6_turn 3 D (bw D a Z K R C YT J) [.ref (a 0), .int (iI c), .int (iI k)] (some (.int (iI ((s_turn (Z, K, R, C) c k).1)))) (fun ww => ∃ Y2 J2, ww = bwT D a (s_turn (Z, K, R, C) c k).2 Y2 J2) := by
  refine con_start (own := RX6) (by decide) rfl rfl (Nat.le_of_ble_eq_true rfl) ?_
  intro G hG hE hl hD
  subst hl
  subst hD
  have hI : Inv Z := hT.1.1
  have hH : Hol Z := hT.1.2.1
  have hN := hI.1
  have hr0 := hI.2.1
  have hu5 := hI.2.2.1
  have hrd : Z 5 0 ≤ 99999 := hT.1.2.2
  refine r_aload_n (i := 0) hG dX6_turn_0 rfl rfl ?_
  refine r_iload_n (i := 1) hG dX6_turn_1 rfl rfl ?_
  refine r_callVi hG (c_X6_isThere (g_l G) (g_D G) a Z K R C YT J hI _ (by omega))  gX6_turn_X6_isThere rfl hyX6_isThere rfl (by decide) (by decide) 0 rfl rfl rfl (Nat.le_of_ble_eq_true rfl) ⟨Nat.zero_le _, Nat.zero_le _⟩ dX6_turn_2 (fun w hw => ?_)
  subst hw
  refine rb_if_eq (tgt := 15) hG dX6_turn_5 (by decide) (fun c5 => ?_) (fun c5 => ?_)
  · try simp only [decide_eq_true_eq, decide_eq_false_iff_not] at c5
    refine r_aload_n (i := 0) hG dX6_turn_15 rfl rfl ?_
    refine r_iconst hG dX6_turn_16 ?_
    refine r_callVi hG (c_X6_finding (g_l G) (g_D G) a (Z) (K) (R) (C) (YT) (J) 0 (by omega))  gX6_turn_X6_finding rfl hyX6_finding rfl (by decide) (by decide) 0 rfl rfl rfl (Nat.le_of_ble_eq_true rfl) ⟨Nat.zero_le _, Nat.zero_le _⟩ dX6_turn_17 (fun w hw => ?_)
    subst hw
    exact r_iret hG hE dX6_turn_20 (by unfold s_turn; (try dsimp only); (repeat (first | rw [if_pos (by omega)] | rw [if_neg (by omega)])) <;> (first | rfl | skip)) ⟨YT, J, (by unfold s_turn; (try dsimp only); (repeat (first | rw [if_pos (by omega)] | rw [if_neg (by omega)])) <;> (first | rfl | skip))⟩
  · try simp only [decide_eq_true_eq, decide_eq_false_iff_not] at c5
    refine r_iload_n (i := 2) hG dX6_turn_8 rfl rfl ?_
    refine r_call0i hG (c_X1_isKind (g_l G) (g_D G) _ (by omega))  gX6_turn_X1_isKind rfl hyX1_isKind rfl (by decide) (by decide) rfl (Nat.le_of_ble_eq_true rfl) ⟨Nat.zero_le _, Nat.zero_le _⟩ dX6_turn_9 ?_
    refine rb_if_ne (tgt := 21) hG dX6_turn_12 (by decide) (fun c12 => ?_) (fun c12 => ?_)
    · try simp only [decide_eq_true_eq, decide_eq_false_iff_not] at c12
      refine r_aload_n (i := 0) hG dX6_turn_21 rfl rfl ?_
      refine r_get hG cX6_turn_X6 0 0 rfl rfl (by decide) kX6_turn_10 rfl dX6_turn_22 ?_
      refine r_get hG cX6_turn_X4 2 3 rfl rfl (by decide) kX6_turn_107 rfl dX6_turn_25 ?_
      refine r_iload_n (i := 1) hG dX6_turn_28 rfl rfl ?_
      refine r_iald hG 3 rfl (by omega) (by decide) dX6_turn_29 ?_
      refine r_istore_n (i := 3) hG dX6_turn_30 rfl (by decide) rfl ?_
      refine r_aload_n (i := 0) hG dX6_turn_31 rfl rfl ?_
      refine r_get hG cX6_turn_X6 0 0 rfl rfl (by decide) kX6_turn_10 rfl dX6_turn_32 ?_
      refine r_get hG cX6_turn_X4 2 3 rfl rfl (by decide) kX6_turn_107 rfl dX6_turn_35 ?_
      refine r_iload_n (i := 1) hG dX6_turn_38 rfl rfl ?_
      refine r_iload_n (i := 2) hG dX6_turn_39 rfl rfl ?_
      refine r_iast hG 3 rfl (by omega) (by decide) dX6_turn_40 rfl ?_
      refine r_iload_n (i := 3) hG dX6_turn_41 rfl rfl ?_
      exact r_iret hG hE dX6_turn_42 (by unfold s_turn; (try dsimp only); (repeat (first | rw [if_pos (by omega)] | rw [if_neg (by omega)])) <;> (first | rfl | skip)) ⟨YT, J, (by unfold s_turn; (try dsimp only); (repeat (first | rw [if_pos (by omega)] | rw [if_neg (by omega)])) <;> (first | rfl | skip))⟩
    · try simp only [decide_eq_true_eq, decide_eq_false_iff_not] at c12
      refine r_aload_n (i := 0) hG dX6_turn_15 rfl rfl ?_
      refine r_iconst hG dX6_turn_16 ?_
      refine r_callVi hG (c_X6_finding (g_l G) (g_D G) a (Z) (K) (R) (C) (YT) (J) 0 (by omega))  gX6_turn_X6_finding rfl hyX6_finding rfl (by decide) (by decide) 0 rfl rfl rfl (Nat.le_of_ble_eq_true rfl) ⟨Nat.zero_le _, Nat.zero_le _⟩ dX6_turn_17 (fun w hw => ?_)
      subst hw
      exact r_iret hG hE dX6_turn_20 (by unfold s_turn; (try dsimp only); (repeat (first | rw [if_pos (by omega)] | rw [if_neg (by omega)])) <;> (first | rfl | skip)) ⟨YT, J, (by unfold s_turn; (try dsimp only); (repeat (first | rw [if_pos (by omega)] | rw [if_neg (by omega)])) <;> (first | rfl | skip))⟩
theorem kX6_as_10 : Cond.fieldLink RX6 10 "BreakSwaps" "live" "LBreakSwaps$Yard;" ∈ wsX6_as := List.mem_of_getElem? (i := 1) rfl
theorem kX6_as_107 : Cond.fieldLink RX6 107 "BreakSwaps$Yard" "kinds" "[I" ∈ wsX6_as := List.mem_of_getElem? (i := 2) rfl
theorem kX6_as_116 : Cond.fieldLink RX6 116 "BreakSwaps$Yard" "trusts" "[I" ∈ wsX6_as := List.mem_of_getElem? (i := 3) rfl
theorem cX6_as_X4 : ∀ w ∈ wsX40, w ∈ wsX6_as := fun _ h => List.mem_cons_of_mem _ (List.mem_append_right _ h)
theorem cX6_as_X6 : ∀ w ∈ wsX60, w ∈ wsX6_as := fun _ h => List.mem_cons_of_mem _ (List.mem_append_left _ (List.mem_append_right _ h))
theorem hyX6_as : hyV yX6_as RX6 2 := by decide +kernel
set_option maxHeartbeats 4000000 in
set_option maxRecDepth 100000 in
theorem c_X6_as (l : Launch) (D : va_G) (a : Nat → Nat) (Z K R : YS) (C : Int → Int64) (YT : YS) (J : Nat → Int) (hT : TI (Z, K, R, C)) (c k : Int) (hc : -2147483648 ≤ c ∧ c < 2147483648) (hk : -2147483648 ≤ k ∧ k < 2147483648) : Con l yX6_as wsX6_as 3 D (bw D a Z K R C YT J) [.ref (a 0), .int (iI c), .int (iI k)] (some (.int (iI ((s_as (Z, K, R, C) c k).1)))) (fun ww => ∃ Y2 J2, ww = bwT D a (s_as (Z, K, R, C) c k).2 Y2 J2) := by
  refine con_start (own := RX6) (by decide) rfl rfl (Nat.le_of_ble_eq_true rfl) ?_
  intro G hG hE hl hD
  subst hl
  subst hD
  have hI : Inv Z := hT.1.1
  have hH : Hol Z := hT.1.2.1
  have hN := hI.1
  have hr0 := hI.2.1
  have hu5 := hI.2.2.1
  have hrd : Z 5 0 ≤ 99999 := hT.1.2.2
  have hK0 : 0 ≤ c ∧ c < 8 → 0 ≤ Z 0 c ∧ Z 0 c ≤ 5 := fun h => (Inv_c hI h).1
  refine r_aload_n (i := 0) hG dX6_as_0 rfl rfl ?_
  refine r_iload_n (i := 1) hG dX6_as_1 rfl rfl ?_
  refine r_callVi hG (c_X6_isThere (g_l G) (g_D G) a Z K R C YT J hI _ (by omega))  gX6_as_X6_isThere rfl hyX6_isThere rfl (by decide) (by decide) 0 rfl rfl rfl (Nat.le_of_ble_eq_true rfl) ⟨Nat.zero_le _, Nat.zero_le _⟩ dX6_as_2 (fun w hw => ?_)
  subst hw
  refine rb_if_eq (tgt := 15) hG dX6_as_5 (by decide) (fun c5 => ?_) (fun c5 => ?_)
  · try simp only [decide_eq_true_eq, decide_eq_false_iff_not] at c5
    refine r_aload_n (i := 0) hG dX6_as_15 rfl rfl ?_
    refine r_iconst hG dX6_as_16 ?_
    refine r_callVi hG (c_X6_finding (g_l G) (g_D G) a (Z) (K) (R) (C) (YT) (J) 0 (by omega))  gX6_as_X6_finding rfl hyX6_finding rfl (by decide) (by decide) 0 rfl rfl rfl (Nat.le_of_ble_eq_true rfl) ⟨Nat.zero_le _, Nat.zero_le _⟩ dX6_as_17 (fun w hw => ?_)
    subst hw
    exact r_iret hG hE dX6_as_20 (by unfold s_as; (try dsimp only); (repeat (first | rw [if_pos (by omega)] | rw [if_neg (by omega)])) <;> (first | rfl | skip)) ⟨YT, J, (by unfold s_as; (try dsimp only); (repeat (first | rw [if_pos (by omega)] | rw [if_neg (by omega)])) <;> (first | rfl | skip))⟩
  · try simp only [decide_eq_true_eq, decide_eq_false_iff_not] at c5
    refine r_iload_n (i := 2) hG dX6_as_8 rfl rfl ?_
    refine r_call0i hG (c_X1_isKind (g_l G) (g_D G) _ (by omega))  gX6_as_X1_isKind rfl hyX1_isKind rfl (by decide) (by decide) rfl (Nat.le_of_ble_eq_true rfl) ⟨Nat.zero_le _, Nat.zero_le _⟩ dX6_as_9 ?_
    refine rb_if_ne (tgt := 21) hG dX6_as_12 (by decide) (fun c12 => ?_) (fun c12 => ?_)
    · try simp only [decide_eq_true_eq, decide_eq_false_iff_not] at c12
      refine r_aload_n (i := 0) hG dX6_as_21 rfl rfl ?_
      refine r_get hG cX6_as_X6 0 0 rfl rfl (by decide) kX6_as_10 rfl dX6_as_22 ?_
      refine r_get hG cX6_as_X4 2 3 rfl rfl (by decide) kX6_as_107 rfl dX6_as_25 ?_
      refine r_iload_n (i := 1) hG dX6_as_28 rfl rfl ?_
      refine r_iald hG 3 rfl (by omega) (by decide) dX6_as_29 ?_
      refine r_iload_n (i := 2) hG dX6_as_30 rfl rfl ?_
      refine r_call0i hG (c_X1_isUnder (g_l G) (g_D G) _ _ (by have := Inv_c hI (c := c) (by omega); omega) (by omega))  gX6_as_X1_isUnder rfl hyX1_isUnder rfl (by decide) (by decide) rfl (Nat.le_of_ble_eq_true rfl) ⟨Nat.zero_le _, Nat.zero_le _⟩ dX6_as_31 ?_
      refine rb_if_ne (tgt := 43) hG dX6_as_34 (by decide) (fun c34 => ?_) (fun c34 => ?_)
      · try simp only [decide_eq_true_eq, decide_eq_false_iff_not] at c34
        refine r_aload_n (i := 0) hG dX6_as_43 rfl rfl ?_
        refine r_get hG cX6_as_X6 0 0 rfl rfl (by decide) kX6_as_10 rfl dX6_as_44 ?_
        refine r_get hG cX6_as_X4 2 6 rfl rfl (by decide) kX6_as_116 rfl dX6_as_47 ?_
        refine r_iload_n (i := 1) hG dX6_as_50 rfl rfl ?_
        refine r_iald hG 6 rfl (by omega) (by decide) dX6_as_51 ?_
        exact r_iret hG hE dX6_as_52 (by unfold s_as; (try dsimp only); rw [if_pos (by omega), if_pos (of_decide_eq_true c34)]) ⟨YT, J, by unfold s_as; (try dsimp only); rw [if_pos (by omega), if_pos (of_decide_eq_true c34)]; rfl⟩
      · try simp only [decide_eq_true_eq, decide_eq_false_iff_not] at c34
        refine r_aload_n (i := 0) hG dX6_as_37 rfl rfl ?_
        refine r_iconst hG dX6_as_38 ?_
        refine r_callVi hG (c_X6_finding (g_l G) (g_D G) a (Z) (K) (R) (C) (YT) (J) 2 (by omega))  gX6_as_X6_finding rfl hyX6_finding rfl (by decide) (by decide) 0 rfl rfl rfl (Nat.le_of_ble_eq_true rfl) ⟨Nat.zero_le _, Nat.zero_le _⟩ dX6_as_39 (fun w hw => ?_)
        subst hw
        exact r_iret hG hE dX6_as_42 (by unfold s_as; (try dsimp only); rw [if_pos (by omega), if_neg (of_decide_eq_false c34)]; rfl) ⟨YT, J, by unfold s_as; (try dsimp only); rw [if_pos (by omega), if_neg (of_decide_eq_false c34)]; rfl⟩
    · try simp only [decide_eq_true_eq, decide_eq_false_iff_not] at c12
      refine r_aload_n (i := 0) hG dX6_as_15 rfl rfl ?_
      refine r_iconst hG dX6_as_16 ?_
      refine r_callVi hG (c_X6_finding (g_l G) (g_D G) a (Z) (K) (R) (C) (YT) (J) 0 (by omega))  gX6_as_X6_finding rfl hyX6_finding rfl (by decide) (by decide) 0 rfl rfl rfl (Nat.le_of_ble_eq_true rfl) ⟨Nat.zero_le _, Nat.zero_le _⟩ dX6_as_17 (fun w hw => ?_)
      subst hw
      exact r_iret hG hE dX6_as_20 (by unfold s_as; (try dsimp only); (repeat (first | rw [if_pos (by omega)] | rw [if_neg (by omega)])) <;> (first | rfl | skip)) ⟨YT, J, (by unfold s_as; (try dsimp only); (repeat (first | rw [if_pos (by omega)] | rw [if_neg (by omega)])) <;> (first | rfl | skip))⟩
theorem kX6_swap_10 : Cond.fieldLink RX6 10 "BreakSwaps" "live" "LBreakSwaps$Yard;" ∈ wsX6_swap := List.mem_of_getElem? (i := 1) rfl
theorem cX6_swap_X6 : ∀ w ∈ wsX60, w ∈ wsX6_swap := fun _ h => List.mem_cons_of_mem _ (List.mem_append_left _ (List.mem_append_right _ h))
theorem hyX6_swap : hyV yX6_swap RX6 2 := by decide +kernel
set_option maxHeartbeats 4000000 in
set_option maxRecDepth 100000 in
theorem c_X6_swap (l : Launch) (D : va_G) (a : Nat → Nat) (Z K R : YS) (C : Int → Int64) (YT : YS) (J : Nat → Int) (hT : TI (Z, K, R, C)) (c o : Int) (hc : -2147483648 ≤ c ∧ c < 2147483648) (ho : -2147483648 ≤ o ∧ o < 2147483648) : Con l yX6_swap wsX6_swap 3 D (bw D a Z K R C YT J) [.ref (a 0), .int (iI c), .int (iI o)] (some (.int (iI ((s_swap (Z, K, R, C) c o).1)))) (fun ww => ∃ Y2 J2, ww = bwT D a (s_swap (Z, K, R, C) c o).2 Y2 J2) := by
  refine con_start (own := RX6) (by decide) rfl rfl (Nat.le_of_ble_eq_true rfl) ?_
  intro G hG hE hl hD
  subst hl
  subst hD
  have hI : Inv Z := hT.1.1
  have hH : Hol Z := hT.1.2.1
  have hN := hI.1
  have hr0 := hI.2.1
  have hu5 := hI.2.2.1
  have hrd : Z 5 0 ≤ 99999 := hT.1.2.2
  refine r_aload_n (i := 0) hG dX6_swap_0 rfl rfl ?_
  refine r_iload_n (i := 1) hG dX6_swap_1 rfl rfl ?_
  refine r_iload_n (i := 2) hG dX6_swap_2 rfl rfl ?_
  refine r_callVi hG (c_X6_areTwo (g_l G) (g_D G) a Z K R C YT J hI _ _ (by omega) (by omega))  gX6_swap_X6_areTwo rfl hyX6_areTwo rfl (by decide) (by decide) 0 rfl rfl rfl (Nat.le_of_ble_eq_true rfl) ⟨Nat.zero_le _, Nat.zero_le _⟩ dX6_swap_3 (fun w hw => ?_)
  subst hw
  refine rb_if_ne (tgt := 15) hG dX6_swap_6 (by decide) (fun c6 => ?_) (fun c6 => ?_)
  · try simp only [decide_eq_true_eq, decide_eq_false_iff_not] at c6
    refine r_aload_n (i := 0) hG dX6_swap_15 rfl rfl ?_
    refine r_get hG cX6_swap_X6 0 0 rfl rfl (by decide) kX6_swap_10 rfl dX6_swap_16 ?_
    refine r_iload_n (i := 1) hG dX6_swap_19 rfl rfl ?_
    refine r_iload_n (i := 2) hG dX6_swap_20 rfl rfl ?_
    refine r_midv hG (c_X4_exchange (g_l G) (g_D G) (fun i => a (2 + i)) (Z) ((J) 0) ((J) 1) ((J) 2) hI _ _ (by omega) (by omega)) (bobj (g_D G) a (R)) (yw (g_D G) (fun i => a (10 + i)) (K) ((J) 3) ((J) 4) ((J) 5) ++ (yw (g_D G) (fun i => a (18 + i)) (YT) ((J) 6) ((J) 7) ((J) 8) ++ (bestw (a 26) ((J) 9) ((J) 10) ++ (btxt (g_D G) a (R) (J) ++ bshs (g_D G) a (R) (C))))) rfl gX6_swap_X4_exchange rfl hyX4_exchange rfl (by decide) (by decide) 0 rfl rfl rfl (Nat.le_of_ble_eq_true rfl) ⟨Nat.zero_le _, Nat.zero_le _⟩ dX6_swap_21 ?_
    intro w hw
    subst hw
    refine V_ws (ws' := bw (g_D G) a (swapZ Z c o) (K) (R) (C) (YT) (J)) rfl ?_
    refine r_aload_n (i := 0) hG dX6_swap_24 rfl rfl ?_
    refine r_get hG cX6_swap_X6 0 0 rfl rfl (by decide) kX6_swap_10 rfl dX6_swap_25 ?_
    refine r_iload_n (i := 1) hG dX6_swap_28 rfl rfl ?_
    refine r_midi hG (c_X4_gladOf (g_l G) (g_D G) (fun i => a (2 + i)) (swapZ Z c o) ((J) 0) ((J) 1) ((J) 2) (Inv_swap hI (by omega) (by omega)) (Hol_swap hH (by omega) (by omega) (by omega)) _ (by omega)) (bobj (g_D G) a (R)) (yw (g_D G) (fun i => a (10 + i)) (K) ((J) 3) ((J) 4) ((J) 5) ++ (yw (g_D G) (fun i => a (18 + i)) (YT) ((J) 6) ((J) 7) ((J) 8) ++ (bestw (a 26) ((J) 9) ((J) 10) ++ (btxt (g_D G) a (R) (J) ++ bshs (g_D G) a (R) (C))))) rfl gX6_swap_X4_gladOf rfl hyX4_gladOf rfl (by decide) (by decide) 0 rfl rfl rfl (Nat.le_of_ble_eq_true rfl) ⟨Nat.zero_le _, Nat.zero_le _⟩ dX6_swap_29 ?_
    intro w hw
    subst hw
    refine V_ws (ws' := bw (g_D G) a (swapZ Z c o) (K) (R) (C) (YT) (J)) rfl ?_
    exact r_iret hG hE dX6_swap_32 (by unfold s_swap; (try dsimp only); (repeat (first | rw [if_pos (by omega)] | rw [if_neg (by omega)])) <;> (first | rfl | skip)) ⟨YT, J, (by unfold s_swap; (try dsimp only); (repeat (first | rw [if_pos (by omega)] | rw [if_neg (by omega)])) <;> (first | rfl | skip))⟩
  · try simp only [decide_eq_true_eq, decide_eq_false_iff_not] at c6
    refine r_aload_n (i := 0) hG dX6_swap_9 rfl rfl ?_
    refine r_iconst hG dX6_swap_10 ?_
    refine r_callVi hG (c_X6_finding (g_l G) (g_D G) a (Z) (K) (R) (C) (YT) (J) 0 (by omega))  gX6_swap_X6_finding rfl hyX6_finding rfl (by decide) (by decide) 0 rfl rfl rfl (Nat.le_of_ble_eq_true rfl) ⟨Nat.zero_le _, Nat.zero_le _⟩ dX6_swap_11 (fun w hw => ?_)
    subst hw
    exact r_iret hG hE dX6_swap_14 (by unfold s_swap; (try dsimp only); (repeat (first | rw [if_pos (by omega)] | rw [if_neg (by omega)])) <;> (first | rfl | skip)) ⟨YT, J, (by unfold s_swap; (try dsimp only); (repeat (first | rw [if_pos (by omega)] | rw [if_neg (by omega)])) <;> (first | rfl | skip))⟩
