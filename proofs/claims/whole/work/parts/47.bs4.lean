theorem kX6_rounds_10 : Cond.fieldLink RX6 10 "BreakSwaps" "live" "LBreakSwaps$Yard;" ∈ wsX6_rounds := List.mem_of_getElem? (i := 1) rfl
theorem kX6_rounds_68 : Cond.fieldLink RX6 68 "BreakSwaps$Yard" "round" "I" ∈ wsX6_rounds := List.mem_of_getElem? (i := 2) rfl
theorem cX6_rounds_X4 : ∀ w ∈ wsX40, w ∈ wsX6_rounds := fun _ h => List.mem_cons_of_mem _ (List.mem_append_left _ (List.mem_append_right _ h))
theorem cX6_rounds_X6 : ∀ w ∈ wsX60, w ∈ wsX6_rounds := fun _ h => List.mem_cons_of_mem _ (List.mem_append_left _ (List.mem_append_left _ (List.mem_append_right _ h)))
theorem hyX6_rounds : hyV yX6_rounds RX6 1 := by decide +kernel
set_option maxHeartbeats 4000000 in
set_option maxRecDepth 100000 in
theorem c_X6_rounds (l : Launch) (D : va_G) (a : Nat → Nat) (Z K R : YS) (C : Int → Int64) (YT : YS) (J : Nat → Int) (hT : TI (Z, K, R, C)) (n : Int) (hn : -2147483648 ≤ n ∧ n < 2147483648) : Con l yX6_rounds wsX6_rounds 6 D (bw D a Z K R C YT J) [.ref (a 0), .int (iI n)] (some (.int (iI ((s_rounds (Z, K, R, C) n).1)))) (fun ww => ∃ Y2 J2, ww = bwT D a (s_rounds (Z, K, R, C) n).2 Y2 J2) := by
  refine con_start (own := RX6) (by decide) rfl rfl (Nat.le_of_ble_eq_true rfl) ?_
  intro G hG hE hl hD
  subst hl
  subst hD
  have hI : Inv Z := hT.1.1
  have hH : Hol Z := hT.1.2.1
  have hN := hI.1
  have hr0 := hI.2.1
  have hu5 := hI.2.2.1
  have hrd : Z 5 0 ≤ 99999 := hT.1.2.2
  have hg := goZ_ok hI n.toNat
  refine r_iload_n (i := 1) hG dX6_rounds_0 rfl rfl ?_
  refine r_iconst hG dX6_rounds_1 ?_
  refine r_bipush hG dX6_rounds_2 rfl ?_
  refine r_call0i hG (c_X6_isWithin (g_l G) (g_D G) _ _ _ (by omega) (by omega) (by omega))  gX6_rounds_X6_isWithin rfl hyX6_isWithin rfl (by decide) (by decide) rfl (Nat.le_of_ble_eq_true rfl) ⟨Nat.zero_le _, Nat.zero_le _⟩ dX6_rounds_4 ?_
  refine rb_if_ne (tgt := 16) hG dX6_rounds_7 (by decide) (fun c7 => ?_) (fun c7 => ?_)
  · try simp only [decide_eq_true_eq, decide_eq_false_iff_not] at c7
    refine r_aload_n (i := 0) hG dX6_rounds_16 rfl rfl ?_
    refine r_get hG cX6_rounds_X6 0 0 rfl rfl (by decide) kX6_rounds_10 rfl dX6_rounds_17 ?_
    refine r_get hG cX6_rounds_X4 2 0 rfl rfl (by decide) kX6_rounds_68 rfl dX6_rounds_20 ?_
    refine r_iload_n (i := 1) hG dX6_rounds_23 rfl rfl ?_
    refine r_iadd hG dX6_rounds_24 ?_
    refine r_ldc (n := 99999) hG (List.mem_of_getElem? (i := 3) rfl) rfl dX6_rounds_25 ?_
    refine r_icmp_le (tgt := 36) hG (by omega) (by omega) dX6_rounds_27 (by decide) (fun c27 => ?_) (fun c27 => ?_)
    · refine r_aload_n (i := 0) hG dX6_rounds_36 rfl rfl ?_
      refine r_get hG cX6_rounds_X6 0 0 rfl rfl (by decide) kX6_rounds_10 rfl dX6_rounds_37 ?_
      refine r_iload_n (i := 1) hG dX6_rounds_40 rfl rfl ?_
      refine r_midv hG (c_X4_goOn (g_l G) (g_D G) (fun i => a (2 + i)) (Z) ((J) 0) ((J) 1) ((J) 2) hI hH _ (by omega) (by omega)) (bobj (g_D G) a (R)) (yw (g_D G) (fun i => a (10 + i)) (K) ((J) 3) ((J) 4) ((J) 5) ++ (yw (g_D G) (fun i => a (18 + i)) (YT) ((J) 6) ((J) 7) ((J) 8) ++ (bestw (a 26) ((J) 9) ((J) 10) ++ (btxt (g_D G) a (R) (J) ++ bshs (g_D G) a (R) (C))))) rfl gX6_rounds_X4_goOn rfl hyX4_goOn rfl (by decide) (by decide) 0 rfl rfl rfl (Nat.le_of_ble_eq_true rfl) ⟨Nat.zero_le _, Nat.zero_le _⟩ dX6_rounds_41 ?_
      rintro w ⟨x2, z2, q2, rfl⟩
      obtain ⟨J1, hJ1⟩ : ∃ J1 : Nat → Int, J1 = jn (jn (jn (J) 0 x2) 1 z2) 2 q2 := ⟨_, rfl⟩
      refine V_ws (ws' := bw (g_D G) a (goZ Z n.toNat) (K) (R) (C) (YT) (J1)) (by rw [hJ1]; rfl) ?_
      refine r_aload_n (i := 0) hG dX6_rounds_44 rfl rfl ?_
      refine r_get hG cX6_rounds_X6 0 0 rfl rfl (by decide) kX6_rounds_10 rfl dX6_rounds_45 ?_
      refine r_midi hG (c_X4_swappedOfAll (g_l G) (g_D G) (fun i => a (2 + i)) (goZ Z n.toNat) ((J1) 0) ((J1) 1) ((J1) 2) hg.1 (hg.2.2.2.2.2.2 hH)) (bobj (g_D G) a (R)) (yw (g_D G) (fun i => a (10 + i)) (K) ((J1) 3) ((J1) 4) ((J1) 5) ++ (yw (g_D G) (fun i => a (18 + i)) (YT) ((J1) 6) ((J1) 7) ((J1) 8) ++ (bestw (a 26) ((J1) 9) ((J1) 10) ++ (btxt (g_D G) a (R) (J1) ++ bshs (g_D G) a (R) (C))))) rfl gX6_rounds_X4_swappedOfAll rfl hyX4_swappedOfAll rfl (by decide) (by decide) 0 rfl rfl rfl (Nat.le_of_ble_eq_true rfl) ⟨Nat.zero_le _, Nat.zero_le _⟩ dX6_rounds_48 ?_
      intro w hw
      subst hw
      refine V_ws (ws' := bw (g_D G) a (goZ Z n.toNat) (K) (R) (C) (YT) (J1)) rfl ?_
      exact r_iret hG hE dX6_rounds_51 (by unfold s_rounds; dsimp only; rw [if_pos (by omega), if_pos (by omega), hg.2.1]) ⟨YT, J1, by unfold s_rounds; dsimp only; rw [if_pos (by omega), if_pos (by omega)]; rfl⟩
    · refine r_aload_n (i := 0) hG dX6_rounds_30 rfl rfl ?_
      refine r_iconst hG dX6_rounds_31 ?_
      refine r_callVi hG (c_X6_finding (g_l G) (g_D G) a (Z) (K) (R) (C) (YT) (J) 4 (by omega))  gX6_rounds_X6_finding rfl hyX6_finding rfl (by decide) (by decide) 0 rfl rfl rfl (Nat.le_of_ble_eq_true rfl) ⟨Nat.zero_le _, Nat.zero_le _⟩ dX6_rounds_32 (fun w hw => ?_)
      subst hw
      exact r_iret hG hE dX6_rounds_35 (by unfold s_rounds; (try dsimp only); (repeat (first | rw [if_pos (by omega)] | rw [if_neg (by omega)])) <;> (first | rfl | skip)) ⟨YT, J, (by unfold s_rounds; (try dsimp only); (repeat (first | rw [if_pos (by omega)] | rw [if_neg (by omega)])) <;> (first | rfl | skip))⟩
  · try simp only [decide_eq_true_eq, decide_eq_false_iff_not] at c7
    refine r_aload_n (i := 0) hG dX6_rounds_10 rfl rfl ?_
    refine r_iconst hG dX6_rounds_11 ?_
    refine r_callVi hG (c_X6_finding (g_l G) (g_D G) a (Z) (K) (R) (C) (YT) (J) 0 (by omega))  gX6_rounds_X6_finding rfl hyX6_finding rfl (by decide) (by decide) 0 rfl rfl rfl (Nat.le_of_ble_eq_true rfl) ⟨Nat.zero_le _, Nat.zero_le _⟩ dX6_rounds_12 (fun w hw => ?_)
    subst hw
    exact r_iret hG hE dX6_rounds_15 (by unfold s_rounds; (try dsimp only); (repeat (first | rw [if_pos (by omega)] | rw [if_neg (by omega)])) <;> (first | rfl | skip)) ⟨YT, J, (by unfold s_rounds; (try dsimp only); (repeat (first | rw [if_pos (by omega)] | rw [if_neg (by omega)])) <;> (first | rfl | skip))⟩
theorem kX6_on_19 : Cond.fieldLink RX6 19 "BreakSwaps" "trial" "LBreakSwaps$Yard;" ∈ wsX6_on := List.mem_of_getElem? (i := 1) rfl
theorem kX6_on_10 : Cond.fieldLink RX6 10 "BreakSwaps" "live" "LBreakSwaps$Yard;" ∈ wsX6_on := List.mem_of_getElem? (i := 2) rfl
theorem kX6_on_110 : Cond.fieldLink RX6 110 "BreakSwaps$Yard" "has" "[I" ∈ wsX6_on := List.mem_of_getElem? (i := 3) rfl
theorem kX6_on_113 : Cond.fieldLink RX6 113 "BreakSwaps$Yard" "swapped" "[I" ∈ wsX6_on := List.mem_of_getElem? (i := 4) rfl
theorem kX6_on_116 : Cond.fieldLink RX6 116 "BreakSwaps$Yard" "trusts" "[I" ∈ wsX6_on := List.mem_of_getElem? (i := 5) rfl
theorem cX6_on_X4 : ∀ w ∈ wsX40, w ∈ wsX6_on := fun _ h => List.mem_cons_of_mem _ (List.mem_append_left _ (List.mem_append_right _ h))
theorem cX6_on_X6 : ∀ w ∈ wsX60, w ∈ wsX6_on := fun _ h => List.mem_cons_of_mem _ (List.mem_append_left _ (List.mem_append_left _ (List.mem_append_right _ h)))
theorem hyX6_on : hyV yX6_on RX6 3 := by decide +kernel
set_option maxHeartbeats 4000000 in
set_option maxRecDepth 100000 in
theorem c_X6_on (l : Launch) (D : va_G) (a : Nat → Nat) (Z K R : YS) (C : Int → Int64) (YT : YS) (J : Nat → Int) (hT : TI (Z, K, R, C)) (c n w : Int) (hc : -2147483648 ≤ c ∧ c < 2147483648) (hn : -2147483648 ≤ n ∧ n < 2147483648) (hw : -2147483648 ≤ w ∧ w < 2147483648) : Con l yX6_on wsX6_on 6 D (bw D a Z K R C YT J) [.ref (a 0), .int (iI c), .int (iI n), .int (iI w)] (some (.int (iI ((s_on (Z, K, R, C) c n w).1)))) (fun ww => ∃ Y2 J2, ww = bwT D a (s_on (Z, K, R, C) c n w).2 Y2 J2) := by
  refine con_start (own := RX6) (by decide) rfl rfl (Nat.le_of_ble_eq_true rfl) ?_
  intro G hG hE hl hD
  subst hl
  subst hD
  have hI : Inv Z := hT.1.1
  have hH : Hol Z := hT.1.2.1
  have hN := hI.1
  have hr0 := hI.2.1
  have hu5 := hI.2.2.1
  have hrd : Z 5 0 ≤ 99999 := hT.1.2.2
  have hg := goZ_ok hI n.toNat
  refine r_aload_n (i := 0) hG dX6_on_0 rfl rfl ?_
  refine r_iload_n (i := 1) hG dX6_on_1 rfl rfl ?_
  refine r_callVi hG (c_X6_isThere (g_l G) (g_D G) a Z K R C YT J hI _ (by omega))  gX6_on_X6_isThere rfl hyX6_isThere rfl (by decide) (by decide) 0 rfl rfl rfl (Nat.le_of_ble_eq_true rfl) ⟨Nat.zero_le _, Nat.zero_le _⟩ dX6_on_2 (fun w hw => ?_)
  subst hw
  refine rb_if_eq (tgt := 27) hG dX6_on_5 (by decide) (fun c5 => ?_) (fun c5 => ?_)
  · try simp only [decide_eq_true_eq, decide_eq_false_iff_not] at c5
    refine r_aload_n (i := 0) hG dX6_on_27 rfl rfl ?_
    refine r_iconst hG dX6_on_28 ?_
    refine r_callVi hG (c_X6_finding (g_l G) (g_D G) a (Z) (K) (R) (C) (YT) (J) 0 (by omega))  gX6_on_X6_finding rfl hyX6_finding rfl (by decide) (by decide) 0 rfl rfl rfl (Nat.le_of_ble_eq_true rfl) ⟨Nat.zero_le _, Nat.zero_le _⟩ dX6_on_29 (fun w hw => ?_)
    subst hw
    exact r_iret hG hE dX6_on_32 (by unfold s_on; (try dsimp only); (repeat (first | rw [if_pos (by omega)] | rw [if_neg (by omega)])) <;> (first | rfl | skip)) ⟨YT, J, (by unfold s_on; (try dsimp only); (repeat (first | rw [if_pos (by omega)] | rw [if_neg (by omega)])) <;> (first | rfl | skip))⟩
  · try simp only [decide_eq_true_eq, decide_eq_false_iff_not] at c5
    refine r_iload_n (i := 2) hG dX6_on_8 rfl rfl ?_
    refine r_iconst hG dX6_on_9 ?_
    refine r_bipush hG dX6_on_10 rfl ?_
    refine r_call0i hG (c_X6_isWithin (g_l G) (g_D G) _ _ _ (by omega) (by omega) (by omega))  gX6_on_X6_isWithin rfl hyX6_isWithin rfl (by decide) (by decide) rfl (Nat.le_of_ble_eq_true rfl) ⟨Nat.zero_le _, Nat.zero_le _⟩ dX6_on_12 ?_
    refine rb_if_eq (tgt := 27) hG dX6_on_15 (by decide) (fun c15 => ?_) (fun c15 => ?_)
    · try simp only [decide_eq_true_eq, decide_eq_false_iff_not] at c15
      refine r_aload_n (i := 0) hG dX6_on_27 rfl rfl ?_
      refine r_iconst hG dX6_on_28 ?_
      refine r_callVi hG (c_X6_finding (g_l G) (g_D G) a (Z) (K) (R) (C) (YT) (J) 0 (by omega))  gX6_on_X6_finding rfl hyX6_finding rfl (by decide) (by decide) 0 rfl rfl rfl (Nat.le_of_ble_eq_true rfl) ⟨Nat.zero_le _, Nat.zero_le _⟩ dX6_on_29 (fun w hw => ?_)
      subst hw
      exact r_iret hG hE dX6_on_32 (by unfold s_on; (try dsimp only); (repeat (first | rw [if_pos (by omega)] | rw [if_neg (by omega)])) <;> (first | rfl | skip)) ⟨YT, J, (by unfold s_on; (try dsimp only); (repeat (first | rw [if_pos (by omega)] | rw [if_neg (by omega)])) <;> (first | rfl | skip))⟩
    · try simp only [decide_eq_true_eq, decide_eq_false_iff_not] at c15
      refine r_iload_n (i := 3) hG dX6_on_18 rfl rfl ?_
      refine r_iconst hG dX6_on_19 ?_
      refine r_iconst hG dX6_on_20 ?_
      refine r_call0i hG (c_X6_isWithin (g_l G) (g_D G) _ _ _ (by omega) (by omega) (by omega))  gX6_on_X6_isWithin rfl hyX6_isWithin rfl (by decide) (by decide) rfl (Nat.le_of_ble_eq_true rfl) ⟨Nat.zero_le _, Nat.zero_le _⟩ dX6_on_21 ?_
      refine rb_if_ne (tgt := 33) hG dX6_on_24 (by decide) (fun c24 => ?_) (fun c24 => ?_)
      · try simp only [decide_eq_true_eq, decide_eq_false_iff_not] at c24
        refine r_aload_n (i := 0) hG dX6_on_33 rfl rfl ?_
        refine r_get hG cX6_on_X6 0 2 rfl rfl (by decide) kX6_on_19 rfl dX6_on_34 ?_
        refine r_aload_n (i := 0) hG dX6_on_37 rfl rfl ?_
        refine r_get hG cX6_on_X6 0 0 rfl rfl (by decide) kX6_on_10 rfl dX6_on_38 ?_
        refine r_becT hG gX6_on_X4_become (by decide) (Nat.le_of_ble_eq_true rfl) ⟨Nat.zero_le _, Nat.zero_le _⟩ dX6_on_41 ?_
        refine r_aload_n (i := 0) hG dX6_on_44 rfl rfl ?_
        refine r_get hG cX6_on_X6 0 2 rfl rfl (by decide) kX6_on_19 rfl dX6_on_45 ?_
        refine r_iload_n (i := 2) hG dX6_on_48 rfl rfl ?_
        refine r_midv hG (c_X4_goOn (g_l G) (g_D G) (fun i => a (18 + i)) (Z) ((jn J 8 0) 6) ((jn J 8 0) 7) ((jn J 8 0) 8) hI hH _ (by omega) (by omega)) (bobj (g_D G) a (R) ++ (yw (g_D G) (fun i => a (2 + i)) (Z) ((jn J 8 0) 0) ((jn J 8 0) 1) ((jn J 8 0) 2) ++ yw (g_D G) (fun i => a (10 + i)) (K) ((jn J 8 0) 3) ((jn J 8 0) 4) ((jn J 8 0) 5))) (bestw (a 26) ((jn J 8 0) 9) ((jn J 8 0) 10) ++ (btxt (g_D G) a (R) (jn J 8 0) ++ bshs (g_D G) a (R) (C))) rfl gX6_on_X4_goOn rfl hyX4_goOn rfl (by decide) (by decide) 0 rfl rfl rfl (Nat.le_of_ble_eq_true rfl) ⟨Nat.zero_le _, Nat.zero_le _⟩ dX6_on_49 ?_
        rintro w ⟨x2, z2, q2, rfl⟩
        obtain ⟨J1, hJ1⟩ : ∃ J1 : Nat → Int, J1 = jn (jn (jn (jn J 8 0) 6 x2) 7 z2) 8 q2 := ⟨_, rfl⟩
        refine V_ws (ws' := bw (g_D G) a (Z) (K) (R) (C) (goZ Z n.toNat) (J1)) (by rw [hJ1]; rfl) ?_
        refine r_iload_n (i := 3) hG dX6_on_52 rfl rfl ?_
        rcases (show w = 0 ∨ w = 1 ∨ w = 2 ∨ (w < 0 ∨ 2 < w) by omega) with c53 | c53 | c53 | c53
        · refine r_tsIn (tgt := 80) hG 0 c53 dX6_on_53 (by omega) rfl (by decide) ?_
          refine r_aload_n (i := 0) hG dX6_on_80 rfl rfl ?_
          refine r_get hG cX6_on_X6 0 2 rfl rfl (by decide) kX6_on_19 rfl dX6_on_81 ?_
          refine r_get hG cX6_on_X4 18 4 rfl rfl (by decide) kX6_on_110 rfl dX6_on_84 ?_
          refine r_iload_n (i := 1) hG dX6_on_87 rfl rfl ?_
          refine r_iald hG 20 rfl (by omega) (by decide) dX6_on_88 ?_
          exact r_iret hG hE dX6_on_89 (by unfold s_on; (try dsimp only); (repeat (first | rw [if_pos (by omega)] | rw [if_neg (by omega)])) <;> (first | rfl | skip)) ⟨goZ Z n.toNat, J1, (by unfold s_on; (try dsimp only); (repeat (first | rw [if_pos (by omega)] | rw [if_neg (by omega)])) <;> (first | rfl | skip))⟩
        · refine r_tsIn (tgt := 90) hG 1 c53 dX6_on_53 (by omega) rfl (by decide) ?_
          refine r_aload_n (i := 0) hG dX6_on_90 rfl rfl ?_
          refine r_get hG cX6_on_X6 0 2 rfl rfl (by decide) kX6_on_19 rfl dX6_on_91 ?_
          refine r_get hG cX6_on_X4 18 5 rfl rfl (by decide) kX6_on_113 rfl dX6_on_94 ?_
          refine r_iload_n (i := 1) hG dX6_on_97 rfl rfl ?_
          refine r_iald hG 21 rfl (by omega) (by decide) dX6_on_98 ?_
          exact r_iret hG hE dX6_on_99 (by unfold s_on; (try dsimp only); (repeat (first | rw [if_pos (by omega)] | rw [if_neg (by omega)])) <;> (first | rfl | skip)) ⟨goZ Z n.toNat, J1, (by unfold s_on; (try dsimp only); (repeat (first | rw [if_pos (by omega)] | rw [if_neg (by omega)])) <;> (first | rfl | skip))⟩
        · refine r_tsIn (tgt := 100) hG 2 c53 dX6_on_53 (by omega) rfl (by decide) ?_
          refine r_aload_n (i := 0) hG dX6_on_100 rfl rfl ?_
          refine r_get hG cX6_on_X6 0 2 rfl rfl (by decide) kX6_on_19 rfl dX6_on_101 ?_
          refine r_get hG cX6_on_X4 18 6 rfl rfl (by decide) kX6_on_116 rfl dX6_on_104 ?_
          refine r_iload_n (i := 1) hG dX6_on_107 rfl rfl ?_
          refine r_iald hG 22 rfl (by omega) (by decide) dX6_on_108 ?_
          exact r_iret hG hE dX6_on_109 (by unfold s_on; (try dsimp only); (repeat (first | rw [if_pos (by omega)] | rw [if_neg (by omega)])) <;> (first | rfl | skip)) ⟨goZ Z n.toNat, J1, (by unfold s_on; (try dsimp only); (repeat (first | rw [if_pos (by omega)] | rw [if_neg (by omega)])) <;> (first | rfl | skip))⟩
        · refine r_tsOut (tgt := 110) hG (by omega) dX6_on_53 c53 (by decide) ?_
          refine r_aload_n (i := 0) hG dX6_on_110 rfl rfl ?_
          refine r_get hG cX6_on_X6 0 2 rfl rfl (by decide) kX6_on_19 rfl dX6_on_111 ?_
          refine r_iload_n (i := 1) hG dX6_on_114 rfl rfl ?_
          refine r_midi hG (c_X4_gladOf (g_l G) (g_D G) (fun i => a (18 + i)) (goZ Z n.toNat) ((J1) 6) ((J1) 7) ((J1) 8) hg.1 (hg.2.2.2.2.2.2 hH) _ (by omega)) (bobj (g_D G) a (R) ++ (yw (g_D G) (fun i => a (2 + i)) (Z) ((J1) 0) ((J1) 1) ((J1) 2) ++ yw (g_D G) (fun i => a (10 + i)) (K) ((J1) 3) ((J1) 4) ((J1) 5))) (bestw (a 26) ((J1) 9) ((J1) 10) ++ (btxt (g_D G) a (R) (J1) ++ bshs (g_D G) a (R) (C))) rfl gX6_on_X4_gladOf rfl hyX4_gladOf rfl (by decide) (by decide) 0 rfl rfl rfl (Nat.le_of_ble_eq_true rfl) ⟨Nat.zero_le _, Nat.zero_le _⟩ dX6_on_115 ?_
          intro w hw
          subst hw
          refine V_ws (ws' := bw (g_D G) a (Z) (K) (R) (C) (goZ Z n.toNat) (J1)) rfl ?_
          exact r_iret hG hE dX6_on_118 (by unfold s_on; (try dsimp only); (repeat (first | rw [if_pos (by omega)] | rw [if_neg (by omega)])) <;> (first | rfl | skip)) ⟨goZ Z n.toNat, J1, (by unfold s_on; (try dsimp only); (repeat (first | rw [if_pos (by omega)] | rw [if_neg (by omega)])) <;> (first | rfl | skip))⟩
      · try simp only [decide_eq_true_eq, decide_eq_false_iff_not] at c24
        refine r_aload_n (i := 0) hG dX6_on_27 rfl rfl ?_
        refine r_iconst hG dX6_on_28 ?_
        refine r_callVi hG (c_X6_finding (g_l G) (g_D G) a (Z) (K) (R) (C) (YT) (J) 0 (by omega))  gX6_on_X6_finding rfl hyX6_finding rfl (by decide) (by decide) 0 rfl rfl rfl (Nat.le_of_ble_eq_true rfl) ⟨Nat.zero_le _, Nat.zero_le _⟩ dX6_on_29 (fun w hw => ?_)
        subst hw
        exact r_iret hG hE dX6_on_32 (by unfold s_on; (try dsimp only); (repeat (first | rw [if_pos (by omega)] | rw [if_neg (by omega)])) <;> (first | rfl | skip)) ⟨YT, J, (by unfold s_on; (try dsimp only); (repeat (first | rw [if_pos (by omega)] | rw [if_neg (by omega)])) <;> (first | rfl | skip))⟩
theorem kX6_glad_19 : Cond.fieldLink RX6 19 "BreakSwaps" "trial" "LBreakSwaps$Yard;" ∈ wsX6_glad := List.mem_of_getElem? (i := 1) rfl
theorem kX6_glad_10 : Cond.fieldLink RX6 10 "BreakSwaps" "live" "LBreakSwaps$Yard;" ∈ wsX6_glad := List.mem_of_getElem? (i := 2) rfl
theorem cX6_glad_X6 : ∀ w ∈ wsX60, w ∈ wsX6_glad := fun _ h => List.mem_cons_of_mem _ (List.mem_append_left _ (List.mem_append_left _ (List.mem_append_right _ h)))
theorem hyX6_glad : hyV yX6_glad RX6 1 := by decide +kernel
set_option maxHeartbeats 4000000 in
set_option maxRecDepth 100000 in
theorem c_X6_glad (l : Launch) (D : va_G) (a : Nat → Nat) (Z K R : YS) (C : Int → Int64) (YT : YS) (J : Nat → Int) (hT : TI (Z, K, R, C)) (n : Int) (hn : -2147483648 ≤ n ∧ n < 2147483648) : Con l yX6_glad wsX6_glad 6 D (bw D a Z K R C YT J) [.ref (a 0), .int (iI n)] (some (.int (iI ((s_glad (Z, K, R, C) n).1)))) (fun ww => ∃ Y2 J2, ww = bwT D a (s_glad (Z, K, R, C) n).2 Y2 J2) := by
  refine con_start (own := RX6) (by decide) rfl rfl (Nat.le_of_ble_eq_true rfl) ?_
  intro G hG hE hl hD
  subst hl
  subst hD
  have hI : Inv Z := hT.1.1
  have hH : Hol Z := hT.1.2.1
  have hN := hI.1
  have hr0 := hI.2.1
  have hu5 := hI.2.2.1
  have hrd : Z 5 0 ≤ 99999 := hT.1.2.2
  have hg := goZ_ok hI n.toNat
  refine r_iload_n (i := 1) hG dX6_glad_0 rfl rfl ?_
  refine r_iconst hG dX6_glad_1 ?_
  refine r_bipush hG dX6_glad_2 rfl ?_
  refine r_call0i hG (c_X6_isWithin (g_l G) (g_D G) _ _ _ (by omega) (by omega) (by omega))  gX6_glad_X6_isWithin rfl hyX6_isWithin rfl (by decide) (by decide) rfl (Nat.le_of_ble_eq_true rfl) ⟨Nat.zero_le _, Nat.zero_le _⟩ dX6_glad_4 ?_
  refine rb_if_ne (tgt := 16) hG dX6_glad_7 (by decide) (fun c7 => ?_) (fun c7 => ?_)
  · try simp only [decide_eq_true_eq, decide_eq_false_iff_not] at c7
    refine r_aload_n (i := 0) hG dX6_glad_16 rfl rfl ?_
    refine r_get hG cX6_glad_X6 0 2 rfl rfl (by decide) kX6_glad_19 rfl dX6_glad_17 ?_
    refine r_aload_n (i := 0) hG dX6_glad_20 rfl rfl ?_
    refine r_get hG cX6_glad_X6 0 0 rfl rfl (by decide) kX6_glad_10 rfl dX6_glad_21 ?_
    refine r_becT hG gX6_glad_X4_become (by decide) (Nat.le_of_ble_eq_true rfl) ⟨Nat.zero_le _, Nat.zero_le _⟩ dX6_glad_24 ?_
    refine r_aload_n (i := 0) hG dX6_glad_27 rfl rfl ?_
    refine r_get hG cX6_glad_X6 0 2 rfl rfl (by decide) kX6_glad_19 rfl dX6_glad_28 ?_
    refine r_iload_n (i := 1) hG dX6_glad_31 rfl rfl ?_
    refine r_midv hG (c_X4_goOn (g_l G) (g_D G) (fun i => a (18 + i)) (Z) ((jn J 8 0) 6) ((jn J 8 0) 7) ((jn J 8 0) 8) hI hH _ (by omega) (by omega)) (bobj (g_D G) a (R) ++ (yw (g_D G) (fun i => a (2 + i)) (Z) ((jn J 8 0) 0) ((jn J 8 0) 1) ((jn J 8 0) 2) ++ yw (g_D G) (fun i => a (10 + i)) (K) ((jn J 8 0) 3) ((jn J 8 0) 4) ((jn J 8 0) 5))) (bestw (a 26) ((jn J 8 0) 9) ((jn J 8 0) 10) ++ (btxt (g_D G) a (R) (jn J 8 0) ++ bshs (g_D G) a (R) (C))) rfl gX6_glad_X4_goOn rfl hyX4_goOn rfl (by decide) (by decide) 0 rfl rfl rfl (Nat.le_of_ble_eq_true rfl) ⟨Nat.zero_le _, Nat.zero_le _⟩ dX6_glad_32 ?_
    rintro w ⟨x2, z2, q2, rfl⟩
    obtain ⟨J1, hJ1⟩ : ∃ J1 : Nat → Int, J1 = jn (jn (jn (jn J 8 0) 6 x2) 7 z2) 8 q2 := ⟨_, rfl⟩
    refine V_ws (ws' := bw (g_D G) a (Z) (K) (R) (C) (goZ Z n.toNat) (J1)) (by rw [hJ1]; rfl) ?_
    refine r_aload_n (i := 0) hG dX6_glad_35 rfl rfl ?_
    refine r_get hG cX6_glad_X6 0 2 rfl rfl (by decide) kX6_glad_19 rfl dX6_glad_36 ?_
    refine r_midi hG (c_X4_gladOfAll (g_l G) (g_D G) (fun i => a (18 + i)) (goZ Z n.toNat) ((J1) 6) ((J1) 7) ((J1) 8) hg.1 (hg.2.2.2.2.2.2 hH)) (bobj (g_D G) a (R) ++ (yw (g_D G) (fun i => a (2 + i)) (Z) ((J1) 0) ((J1) 1) ((J1) 2) ++ yw (g_D G) (fun i => a (10 + i)) (K) ((J1) 3) ((J1) 4) ((J1) 5))) (bestw (a 26) ((J1) 9) ((J1) 10) ++ (btxt (g_D G) a (R) (J1) ++ bshs (g_D G) a (R) (C))) rfl gX6_glad_X4_gladOfAll rfl hyX4_gladOfAll rfl (by decide) (by decide) 0 rfl rfl rfl (Nat.le_of_ble_eq_true rfl) ⟨Nat.zero_le _, Nat.zero_le _⟩ dX6_glad_39 ?_
    intro w hw
    subst hw
    refine V_ws (ws' := bw (g_D G) a (Z) (K) (R) (C) (goZ Z n.toNat) (J1)) rfl ?_
    exact r_iret hG hE dX6_glad_42 (by unfold s_glad; dsimp only; rw [if_pos (by omega), hg.2.1]) ⟨goZ Z n.toNat, J1, (by unfold s_glad; (try dsimp only); (repeat (first | rw [if_pos (by omega)] | rw [if_neg (by omega)])) <;> (first | rfl | skip))⟩
  · try simp only [decide_eq_true_eq, decide_eq_false_iff_not] at c7
    refine r_aload_n (i := 0) hG dX6_glad_10 rfl rfl ?_
    refine r_iconst hG dX6_glad_11 ?_
    refine r_callVi hG (c_X6_finding (g_l G) (g_D G) a (Z) (K) (R) (C) (YT) (J) 0 (by omega))  gX6_glad_X6_finding rfl hyX6_finding rfl (by decide) (by decide) 0 rfl rfl rfl (Nat.le_of_ble_eq_true rfl) ⟨Nat.zero_le _, Nat.zero_le _⟩ dX6_glad_12 (fun w hw => ?_)
    subst hw
    exact r_iret hG hE dX6_glad_15 (by unfold s_glad; (try dsimp only); (repeat (first | rw [if_pos (by omega)] | rw [if_neg (by omega)])) <;> (first | rfl | skip)) ⟨YT, J, (by unfold s_glad; (try dsimp only); (repeat (first | rw [if_pos (by omega)] | rw [if_neg (by omega)])) <;> (first | rfl | skip))⟩
theorem kX6_gets_19 : Cond.fieldLink RX6 19 "BreakSwaps" "trial" "LBreakSwaps$Yard;" ∈ wsX6_gets := List.mem_of_getElem? (i := 1) rfl
theorem kX6_gets_10 : Cond.fieldLink RX6 10 "BreakSwaps" "live" "LBreakSwaps$Yard;" ∈ wsX6_gets := List.mem_of_getElem? (i := 2) rfl
theorem kX6_gets_110 : Cond.fieldLink RX6 110 "BreakSwaps$Yard" "has" "[I" ∈ wsX6_gets := List.mem_of_getElem? (i := 3) rfl
theorem cX6_gets_X4 : ∀ w ∈ wsX40, w ∈ wsX6_gets := fun _ h => List.mem_cons_of_mem _ (List.mem_append_left _ (List.mem_append_right _ h))
theorem cX6_gets_X6 : ∀ w ∈ wsX60, w ∈ wsX6_gets := fun _ h => List.mem_cons_of_mem _ (List.mem_append_left _ (List.mem_append_left _ (List.mem_append_right _ h)))
theorem hyX6_gets : hyV yX6_gets RX6 2 := by decide +kernel
set_option maxHeartbeats 4000000 in
set_option maxRecDepth 100000 in
theorem c_X6_gets (l : Launch) (D : va_G) (a : Nat → Nat) (Z K R : YS) (C : Int → Int64) (YT : YS) (J : Nat → Int) (hT : TI (Z, K, R, C)) (c t : Int) (hc : -2147483648 ≤ c ∧ c < 2147483648) (ht : -2147483648 ≤ t ∧ t < 2147483648) : Con l yX6_gets wsX6_gets 6 D (bw D a Z K R C YT J) [.ref (a 0), .int (iI c), .int (iI t)] (some (.int (iI ((s_gets (Z, K, R, C) c t).1)))) (fun ww => ∃ Y2 J2, ww = bwT D a (s_gets (Z, K, R, C) c t).2 Y2 J2) := by
  refine con_start (own := RX6) (by decide) rfl rfl (Nat.le_of_ble_eq_true rfl) ?_
  intro G hG hE hl hD
  subst hl
  subst hD
  have hI : Inv Z := hT.1.1
  have hH : Hol Z := hT.1.2.1
  have hN := hI.1
  have hr0 := hI.2.1
  have hu5 := hI.2.2.1
  have hrd : Z 5 0 ≤ 99999 := hT.1.2.2
  have L : ((0 ≤ c ∧ c < Z 5 2) ∧ 0 ≤ t ∧ t ≤ 9) → ∀ i : Nat, i ≤ 101 → ∀ J1 : Nat → Int, QI (goZ Z i) (J1 8) → (∀ j : Nat, j < i → getsF Z c t j = false) → V G 0 0 (bw (g_D G) a (Z) (K) (R) (C) (goZ Z i) (J1)) 34 [(0, .ref (a 0)), (1, .int (iI c)), (2, .int (iI t)), (3, .int (iI (i : Int)))] [] := by
    intro hoc
    have e0 : s_gets (Z, K, R, C) c t = orFin (Z, K, R, C) 3 (leastN (getsF Z c t) 101) := if_pos (by (try dsimp only); omega)
    refine down (fun i hi ih J1 hq hf => ?_)
    have hg := goZ_ok hI i
    have h1 := Inv_c hg.1 (c := c) (by omega)
    have hN1 : ¬ goZ Z i 1 c = t → ∀ j : Nat, j < i + 1 → getsF Z c t j = false := fun hne j hj => by
      by_cases e : j = i
      · subst e; exact decide_eq_false hne
      · exact hf j (by omega)
    refine r_iload_n (i := 3) hG dX6_gets_34 rfl rfl ?_
    refine r_bipush hG dX6_gets_35 rfl ?_
    refine r_icmp_gt (tgt := 68) hG (by omega) (by omega) dX6_gets_37 (by decide) (fun c37 => ?_) (fun c37 => ?_)
    · refine r_aload_n (i := 0) hG dX6_gets_68 rfl rfl ?_
      refine r_iconst hG dX6_gets_69 ?_
      refine r_callVi hG (c_X6_finding (g_l G) (g_D G) a (Z) (K) (R) (C) (goZ Z i) (J1) 3 (by omega))  gX6_gets_X6_finding rfl hyX6_finding rfl (by decide) (by decide) 0 rfl rfl rfl (Nat.le_of_ble_eq_true rfl) ⟨Nat.zero_le _, Nat.zero_le _⟩ dX6_gets_70 (fun w hw => ?_)
      subst hw
      have e1 := leastN_none (f := getsF Z c t) (n := 101) (fun j hj => hf j (by omega))
      exact r_iret hG hE dX6_gets_73 (by rw [e0, e1, orFin_neg (by omega)]; rfl) ⟨goZ Z i, J1, by rw [e0, e1, orFin_neg (by omega)]; rfl⟩
    · refine r_aload_n (i := 0) hG dX6_gets_40 rfl rfl ?_
      refine r_get hG cX6_gets_X6 0 2 rfl rfl (by decide) kX6_gets_19 rfl dX6_gets_41 ?_
      refine r_get hG cX6_gets_X4 18 4 rfl rfl (by decide) kX6_gets_110 rfl dX6_gets_44 ?_
      refine r_iload_n (i := 1) hG dX6_gets_47 rfl rfl ?_
      refine r_iald hG 20 rfl (by omega) (by decide) dX6_gets_48 ?_
      refine r_iload_n (i := 2) hG dX6_gets_49 rfl rfl ?_
      refine r_icmp_ne (tgt := 55) hG (by omega) (by omega) dX6_gets_50 (by decide) (fun c50 => ?_) (fun c50 => ?_)
      · refine r_aload_n (i := 0) hG dX6_gets_55 rfl rfl ?_
        refine r_get hG cX6_gets_X6 0 2 rfl rfl (by decide) kX6_gets_19 rfl dX6_gets_56 ?_
        refine r_midv hG (c_X4_playRound (g_l G) (g_D G) (fun i => a (18 + i)) (goZ Z i) ((J1) 6) ((J1) 7) ((J1) 8) hg.1 (hg.2.2.2.2.2.2 hH) (by omega) hq) (bobj (g_D G) a (R) ++ (yw (g_D G) (fun i => a (2 + i)) (Z) ((J1) 0) ((J1) 1) ((J1) 2) ++ yw (g_D G) (fun i => a (10 + i)) (K) ((J1) 3) ((J1) 4) ((J1) 5))) (bestw (a 26) ((J1) 9) ((J1) 10) ++ (btxt (g_D G) a (R) (J1) ++ bshs (g_D G) a (R) (C))) rfl gX6_gets_X4_playRound rfl hyX4_playRound rfl (by decide) (by decide) 0 rfl rfl rfl (Nat.le_of_ble_eq_true rfl) ⟨Nat.zero_le _, Nat.zero_le _⟩ dX6_gets_59 ?_
        rintro w ⟨x2, z2, q2, rfl, hq2⟩
        obtain ⟨J2, hJ2⟩ : ∃ J2 : Nat → Int, J2 = jn (jn (jn J1 6 x2) 7 z2) 8 q2 := ⟨_, rfl⟩
        have hq3 : QI (goZ Z (i + 1)) (J2 8) := by rw [hJ2]; exact hq2
        refine V_ws (ws' := bw (g_D G) a (Z) (K) (R) (C) (goZ Z (i + 1)) (J2)) (by rw [hJ2]; rfl) ?_
        refine r_iinc hG dX6_gets_62 rfl (by decide) rfl ?_
        refine r_goto (tgt := 34) hG dX6_gets_65 (by decide) ?_
        exact V_lv (ih (by omega) J2 hq3 (hN1 c50)) ⟨rfl, rfl, rfl, rfl, trivial⟩
      · refine r_iload_n (i := 3) hG dX6_gets_53 rfl rfl ?_
        have e1 := leastN_at (f := getsF Z c t) (i := i) hf (decide_eq_true c50) (n := 101) (by omega)
        exact r_iret hG hE dX6_gets_54 (by rw [e0, e1, orFin_pos (by omega)]) ⟨goZ Z i, J1, by rw [e0, e1, orFin_pos (by omega)]; rfl⟩
  refine r_aload_n (i := 0) hG dX6_gets_0 rfl rfl ?_
  refine r_iload_n (i := 1) hG dX6_gets_1 rfl rfl ?_
  refine r_callVi hG (c_X6_isThere (g_l G) (g_D G) a Z K R C YT J hI _ (by omega))  gX6_gets_X6_isThere rfl hyX6_isThere rfl (by decide) (by decide) 0 rfl rfl rfl (Nat.le_of_ble_eq_true rfl) ⟨Nat.zero_le _, Nat.zero_le _⟩ dX6_gets_2 (fun w hw => ?_)
  subst hw
  refine rb_if_eq (tgt := 15) hG dX6_gets_5 (by decide) (fun c5 => ?_) (fun c5 => ?_)
  · try simp only [decide_eq_true_eq, decide_eq_false_iff_not] at c5
    refine r_aload_n (i := 0) hG dX6_gets_15 rfl rfl ?_
    refine r_iconst hG dX6_gets_16 ?_
    refine r_callVi hG (c_X6_finding (g_l G) (g_D G) a (Z) (K) (R) (C) (YT) (J) 0 (by omega))  gX6_gets_X6_finding rfl hyX6_finding rfl (by decide) (by decide) 0 rfl rfl rfl (Nat.le_of_ble_eq_true rfl) ⟨Nat.zero_le _, Nat.zero_le _⟩ dX6_gets_17 (fun w hw => ?_)
    subst hw
    exact r_iret hG hE dX6_gets_20 (by unfold s_gets; (try dsimp only); (repeat (first | rw [if_pos (by omega)] | rw [if_neg (by omega)])) <;> (first | rfl | skip)) ⟨YT, J, (by unfold s_gets; (try dsimp only); (repeat (first | rw [if_pos (by omega)] | rw [if_neg (by omega)])) <;> (first | rfl | skip))⟩
  · try simp only [decide_eq_true_eq, decide_eq_false_iff_not] at c5
    refine r_iload_n (i := 2) hG dX6_gets_8 rfl rfl ?_
    refine r_call0i hG (c_X6_isThing (g_l G) (g_D G) _ (by omega))  gX6_gets_X6_isThing rfl hyX6_isThing rfl (by decide) (by decide) rfl (Nat.le_of_ble_eq_true rfl) ⟨Nat.zero_le _, Nat.zero_le _⟩ dX6_gets_9 ?_
    refine rb_if_ne (tgt := 21) hG dX6_gets_12 (by decide) (fun c12 => ?_) (fun c12 => ?_)
    · try simp only [decide_eq_true_eq, decide_eq_false_iff_not] at c12
      refine r_aload_n (i := 0) hG dX6_gets_21 rfl rfl ?_
      refine r_get hG cX6_gets_X6 0 2 rfl rfl (by decide) kX6_gets_19 rfl dX6_gets_22 ?_
      refine r_aload_n (i := 0) hG dX6_gets_25 rfl rfl ?_
      refine r_get hG cX6_gets_X6 0 0 rfl rfl (by decide) kX6_gets_10 rfl dX6_gets_26 ?_
      refine r_becT hG gX6_gets_X4_become (by decide) (Nat.le_of_ble_eq_true rfl) ⟨Nat.zero_le _, Nat.zero_le _⟩ dX6_gets_29 ?_
      refine r_iconst hG dX6_gets_32 ?_
      refine r_istore_n (i := 3) hG dX6_gets_33 rfl (by decide) rfl ?_
      exact V_lv (L (by omega) 0 (by omega) (jn J 8 0) (Or.inl rfl) (fun j hj => absurd hj (by omega))) ⟨rfl, rfl, rfl, rfl, trivial⟩
    · try simp only [decide_eq_true_eq, decide_eq_false_iff_not] at c12
      refine r_aload_n (i := 0) hG dX6_gets_15 rfl rfl ?_
      refine r_iconst hG dX6_gets_16 ?_
      refine r_callVi hG (c_X6_finding (g_l G) (g_D G) a (Z) (K) (R) (C) (YT) (J) 0 (by omega))  gX6_gets_X6_finding rfl hyX6_finding rfl (by decide) (by decide) 0 rfl rfl rfl (Nat.le_of_ble_eq_true rfl) ⟨Nat.zero_le _, Nat.zero_le _⟩ dX6_gets_17 (fun w hw => ?_)
      subst hw
      exact r_iret hG hE dX6_gets_20 (by unfold s_gets; (try dsimp only); (repeat (first | rw [if_pos (by omega)] | rw [if_neg (by omega)])) <;> (first | rfl | skip)) ⟨YT, J, (by unfold s_gets; (try dsimp only); (repeat (first | rw [if_pos (by omega)] | rw [if_neg (by omega)])) <;> (first | rfl | skip))⟩
theorem kX6_over_19 : Cond.fieldLink RX6 19 "BreakSwaps" "trial" "LBreakSwaps$Yard;" ∈ wsX6_over := List.mem_of_getElem? (i := 1) rfl
theorem kX6_over_10 : Cond.fieldLink RX6 10 "BreakSwaps" "live" "LBreakSwaps$Yard;" ∈ wsX6_over := List.mem_of_getElem? (i := 2) rfl
theorem cX6_over_X6 : ∀ w ∈ wsX60, w ∈ wsX6_over := fun _ h => List.mem_cons_of_mem _ (List.mem_append_left _ (List.mem_append_left _ (List.mem_append_right _ h)))
theorem hyX6_over : hyV yX6_over RX6 0 := by decide +kernel
set_option maxHeartbeats 4000000 in
set_option maxRecDepth 100000 in
theorem c_X6_over (l : Launch) (D : va_G) (a : Nat → Nat) (Z K R : YS) (C : Int → Int64) (YT : YS) (J : Nat → Int) (hT : TI (Z, K, R, C))  : Con l yX6_over wsX6_over 6 D (bw D a Z K R C YT J) [.ref (a 0)] (some (.int (iI ((s_over (Z, K, R, C)).1)))) (fun ww => ∃ Y2 J2, ww = bwT D a (s_over (Z, K, R, C)).2 Y2 J2) := by
  refine con_start (own := RX6) (by decide) rfl rfl (Nat.le_of_ble_eq_true rfl) ?_
  intro G hG hE hl hD
  subst hl
  subst hD
  have hI : Inv Z := hT.1.1
  have hH : Hol Z := hT.1.2.1
  have hN := hI.1
  have hr0 := hI.2.1
  have hu5 := hI.2.2.1
  have hrd : Z 5 0 ≤ 99999 := hT.1.2.2
  have L : ∀ i : Nat, i ≤ 101 → ∀ J1 : Nat → Int, QI (goZ Z i) (J1 8) → (∀ j : Nat, j < i → overF Z j = false) → V G 0 0 (bw (g_D G) a (Z) (K) (R) (C) (goZ Z i) (J1)) 13 [(0, .ref (a 0)), (1, .int (iI (i : Int)))] [] := by
    refine down (fun i hi ih J1 hq hf => ?_)
    have e0 : s_over (Z, K, R, C) = orFin (Z, K, R, C) 3 (leastN (overF Z) 101) := rfl
    have hg := goZ_ok hI i
    have hN1 : (!pairY (goZ Z i)) = false → ∀ j : Nat, j < i + 1 → overF Z j = false := fun hne j hj => by
      by_cases e : j = i
      · subst e; exact hne
      · exact hf j (by omega)
    refine r_iload_n (i := 1) hG dX6_over_13 rfl rfl ?_
    refine r_bipush hG dX6_over_14 rfl ?_
    refine r_icmp_gt (tgt := 44) hG (by omega) (by omega) dX6_over_16 (by decide) (fun c16 => ?_) (fun c16 => ?_)
    · refine r_aload_n (i := 0) hG dX6_over_44 rfl rfl ?_
      refine r_iconst hG dX6_over_45 ?_
      refine r_callVi hG (c_X6_finding (g_l G) (g_D G) a (Z) (K) (R) (C) (goZ Z i) (J1) 3 (by omega))  gX6_over_X6_finding rfl hyX6_finding rfl (by decide) (by decide) 0 rfl rfl rfl (Nat.le_of_ble_eq_true rfl) ⟨Nat.zero_le _, Nat.zero_le _⟩ dX6_over_46 (fun w hw => ?_)
      subst hw
      have e1 := leastN_none (f := overF Z) (n := 101) (fun j hj => hf j (by omega))
      exact r_iret hG hE dX6_over_49 (by rw [e0, e1, orFin_neg (by omega)]; rfl) ⟨goZ Z i, J1, by rw [e0, e1, orFin_neg (by omega)]; rfl⟩
    · refine r_aload_n (i := 0) hG dX6_over_19 rfl rfl ?_
      refine r_get hG cX6_over_X6 0 2 rfl rfl (by decide) kX6_over_19 rfl dX6_over_20 ?_
      refine r_midi hG (c_X4_isOver (g_l G) (g_D G) (fun i => a (18 + i)) (goZ Z i) ((J1) 6) ((J1) 7) ((J1) 8) hg.1 (hg.2.2.2.2.2.2 hH)) (bobj (g_D G) a (R) ++ (yw (g_D G) (fun i => a (2 + i)) (Z) ((J1) 0) ((J1) 1) ((J1) 2) ++ yw (g_D G) (fun i => a (10 + i)) (K) ((J1) 3) ((J1) 4) ((J1) 5))) (bestw (a 26) ((J1) 9) ((J1) 10) ++ (btxt (g_D G) a (R) (J1) ++ bshs (g_D G) a (R) (C))) rfl gX6_over_X4_isOver rfl hyX4_isOver rfl (by decide) (by decide) 0 rfl rfl rfl (Nat.le_of_ble_eq_true rfl) ⟨Nat.zero_le _, Nat.zero_le _⟩ dX6_over_23 ?_
      intro w hw
      subst hw
      refine V_ws (ws' := bw (g_D G) a (Z) (K) (R) (C) (goZ Z i) (J1)) rfl ?_
      refine rb_if_eq (tgt := 31) hG dX6_over_26 (by decide) (fun c26 => ?_) (fun c26 => ?_)
      · try simp only [decide_eq_true_eq, decide_eq_false_iff_not] at c26
        refine r_aload_n (i := 0) hG dX6_over_31 rfl rfl ?_
        refine r_get hG cX6_over_X6 0 2 rfl rfl (by decide) kX6_over_19 rfl dX6_over_32 ?_
        refine r_midv hG (c_X4_playRound (g_l G) (g_D G) (fun i => a (18 + i)) (goZ Z i) ((J1) 6) ((J1) 7) ((J1) 8) hg.1 (hg.2.2.2.2.2.2 hH) (by omega) hq) (bobj (g_D G) a (R) ++ (yw (g_D G) (fun i => a (2 + i)) (Z) ((J1) 0) ((J1) 1) ((J1) 2) ++ yw (g_D G) (fun i => a (10 + i)) (K) ((J1) 3) ((J1) 4) ((J1) 5))) (bestw (a 26) ((J1) 9) ((J1) 10) ++ (btxt (g_D G) a (R) (J1) ++ bshs (g_D G) a (R) (C))) rfl gX6_over_X4_playRound rfl hyX4_playRound rfl (by decide) (by decide) 0 rfl rfl rfl (Nat.le_of_ble_eq_true rfl) ⟨Nat.zero_le _, Nat.zero_le _⟩ dX6_over_35 ?_
        rintro w ⟨x2, z2, q2, rfl, hq2⟩
        obtain ⟨J2, hJ2⟩ : ∃ J2 : Nat → Int, J2 = jn (jn (jn J1 6 x2) 7 z2) 8 q2 := ⟨_, rfl⟩
        have hq3 : QI (goZ Z (i + 1)) (J2 8) := by rw [hJ2]; exact hq2
        refine V_ws (ws' := bw (g_D G) a (Z) (K) (R) (C) (goZ Z (i + 1)) (J2)) (by rw [hJ2]; rfl) ?_
        refine r_iinc hG dX6_over_38 rfl (by decide) rfl ?_
        refine r_goto (tgt := 13) hG dX6_over_41 (by decide) ?_
        exact V_lv (ih (by omega) J2 hq3 (hN1 c26)) ⟨rfl, rfl, trivial⟩
      · try simp only [decide_eq_true_eq, decide_eq_false_iff_not] at c26
        refine r_iload_n (i := 1) hG dX6_over_29 rfl rfl ?_
        have e1 := leastN_at (f := overF Z) (i := i) hf c26 (n := 101) (by omega)
        exact r_iret hG hE dX6_over_30 (by rw [e0, e1, orFin_pos (by omega)]) ⟨goZ Z i, J1, by rw [e0, e1, orFin_pos (by omega)]; rfl⟩
  refine r_aload_n (i := 0) hG dX6_over_0 rfl rfl ?_
  refine r_get hG cX6_over_X6 0 2 rfl rfl (by decide) kX6_over_19 rfl dX6_over_1 ?_
  refine r_aload_n (i := 0) hG dX6_over_4 rfl rfl ?_
  refine r_get hG cX6_over_X6 0 0 rfl rfl (by decide) kX6_over_10 rfl dX6_over_5 ?_
  refine r_becT hG gX6_over_X4_become (by decide) (Nat.le_of_ble_eq_true rfl) ⟨Nat.zero_le _, Nat.zero_le _⟩ dX6_over_8 ?_
  refine r_iconst hG dX6_over_11 ?_
  refine r_istore_n (i := 1) hG dX6_over_12 rfl (by decide) rfl ?_
  exact V_lv (L 0 (by omega) (jn J 8 0) (Or.inl rfl) (fun j hj => absurd hj (by omega))) ⟨rfl, rfl, trivial⟩
