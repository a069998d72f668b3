theorem hyX6_isWithin : hyS yX6_isWithin 3 := by decide +kernel
set_option maxHeartbeats 4000000 in
set_option maxRecDepth 100000 in
theorem c_X6_isWithin (l : Launch) (D : va_G) (v x y : Int) (hv : -2147483648 ≤ v ∧ v < 2147483648) (hx : -2147483648 ≤ x ∧ x < 2147483648) (hy : -2147483648 ≤ y ∧ y < 2147483648) : Con l yX6_isWithin wsX6_isWithin 0 D [] [.int (iI v), .int (iI x), .int (iI y)] (some (.int (iI (b2 (decide (x ≤ v ∧ v ≤ y)))))) (fun w => w = []) := by
  refine con_start (own := RX6) (by decide) rfl rfl (Nat.le_of_ble_eq_true rfl) ?_
  intro G hG hE hl hD
  subst hl
  subst hD
  refine r_iload_n (i := 0) hG dX6_isWithin_0 rfl rfl ?_
  refine r_iload_n (i := 1) hG dX6_isWithin_1 rfl rfl ?_
  refine r_icmp_lt (tgt := 14) hG (by omega) (by omega) dX6_isWithin_2 (by decide) (fun c2 => ?_) (fun c2 => ?_)
  · refine r_iconst hG dX6_isWithin_14 ?_
    exact r_zret hG hE dX6_isWithin_15 (by congr 1; unfold b2; (repeat' split) <;> (first | rfl | (exfalso; simp only [decide_eq_true_eq, decide_eq_false_iff_not] at * <;> omega))) rfl
  · refine r_iload_n (i := 0) hG dX6_isWithin_5 rfl rfl ?_
    refine r_iload_n (i := 2) hG dX6_isWithin_6 rfl rfl ?_
    refine r_icmp_gt (tgt := 14) hG (by omega) (by omega) dX6_isWithin_7 (by decide) (fun c7 => ?_) (fun c7 => ?_)
    · refine r_iconst hG dX6_isWithin_14 ?_
      exact r_zret hG hE dX6_isWithin_15 (by congr 1; unfold b2; (repeat' split) <;> (first | rfl | (exfalso; simp only [decide_eq_true_eq, decide_eq_false_iff_not] at * <;> omega))) rfl
    · refine r_iconst hG dX6_isWithin_10 ?_
      refine r_goto (tgt := 15) hG dX6_isWithin_11 (by decide) ?_
      exact r_zret hG hE dX6_isWithin_15 (by congr 1; unfold b2; (repeat' split) <;> (first | rfl | (exfalso; simp only [decide_eq_true_eq, decide_eq_false_iff_not] at * <;> omega))) rfl
theorem hyX6_isThing : hyS yX6_isThing 1 := by decide +kernel
set_option maxHeartbeats 4000000 in
set_option maxRecDepth 100000 in
theorem c_X6_isThing (l : Launch) (D : va_G) (v : Int) (hv : -2147483648 ≤ v ∧ v < 2147483648) : Con l yX6_isThing wsX6_isThing 1 D [] [.int (iI v)] (some (.int (iI (b2 (decide (0 ≤ v ∧ v ≤ 9)))))) (fun w => w = []) := by
  refine con_start (own := RX6) (by decide) rfl rfl (Nat.le_of_ble_eq_true rfl) ?_
  intro G hG hE hl hD
  subst hl
  subst hD
  refine r_iload_n (i := 0) hG dX6_isThing_0 rfl rfl ?_
  refine r_iconst hG dX6_isThing_1 ?_
  refine r_bipush hG dX6_isThing_2 rfl ?_
  refine r_call0i hG (c_X6_isWithin (g_l G) (g_D G) _ _ _ (by omega) (by omega) (by omega))  gX6_isThing_X6_isWithin rfl hyX6_isWithin rfl (by decide) (by decide) rfl (Nat.le_of_ble_eq_true rfl) ⟨Nat.zero_le _, Nat.zero_le _⟩ dX6_isThing_4 ?_
  exact r_zret hG hE dX6_isThing_7 rfl rfl
theorem hyX6_isSheet : hyS yX6_isSheet 1 := by decide +kernel
set_option maxHeartbeats 4000000 in
set_option maxRecDepth 100000 in
theorem c_X6_isSheet (l : Launch) (D : va_G) (v : Int) (hv : -2147483648 ≤ v ∧ v < 2147483648) : Con l yX6_isSheet wsX6_isSheet 1 D [] [.int (iI v)] (some (.int (iI (b2 (decide (0 ≤ v ∧ v ≤ 3)))))) (fun w => w = []) := by
  refine con_start (own := RX6) (by decide) rfl rfl (Nat.le_of_ble_eq_true rfl) ?_
  intro G hG hE hl hD
  subst hl
  subst hD
  refine r_iload_n (i := 0) hG dX6_isSheet_0 rfl rfl ?_
  refine r_iconst hG dX6_isSheet_1 ?_
  refine r_iconst hG dX6_isSheet_2 ?_
  refine r_call0i hG (c_X6_isWithin (g_l G) (g_D G) _ _ _ (by omega) (by omega) (by omega))  gX6_isSheet_X6_isWithin rfl hyX6_isWithin rfl (by decide) (by decide) rfl (Nat.le_of_ble_eq_true rfl) ⟨Nat.zero_le _, Nat.zero_le _⟩ dX6_isSheet_3 ?_
  exact r_zret hG hE dX6_isSheet_6 rfl rfl
theorem hyX6_mostOf : hyS yX6_mostOf 1 := by decide +kernel
set_option maxHeartbeats 4000000 in
set_option maxRecDepth 100000 in
theorem c_X6_mostOf (l : Launch) (D : va_G) (w : Int) (hw : -2147483648 ≤ w ∧ w < 2147483648) : Con l yX6_mostOf wsX6_mostOf 0 D [] [.int (iI w)] (some (.int (iI (mostK w)))) (fun ww => ww = []) := by
  refine con_start (own := RX6) (by decide) rfl rfl (Nat.le_of_ble_eq_true rfl) ?_
  intro G hG hE hl hD
  subst hl
  subst hD
  refine r_iload_n (i := 0) hG dX6_mostOf_0 rfl rfl ?_
  rcases (show w = 1 ∨ w = 2 ∨ (¬ w = 1 ∧ ¬ w = 2) by omega) with c1 | c1 | c1
  · refine r_lsw (tgt := 28) hG (by omega) dX6_mostOf_1 (by decide) (by rw [c1]) (by decide) ?_
    refine r_bipush hG dX6_mostOf_28 rfl ?_
    exact r_iret hG hE dX6_mostOf_30 (by unfold mostK; congr 1; (repeat (first | rw [if_pos (by omega)] | rw [if_neg (by omega)]))) rfl
  · refine r_lsw (tgt := 31) hG (by omega) dX6_mostOf_1 (by decide) (by rw [c1]) (by decide) ?_
    refine r_sipush hG dX6_mostOf_31 rfl ?_
    exact r_iret hG hE dX6_mostOf_34 (by unfold mostK; congr 1; (repeat (first | rw [if_pos (by omega)] | rw [if_neg (by omega)]))) rfl
  · refine r_lsw (tgt := 35) (off := 34) hG (by omega) dX6_mostOf_1 (by decide) (by simp [Op.lookupswitch.offset]; repeat (first | rw [if_pos (by omega)] | rw [if_neg (by omega)])) (by decide) ?_
    refine r_bipush hG dX6_mostOf_35 rfl ?_
    exact r_iret hG hE dX6_mostOf_37 (by unfold mostK; congr 1; (repeat (first | rw [if_pos (by omega)] | rw [if_neg (by omega)]))) rfl
theorem kX6_isThere_10 : Cond.fieldLink RX6 10 "BreakSwaps" "live" "LBreakSwaps$Yard;" ∈ wsX6_isThere := List.mem_of_getElem? (i := 1) rfl
theorem kX6_isThere_158 : Cond.fieldLink RX6 158 "BreakSwaps$Yard" "size" "I" ∈ wsX6_isThere := List.mem_of_getElem? (i := 2) rfl
theorem cX6_isThere_X4 : ∀ w ∈ wsX40, w ∈ wsX6_isThere := fun _ h => List.mem_cons_of_mem _ (List.mem_append_right _ h)
theorem cX6_isThere_X6 : ∀ w ∈ wsX60, w ∈ wsX6_isThere := fun _ h => List.mem_cons_of_mem _ (List.mem_append_left _ (List.mem_append_right _ h))
theorem hyX6_isThere : hyV yX6_isThere RX6 1 := by decide +kernel
set_option maxHeartbeats 4000000 in
set_option maxRecDepth 100000 in
theorem c_X6_isThere (l : Launch) (D : va_G) (a : Nat → Nat) (Z K R : YS) (C : Int → Int64) (YT : YS) (J : Nat → Int) (hI : Inv Z) (c : Int) (hc : -2147483648 ≤ c ∧ c < 2147483648) : Con l yX6_isThere wsX6_isThere 1 D (bw D a Z K R C YT J) [.ref (a 0), .int (iI c)] (some (.int (iI (b2 (decide (0 ≤ c ∧ c ≤ Z 5 2 - 1)))))) (fun ww => ww = bw D a Z K R C YT J) := by
  refine con_start (own := RX6) (by decide) rfl rfl (Nat.le_of_ble_eq_true rfl) ?_
  intro G hG hE hl hD
  subst hl
  subst hD
  have hN := hI.1
  refine r_iload_n (i := 1) hG dX6_isThere_0 rfl rfl ?_
  refine r_iconst hG dX6_isThere_1 ?_
  refine r_aload_n (i := 0) hG dX6_isThere_2 rfl rfl ?_
  refine r_get hG cX6_isThere_X6 0 0 rfl rfl (by decide) kX6_isThere_10 rfl dX6_isThere_3 ?_
  refine r_get hG cX6_isThere_X4 2 2 rfl rfl (by decide) kX6_isThere_158 rfl dX6_isThere_6 ?_
  refine r_iconst hG dX6_isThere_9 ?_
  refine r_isub hG dX6_isThere_10 ?_
  refine r_call0i hG (c_X6_isWithin (g_l G) (g_D G) _ _ _ (by omega) (by omega) (by omega))  gX6_isThere_X6_isWithin rfl hyX6_isWithin rfl (by decide) (by decide) rfl (Nat.le_of_ble_eq_true rfl) ⟨Nat.zero_le _, Nat.zero_le _⟩ dX6_isThere_11 ?_
  exact r_zret hG hE dX6_isThere_14 rfl rfl
theorem hyX6_areTwo : hyV yX6_areTwo RX6 2 := by decide +kernel
set_option maxHeartbeats 4000000 in
set_option maxRecDepth 100000 in
theorem c_X6_areTwo (l : Launch) (D : va_G) (a : Nat → Nat) (Z K R : YS) (C : Int → Int64) (YT : YS) (J : Nat → Int) (hI : Inv Z) (c o : Int) (hc : -2147483648 ≤ c ∧ c < 2147483648) (ho : -2147483648 ≤ o ∧ o < 2147483648) : Con l yX6_areTwo wsX6_areTwo 2 D (bw D a Z K R C YT J) [.ref (a 0), .int (iI c), .int (iI o)] (some (.int (iI (b2 (decide (0 ≤ c ∧ c ≤ Z 5 2 - 1 ∧ 0 ≤ o ∧ o ≤ Z 5 2 - 1 ∧ c ≠ o)))))) (fun ww => ww = bw D a Z K R C YT J) := by
  refine con_start (own := RX6) (by decide) rfl rfl (Nat.le_of_ble_eq_true rfl) ?_
  intro G hG hE hl hD
  subst hl
  subst hD
  refine r_aload_n (i := 0) hG dX6_areTwo_0 rfl rfl ?_
  refine r_iload_n (i := 1) hG dX6_areTwo_1 rfl rfl ?_
  refine r_callVi hG (c_X6_isThere (g_l G) (g_D G) a Z K R C YT J hI _ (by omega))  gX6_areTwo_X6_isThere rfl hyX6_isThere rfl (by decide) (by decide) 0 rfl rfl rfl (Nat.le_of_ble_eq_true rfl) ⟨Nat.zero_le _, Nat.zero_le _⟩ dX6_areTwo_2 (fun w hw => ?_)
  subst hw
  refine rb_if_eq (tgt := 25) hG dX6_areTwo_5 (by decide) (fun c5 => ?_) (fun c5 => ?_)
  · refine r_iconst hG dX6_areTwo_25 ?_
    exact r_zret hG hE dX6_areTwo_26 (by congr 1; unfold b2; (repeat' split) <;> (first | rfl | (exfalso; simp only [decide_eq_true_eq, decide_eq_false_iff_not] at * <;> omega))) rfl
  · refine r_aload_n (i := 0) hG dX6_areTwo_8 rfl rfl ?_
    refine r_iload_n (i := 2) hG dX6_areTwo_9 rfl rfl ?_
    refine r_callVi hG (c_X6_isThere (g_l G) (g_D G) a Z K R C YT J hI _ (by omega))  gX6_areTwo_X6_isThere rfl hyX6_isThere rfl (by decide) (by decide) 0 rfl rfl rfl (Nat.le_of_ble_eq_true rfl) ⟨Nat.zero_le _, Nat.zero_le _⟩ dX6_areTwo_10 (fun w hw => ?_)
    subst hw
    refine rb_if_eq (tgt := 25) hG dX6_areTwo_13 (by decide) (fun c13 => ?_) (fun c13 => ?_)
    · refine r_iconst hG dX6_areTwo_25 ?_
      exact r_zret hG hE dX6_areTwo_26 (by congr 1; unfold b2; (repeat' split) <;> (first | rfl | (exfalso; simp only [decide_eq_true_eq, decide_eq_false_iff_not] at * <;> omega))) rfl
    · refine r_iload_n (i := 1) hG dX6_areTwo_16 rfl rfl ?_
      refine r_iload_n (i := 2) hG dX6_areTwo_17 rfl rfl ?_
      refine r_icmp_eq (tgt := 25) hG (by omega) (by omega) dX6_areTwo_18 (by decide) (fun c18 => ?_) (fun c18 => ?_)
      · refine r_iconst hG dX6_areTwo_25 ?_
        exact r_zret hG hE dX6_areTwo_26 (by congr 1; unfold b2; (repeat' split) <;> (first | rfl | (exfalso; simp only [decide_eq_true_eq, decide_eq_false_iff_not] at * <;> omega))) rfl
      · refine r_iconst hG dX6_areTwo_21 ?_
        refine r_goto (tgt := 26) hG dX6_areTwo_22 (by decide) ?_
        exact r_zret hG hE dX6_areTwo_26 (by congr 1; unfold b2; (repeat' split) <;> (first | rfl | (exfalso; simp only [decide_eq_true_eq, decide_eq_false_iff_not] at * <;> omega))) rfl
theorem kX6_finding_47 : Cond.fieldLink RX6 47 "BreakSwaps" "found" "[I" ∈ wsX6_finding := List.mem_of_getElem? (i := 1) rfl
theorem cX6_finding_X6 : ∀ w ∈ wsX60, w ∈ wsX6_finding := fun _ h => List.mem_cons_of_mem _ (List.mem_append_right _ h)
theorem hyX6_finding : hyV yX6_finding RX6 1 := by decide +kernel
set_option maxHeartbeats 4000000 in
set_option maxRecDepth 100000 in
theorem c_X6_finding (l : Launch) (D : va_G) (a : Nat → Nat) (Z K R : YS) (C : Int → Int64) (YT : YS) (J : Nat → Int) (k : Int) (hk : 0 ≤ k ∧ k < 7) : Con l yX6_finding wsX6_finding 0 D (bw D a Z K R C YT J) [.ref (a 0), .int (iI k)] (some (.int (iI (-1000000001 - k)))) (fun ww => ww = bw D a Z K (upY R 1 k (R 1 k + 1)) C YT J) := by
  refine con_start (own := RX6) (by decide) rfl rfl (Nat.le_of_ble_eq_true rfl) ?_
  intro G hG hE hl hD
  subst hl
  subst hD
  refine r_aload_n (i := 0) hG dX6_finding_0 rfl rfl ?_
  refine r_get hG cX6_finding_X6 0 7 rfl rfl (by decide) kX6_finding_47 rfl dX6_finding_1 ?_
  refine r_iload_n (i := 1) hG dX6_finding_4 rfl rfl ?_
  refine r_dup2 hG dX6_finding_5 rfl rfl ?_
  refine r_iald hG 1 rfl (by omega) (by decide) dX6_finding_6 ?_
  refine r_iconst hG dX6_finding_7 ?_
  refine r_iadd hG dX6_finding_8 ?_
  refine r_iast hG 1 rfl (by omega) (by decide) dX6_finding_9 rfl ?_
  refine r_ldc (n := -1000000001) hG (List.mem_of_getElem? (i := 2) rfl) rfl dX6_finding_10 ?_
  refine r_iload_n (i := 1) hG dX6_finding_12 rfl rfl ?_
  refine r_isub hG dX6_finding_13 ?_
  exact r_iret hG hE dX6_finding_14 rfl rfl
theorem kX6_bestOrNone_25 : Cond.fieldLink RX6 25 "BreakSwaps" "best" "LBreakSwaps$Best;" ∈ wsX6_bestOrNone := List.mem_of_getElem? (i := 1) rfl
theorem kX6_bestOrNone_254 : Cond.fieldLink RX6 254 "BreakSwaps$Best" "which" "I" ∈ wsX6_bestOrNone := List.mem_of_getElem? (i := 2) rfl
theorem cX6_bestOrNone_X0 : ∀ w ∈ wsX00, w ∈ wsX6_bestOrNone := fun _ h => List.mem_cons_of_mem _ (List.mem_append_right _ h)
theorem cX6_bestOrNone_X6 : ∀ w ∈ wsX60, w ∈ wsX6_bestOrNone := fun _ h => List.mem_cons_of_mem _ (List.mem_append_left _ (List.mem_append_right _ h))
theorem hyX6_bestOrNone : hyV yX6_bestOrNone RX6 0 := by decide +kernel
set_option maxHeartbeats 4000000 in
set_option maxRecDepth 100000 in
theorem c_X6_bestOrNone (l : Launch) (D : va_G) (a : Nat → Nat) (Z K R : YS) (C : Int → Int64) (YT : YS) (J : Nat → Int) (hb : -2147483648 ≤ (J 9) ∧ (J 9) < 2147483648) : Con l yX6_bestOrNone wsX6_bestOrNone 1 D (bw D a Z K R C YT J) [.ref (a 0)] (some (.int (iI (if J 9 < 0 then -1000000004 else J 9)))) (fun ww => ww = bw D a Z K (if J 9 < 0 then upY R 1 3 (R 1 3 + 1) else R) C YT J) := by
  refine con_start (own := RX6) (by decide) rfl rfl (Nat.le_of_ble_eq_true rfl) ?_
  intro G hG hE hl hD
  subst hl
  subst hD
  refine r_aload_n (i := 0) hG dX6_bestOrNone_0 rfl rfl ?_
  refine r_get hG cX6_bestOrNone_X6 0 3 rfl rfl (by decide) kX6_bestOrNone_25 rfl dX6_bestOrNone_1 ?_
  refine r_get hG cX6_bestOrNone_X0 26 0 rfl rfl (by decide) kX6_bestOrNone_254 rfl dX6_bestOrNone_4 ?_
  refine r_if_ge (tgt := 18) hG (by omega) dX6_bestOrNone_7 (by decide) (fun c7 => ?_) (fun c7 => ?_)
  · refine r_aload_n (i := 0) hG dX6_bestOrNone_18 rfl rfl ?_
    refine r_get hG cX6_bestOrNone_X6 0 3 rfl rfl (by decide) kX6_bestOrNone_25 rfl dX6_bestOrNone_19 ?_
    refine r_get hG cX6_bestOrNone_X0 26 0 rfl rfl (by decide) kX6_bestOrNone_254 rfl dX6_bestOrNone_22 ?_
    first
      | exact r_iret hG hE dX6_bestOrNone_25 (by rw [if_pos (by omega)]; rfl) (by rw [if_pos (by omega)])
      | exact r_iret hG hE dX6_bestOrNone_25 (by rw [if_neg (by omega)]) (by rw [if_neg (by omega)])
  · refine r_aload_n (i := 0) hG dX6_bestOrNone_10 rfl rfl ?_
    refine r_iconst hG dX6_bestOrNone_11 ?_
    refine r_callVi hG (c_X6_finding (g_l G) (g_D G) a (Z) (K) (R) (C) (YT) (J) 3 (by omega))  gX6_bestOrNone_X6_finding rfl hyX6_finding rfl (by decide) (by decide) 0 rfl rfl rfl (Nat.le_of_ble_eq_true rfl) ⟨Nat.zero_le _, Nat.zero_le _⟩ dX6_bestOrNone_12 (fun w hw => ?_)
    subst hw
    refine r_goto (tgt := 25) hG dX6_bestOrNone_15 (by decide) ?_
    first
      | exact r_iret hG hE dX6_bestOrNone_25 (by rw [if_pos (by omega)]; rfl) (by rw [if_pos (by omega)])
      | exact r_iret hG hE dX6_bestOrNone_25 (by rw [if_neg (by omega)]) (by rw [if_neg (by omega)])
theorem kX6_teacher_10 : Cond.fieldLink RX6 10 "BreakSwaps" "live" "LBreakSwaps$Yard;" ∈ wsX6_teacher := List.mem_of_getElem? (i := 1) rfl
theorem kX6_teacher_64 : Cond.fieldLink RX6 64 "BreakSwaps$Yard" "teacher" "I" ∈ wsX6_teacher := List.mem_of_getElem? (i := 2) rfl
theorem cX6_teacher_X4 : ∀ w ∈ wsX40, w ∈ wsX6_teacher := fun _ h => List.mem_cons_of_mem _ (List.mem_append_right _ h)
theorem cX6_teacher_X6 : ∀ w ∈ wsX60, w ∈ wsX6_teacher := fun _ h => List.mem_cons_of_mem _ (List.mem_append_left _ (List.mem_append_right _ h))
theorem hyX6_teacher : hyV yX6_teacher RX6 1 := by decide +kernel
set_option maxHeartbeats 4000000 in
set_option maxRecDepth 100000 in
theorem c_X6_teacher (l : Launch) (D : va_G) (a : Nat → Nat) (Z K R : YS) (C : Int → Int64) (YT : YS) (J : Nat → Int) (hT : TI (Z, K, R, C)) (v : Int) (hv : -2147483648 ≤ v ∧ v < 2147483648) : Con l yX6_teacher wsX6_teacher 1 D (bw D a Z K R C YT J) [.ref (a 0), .int (iI v)] (some (.int (iI ((s_teacher (Z, K, R, C) v).1)))) (fun ww => ∃ Y2 J2, ww = bwT D a (s_teacher (Z, K, R, C) v).2 Y2 J2) := by
  refine con_start (own := RX6) (by decide) rfl rfl (Nat.le_of_ble_eq_true rfl) ?_
  intro G hG hE hl hD
  subst hl
  subst hD
  have hI : Inv Z := hT.1.1
  have hH : Hol Z := hT.1.2.1
  have hN := hI.1
  have hr0 := hI.2.1
  have hu5 := hI.2.2.1
  have hrd : Z 5 0 ≤ 99999 := hT.1.2.2
  refine r_iload_n (i := 1) hG dX6_teacher_0 rfl rfl ?_
  refine r_iconst hG dX6_teacher_1 ?_
  refine r_iconst hG dX6_teacher_2 ?_
  refine r_call0i hG (c_X6_isWithin (g_l G) (g_D G) _ _ _ (by omega) (by omega) (by omega))  gX6_teacher_X6_isWithin rfl hyX6_isWithin rfl (by decide) (by decide) rfl (Nat.le_of_ble_eq_true rfl) ⟨Nat.zero_le _, Nat.zero_le _⟩ dX6_teacher_3 ?_
  refine rb_if_ne (tgt := 15) hG dX6_teacher_6 (by decide) (fun c6 => ?_) (fun c6 => ?_)
  · try simp only [decide_eq_true_eq, decide_eq_false_iff_not] at c6
    refine r_aload_n (i := 0) hG dX6_teacher_15 rfl rfl ?_
    refine r_get hG cX6_teacher_X6 0 0 rfl rfl (by decide) kX6_teacher_10 rfl dX6_teacher_16 ?_
    refine r_get hG cX6_teacher_X4 2 1 rfl rfl (by decide) kX6_teacher_64 rfl dX6_teacher_19 ?_
    refine r_istore_n (i := 2) hG dX6_teacher_22 rfl (by decide) rfl ?_
    refine r_aload_n (i := 0) hG dX6_teacher_23 rfl rfl ?_
    refine r_get hG cX6_teacher_X6 0 0 rfl rfl (by decide) kX6_teacher_10 rfl dX6_teacher_24 ?_
    refine r_iload_n (i := 1) hG dX6_teacher_27 rfl rfl ?_
    refine r_put hG cX6_teacher_X4 2 1 tyX4 tyX4_ok nmX4 rfl rfl (by decide) kX6_teacher_64 rfl rfl rfl (Nat.le_of_ble_eq_true rfl) dX6_teacher_28 rfl ?_
    refine r_iload_n (i := 2) hG dX6_teacher_31 rfl rfl ?_
    exact r_iret hG hE dX6_teacher_32 (by unfold s_teacher; (try dsimp only); (repeat (first | rw [if_pos (by omega)] | rw [if_neg (by omega)])) <;> (first | rfl | skip)) ⟨YT, J, (by unfold s_teacher; (try dsimp only); (repeat (first | rw [if_pos (by omega)] | rw [if_neg (by omega)])) <;> (first | rfl | skip))⟩
  · try simp only [decide_eq_true_eq, decide_eq_false_iff_not] at c6
    refine r_aload_n (i := 0) hG dX6_teacher_9 rfl rfl ?_
    refine r_iconst hG dX6_teacher_10 ?_
    refine r_callVi hG (c_X6_finding (g_l G) (g_D G) a (Z) (K) (R) (C) (YT) (J) 0 (by omega))  gX6_teacher_X6_finding rfl hyX6_finding rfl (by decide) (by decide) 0 rfl rfl rfl (Nat.le_of_ble_eq_true rfl) ⟨Nat.zero_le _, Nat.zero_le _⟩ dX6_teacher_11 (fun w hw => ?_)
    subst hw
    exact r_iret hG hE dX6_teacher_14 (by unfold s_teacher; (try dsimp only); (repeat (first | rw [if_pos (by omega)] | rw [if_neg (by omega)])) <;> (first | rfl | skip)) ⟨YT, J, (by unfold s_teacher; (try dsimp only); (repeat (first | rw [if_pos (by omega)] | rw [if_neg (by omega)])) <;> (first | rfl | skip))⟩
theorem kX6_now_10 : Cond.fieldLink RX6 10 "BreakSwaps" "live" "LBreakSwaps$Yard;" ∈ wsX6_now := List.mem_of_getElem? (i := 1) rfl
theorem kX6_now_68 : Cond.fieldLink RX6 68 "BreakSwaps$Yard" "round" "I" ∈ wsX6_now := List.mem_of_getElem? (i := 2) rfl
theorem kX6_now_64 : Cond.fieldLink RX6 64 "BreakSwaps$Yard" "teacher" "I" ∈ wsX6_now := List.mem_of_getElem? (i := 3) rfl
theorem cX6_now_X4 : ∀ w ∈ wsX40, w ∈ wsX6_now := fun _ h => List.mem_cons_of_mem _ (List.mem_append_right _ h)
theorem cX6_now_X6 : ∀ w ∈ wsX60, w ∈ wsX6_now := fun _ h => List.mem_cons_of_mem _ (List.mem_append_left _ (List.mem_append_right _ h))
theorem hyX6_now : hyV yX6_now RX6 1 := by decide +kernel
set_option maxHeartbeats 4000000 in
set_option maxRecDepth 100000 in
theorem c_X6_now (l : Launch) (D : va_G) (a : Nat → Nat) (Z K R : YS) (C : Int → Int64) (YT : YS) (J : Nat → Int) (hT : TI (Z, K, R, C)) (w : Int) (hw : -2147483648 ≤ w ∧ w < 2147483648) : Con l yX6_now wsX6_now 6 D (bw D a Z K R C YT J) [.ref (a 0), .int (iI w)] (some (.int (iI ((s_now (Z, K, R, C) w).1)))) (fun ww => ∃ Y2 J2, ww = bwT D a (s_now (Z, K, R, C) w).2 Y2 J2) := by
  refine con_start (own := RX6) (by decide) rfl rfl (Nat.le_of_ble_eq_true rfl) ?_
  intro G hG hE hl hD
  subst hl
  subst hD
  have hI : Inv Z := hT.1.1
  have hH : Hol Z := hT.1.2.1
  have hN := hI.1
  have hr0 := hI.2.1
  have hu5 := hI.2.2.1
  have hrd : Z 5 0 ≤ 99999 := hT.1.2.2
  refine r_iload_n (i := 1) hG dX6_now_0 rfl rfl ?_
  rcases (show w = 0 ∨ w = 1 ∨ w = 2 ∨ w = 3 ∨ w = 4 ∨ w = 5 ∨ (w < 0 ∨ 5 < w) by omega) with c1 | c1 | c1 | c1 | c1 | c1 | c1
  · refine r_tsIn (tgt := 40) hG 0 c1 dX6_now_1 (by omega) rfl (by decide) ?_
    refine r_aload_n (i := 0) hG dX6_now_40 rfl rfl ?_
    refine r_get hG cX6_now_X6 0 0 rfl rfl (by decide) kX6_now_10 rfl dX6_now_41 ?_
    refine r_get hG cX6_now_X4 2 0 rfl rfl (by decide) kX6_now_68 rfl dX6_now_44 ?_
    exact r_iret hG hE dX6_now_47 (by unfold s_now; (try dsimp only); (repeat (first | rw [if_pos (by omega)] | rw [if_neg (by omega)])) <;> (first | rfl | skip)) ⟨YT, J, (by unfold s_now; (try dsimp only); (repeat (first | rw [if_pos (by omega)] | rw [if_neg (by omega)])) <;> (first | rfl | skip))⟩
  · refine r_tsIn (tgt := 48) hG 1 c1 dX6_now_1 (by omega) rfl (by decide) ?_
    refine r_aload_n (i := 0) hG dX6_now_48 rfl rfl ?_
    refine r_get hG cX6_now_X6 0 0 rfl rfl (by decide) kX6_now_10 rfl dX6_now_49 ?_
    refine r_get hG cX6_now_X4 2 1 rfl rfl (by decide) kX6_now_64 rfl dX6_now_52 ?_
    exact r_iret hG hE dX6_now_55 (by unfold s_now; (try dsimp only); (repeat (first | rw [if_pos (by omega)] | rw [if_neg (by omega)])) <;> (first | rfl | skip)) ⟨YT, J, (by unfold s_now; (try dsimp only); (repeat (first | rw [if_pos (by omega)] | rw [if_neg (by omega)])) <;> (first | rfl | skip))⟩
  · refine r_tsIn (tgt := 56) hG 2 c1 dX6_now_1 (by omega) rfl (by decide) ?_
    refine r_aload_n (i := 0) hG dX6_now_56 rfl rfl ?_
    refine r_get hG cX6_now_X6 0 0 rfl rfl (by decide) kX6_now_10 rfl dX6_now_57 ?_
    refine r_midi hG (c_X4_thingsHeld (g_l G) (g_D G) (fun i => a (2 + i)) (Z) ((J) 0) ((J) 1) ((J) 2) hI) (bobj (g_D G) a (R)) (yw (g_D G) (fun i => a (10 + i)) (K) ((J) 3) ((J) 4) ((J) 5) ++ (yw (g_D G) (fun i => a (18 + i)) (YT) ((J) 6) ((J) 7) ((J) 8) ++ (bestw (a 26) ((J) 9) ((J) 10) ++ (btxt (g_D G) a (R) (J) ++ bshs (g_D G) a (R) (C))))) rfl gX6_now_X4_thingsHeld rfl hyX4_thingsHeld rfl (by decide) (by decide) 0 rfl rfl rfl (Nat.le_of_ble_eq_true rfl) ⟨Nat.zero_le _, Nat.zero_le _⟩ dX6_now_60 ?_
    intro w hw
    subst hw
    refine V_ws (ws' := bw (g_D G) a (Z) (K) (R) (C) (YT) (J)) rfl ?_
    exact r_iret hG hE dX6_now_63 (by unfold s_now; (try dsimp only); (repeat (first | rw [if_pos (by omega)] | rw [if_neg (by omega)])); exact (iI_of _).symm) ⟨YT, J, (by unfold s_now; (try dsimp only); (repeat (first | rw [if_pos (by omega)] | rw [if_neg (by omega)])) <;> (first | rfl | skip))⟩
  · refine r_tsIn (tgt := 64) hG 3 c1 dX6_now_1 (by omega) rfl (by decide) ?_
    refine r_aload_n (i := 0) hG dX6_now_64 rfl rfl ?_
    refine r_get hG cX6_now_X6 0 0 rfl rfl (by decide) kX6_now_10 rfl dX6_now_65 ?_
    refine r_midi hG (c_X4_gladOfAll (g_l G) (g_D G) (fun i => a (2 + i)) (Z) ((J) 0) ((J) 1) ((J) 2) hI hH) (bobj (g_D G) a (R)) (yw (g_D G) (fun i => a (10 + i)) (K) ((J) 3) ((J) 4) ((J) 5) ++ (yw (g_D G) (fun i => a (18 + i)) (YT) ((J) 6) ((J) 7) ((J) 8) ++ (bestw (a 26) ((J) 9) ((J) 10) ++ (btxt (g_D G) a (R) (J) ++ bshs (g_D G) a (R) (C))))) rfl gX6_now_X4_gladOfAll rfl hyX4_gladOfAll rfl (by decide) (by decide) 0 rfl rfl rfl (Nat.le_of_ble_eq_true rfl) ⟨Nat.zero_le _, Nat.zero_le _⟩ dX6_now_68 ?_
    intro w hw
    subst hw
    refine V_ws (ws' := bw (g_D G) a (Z) (K) (R) (C) (YT) (J)) rfl ?_
    exact r_iret hG hE dX6_now_71 (by unfold s_now; (try dsimp only); (repeat (first | rw [if_pos (by omega)] | rw [if_neg (by omega)])) <;> (first | rfl | skip)) ⟨YT, J, (by unfold s_now; (try dsimp only); (repeat (first | rw [if_pos (by omega)] | rw [if_neg (by omega)])) <;> (first | rfl | skip))⟩
  · refine r_tsIn (tgt := 72) hG 4 c1 dX6_now_1 (by omega) rfl (by decide) ?_
    refine r_aload_n (i := 0) hG dX6_now_72 rfl rfl ?_
    refine r_get hG cX6_now_X6 0 0 rfl rfl (by decide) kX6_now_10 rfl dX6_now_73 ?_
    refine r_midi hG (c_X4_isOver (g_l G) (g_D G) (fun i => a (2 + i)) (Z) ((J) 0) ((J) 1) ((J) 2) hI hH) (bobj (g_D G) a (R)) (yw (g_D G) (fun i => a (10 + i)) (K) ((J) 3) ((J) 4) ((J) 5) ++ (yw (g_D G) (fun i => a (18 + i)) (YT) ((J) 6) ((J) 7) ((J) 8) ++ (bestw (a 26) ((J) 9) ((J) 10) ++ (btxt (g_D G) a (R) (J) ++ bshs (g_D G) a (R) (C))))) rfl gX6_now_X4_isOver rfl hyX4_isOver rfl (by decide) (by decide) 0 rfl rfl rfl (Nat.le_of_ble_eq_true rfl) ⟨Nat.zero_le _, Nat.zero_le _⟩ dX6_now_76 ?_
    intro w hw
    subst hw
    refine V_ws (ws' := bw (g_D G) a (Z) (K) (R) (C) (YT) (J)) rfl ?_
    refine rb_if_eq (tgt := 86) hG dX6_now_79 (by decide) (fun c79 => ?_) (fun c79 => ?_)
    · try simp only [decide_eq_true_eq, decide_eq_false_iff_not] at c79
      refine r_iconst hG dX6_now_86 ?_
      exact r_iret hG hE dX6_now_87 (by unfold s_now; (try dsimp only); (repeat (first | rw [if_pos (by omega)] | rw [if_neg (by omega)])); rw [c79]; rfl) ⟨YT, J, (by unfold s_now; (try dsimp only); (repeat (first | rw [if_pos (by omega)] | rw [if_neg (by omega)])) <;> (first | rfl | skip))⟩
    · try simp only [decide_eq_true_eq, decide_eq_false_iff_not] at c79
      refine r_iconst hG dX6_now_82 ?_
      refine r_goto (tgt := 87) hG dX6_now_83 (by decide) ?_
      exact r_iret hG hE dX6_now_87 (by unfold s_now; (try dsimp only); (repeat (first | rw [if_pos (by omega)] | rw [if_neg (by omega)])); rw [c79]; rfl) ⟨YT, J, (by unfold s_now; (try dsimp only); (repeat (first | rw [if_pos (by omega)] | rw [if_neg (by omega)])) <;> (first | rfl | skip))⟩
  · refine r_tsIn (tgt := 88) hG 5 c1 dX6_now_1 (by omega) rfl (by decide) ?_
    refine r_aload_n (i := 0) hG dX6_now_88 rfl rfl ?_
    refine r_get hG cX6_now_X6 0 0 rfl rfl (by decide) kX6_now_10 rfl dX6_now_89 ?_
    refine r_midi hG (c_X4_swappedOfAll (g_l G) (g_D G) (fun i => a (2 + i)) (Z) ((J) 0) ((J) 1) ((J) 2) hI hH) (bobj (g_D G) a (R)) (yw (g_D G) (fun i => a (10 + i)) (K) ((J) 3) ((J) 4) ((J) 5) ++ (yw (g_D G) (fun i => a (18 + i)) (YT) ((J) 6) ((J) 7) ((J) 8) ++ (bestw (a 26) ((J) 9) ((J) 10) ++ (btxt (g_D G) a (R) (J) ++ bshs (g_D G) a (R) (C))))) rfl gX6_now_X4_swappedOfAll rfl hyX4_swappedOfAll rfl (by decide) (by decide) 0 rfl rfl rfl (Nat.le_of_ble_eq_true rfl) ⟨Nat.zero_le _, Nat.zero_le _⟩ dX6_now_92 ?_
    intro w hw
    subst hw
    refine V_ws (ws' := bw (g_D G) a (Z) (K) (R) (C) (YT) (J)) rfl ?_
    exact r_iret hG hE dX6_now_95 (by unfold s_now; (try dsimp only); (repeat (first | rw [if_pos (by omega)] | rw [if_neg (by omega)])) <;> (first | rfl | skip)) ⟨YT, J, (by unfold s_now; (try dsimp only); (repeat (first | rw [if_pos (by omega)] | rw [if_neg (by omega)])) <;> (first | rfl | skip))⟩
  · refine r_tsOut (tgt := 96) hG (by omega) dX6_now_1 c1 (by decide) ?_
    refine r_aload_n (i := 0) hG dX6_now_96 rfl rfl ?_
    refine r_iconst hG dX6_now_97 ?_
    refine r_callVi hG (c_X6_finding (g_l G) (g_D G) a (Z) (K) (R) (C) (YT) (J) 0 (by omega))  gX6_now_X6_finding rfl hyX6_finding rfl (by decide) (by decide) 0 rfl rfl rfl (Nat.le_of_ble_eq_true rfl) ⟨Nat.zero_le _, Nat.zero_le _⟩ dX6_now_98 (fun w hw => ?_)
    subst hw
    exact r_iret hG hE dX6_now_101 (by unfold s_now; (try dsimp only); (repeat (first | rw [if_pos (by omega)] | rw [if_neg (by omega)])) <;> (first | rfl | skip)) ⟨YT, J, (by unfold s_now; (try dsimp only); (repeat (first | rw [if_pos (by omega)] | rw [if_neg (by omega)])) <;> (first | rfl | skip))⟩
