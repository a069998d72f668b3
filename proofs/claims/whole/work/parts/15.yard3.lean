/-- what a yard is that became another one: scratch apart -/
def bec2 (D : va_G) (a b : Nat → Nat) (Y X : YS) (x z q x2 z2 q2 : Int) : va_W := yw D a Y x z q ++ yw D b X x2 z2 q2
theorem kX4_become_9 : Cond.fieldLink RX4 9 "BreakSwaps$Yard" "round" "I" ∈ wsX4_become := List.mem_of_getElem? (i := 1) rfl
theorem kX4_become_15 : Cond.fieldLink RX4 15 "BreakSwaps$Yard" "teacher" "I" ∈ wsX4_become := List.mem_of_getElem? (i := 2) rfl
theorem kX4_become_18 : Cond.fieldLink RX4 18 "BreakSwaps$Yard" "size" "I" ∈ wsX4_become := List.mem_of_getElem? (i := 3) rfl
theorem kX4_become_21 : Cond.fieldLink RX4 21 "BreakSwaps$Yard" "kinds" "[I" ∈ wsX4_become := List.mem_of_getElem? (i := 4) rfl
theorem kX4_become_25 : Cond.fieldLink RX4 25 "BreakSwaps$Yard" "has" "[I" ∈ wsX4_become := List.mem_of_getElem? (i := 9) rfl
theorem kX4_become_28 : Cond.fieldLink RX4 28 "BreakSwaps$Yard" "swapped" "[I" ∈ wsX4_become := List.mem_of_getElem? (i := 10) rfl
theorem kX4_become_31 : Cond.fieldLink RX4 31 "BreakSwaps$Yard" "trusts" "[I" ∈ wsX4_become := List.mem_of_getElem? (i := 11) rfl
theorem kX4_become_34 : Cond.fieldLink RX4 34 "BreakSwaps$Yard" "liked" "[I" ∈ wsX4_become := List.mem_of_getElem? (i := 12) rfl
theorem kX4_become_37 : Cond.fieldLink RX4 37 "BreakSwaps$Yard" "holders" "[I" ∈ wsX4_become := List.mem_of_getElem? (i := 13) rfl
theorem kX4_become_47 : Cond.fieldLink RX4 47 "BreakSwaps$Yard" "quiet" "I" ∈ wsX4_become := List.mem_of_getElem? (i := 14) rfl
theorem cX4_become_X4 : ∀ w ∈ wsX40, w ∈ wsX4_become := fun _ h => List.mem_cons_of_mem _ (List.mem_append_right _ h)
theorem hyX4_become : hyV yX4_become RX4 1 := by decide +kernel
set_option maxHeartbeats 4000000 in
set_option maxRecDepth 100000 in
theorem c_X4_become (l : Launch) (D : va_G) (a b : Nat → Nat) (Y X : YS) (x z q x2 z2 q2 : Int) : Con l yX4_become wsX4_become 1 D (bec2 D a b Y X x z q x2 z2 q2) [.ref (a 0), .ref (b 0)] none (fun w => w = bec2 D a b X X x z 0 x2 z2 q2) := by
  refine con_start (own := RX4) (by decide) rfl rfl (Nat.le_of_ble_eq_true rfl) ?_
  intro G hG hE hl hD
  subst hl
  subst hD
  refine r_aload_n (i := 0) hG dX4_become_0 rfl rfl ?_
  refine r_aload_n (i := 1) hG dX4_become_1 rfl rfl ?_
  refine r_get hG cX4_become_X4 8 0 rfl rfl (by decide) kX4_become_9 rfl dX4_become_2 ?_
  refine r_put hG cX4_become_X4 0 0 tyX4 tyX4_ok nmX4 rfl rfl (by decide) kX4_become_9 rfl rfl rfl (Nat.le_of_ble_eq_true rfl) dX4_become_5 rfl ?_
  refine r_aload_n (i := 0) hG dX4_become_8 rfl rfl ?_
  refine r_aload_n (i := 1) hG dX4_become_9 rfl rfl ?_
  refine r_get hG cX4_become_X4 8 1 rfl rfl (by decide) kX4_become_15 rfl dX4_become_10 ?_
  refine r_put hG cX4_become_X4 0 1 tyX4 tyX4_ok nmX4 rfl rfl (by decide) kX4_become_15 rfl rfl rfl (Nat.le_of_ble_eq_true rfl) dX4_become_13 rfl ?_
  refine r_aload_n (i := 0) hG dX4_become_16 rfl rfl ?_
  refine r_aload_n (i := 1) hG dX4_become_17 rfl rfl ?_
  refine r_get hG cX4_become_X4 8 2 rfl rfl (by decide) kX4_become_18 rfl dX4_become_18 ?_
  refine r_put hG cX4_become_X4 0 2 tyX4 tyX4_ok nmX4 rfl rfl (by decide) kX4_become_18 rfl rfl rfl (Nat.le_of_ble_eq_true rfl) dX4_become_21 rfl ?_
  refine r_aload_n (i := 1) hG dX4_become_24 rfl rfl ?_
  refine r_get hG cX4_become_X4 8 3 rfl rfl (by decide) kX4_become_21 rfl dX4_become_25 ?_
  refine r_iconst hG dX4_become_28 ?_
  refine r_aload_n (i := 0) hG dX4_become_29 rfl rfl ?_
  refine r_get hG cX4_become_X4 0 3 rfl rfl (by decide) kX4_become_21 rfl dX4_become_30 ?_
  refine r_iconst hG dX4_become_33 ?_
  refine r_bipush hG dX4_become_34 rfl ?_
  refine r_copyi hG 9 1 rfl rfl (by omega) (by omega) (by omega) (by decide) (by decide) (List.mem_of_getElem? (i := 5) rfl) (List.mem_of_getElem? (i := 6) rfl) (List.mem_of_getElem? (i := 7) rfl) (List.mem_of_getElem? (i := 8) rfl) (by decide) (Nat.le_of_ble_eq_true rfl) dX4_become_36 rfl ?_
  refine V_ia (g := X 0) 1 rfl (fun j h0 h1 => by
    unfold cpy1
    rw [if_pos (by omega)]
    congr 1
    omega) rfl ?_
  refine r_aload_n (i := 1) hG dX4_become_39 rfl rfl ?_
  refine r_get hG cX4_become_X4 8 4 rfl rfl (by decide) kX4_become_25 rfl dX4_become_40 ?_
  refine r_iconst hG dX4_become_43 ?_
  refine r_aload_n (i := 0) hG dX4_become_44 rfl rfl ?_
  refine r_get hG cX4_become_X4 0 4 rfl rfl (by decide) kX4_become_25 rfl dX4_become_45 ?_
  refine r_iconst hG dX4_become_48 ?_
  refine r_bipush hG dX4_become_49 rfl ?_
  refine r_copyi hG 10 2 rfl rfl (by omega) (by omega) (by omega) (by decide) (by decide) (List.mem_of_getElem? (i := 5) rfl) (List.mem_of_getElem? (i := 6) rfl) (List.mem_of_getElem? (i := 7) rfl) (List.mem_of_getElem? (i := 8) rfl) (by decide) (Nat.le_of_ble_eq_true rfl) dX4_become_51 rfl ?_
  refine V_ia (g := X 1) 2 rfl (fun j h0 h1 => by
    unfold cpy1
    rw [if_pos (by omega)]
    congr 1
    omega) rfl ?_
  refine r_aload_n (i := 1) hG dX4_become_54 rfl rfl ?_
  refine r_get hG cX4_become_X4 8 5 rfl rfl (by decide) kX4_become_28 rfl dX4_become_55 ?_
  refine r_iconst hG dX4_become_58 ?_
  refine r_aload_n (i := 0) hG dX4_become_59 rfl rfl ?_
  refine r_get hG cX4_become_X4 0 5 rfl rfl (by decide) kX4_become_28 rfl dX4_become_60 ?_
  refine r_iconst hG dX4_become_63 ?_
  refine r_bipush hG dX4_become_64 rfl ?_
  refine r_copyi hG 11 3 rfl rfl (by omega) (by omega) (by omega) (by decide) (by decide) (List.mem_of_getElem? (i := 5) rfl) (List.mem_of_getElem? (i := 6) rfl) (List.mem_of_getElem? (i := 7) rfl) (List.mem_of_getElem? (i := 8) rfl) (by decide) (Nat.le_of_ble_eq_true rfl) dX4_become_66 rfl ?_
  refine V_ia (g := X 2) 3 rfl (fun j h0 h1 => by
    unfold cpy1
    rw [if_pos (by omega)]
    congr 1
    omega) rfl ?_
  refine r_aload_n (i := 1) hG dX4_become_69 rfl rfl ?_
  refine r_get hG cX4_become_X4 8 6 rfl rfl (by decide) kX4_become_31 rfl dX4_become_70 ?_
  refine r_iconst hG dX4_become_73 ?_
  refine r_aload_n (i := 0) hG dX4_become_74 rfl rfl ?_
  refine r_get hG cX4_become_X4 0 6 rfl rfl (by decide) kX4_become_31 rfl dX4_become_75 ?_
  refine r_iconst hG dX4_become_78 ?_
  refine r_bipush hG dX4_become_79 rfl ?_
  refine r_copyi hG 12 4 rfl rfl (by omega) (by omega) (by omega) (by decide) (by decide) (List.mem_of_getElem? (i := 5) rfl) (List.mem_of_getElem? (i := 6) rfl) (List.mem_of_getElem? (i := 7) rfl) (List.mem_of_getElem? (i := 8) rfl) (by decide) (Nat.le_of_ble_eq_true rfl) dX4_become_81 rfl ?_
  refine V_ia (g := X 3) 4 rfl (fun j h0 h1 => by
    unfold cpy1
    rw [if_pos (by omega)]
    congr 1
    omega) rfl ?_
  refine r_aload_n (i := 1) hG dX4_become_84 rfl rfl ?_
  refine r_get hG cX4_become_X4 8 7 rfl rfl (by decide) kX4_become_34 rfl dX4_become_85 ?_
  refine r_iconst hG dX4_become_88 ?_
  refine r_aload_n (i := 0) hG dX4_become_89 rfl rfl ?_
  refine r_get hG cX4_become_X4 0 7 rfl rfl (by decide) kX4_become_34 rfl dX4_become_90 ?_
  refine r_iconst hG dX4_become_93 ?_
  refine r_bipush hG dX4_become_94 rfl ?_
  refine r_copyi hG 13 5 rfl rfl (by omega) (by omega) (by omega) (by decide) (by decide) (List.mem_of_getElem? (i := 5) rfl) (List.mem_of_getElem? (i := 6) rfl) (List.mem_of_getElem? (i := 7) rfl) (List.mem_of_getElem? (i := 8) rfl) (by decide) (Nat.le_of_ble_eq_true rfl) dX4_become_96 rfl ?_
  refine V_ia (g := X 4) 5 rfl (fun j h0 h1 => by
    unfold cpy1
    rw [if_pos (by omega)]
    congr 1
    omega) rfl ?_
  refine r_aload_n (i := 1) hG dX4_become_99 rfl rfl ?_
  refine r_get hG cX4_become_X4 8 8 rfl rfl (by decide) kX4_become_37 rfl dX4_become_100 ?_
  refine r_iconst hG dX4_become_103 ?_
  refine r_aload_n (i := 0) hG dX4_become_104 rfl rfl ?_
  refine r_get hG cX4_become_X4 0 8 rfl rfl (by decide) kX4_become_37 rfl dX4_become_105 ?_
  refine r_iconst hG dX4_become_108 ?_
  refine r_bipush hG dX4_become_109 rfl ?_
  refine r_copyi hG 14 6 rfl rfl (by omega) (by omega) (by omega) (by decide) (by decide) (List.mem_of_getElem? (i := 5) rfl) (List.mem_of_getElem? (i := 6) rfl) (List.mem_of_getElem? (i := 7) rfl) (List.mem_of_getElem? (i := 8) rfl) (by decide) (Nat.le_of_ble_eq_true rfl) dX4_become_111 rfl ?_
  refine V_ia (g := X 8) 6 rfl (fun j h0 h1 => by
    unfold cpy1
    rw [if_pos (by omega)]
    congr 1
    omega) rfl ?_
  refine r_aload_n (i := 0) hG dX4_become_114 rfl rfl ?_
  refine r_iconst hG dX4_become_115 ?_
  refine r_put hG cX4_become_X4 0 10 tyX4 tyX4_ok nmX4 rfl rfl (by decide) kX4_become_47 rfl rfl rfl (Nat.le_of_ble_eq_true rfl) dX4_become_116 rfl ?_
  exact r_vret hG hE dX4_become_119 rfl
