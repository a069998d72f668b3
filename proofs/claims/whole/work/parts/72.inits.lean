theorem kX0_init_7 : Cond.fieldLink RX0 7 "BreakSwaps$Best" "which" "I" ∈ wsX0_init := List.mem_of_getElem? (i := 4) rfl
theorem kX0_init_13 : Cond.fieldLink RX0 13 "BreakSwaps$Best" "most" "I" ∈ wsX0_init := List.mem_of_getElem? (i := 5) rfl
theorem cX0_init_X0 : ∀ w ∈ wsX00, w ∈ wsX0_init := fun _ h => List.mem_cons_of_mem _ (List.mem_append_right _ h)
theorem hyX0_init : hyV yX0_init RX0 0 := by decide +kernel
set_option maxHeartbeats 4000000 in
set_option maxRecDepth 100000 in
theorem c_X0_init (l : Launch) (D : va_G) (b : Nat) : ConI l yX0_init wsX0_init 1 0 0 D [(b, .inr (0, [.int 0, .int 0]))] [.ref b] (fun w => w = bestw b (-1) 0) := by
  refine coni_start (own := RX0) (by decide) rfl rfl rfl (Nat.le_of_ble_eq_true rfl) ?_
  intro G hG hE hR hin hnp hl hD
  subst hl
  subst hD
  refine r_aload_n (i := 0) hG dX0_init_0 rfl rfl ?_
  refine r_objInit hG (List.mem_of_getElem? (i := 1) rfl) (List.mem_of_getElem? (i := 2) rfl) (List.mem_of_getElem? (i := 3) rfl) (by decide) dX0_init_1 ?_
  refine r_aload_n (i := 0) hG dX0_init_4 rfl rfl ?_
  refine r_iconst hG dX0_init_5 ?_
  refine r_put hG cX0_init_X0 0 0 tyX0 tyX0_ok nmX0 rfl rfl (by decide) kX0_init_7 rfl rfl rfl (Nat.le_of_ble_eq_true rfl) dX0_init_6 rfl ?_
  refine r_aload_n (i := 0) hG dX0_init_9 rfl rfl ?_
  refine r_iconst hG dX0_init_10 ?_
  refine r_put hG cX0_init_X0 0 1 tyX0 tyX0_ok nmX0 rfl rfl (by decide) kX0_init_13 rfl rfl rfl (Nat.le_of_ble_eq_true rfl) dX0_init_11 rfl ?_
  exact r_vret hG hE dX0_init_14 rfl
theorem kX2_init_9 : Cond.fieldLink RX2 9 "BreakSwaps$Sheet" "row" "[J" ∈ wsX2_init := List.mem_of_getElem? (i := 5) rfl
theorem kX2_init_15 : Cond.fieldLink RX2 15 "BreakSwaps$Sheet" "bits" "I" ∈ wsX2_init := List.mem_of_getElem? (i := 6) rfl
theorem kX2_init_19 : Cond.fieldLink RX2 19 "BreakSwaps$Sheet" "length" "I" ∈ wsX2_init := List.mem_of_getElem? (i := 7) rfl
theorem cX2_init_X2 : ∀ w ∈ wsX20, w ∈ wsX2_init := fun _ h => List.mem_cons_of_mem _ (List.mem_append_right _ h)
theorem hyX2_init : hyV yX2_init RX2 0 := by decide +kernel
set_option maxHeartbeats 4000000 in
set_option maxRecDepth 100000 in
theorem c_X2_init (l : Launch) (D : va_G) (b : Nat) : ConI l yX2_init wsX2_init 1 1 40 D [(b, .inr (1, [.null, .int 0, .int 0]))] [.ref b] (fun w => ∃ q, w = sheetw D (fun i => [b, q].getD i 0) (fun _ => 0) 0 0) := by
  refine coni_start (own := RX2) (by decide) rfl rfl rfl (Nat.le_of_ble_eq_true rfl) ?_
  intro G hG hE hR hin hnp hl hD
  subst hl
  subst hD
  refine r_aload_n (i := 0) hG dX2_init_0 rfl rfl ?_
  refine r_objInit hG (List.mem_of_getElem? (i := 1) rfl) (List.mem_of_getElem? (i := 2) rfl) (List.mem_of_getElem? (i := 3) rfl) (by decide) dX2_init_1 ?_
  refine r_aload_n (i := 0) hG dX2_init_4 rfl rfl ?_
  refine r_bipush hG dX2_init_5 rfl ?_
  refine r_newl hG (List.mem_of_getElem? (i := 4) rfl) 40 rfl (by decide) (by rw [hR]; exact Nat.le_of_ble_eq_true rfl) (by rw [hR]; exact Nat.le_of_ble_eq_true rfl) dX2_init_7 (fun q7 => ?_)
  refine r_putF hG hin cX2_init_X2 0 0 tyX2 tyX2_ok nmX2 rfl rfl (by decide) kX2_init_9 rfl rfl rfl rfl (Nat.le_of_ble_eq_true rfl) dX2_init_9 rfl ?_
  refine r_aload_n (i := 0) hG dX2_init_12 rfl rfl ?_
  refine r_iconst hG dX2_init_13 ?_
  refine r_put hG cX2_init_X2 0 1 tyX2 tyX2_ok nmX2 rfl rfl (by decide) kX2_init_15 rfl rfl rfl (Nat.le_of_ble_eq_true rfl) dX2_init_14 rfl ?_
  refine r_aload_n (i := 0) hG dX2_init_17 rfl rfl ?_
  refine r_iconst hG dX2_init_18 ?_
  refine r_put hG cX2_init_X2 0 2 tyX2 tyX2_ok nmX2 rfl rfl (by decide) kX2_init_19 rfl rfl rfl (Nat.le_of_ble_eq_true rfl) dX2_init_19 rfl ?_
  exact r_vret hG hE dX2_init_22 ⟨q7, rfl⟩
theorem kX3_init_9 : Cond.fieldLink RX3 9 "BreakSwaps$Tape" "bytes" "[I" ∈ wsX3_init := List.mem_of_getElem? (i := 5) rfl
theorem kX3_init_15 : Cond.fieldLink RX3 15 "BreakSwaps$Tape" "length" "I" ∈ wsX3_init := List.mem_of_getElem? (i := 6) rfl
theorem kX3_init_19 : Cond.fieldLink RX3 19 "BreakSwaps$Tape" "token" "I" ∈ wsX3_init := List.mem_of_getElem? (i := 7) rfl
theorem kX3_init_22 : Cond.fieldLink RX3 22 "BreakSwaps$Tape" "start" "I" ∈ wsX3_init := List.mem_of_getElem? (i := 8) rfl
theorem kX3_init_25 : Cond.fieldLink RX3 25 "BreakSwaps$Tape" "end" "I" ∈ wsX3_init := List.mem_of_getElem? (i := 9) rfl
theorem kX3_init_28 : Cond.fieldLink RX3 28 "BreakSwaps$Tape" "value" "I" ∈ wsX3_init := List.mem_of_getElem? (i := 10) rfl
theorem cX3_init_X3 : ∀ w ∈ wsX30, w ∈ wsX3_init := fun _ h => List.mem_cons_of_mem _ (List.mem_append_right _ h)
theorem hyX3_init : hyV yX3_init RX3 0 := by decide +kernel
set_option maxHeartbeats 4000000 in
set_option maxRecDepth 100000 in
theorem c_X3_init (l : Launch) (D : va_G) (b : Nat) : ConI l yX3_init wsX3_init 1 1 120 D [(b, .inr (2, [.null, .int 0, .int 0, .int 0, .int 0, .int 0]))] [.ref b] (fun w => ∃ q, w = tapew D (fun i => [b, q].getD i 0) (fun _ => 0) 0 0 0 0 0) := by
  refine coni_start (own := RX3) (by decide) rfl rfl rfl (Nat.le_of_ble_eq_true rfl) ?_
  intro G hG hE hR hin hnp hl hD
  subst hl
  subst hD
  refine r_aload_n (i := 0) hG dX3_init_0 rfl rfl ?_
  refine r_objInit hG (List.mem_of_getElem? (i := 1) rfl) (List.mem_of_getElem? (i := 2) rfl) (List.mem_of_getElem? (i := 3) rfl) (by decide) dX3_init_1 ?_
  refine r_aload_n (i := 0) hG dX3_init_4 rfl rfl ?_
  refine r_bipush hG dX3_init_5 rfl ?_
  refine r_newi hG (List.mem_of_getElem? (i := 4) rfl) 120 rfl (by decide) (by rw [hR]; exact Nat.le_of_ble_eq_true rfl) (by rw [hR]; exact Nat.le_of_ble_eq_true rfl) dX3_init_7 (fun q7 => ?_)
  refine r_putF hG hin cX3_init_X3 0 0 tyX3 tyX3_ok nmX3 rfl rfl (by decide) kX3_init_9 rfl rfl rfl rfl (Nat.le_of_ble_eq_true rfl) dX3_init_9 rfl ?_
  refine r_aload_n (i := 0) hG dX3_init_12 rfl rfl ?_
  refine r_iconst hG dX3_init_13 ?_
  refine r_put hG cX3_init_X3 0 1 tyX3 tyX3_ok nmX3 rfl rfl (by decide) kX3_init_15 rfl rfl rfl (Nat.le_of_ble_eq_true rfl) dX3_init_14 rfl ?_
  refine r_aload_n (i := 0) hG dX3_init_17 rfl rfl ?_
  refine r_iconst hG dX3_init_18 ?_
  refine r_put hG cX3_init_X3 0 2 tyX3 tyX3_ok nmX3 rfl rfl (by decide) kX3_init_19 rfl rfl rfl (Nat.le_of_ble_eq_true rfl) dX3_init_19 rfl ?_
  refine r_aload_n (i := 0) hG dX3_init_22 rfl rfl ?_
  refine r_iconst hG dX3_init_23 ?_
  refine r_put hG cX3_init_X3 0 3 tyX3 tyX3_ok nmX3 rfl rfl (by decide) kX3_init_22 rfl rfl rfl (Nat.le_of_ble_eq_true rfl) dX3_init_24 rfl ?_
  refine r_aload_n (i := 0) hG dX3_init_27 rfl rfl ?_
  refine r_iconst hG dX3_init_28 ?_
  refine r_put hG cX3_init_X3 0 4 tyX3 tyX3_ok nmX3 rfl rfl (by decide) kX3_init_25 rfl rfl rfl (Nat.le_of_ble_eq_true rfl) dX3_init_29 rfl ?_
  refine r_aload_n (i := 0) hG dX3_init_32 rfl rfl ?_
  refine r_iconst hG dX3_init_33 ?_
  refine r_put hG cX3_init_X3 0 5 tyX3 tyX3_ok nmX3 rfl rfl (by decide) kX3_init_28 rfl rfl rfl (Nat.le_of_ble_eq_true rfl) dX3_init_34 rfl ?_
  exact r_vret hG hE dX3_init_37 ⟨q7, rfl⟩
theorem kX4_init_9 : Cond.fieldLink RX4 9 "BreakSwaps$Yard" "round" "I" ∈ wsX4_init := List.mem_of_getElem? (i := 4) rfl
theorem kX4_init_15 : Cond.fieldLink RX4 15 "BreakSwaps$Yard" "teacher" "I" ∈ wsX4_init := List.mem_of_getElem? (i := 5) rfl
theorem kX4_init_18 : Cond.fieldLink RX4 18 "BreakSwaps$Yard" "size" "I" ∈ wsX4_init := List.mem_of_getElem? (i := 6) rfl
theorem kX4_init_21 : Cond.fieldLink RX4 21 "BreakSwaps$Yard" "kinds" "[I" ∈ wsX4_init := List.mem_of_getElem? (i := 8) rfl
theorem kX4_init_25 : Cond.fieldLink RX4 25 "BreakSwaps$Yard" "has" "[I" ∈ wsX4_init := List.mem_of_getElem? (i := 9) rfl
theorem kX4_init_28 : Cond.fieldLink RX4 28 "BreakSwaps$Yard" "swapped" "[I" ∈ wsX4_init := List.mem_of_getElem? (i := 10) rfl
theorem kX4_init_31 : Cond.fieldLink RX4 31 "BreakSwaps$Yard" "trusts" "[I" ∈ wsX4_init := List.mem_of_getElem? (i := 11) rfl
theorem kX4_init_34 : Cond.fieldLink RX4 34 "BreakSwaps$Yard" "liked" "[I" ∈ wsX4_init := List.mem_of_getElem? (i := 12) rfl
theorem kX4_init_37 : Cond.fieldLink RX4 37 "BreakSwaps$Yard" "holders" "[I" ∈ wsX4_init := List.mem_of_getElem? (i := 13) rfl
theorem kX4_init_43 : Cond.fieldLink RX4 43 "BreakSwaps$Yard" "toAsk" "LBreakSwaps$Best;" ∈ wsX4_init := List.mem_of_getElem? (i := 17) rfl
theorem kX4_init_47 : Cond.fieldLink RX4 47 "BreakSwaps$Yard" "quiet" "I" ∈ wsX4_init := List.mem_of_getElem? (i := 18) rfl
theorem cX4_init_X0 : ∀ w ∈ wsX00, w ∈ wsX4_init := fun _ h => List.mem_cons_of_mem _ (List.mem_append_right _ h)
theorem cX4_init_X4 : ∀ w ∈ wsX40, w ∈ wsX4_init := fun _ h => List.mem_cons_of_mem _ (List.mem_append_left _ (List.mem_append_right _ h))
theorem hyX4_init : hyV yX4_init RX4 0 := by decide +kernel
set_option maxHeartbeats 4000000 in
set_option maxRecDepth 100000 in
theorem c_X4_init (l : Launch) (D : va_G) (b : Nat) : ConI l yX4_init wsX4_init 2 7 124 D [(b, .inr (3, [.int 0, .int 0, .int 0, .null, .null, .null, .null, .null, .null, .null, .int 0]))] [.ref b] (fun w => ∃ q : Nat → Nat, q 0 = b ∧ w = yw D q (fun _ _ => 0) (-1) 0 0) := by
  refine coni_start (own := RX4) (by decide) rfl rfl rfl (Nat.le_of_ble_eq_true rfl) ?_
  intro G hG hE hR hin hnp hl hD
  subst hl
  subst hD
  refine r_aload_n (i := 0) hG dX4_init_0 rfl rfl ?_
  refine r_objInit hG (List.mem_of_getElem? (i := 1) rfl) (List.mem_of_getElem? (i := 2) rfl) (List.mem_of_getElem? (i := 3) rfl) (by decide) dX4_init_1 ?_
  refine r_aload_n (i := 0) hG dX4_init_4 rfl rfl ?_
  refine r_iconst hG dX4_init_5 ?_
  refine r_put hG cX4_init_X4 0 0 tyX4 tyX4_ok nmX4 rfl rfl (by decide) kX4_init_9 rfl rfl rfl (Nat.le_of_ble_eq_true rfl) dX4_init_6 rfl ?_
  refine r_aload_n (i := 0) hG dX4_init_9 rfl rfl ?_
  refine r_iconst hG dX4_init_10 ?_
  refine r_put hG cX4_init_X4 0 1 tyX4 tyX4_ok nmX4 rfl rfl (by decide) kX4_init_15 rfl rfl rfl (Nat.le_of_ble_eq_true rfl) dX4_init_11 rfl ?_
  refine r_aload_n (i := 0) hG dX4_init_14 rfl rfl ?_
  refine r_iconst hG dX4_init_15 ?_
  refine r_put hG cX4_init_X4 0 2 tyX4 tyX4_ok nmX4 rfl rfl (by decide) kX4_init_18 rfl rfl rfl (Nat.le_of_ble_eq_true rfl) dX4_init_16 rfl ?_
  refine r_aload_n (i := 0) hG dX4_init_19 rfl rfl ?_
  refine r_bipush hG dX4_init_20 rfl ?_
  refine r_newi hG (List.mem_of_getElem? (i := 7) rfl) 8 rfl (by decide) (by rw [hR]; exact Nat.le_of_ble_eq_true rfl) (by rw [hR]; exact Nat.le_of_ble_eq_true rfl) dX4_init_22 (fun q22 => ?_)
  refine r_putF hG hin cX4_init_X4 0 3 tyX4 tyX4_ok nmX4 rfl rfl (by decide) kX4_init_21 rfl rfl rfl rfl (Nat.le_of_ble_eq_true rfl) dX4_init_24 rfl ?_
  refine r_aload_n (i := 0) hG dX4_init_27 rfl rfl ?_
  refine r_bipush hG dX4_init_28 rfl ?_
  refine r_newi hG (List.mem_of_getElem? (i := 7) rfl) 8 rfl (by decide) (by rw [hR]; exact Nat.le_of_ble_eq_true rfl) (by rw [hR]; exact Nat.le_of_ble_eq_true rfl) dX4_init_30 (fun q30 => ?_)
  refine r_putF hG hin cX4_init_X4 0 4 tyX4 tyX4_ok nmX4 rfl rfl (by decide) kX4_init_25 rfl rfl rfl rfl (Nat.le_of_ble_eq_true rfl) dX4_init_32 rfl ?_
  refine r_aload_n (i := 0) hG dX4_init_35 rfl rfl ?_
  refine r_bipush hG dX4_init_36 rfl ?_
  refine r_newi hG (List.mem_of_getElem? (i := 7) rfl) 8 rfl (by decide) (by rw [hR]; exact Nat.le_of_ble_eq_true rfl) (by rw [hR]; exact Nat.le_of_ble_eq_true rfl) dX4_init_38 (fun q38 => ?_)
  refine r_putF hG hin cX4_init_X4 0 5 tyX4 tyX4_ok nmX4 rfl rfl (by decide) kX4_init_28 rfl rfl rfl rfl (Nat.le_of_ble_eq_true rfl) dX4_init_40 rfl ?_
  refine r_aload_n (i := 0) hG dX4_init_43 rfl rfl ?_
  refine r_bipush hG dX4_init_44 rfl ?_
  refine r_newi hG (List.mem_of_getElem? (i := 7) rfl) 8 rfl (by decide) (by rw [hR]; exact Nat.le_of_ble_eq_true rfl) (by rw [hR]; exact Nat.le_of_ble_eq_true rfl) dX4_init_46 (fun q46 => ?_)
  refine r_putF hG hin cX4_init_X4 0 6 tyX4 tyX4_ok nmX4 rfl rfl (by decide) kX4_init_31 rfl rfl rfl rfl (Nat.le_of_ble_eq_true rfl) dX4_init_48 rfl ?_
  refine r_aload_n (i := 0) hG dX4_init_51 rfl rfl ?_
  refine r_bipush hG dX4_init_52 rfl ?_
  refine r_newi hG (List.mem_of_getElem? (i := 7) rfl) 80 rfl (by decide) (by rw [hR]; exact Nat.le_of_ble_eq_true rfl) (by rw [hR]; exact Nat.le_of_ble_eq_true rfl) dX4_init_54 (fun q54 => ?_)
  refine r_putF hG hin cX4_init_X4 0 7 tyX4 tyX4_ok nmX4 rfl rfl (by decide) kX4_init_34 rfl rfl rfl rfl (Nat.le_of_ble_eq_true rfl) dX4_init_56 rfl ?_
  refine r_aload_n (i := 0) hG dX4_init_59 rfl rfl ?_
  refine r_bipush hG dX4_init_60 rfl ?_
  refine r_newi hG (List.mem_of_getElem? (i := 7) rfl) 10 rfl (by decide) (by rw [hR]; exact Nat.le_of_ble_eq_true rfl) (by rw [hR]; exact Nat.le_of_ble_eq_true rfl) dX4_init_62 (fun q62 => ?_)
  refine r_putF hG hin cX4_init_X4 0 8 tyX4 tyX4_ok nmX4 rfl rfl (by decide) kX4_init_37 rfl rfl rfl rfl (Nat.le_of_ble_eq_true rfl) dX4_init_64 rfl ?_
  refine r_aload_n (i := 0) hG dX4_init_67 rfl rfl ?_
  refine r_new (ci := 0) hG cX4_init_X0 tyX0 tyX0_ok (List.mem_of_getElem? (i := 14) rfl) (List.mem_of_getElem? (i := 15) rfl) (List.mem_of_getElem? (i := 16) rfl) rfl [.int 0, .int 0] (fun j hj => by rcases (show j = 0 ∨ j = 1 by omega) with h | h <;> subst h <;> rfl) (by rw [hR]; exact Nat.le_of_ble_eq_true rfl) (by rw [hR]; exact Nat.le_of_ble_eq_true rfl) dX4_init_68 (fun q68 => ?_)
  refine r_dup hG dX4_init_71 rfl ?_
  refine r_initN hG hnp (c_X0_init (g_l G) (g_D G) q68) ([(b, .inr (3, [.int (iI 0), .int (iI 0), .int (iI 0), .ref q22, .ref q30, .ref q38, .ref q46, .ref q54, .ref q62, .null, .int 0])), (q22, .inl ((g_D G).1 100, 8, .inl (ia (fun _ => 0)))), (q30, .inl ((g_D G).1 100, 8, .inl (ia (fun _ => 0)))), (q38, .inl ((g_D G).1 100, 8, .inl (ia (fun _ => 0)))), (q46, .inl ((g_D G).1 100, 8, .inl (ia (fun _ => 0)))), (q54, .inl ((g_D G).1 100, 80, .inl (ia (fun _ => 0)))), (q62, .inl ((g_D G).1 100, 10, .inl (ia (fun _ => 0))))]) rfl gX4_init_X0_init_n42 rfl hnp.1.1 (List.mem_of_getElem? (i := 16) rfl) (List.mem_of_getElem? (i := 19) rfl) rfl (by decide +kernel) (by decide) (by decide) (Nat.le_of_ble_eq_true rfl) (by rw [hR]; exact ⟨Nat.le_of_ble_eq_true rfl, Nat.le_of_ble_eq_true rfl⟩) dX4_init_72 ?_
  intro w hw
  subst hw
  refine V_ws (ws' := [(b, .inr (3, [.int (iI 0), .int (iI 0), .int (iI 0), .ref q22, .ref q30, .ref q38, .ref q46, .ref q54, .ref q62, .null, .int 0])), (q22, .inl ((g_D G).1 100, 8, .inl (ia (fun _ => 0)))), (q30, .inl ((g_D G).1 100, 8, .inl (ia (fun _ => 0)))), (q38, .inl ((g_D G).1 100, 8, .inl (ia (fun _ => 0)))), (q46, .inl ((g_D G).1 100, 8, .inl (ia (fun _ => 0)))), (q54, .inl ((g_D G).1 100, 80, .inl (ia (fun _ => 0)))), (q62, .inl ((g_D G).1 100, 10, .inl (ia (fun _ => 0))))] ++ bestw q68 (-1) 0) rfl ?_
  refine r_putF hG hin cX4_init_X4 0 9 tyX4 tyX4_ok nmX4 rfl rfl (by decide) kX4_init_43 rfl rfl rfl rfl (Nat.le_of_ble_eq_true rfl) dX4_init_75 rfl ?_
  refine r_aload_n (i := 0) hG dX4_init_78 rfl rfl ?_
  refine r_iconst hG dX4_init_79 ?_
  refine r_put hG cX4_init_X4 0 10 tyX4 tyX4_ok nmX4 rfl rfl (by decide) kX4_init_47 rfl rfl rfl (Nat.le_of_ble_eq_true rfl) dX4_init_80 rfl ?_
  exact r_vret hG hE dX4_init_83 ⟨fun i => [b, q22, q30, q38, q46, q54, q62, q68].getD i 0, rfl, rfl⟩
theorem kX5_init_12 : Cond.fieldLink RX5 12 "BreakSwaps$YardText" "tape" "LBreakSwaps$Tape;" ∈ wsX5_init := List.mem_of_getElem? (i := 7) rfl
theorem cX5_init_X3 : ∀ w ∈ wsX30, w ∈ wsX5_init := fun _ h => List.mem_cons_of_mem _ (List.mem_append_left _ (List.mem_append_right _ h))
theorem cX5_init_X5 : ∀ w ∈ wsX50, w ∈ wsX5_init := fun _ h => List.mem_cons_of_mem _ (List.mem_append_right _ h)
theorem hyX5_init : hyV yX5_init RX5 0 := by decide +kernel
set_option maxHeartbeats 4000000 in
set_option maxRecDepth 100000 in
theorem c_X5_init (l : Launch) (D : va_G) (b : Nat) : ConI l yX5_init wsX5_init 2 2 126 D [(b, .inr (4, [.null]))] [.ref b] (fun w => ∃ q : Nat → Nat, q 0 = b ∧ w = (q 0, .inr (4, [.ref (q 1)])) :: tapew D (fun i => q (1 + i)) (fun _ => 0) 0 0 0 0 0) := by
  refine coni_start (own := RX5) (by decide) rfl rfl rfl (Nat.le_of_ble_eq_true rfl) ?_
  intro G hG hE hR hin hnp hl hD
  subst hl
  subst hD
  refine r_aload_n (i := 0) hG dX5_init_0 rfl rfl ?_
  refine r_objInit hG (List.mem_of_getElem? (i := 1) rfl) (List.mem_of_getElem? (i := 2) rfl) (List.mem_of_getElem? (i := 3) rfl) (by decide) dX5_init_1 ?_
  refine r_aload_n (i := 0) hG dX5_init_4 rfl rfl ?_
  refine r_new (ci := 2) hG cX5_init_X3 tyX3 tyX3_ok (List.mem_of_getElem? (i := 4) rfl) (List.mem_of_getElem? (i := 5) rfl) (List.mem_of_getElem? (i := 6) rfl) rfl [.null, .int 0, .int 0, .int 0, .int 0, .int 0] (fun j hj => by rcases (show j = 0 ∨ j = 1 ∨ j = 2 ∨ j = 3 ∨ j = 4 ∨ j = 5 by omega) with h | h | h | h | h | h <;> subst h <;> rfl) (by rw [hR]; exact Nat.le_of_ble_eq_true rfl) (by rw [hR]; exact Nat.le_of_ble_eq_true rfl) dX5_init_5 (fun q5 => ?_)
  refine r_dup hG dX5_init_8 rfl ?_
  refine r_initN hG hnp (c_X3_init (g_l G) (g_D G) q5) ([(b, .inr (4, [.null]))]) rfl gX5_init_X3_init_n11 rfl hnp.1.2 (List.mem_of_getElem? (i := 6) rfl) (List.mem_of_getElem? (i := 8) rfl) rfl (by decide +kernel) (by decide) (by decide) (Nat.le_of_ble_eq_true rfl) (by rw [hR]; exact ⟨Nat.le_of_ble_eq_true rfl, Nat.le_of_ble_eq_true rfl⟩) dX5_init_9 ?_
  rintro w ⟨q9, rfl⟩
  refine V_ws (ws' := [(b, .inr (4, [.null]))] ++ tapew (g_D G) (fun i => [q5, q9].getD i 0) (fun _ => 0) 0 0 0 0 0) rfl ?_
  refine r_putF hG hin cX5_init_X5 0 0 tyX5 tyX5_ok nmX5 rfl rfl (by decide) kX5_init_12 rfl rfl rfl rfl (Nat.le_of_ble_eq_true rfl) dX5_init_12 rfl ?_
  exact r_vret hG hE dX5_init_15 ⟨fun i => [b, q5, q9].getD i 0, rfl, rfl⟩
theorem kX7_init_9 : Cond.fieldLink RX7 9 "BreakSwapsModel" "m" "[I" ∈ wsX7_init := List.mem_of_getElem? (i := 5) rfl
theorem kX7_init_13 : Cond.fieldLink RX7 13 "BreakSwapsModel" "kept" "[I" ∈ wsX7_init := List.mem_of_getElem? (i := 6) rfl
theorem kX7_init_16 : Cond.fieldLink RX7 16 "BreakSwapsModel" "was" "[I" ∈ wsX7_init := List.mem_of_getElem? (i := 7) rfl
theorem kX7_init_19 : Cond.fieldLink RX7 19 "BreakSwapsModel" "found" "[I" ∈ wsX7_init := List.mem_of_getElem? (i := 8) rfl
theorem kX7_init_22 : Cond.fieldLink RX7 22 "BreakSwapsModel" "tape" "[I" ∈ wsX7_init := List.mem_of_getElem? (i := 9) rfl
theorem kX7_init_25 : Cond.fieldLink RX7 25 "BreakSwapsModel" "bitsOf" "[I" ∈ wsX7_init := List.mem_of_getElem? (i := 10) rfl
theorem kX7_init_28 : Cond.fieldLink RX7 28 "BreakSwapsModel" "sizeOf" "[I" ∈ wsX7_init := List.mem_of_getElem? (i := 11) rfl
theorem kX7_init_31 : Cond.fieldLink RX7 31 "BreakSwapsModel" "cells" "[J" ∈ wsX7_init := List.mem_of_getElem? (i := 13) rfl
theorem cX7_init_X7 : ∀ w ∈ wsX70, w ∈ wsX7_init := fun _ h => List.mem_cons_of_mem _ (List.mem_append_right _ h)
theorem hyX7_init : hyV yX7_init RX7 0 := by decide +kernel
set_option maxHeartbeats 4000000 in
set_option maxRecDepth 100000 in
theorem c_X7_init (l : Launch) (D : va_G) (b : Nat) : ConI l yX7_init wsX7_init 1 8 640 D [(b, .inr (6, [.null, .null, .null, .int 0, .null, .null, .int 0, .int 0, .int 0, .int 0, .int 0, .int 0, .null, .null, .null]))] [.ref b] (fun w => ∃ q : Nat → Nat, q 0 = b ∧ w = mw D q (fun _ _ => 0) (fun _ _ => 0) (fun _ _ => 0) (fun _ _ => 0) (fun _ => 0)) := by
  refine coni_start (own := RX7) (by decide) rfl rfl rfl (Nat.le_of_ble_eq_true rfl) ?_
  intro G hG hE hR hin hnp hl hD
  subst hl
  subst hD
  refine r_aload_n (i := 0) hG dX7_init_0 rfl rfl ?_
  refine r_objInit hG (List.mem_of_getElem? (i := 1) rfl) (List.mem_of_getElem? (i := 2) rfl) (List.mem_of_getElem? (i := 3) rfl) (by decide) dX7_init_1 ?_
  refine r_aload_n (i := 0) hG dX7_init_4 rfl rfl ?_
  refine r_bipush hG dX7_init_5 rfl ?_
  refine r_newi hG (List.mem_of_getElem? (i := 4) rfl) 115 rfl (by decide) (by rw [hR]; exact Nat.le_of_ble_eq_true rfl) (by rw [hR]; exact Nat.le_of_ble_eq_true rfl) dX7_init_7 (fun q7 => ?_)
  refine r_putF hG hin cX7_init_X7 0 0 tyX7 tyX7_ok nmX7 rfl rfl (by decide) kX7_init_9 rfl rfl rfl rfl (Nat.le_of_ble_eq_true rfl) dX7_init_9 rfl ?_
  refine r_aload_n (i := 0) hG dX7_init_12 rfl rfl ?_
  refine r_bipush hG dX7_init_13 rfl ?_
  refine r_newi hG (List.mem_of_getElem? (i := 4) rfl) 115 rfl (by decide) (by rw [hR]; exact Nat.le_of_ble_eq_true rfl) (by rw [hR]; exact Nat.le_of_ble_eq_true rfl) dX7_init_15 (fun q15 => ?_)
  refine r_putF hG hin cX7_init_X7 0 1 tyX7 tyX7_ok nmX7 rfl rfl (by decide) kX7_init_13 rfl rfl rfl rfl (Nat.le_of_ble_eq_true rfl) dX7_init_17 rfl ?_
  refine r_aload_n (i := 0) hG dX7_init_20 rfl rfl ?_
  refine r_bipush hG dX7_init_21 rfl ?_
  refine r_newi hG (List.mem_of_getElem? (i := 4) rfl) 115 rfl (by decide) (by rw [hR]; exact Nat.le_of_ble_eq_true rfl) (by rw [hR]; exact Nat.le_of_ble_eq_true rfl) dX7_init_23 (fun q23 => ?_)
  refine r_putF hG hin cX7_init_X7 0 2 tyX7 tyX7_ok nmX7 rfl rfl (by decide) kX7_init_16 rfl rfl rfl rfl (Nat.le_of_ble_eq_true rfl) dX7_init_25 rfl ?_
  refine r_aload_n (i := 0) hG dX7_init_28 rfl rfl ?_
  refine r_bipush hG dX7_init_29 rfl ?_
  refine r_newi hG (List.mem_of_getElem? (i := 4) rfl) 7 rfl (by decide) (by rw [hR]; exact Nat.le_of_ble_eq_true rfl) (by rw [hR]; exact Nat.le_of_ble_eq_true rfl) dX7_init_31 (fun q31 => ?_)
  refine r_putF hG hin cX7_init_X7 0 4 tyX7 tyX7_ok nmX7 rfl rfl (by decide) kX7_init_19 rfl rfl rfl rfl (Nat.le_of_ble_eq_true rfl) dX7_init_33 rfl ?_
  refine r_aload_n (i := 0) hG dX7_init_36 rfl rfl ?_
  refine r_bipush hG dX7_init_37 rfl ?_
  refine r_newi hG (List.mem_of_getElem? (i := 4) rfl) 120 rfl (by decide) (by rw [hR]; exact Nat.le_of_ble_eq_true rfl) (by rw [hR]; exact Nat.le_of_ble_eq_true rfl) dX7_init_39 (fun q39 => ?_)
  refine r_putF hG hin cX7_init_X7 0 5 tyX7 tyX7_ok nmX7 rfl rfl (by decide) kX7_init_22 rfl rfl rfl rfl (Nat.le_of_ble_eq_true rfl) dX7_init_41 rfl ?_
  refine r_aload_n (i := 0) hG dX7_init_44 rfl rfl ?_
  refine r_iconst hG dX7_init_45 ?_
  refine r_newi hG (List.mem_of_getElem? (i := 4) rfl) 4 rfl (by decide) (by rw [hR]; exact Nat.le_of_ble_eq_true rfl) (by rw [hR]; exact Nat.le_of_ble_eq_true rfl) dX7_init_46 (fun q46 => ?_)
  refine r_putF hG hin cX7_init_X7 0 12 tyX7 tyX7_ok nmX7 rfl rfl (by decide) kX7_init_25 rfl rfl rfl rfl (Nat.le_of_ble_eq_true rfl) dX7_init_48 rfl ?_
  refine r_aload_n (i := 0) hG dX7_init_51 rfl rfl ?_
  refine r_iconst hG dX7_init_52 ?_
  refine r_newi hG (List.mem_of_getElem? (i := 4) rfl) 4 rfl (by decide) (by rw [hR]; exact Nat.le_of_ble_eq_true rfl) (by rw [hR]; exact Nat.le_of_ble_eq_true rfl) dX7_init_53 (fun q53 => ?_)
  refine r_putF hG hin cX7_init_X7 0 13 tyX7 tyX7_ok nmX7 rfl rfl (by decide) kX7_init_28 rfl rfl rfl rfl (Nat.le_of_ble_eq_true rfl) dX7_init_55 rfl ?_
  refine r_aload_n (i := 0) hG dX7_init_58 rfl rfl ?_
  refine r_sipush hG dX7_init_59 rfl ?_
  refine r_newl hG (List.mem_of_getElem? (i := 12) rfl) 160 rfl (by decide) (by rw [hR]; exact Nat.le_of_ble_eq_true rfl) (by rw [hR]; exact Nat.le_of_ble_eq_true rfl) dX7_init_62 (fun q62 => ?_)
  refine r_putF hG hin cX7_init_X7 0 14 tyX7 tyX7_ok nmX7 rfl rfl (by decide) kX7_init_31 rfl rfl rfl rfl (Nat.le_of_ble_eq_true rfl) dX7_init_64 rfl ?_
  refine r_aload_n (i := 0) hG dX7_init_67 rfl rfl ?_
  refine r_get hG cX7_init_X7 0 0 rfl rfl (by decide) kX7_init_9 rfl dX7_init_68 ?_
  refine r_iconst hG dX7_init_71 ?_
  refine r_iconst hG dX7_init_72 ?_
  refine r_iast hG 1 rfl (by omega) (by decide) dX7_init_73 rfl ?_
  refine V_ia (g := mro (fun _ _ => 0)) 1 rfl (fun j h0 h1 => by unfold up1 mro; (repeat' split) <;> rfl) rfl ?_
  refine V_ia (g := mro (fun _ _ => 0)) 2 rfl (fun j h0 h1 => by unfold mro; (repeat' split) <;> rfl) rfl ?_
  refine V_ia (g := mro (fun _ _ => 0)) 3 rfl (fun j h0 h1 => by unfold mro; (repeat' split) <;> rfl) rfl ?_
  exact r_vret hG hE dX7_init_74 ⟨fun i => [b, q7, q15, q23, q31, q39, q46, q53, q62].getD i 0, rfl, rfl⟩
