theorem hyX2_isWidth : hyS yX2_isWidth 1 := by decide +kernel
set_option maxHeartbeats 4000000 in
set_option maxRecDepth 100000 in
theorem c_X2_isWidth (l : Launch) (D : va_G) (b : Int) (hb : -2147483648 ≤ b ∧ b < 2147483648) : Con l yX2_isWidth wsX2_isWidth 0 D [] [.int (iI b)] (some (.int (iI (b2 (decide (b = 0 ∨ b = 8 ∨ b = 16 ∨ b = 64)))))) (fun w => w = []) := by
  refine con_start (own := RX2) (by decide) rfl rfl (Nat.le_of_ble_eq_true rfl) ?_
  intro G hG hE hl hD
  subst hl
  subst hD
  refine r_iload_n (i := 0) hG dX2_isWidth_0 rfl rfl ?_
  refine r_if_eq (tgt := 22) hG (by omega) dX2_isWidth_1 (by decide) (fun c1 => ?_) (fun c1 => ?_)
  · refine r_iconst hG dX2_isWidth_22 ?_
    refine r_goto (tgt := 27) hG dX2_isWidth_23 (by decide) ?_
    exact r_zret hG hE dX2_isWidth_27 (by congr 1; unfold b2; (repeat' split) <;> (try simp_all) <;> (try omega)) rfl
  · refine r_iload_n (i := 0) hG dX2_isWidth_4 rfl rfl ?_
    refine r_bipush hG dX2_isWidth_5 rfl ?_
    refine r_icmp_eq (tgt := 22) hG (by omega) (by omega) dX2_isWidth_7 (by decide) (fun c7 => ?_) (fun c7 => ?_)
    · refine r_iconst hG dX2_isWidth_22 ?_
      refine r_goto (tgt := 27) hG dX2_isWidth_23 (by decide) ?_
      exact r_zret hG hE dX2_isWidth_27 (by congr 1; unfold b2; (repeat' split) <;> (try simp_all) <;> (try omega)) rfl
    · refine r_iload_n (i := 0) hG dX2_isWidth_10 rfl rfl ?_
      refine r_bipush hG dX2_isWidth_11 rfl ?_
      refine r_icmp_eq (tgt := 22) hG (by omega) (by omega) dX2_isWidth_13 (by decide) (fun c13 => ?_) (fun c13 => ?_)
      · refine r_iconst hG dX2_isWidth_22 ?_
        refine r_goto (tgt := 27) hG dX2_isWidth_23 (by decide) ?_
        exact r_zret hG hE dX2_isWidth_27 (by congr 1; unfold b2; (repeat' split) <;> (try simp_all) <;> (try omega)) rfl
      · refine r_iload_n (i := 0) hG dX2_isWidth_16 rfl rfl ?_
        refine r_bipush hG dX2_isWidth_17 rfl ?_
        refine r_icmp_ne (tgt := 26) hG (by omega) (by omega) dX2_isWidth_19 (by decide) (fun c19 => ?_) (fun c19 => ?_)
        · refine r_iconst hG dX2_isWidth_26 ?_
          exact r_zret hG hE dX2_isWidth_27 (by congr 1; unfold b2; (repeat' split) <;> (try simp_all) <;> (try omega)) rfl
        · refine r_iconst hG dX2_isWidth_22 ?_
          refine r_goto (tgt := 27) hG dX2_isWidth_23 (by decide) ?_
          exact r_zret hG hE dX2_isWidth_27 (by congr 1; unfold b2; (repeat' split) <;> (try simp_all) <;> (try omega)) rfl
theorem kX2_isMissing_15 : Cond.fieldLink RX2 15 "BreakSwaps$Sheet" "bits" "I" ∈ wsX2_isMissing := List.mem_of_getElem? (i := 1) rfl
theorem cX2_isMissing_X2 : ∀ w ∈ wsX20, w ∈ wsX2_isMissing := fun _ h => List.mem_cons_of_mem _ (List.mem_append_right _ h)
theorem hyX2_isMissing : hyV yX2_isMissing RX2 0 := by decide +kernel
set_option maxHeartbeats 4000000 in
set_option maxRecDepth 100000 in
theorem c_X2_isMissing (l : Launch) (D : va_G) (s : Nat → Nat) (S : Int → Int64) (bi n : Int) (hb : 0 ≤ bi ∧ bi ≤ 64) : Con l yX2_isMissing wsX2_isMissing 0 D (sheetw D s S bi n) [.ref (s 0)] (some (.int (iI (b2 (decide (bi = 0)))))) (fun w => w = sheetw D s S bi n) := by
  refine con_start (own := RX2) (by decide) rfl rfl (Nat.le_of_ble_eq_true rfl) ?_
  intro G hG hE hl hD
  subst hl
  subst hD
  refine r_aload_n (i := 0) hG dX2_isMissing_0 rfl rfl ?_
  refine r_get hG cX2_isMissing_X2 0 1 rfl rfl (by decide) kX2_isMissing_15 rfl dX2_isMissing_1 ?_
  refine r_if_ne (tgt := 11) hG (by omega) dX2_isMissing_4 (by decide) (fun c4 => ?_) (fun c4 => ?_)
  · refine r_iconst hG dX2_isMissing_11 ?_
    exact r_zret hG hE dX2_isMissing_12 (by congr 1; unfold b2; (repeat' split) <;> (try simp_all) <;> (try omega)) rfl
  · refine r_iconst hG dX2_isMissing_7 ?_
    refine r_goto (tgt := 12) hG dX2_isMissing_8 (by decide) ?_
    exact r_zret hG hE dX2_isMissing_12 (by congr 1; unfold b2; (repeat' split) <;> (try simp_all) <;> (try omega)) rfl
def zeroN (S : Int → Int64) : Nat → Int → Int64
  | 0 => S
  | k + 1 => up1 (zeroN S k) (k : Int) 0
theorem zeroN_at (S : Int → Int64) : ∀ (k : Nat) (j : Int), 0 ≤ j → j < k → zeroN S k j = 0
  | 0, j, h0, h1 => by omega
  | k + 1, j, h0, h1 => by
    unfold zeroN up1
    split
    · rfl
    · exact zeroN_at S k j h0 (by omega)
theorem kX2_layOut_15 : Cond.fieldLink RX2 15 "BreakSwaps$Sheet" "bits" "I" ∈ wsX2_layOut := List.mem_of_getElem? (i := 1) rfl
theorem kX2_layOut_19 : Cond.fieldLink RX2 19 "BreakSwaps$Sheet" "length" "I" ∈ wsX2_layOut := List.mem_of_getElem? (i := 2) rfl
theorem kX2_layOut_9 : Cond.fieldLink RX2 9 "BreakSwaps$Sheet" "row" "[J" ∈ wsX2_layOut := List.mem_of_getElem? (i := 3) rfl
theorem cX2_layOut_X2 : ∀ w ∈ wsX20, w ∈ wsX2_layOut := fun _ h => List.mem_cons_of_mem _ (List.mem_append_right _ h)
theorem hyX2_layOut : hyV yX2_layOut RX2 2 := by decide +kernel
set_option maxHeartbeats 4000000 in
set_option maxRecDepth 100000 in
theorem c_X2_layOut (l : Launch) (D : va_G) (s : Nat → Nat) (S : Int → Int64) (bi n : Int) (wd k : Int) (hw : -2147483648 ≤ wd ∧ wd < 2147483648) : Con l yX2_layOut wsX2_layOut 0 D (sheetw D s S bi n) [.ref (s 0), .int (iI wd), .int (iI k)] none (fun w => w = sheetw D s (fun _ => 0) wd (if wd = 0 then 0 else k)) := by
  refine con_start (own := RX2) (by decide) rfl rfl (Nat.le_of_ble_eq_true rfl) ?_
  intro G hG hE hl hD
  subst hl
  subst hD
  have L : ∀ i, i ≤ 40 → V G 0 0 (sheetw (g_D G) s (zeroN S i) wd (if wd = 0 then 0 else k)) 20 [(0, .ref (s 0)), (3, .int (iI (i : Int)))] [] := by
    refine down (fun i hi ih => ?_)
    refine r_iload_n (i := 3) hG dX2_layOut_20 rfl rfl ?_
    refine r_bipush hG dX2_layOut_21 rfl ?_
    refine r_icmp_ge (tgt := 39) hG (by omega) (by omega) dX2_layOut_23 (by decide) (fun c23 => ?_) (fun c23 => ?_)
    · refine V_la (g := fun _ => 0) 1 rfl (fun j h0 h1 => zeroN_at S i j h0 (by omega)) rfl ?_
      exact r_vret hG hE dX2_layOut_39 rfl
    · refine r_aload_n (i := 0) hG dX2_layOut_26 rfl rfl ?_
      refine r_get hG cX2_layOut_X2 0 0 rfl rfl (by decide) kX2_layOut_9 rfl dX2_layOut_27 ?_
      refine r_iload_n (i := 3) hG dX2_layOut_30 rfl rfl ?_
      refine r_lconst (v := 0) hG dX2_layOut_31 rfl ?_
      refine r_last hG 1 rfl (by omega) (by decide) dX2_layOut_32 rfl ?_
      refine r_iinc hG dX2_layOut_33 rfl (by decide) rfl ?_
      refine r_goto (tgt := 20) hG dX2_layOut_36 (by decide) ?_
      exact V_lv (ih (by omega)) ⟨rfl, rfl, trivial⟩
  refine r_aload_n (i := 0) hG dX2_layOut_0 rfl rfl ?_
  refine r_iload_n (i := 1) hG dX2_layOut_1 rfl rfl ?_
  refine r_put hG cX2_layOut_X2 0 1 tyX2 tyX2_ok nmX2 rfl rfl (by decide) kX2_layOut_15 rfl rfl rfl (Nat.le_of_ble_eq_true rfl) dX2_layOut_2 rfl ?_
  refine r_aload_n (i := 0) hG dX2_layOut_5 rfl rfl ?_
  refine r_iload_n (i := 1) hG dX2_layOut_6 rfl rfl ?_
  refine r_if_ne (tgt := 14) hG (by omega) dX2_layOut_7 (by decide) (fun c7 => ?_) (fun c7 => ?_)
  · refine r_iload_n (i := 2) hG dX2_layOut_14 rfl rfl ?_
    refine r_put hG cX2_layOut_X2 0 2 tyX2 tyX2_ok nmX2 rfl rfl (by decide) kX2_layOut_19 rfl rfl rfl (Nat.le_of_ble_eq_true rfl) dX2_layOut_15 rfl ?_
    refine r_iconst hG dX2_layOut_18 ?_
    refine r_istore_n (i := 3) hG dX2_layOut_19 rfl (by decide) rfl ?_
    first
      | exact V_ws (ws' := sheetw (g_D G) s S wd (if wd = 0 then 0 else k)) (by rw [if_pos c7]; rfl) (V_lv (L 0 (by omega)) ⟨rfl, rfl, trivial⟩)
      | exact V_ws (ws' := sheetw (g_D G) s S wd (if wd = 0 then 0 else k)) (by rw [if_neg c7]; rfl) (V_lv (L 0 (by omega)) ⟨rfl, rfl, trivial⟩)
  · refine r_iconst hG dX2_layOut_10 ?_
    refine r_goto (tgt := 15) hG dX2_layOut_11 (by decide) ?_
    refine r_put hG cX2_layOut_X2 0 2 tyX2 tyX2_ok nmX2 rfl rfl (by decide) kX2_layOut_19 rfl rfl rfl (Nat.le_of_ble_eq_true rfl) dX2_layOut_15 rfl ?_
    refine r_iconst hG dX2_layOut_18 ?_
    refine r_istore_n (i := 3) hG dX2_layOut_19 rfl (by decide) rfl ?_
    first
      | exact V_ws (ws' := sheetw (g_D G) s S wd (if wd = 0 then 0 else k)) (by rw [if_pos c7]; rfl) (V_lv (L 0 (by omega)) ⟨rfl, rfl, trivial⟩)
      | exact V_ws (ws' := sheetw (g_D G) s S wd (if wd = 0 then 0 else k)) (by rw [if_neg c7]; rfl) (V_lv (L 0 (by omega)) ⟨rfl, rfl, trivial⟩)
theorem kX2_put_9 : Cond.fieldLink RX2 9 "BreakSwaps$Sheet" "row" "[J" ∈ wsX2_put := List.mem_of_getElem? (i := 1) rfl
theorem kX2_put_15 : Cond.fieldLink RX2 15 "BreakSwaps$Sheet" "bits" "I" ∈ wsX2_put := List.mem_of_getElem? (i := 2) rfl
theorem cX2_put_X2 : ∀ w ∈ wsX20, w ∈ wsX2_put := fun _ h => List.mem_cons_of_mem _ (List.mem_append_right _ h)
theorem hyX2_put : hyV yX2_put RX2 2 := by decide +kernel
set_option maxHeartbeats 4000000 in
set_option maxRecDepth 100000 in
theorem c_X2_put (l : Launch) (D : va_G) (s : Nat → Nat) (S : Int → Int64) (bi n : Int) (hb : 0 ≤ bi ∧ bi ≤ 64) (i : Int) (v : Int64) (hi : 0 ≤ i ∧ i < 40) : Con l yX2_put wsX2_put 0 D (sheetw D s S bi n) [.ref (s 0), .int (iI i), .long v] none (fun w => w = sheetw D s (up1 S i (cutL bi v)) bi n) := by
  refine con_start (own := RX2) (by decide) rfl rfl (Nat.le_of_ble_eq_true rfl) ?_
  intro G hG hE hl hD
  subst hl
  subst hD
  refine r_aload_n (i := 0) hG dX2_put_0 rfl rfl ?_
  refine r_get hG cX2_put_X2 0 0 rfl rfl (by decide) kX2_put_9 rfl dX2_put_1 ?_
  refine r_iload_n (i := 1) hG dX2_put_4 rfl rfl ?_
  refine r_aload_n (i := 0) hG dX2_put_5 rfl rfl ?_
  refine r_get hG cX2_put_X2 0 1 rfl rfl (by decide) kX2_put_15 rfl dX2_put_6 ?_
  refine r_bipush hG dX2_put_9 rfl ?_
  refine r_icmp_ne (tgt := 21) hG (by omega) (by omega) dX2_put_11 (by decide) (fun c11 => ?_) (fun c11 => ?_)
  · refine r_aload_n (i := 0) hG dX2_put_21 rfl rfl ?_
    refine r_get hG cX2_put_X2 0 1 rfl rfl (by decide) kX2_put_15 rfl dX2_put_22 ?_
    refine r_bipush hG dX2_put_25 rfl ?_
    refine r_icmp_ne (tgt := 37) hG (by omega) (by omega) dX2_put_27 (by decide) (fun c27 => ?_) (fun c27 => ?_)
    · refine r_lload_n (i := 2) hG dX2_put_37 rfl rfl ?_
      refine r_last hG 1 rfl (by omega) (by decide) dX2_put_38 rfl ?_
      exact r_vret hG hE dX2_put_39 (by unfold cutL; first | (rw [if_pos (by omega)]; rfl) | (rw [if_neg (by omega), if_pos (by omega)]; rfl) | (rw [if_neg (by omega), if_neg (by omega)]; rfl))
    · refine r_lload_n (i := 2) hG dX2_put_30 rfl rfl ?_
      refine r_l2i hG dX2_put_31 ?_
      refine r_i2s hG dX2_put_32 ?_
      refine r_i2l hG dX2_put_33 ?_
      refine r_goto (tgt := 38) hG dX2_put_34 (by decide) ?_
      refine r_last hG 1 rfl (by omega) (by decide) dX2_put_38 rfl ?_
      exact r_vret hG hE dX2_put_39 (by unfold cutL; first | (rw [if_pos (by omega)]; rfl) | (rw [if_neg (by omega), if_pos (by omega)]; rfl) | (rw [if_neg (by omega), if_neg (by omega)]; rfl))
  · refine r_lload_n (i := 2) hG dX2_put_14 rfl rfl ?_
    refine r_l2i hG dX2_put_15 ?_
    refine r_i2b hG dX2_put_16 ?_
    refine r_i2l hG dX2_put_17 ?_
    refine r_goto (tgt := 38) hG dX2_put_18 (by decide) ?_
    refine r_last hG 1 rfl (by omega) (by decide) dX2_put_38 rfl ?_
    exact r_vret hG hE dX2_put_39 (by unfold cutL; first | (rw [if_pos (by omega)]; rfl) | (rw [if_neg (by omega), if_pos (by omega)]; rfl) | (rw [if_neg (by omega), if_neg (by omega)]; rfl))
theorem kX2_hasSpan_19 : Cond.fieldLink RX2 19 "BreakSwaps$Sheet" "length" "I" ∈ wsX2_hasSpan := List.mem_of_getElem? (i := 1) rfl
theorem cX2_hasSpan_X2 : ∀ w ∈ wsX20, w ∈ wsX2_hasSpan := fun _ h => List.mem_cons_of_mem _ (List.mem_append_right _ h)
theorem hyX2_hasSpan : hyV yX2_hasSpan RX2 2 := by decide +kernel
set_option maxHeartbeats 4000000 in
set_option maxRecDepth 100000 in
theorem c_X2_hasSpan (l : Launch) (D : va_G) (s : Nat → Nat) (S : Int → Int64) (bi n : Int) (hn : 0 ≤ n ∧ n ≤ 40) (st k : Int) (h1 : -2147483648 ≤ st ∧ st < 2147483648) (h2 : -2147483648 ≤ k ∧ k < 2147483648) : Con l yX2_hasSpan wsX2_hasSpan 0 D (sheetw D s S bi n) [.ref (s 0), .int (iI st), .int (iI k)] (some (.int (iI (b2 (decide (0 ≤ st ∧ 0 ≤ k ∧ st ≤ n ∧ k ≤ n - st)))))) (fun w => w = sheetw D s S bi n) := by
  refine con_start (own := RX2) (by decide) rfl rfl (Nat.le_of_ble_eq_true rfl) ?_
  intro G hG hE hl hD
  subst hl
  subst hD
  refine r_iload_n (i := 1) hG dX2_hasSpan_0 rfl rfl ?_
  refine r_if_lt (tgt := 30) hG (by omega) dX2_hasSpan_1 (by decide) (fun c1 => ?_) (fun c1 => ?_)
  · refine r_iconst hG dX2_hasSpan_30 ?_
    exact r_zret hG hE dX2_hasSpan_31 (by congr 1; unfold b2; (repeat' split) <;> (try simp_all) <;> (try omega)) rfl
  · refine r_iload_n (i := 2) hG dX2_hasSpan_4 rfl rfl ?_
    refine r_if_lt (tgt := 30) hG (by omega) dX2_hasSpan_5 (by decide) (fun c5 => ?_) (fun c5 => ?_)
    · refine r_iconst hG dX2_hasSpan_30 ?_
      exact r_zret hG hE dX2_hasSpan_31 (by congr 1; unfold b2; (repeat' split) <;> (try simp_all) <;> (try omega)) rfl
    · refine r_iload_n (i := 1) hG dX2_hasSpan_8 rfl rfl ?_
      refine r_aload_n (i := 0) hG dX2_hasSpan_9 rfl rfl ?_
      refine r_get hG cX2_hasSpan_X2 0 2 rfl rfl (by decide) kX2_hasSpan_19 rfl dX2_hasSpan_10 ?_
      refine r_icmp_gt (tgt := 30) hG (by omega) (by omega) dX2_hasSpan_13 (by decide) (fun c13 => ?_) (fun c13 => ?_)
      · refine r_iconst hG dX2_hasSpan_30 ?_
        exact r_zret hG hE dX2_hasSpan_31 (by congr 1; unfold b2; (repeat' split) <;> (try simp_all) <;> (try omega)) rfl
      · refine r_iload_n (i := 2) hG dX2_hasSpan_16 rfl rfl ?_
        refine r_aload_n (i := 0) hG dX2_hasSpan_17 rfl rfl ?_
        refine r_get hG cX2_hasSpan_X2 0 2 rfl rfl (by decide) kX2_hasSpan_19 rfl dX2_hasSpan_18 ?_
        refine r_iload_n (i := 1) hG dX2_hasSpan_21 rfl rfl ?_
        refine r_isub hG dX2_hasSpan_22 ?_
        refine r_icmp_gt (tgt := 30) hG (by omega) (by omega) dX2_hasSpan_23 (by decide) (fun c23 => ?_) (fun c23 => ?_)
        · refine r_iconst hG dX2_hasSpan_30 ?_
          exact r_zret hG hE dX2_hasSpan_31 (by congr 1; unfold b2; (repeat' split) <;> (try simp_all) <;> (try omega)) rfl
        · refine r_iconst hG dX2_hasSpan_26 ?_
          refine r_goto (tgt := 31) hG dX2_hasSpan_27 (by decide) ?_
          exact r_zret hG hE dX2_hasSpan_31 (by congr 1; unfold b2; (repeat' split) <;> (try simp_all) <;> (try omega)) rfl
