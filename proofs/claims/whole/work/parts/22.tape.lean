theorem hyX3_isLetter : hyS yX3_isLetter 1 := by decide +kernel
set_option maxHeartbeats 4000000 in
set_option maxRecDepth 100000 in
theorem c_X3_isLetter (l : Launch) (D : va_G) (b : Int) (hb : -2147483648 ≤ b ∧ b < 2147483648) : Con l yX3_isLetter wsX3_isLetter 0 D [] [.int (iI b)] (some (.int (iI (b2 (isL b))))) (fun w => w = []) := by
  refine con_start (own := RX3) (by decide) rfl rfl (Nat.le_of_ble_eq_true rfl) ?_
  intro G hG hE hl hD
  subst hl
  subst hD
  refine r_iload_n (i := 0) hG dX3_isLetter_0 rfl rfl ?_
  refine r_bipush hG dX3_isLetter_1 rfl ?_
  refine r_icmp_lt (tgt := 16) hG (by omega) (by omega) dX3_isLetter_3 (by decide) (fun c3 => ?_) (fun c3 => ?_)
  · refine r_iconst hG dX3_isLetter_16 ?_
    exact r_zret hG hE dX3_isLetter_17 (by congr 1; unfold b2 isL; (repeat' split) <;> (try simp_all) <;> (try omega)) rfl
  · refine r_iload_n (i := 0) hG dX3_isLetter_6 rfl rfl ?_
    refine r_bipush hG dX3_isLetter_7 rfl ?_
    refine r_icmp_gt (tgt := 16) hG (by omega) (by omega) dX3_isLetter_9 (by decide) (fun c9 => ?_) (fun c9 => ?_)
    · refine r_iconst hG dX3_isLetter_16 ?_
      exact r_zret hG hE dX3_isLetter_17 (by congr 1; unfold b2 isL; (repeat' split) <;> (try simp_all) <;> (try omega)) rfl
    · refine r_iconst hG dX3_isLetter_12 ?_
      refine r_goto (tgt := 17) hG dX3_isLetter_13 (by decide) ?_
      exact r_zret hG hE dX3_isLetter_17 (by congr 1; unfold b2 isL; (repeat' split) <;> (try simp_all) <;> (try omega)) rfl
theorem hyX3_isDigit : hyS yX3_isDigit 1 := by decide +kernel
set_option maxHeartbeats 4000000 in
set_option maxRecDepth 100000 in
theorem c_X3_isDigit (l : Launch) (D : va_G) (b : Int) (hb : -2147483648 ≤ b ∧ b < 2147483648) : Con l yX3_isDigit wsX3_isDigit 0 D [] [.int (iI b)] (some (.int (iI (b2 (isD b))))) (fun w => w = []) := by
  refine con_start (own := RX3) (by decide) rfl rfl (Nat.le_of_ble_eq_true rfl) ?_
  intro G hG hE hl hD
  subst hl
  subst hD
  refine r_iload_n (i := 0) hG dX3_isDigit_0 rfl rfl ?_
  refine r_bipush hG dX3_isDigit_1 rfl ?_
  refine r_icmp_lt (tgt := 16) hG (by omega) (by omega) dX3_isDigit_3 (by decide) (fun c3 => ?_) (fun c3 => ?_)
  · refine r_iconst hG dX3_isDigit_16 ?_
    exact r_zret hG hE dX3_isDigit_17 (by congr 1; unfold b2 isD; (repeat' split) <;> (try simp_all) <;> (try omega)) rfl
  · refine r_iload_n (i := 0) hG dX3_isDigit_6 rfl rfl ?_
    refine r_bipush hG dX3_isDigit_7 rfl ?_
    refine r_icmp_gt (tgt := 16) hG (by omega) (by omega) dX3_isDigit_9 (by decide) (fun c9 => ?_) (fun c9 => ?_)
    · refine r_iconst hG dX3_isDigit_16 ?_
      exact r_zret hG hE dX3_isDigit_17 (by congr 1; unfold b2 isD; (repeat' split) <;> (try simp_all) <;> (try omega)) rfl
    · refine r_iconst hG dX3_isDigit_12 ?_
      refine r_goto (tgt := 17) hG dX3_isDigit_13 (by decide) ?_
      exact r_zret hG hE dX3_isDigit_17 (by congr 1; unfold b2 isD; (repeat' split) <;> (try simp_all) <;> (try omega)) rfl
theorem kX3_append_9 : Cond.fieldLink RX3 9 "BreakSwaps$Tape" "bytes" "[I" ∈ wsX3_append := List.mem_of_getElem? (i := 1) rfl
theorem kX3_append_15 : Cond.fieldLink RX3 15 "BreakSwaps$Tape" "length" "I" ∈ wsX3_append := List.mem_of_getElem? (i := 2) rfl
theorem cX3_append_X3 : ∀ w ∈ wsX30, w ∈ wsX3_append := fun _ h => List.mem_cons_of_mem _ (List.mem_append_right _ h)
theorem hyX3_append : hyV yX3_append RX3 1 := by decide +kernel
set_option maxHeartbeats 4000000 in
set_option maxRecDepth 100000 in
theorem c_X3_append (l : Launch) (D : va_G) (a : Nat → Nat) (B : Int → Int) (n tk st en va : Int) (hn : 0 ≤ n ∧ n < 120) (b : Int) : Con l yX3_append wsX3_append 0 D (tapew D a B n tk st en va) [.ref (a 0), .int (iI b)] none (fun w => w = tapew D a (up1 B n b) (n + 1) tk st en va) := by
  refine con_start (own := RX3) (by decide) rfl rfl (Nat.le_of_ble_eq_true rfl) ?_
  intro G hG hE hl hD
  subst hl
  subst hD
  refine r_aload_n (i := 0) hG dX3_append_0 rfl rfl ?_
  refine r_get hG cX3_append_X3 0 0 rfl rfl (by decide) kX3_append_9 rfl dX3_append_1 ?_
  refine r_aload_n (i := 0) hG dX3_append_4 rfl rfl ?_
  refine r_get hG cX3_append_X3 0 1 rfl rfl (by decide) kX3_append_15 rfl dX3_append_5 ?_
  refine r_iload_n (i := 1) hG dX3_append_8 rfl rfl ?_
  refine r_iast hG 1 rfl (by omega) (by decide) dX3_append_9 rfl ?_
  refine r_aload_n (i := 0) hG dX3_append_10 rfl rfl ?_
  refine r_dup hG dX3_append_11 rfl ?_
  refine r_get hG cX3_append_X3 0 1 rfl rfl (by decide) kX3_append_15 rfl dX3_append_12 ?_
  refine r_iconst hG dX3_append_15 ?_
  refine r_iadd hG dX3_append_16 ?_
  refine r_put hG cX3_append_X3 0 1 tyX3 tyX3_ok nmX3 rfl rfl (by decide) kX3_append_15 rfl rfl rfl (Nat.le_of_ble_eq_true rfl) dX3_append_17 rfl ?_
  exact r_vret hG hE dX3_append_20 rfl
theorem kX3_isNumberUpTo_19 : Cond.fieldLink RX3 19 "BreakSwaps$Tape" "token" "I" ∈ wsX3_isNumberUpTo := List.mem_of_getElem? (i := 1) rfl
theorem kX3_isNumberUpTo_28 : Cond.fieldLink RX3 28 "BreakSwaps$Tape" "value" "I" ∈ wsX3_isNumberUpTo := List.mem_of_getElem? (i := 2) rfl
theorem cX3_isNumberUpTo_X3 : ∀ w ∈ wsX30, w ∈ wsX3_isNumberUpTo := fun _ h => List.mem_cons_of_mem _ (List.mem_append_right _ h)
theorem hyX3_isNumberUpTo : hyV yX3_isNumberUpTo RX3 1 := by decide +kernel
set_option maxHeartbeats 4000000 in
set_option maxRecDepth 100000 in
theorem c_X3_isNumberUpTo (l : Launch) (D : va_G) (a : Nat → Nat) (B : Int → Int) (n tk st en va : Int) (hk : 0 ≤ tk ∧ tk ≤ 4) (hv : -2147483648 ≤ va ∧ va < 2147483648) (m : Int) (hm : -2147483648 ≤ m ∧ m < 2147483648) : Con l yX3_isNumberUpTo wsX3_isNumberUpTo 0 D (tapew D a B n tk st en va) [.ref (a 0), .int (iI m)] (some (.int (iI (b2 (decide (tk = 2 ∧ va ≤ m)))))) (fun w => w = tapew D a B n tk st en va) := by
  refine con_start (own := RX3) (by decide) rfl rfl (Nat.le_of_ble_eq_true rfl) ?_
  intro G hG hE hl hD
  subst hl
  subst hD
  refine r_aload_n (i := 0) hG dX3_isNumberUpTo_0 rfl rfl ?_
  refine r_get hG cX3_isNumberUpTo_X3 0 2 rfl rfl (by decide) kX3_isNumberUpTo_19 rfl dX3_isNumberUpTo_1 ?_
  refine r_iconst hG dX3_isNumberUpTo_4 ?_
  refine r_icmp_ne (tgt := 20) hG (by omega) (by omega) dX3_isNumberUpTo_5 (by decide) (fun c5 => ?_) (fun c5 => ?_)
  · refine r_iconst hG dX3_isNumberUpTo_20 ?_
    exact r_zret hG hE dX3_isNumberUpTo_21 (by congr 1; unfold b2; (repeat' split) <;> (try simp_all) <;> (try omega)) rfl
  · refine r_aload_n (i := 0) hG dX3_isNumberUpTo_8 rfl rfl ?_
    refine r_get hG cX3_isNumberUpTo_X3 0 5 rfl rfl (by decide) kX3_isNumberUpTo_28 rfl dX3_isNumberUpTo_9 ?_
    refine r_iload_n (i := 1) hG dX3_isNumberUpTo_12 rfl rfl ?_
    refine r_icmp_gt (tgt := 20) hG (by omega) (by omega) dX3_isNumberUpTo_13 (by decide) (fun c13 => ?_) (fun c13 => ?_)
    · refine r_iconst hG dX3_isNumberUpTo_20 ?_
      exact r_zret hG hE dX3_isNumberUpTo_21 (by congr 1; unfold b2; (repeat' split) <;> (try simp_all) <;> (try omega)) rfl
    · refine r_iconst hG dX3_isNumberUpTo_16 ?_
      refine r_goto (tgt := 21) hG dX3_isNumberUpTo_17 (by decide) ?_
      exact r_zret hG hE dX3_isNumberUpTo_21 (by congr 1; unfold b2; (repeat' split) <;> (try simp_all) <;> (try omega)) rfl
theorem kX3_takeWord_19 : Cond.fieldLink RX3 19 "BreakSwaps$Tape" "token" "I" ∈ wsX3_takeWord := List.mem_of_getElem? (i := 1) rfl
theorem kX3_takeWord_25 : Cond.fieldLink RX3 25 "BreakSwaps$Tape" "end" "I" ∈ wsX3_takeWord := List.mem_of_getElem? (i := 2) rfl
theorem kX3_takeWord_15 : Cond.fieldLink RX3 15 "BreakSwaps$Tape" "length" "I" ∈ wsX3_takeWord := List.mem_of_getElem? (i := 3) rfl
theorem kX3_takeWord_9 : Cond.fieldLink RX3 9 "BreakSwaps$Tape" "bytes" "[I" ∈ wsX3_takeWord := List.mem_of_getElem? (i := 4) rfl
theorem cX3_takeWord_X3 : ∀ w ∈ wsX30, w ∈ wsX3_takeWord := fun _ h => List.mem_cons_of_mem _ (List.mem_append_right _ h)
theorem hyX3_takeWord : hyV yX3_takeWord RX3 0 := by decide +kernel
set_option maxHeartbeats 4000000 in
set_option maxRecDepth 100000 in
theorem c_X3_takeWord (l : Launch) (D : va_G) (a : Nat → Nat) (B : Int → Int) (n tk st en va : Int) (hB : bytesOk B) (hn : 0 ≤ n ∧ n ≤ 120) (he : 0 ≤ en ∧ en ≤ n) : Con l yX3_takeWord wsX3_takeWord 1 D (tapew D a B n tk st en va) [.ref (a 0)] none (fun w => w = tapew D a B n 1 st (scanF isL B n en) va) := by
  refine con_start (own := RX3) (by decide) rfl rfl (Nat.le_of_ble_eq_true rfl) ?_
  intro G hG hE hl hD
  subst hl
  subst hD
  have L : ∀ i, i ≤ (n - en).toNat → scanF isL B n (en + i) = scanF isL B n en → V G 0 0 (tapew (g_D G) a B n 1 st (en + i) va) 5 [(0, .ref (a 0))] [] := by
    refine down (fun i hi ih hs => ?_)
    have hb : en + i < n → _ := fun h => hB (en + i) (by omega) (by omega)
    refine r_aload_n (i := 0) hG dX3_takeWord_5 rfl rfl ?_
    refine r_get hG cX3_takeWord_X3 0 4 rfl rfl (by decide) kX3_takeWord_25 rfl dX3_takeWord_6 ?_
    refine r_aload_n (i := 0) hG dX3_takeWord_9 rfl rfl ?_
    refine r_get hG cX3_takeWord_X3 0 1 rfl rfl (by decide) kX3_takeWord_15 rfl dX3_takeWord_10 ?_
    refine r_icmp_ge (tgt := 44) hG (by omega) (by omega) dX3_takeWord_13 (by decide) (fun c13 => ?_) (fun c13 => ?_)
    · exact r_vret hG hE dX3_takeWord_44 (by rw [← hs, scanF_stop (by first | exact Or.inl (by omega) | exact Or.inr c28)])
    · refine r_aload_n (i := 0) hG dX3_takeWord_16 rfl rfl ?_
      refine r_get hG cX3_takeWord_X3 0 0 rfl rfl (by decide) kX3_takeWord_9 rfl dX3_takeWord_17 ?_
      refine r_aload_n (i := 0) hG dX3_takeWord_20 rfl rfl ?_
      refine r_get hG cX3_takeWord_X3 0 4 rfl rfl (by decide) kX3_takeWord_25 rfl dX3_takeWord_21 ?_
      refine r_iald hG 1 rfl (by omega) (by decide) dX3_takeWord_24 ?_
      refine r_call0i hG (c_X3_isLetter (g_l G) (g_D G) _ (by have := hb (by omega); omega))  gX3_takeWord_X3_isLetter rfl hyX3_isLetter rfl (by decide) (by decide) rfl (Nat.le_of_ble_eq_true rfl) ⟨Nat.zero_le _, Nat.zero_le _⟩ dX3_takeWord_25 ?_
      refine rb_if_eq (tgt := 44) hG dX3_takeWord_28 (by decide) (fun c28 => ?_) (fun c28 => ?_)
      · exact r_vret hG hE dX3_takeWord_44 (by rw [← hs, scanF_stop (by first | exact Or.inl (by omega) | exact Or.inr c28)])
      · refine r_aload_n (i := 0) hG dX3_takeWord_31 rfl rfl ?_
        refine r_dup hG dX3_takeWord_32 rfl ?_
        refine r_get hG cX3_takeWord_X3 0 4 rfl rfl (by decide) kX3_takeWord_25 rfl dX3_takeWord_33 ?_
        refine r_iconst hG dX3_takeWord_36 ?_
        refine r_iadd hG dX3_takeWord_37 ?_
        refine r_put hG cX3_takeWord_X3 0 4 tyX3 tyX3_ok nmX3 rfl rfl (by decide) kX3_takeWord_25 rfl rfl rfl (Nat.le_of_ble_eq_true rfl) dX3_takeWord_38 rfl ?_
        refine r_goto (tgt := 5) hG dX3_takeWord_41 (by decide) ?_
        exact V_ws (ws' := tapew (g_D G) a B n 1 st (en + ((i + 1 : Nat) : Int)) va) (by rw [show en + ((i + 1 : Nat) : Int) = en + i + 1 by omega]; rfl) (V_lv (ih (by omega) (by rw [show en + ((i + 1 : Nat) : Int) = en + i + 1 by omega, ← scanF_go (by omega) c28]; exact hs)) ⟨rfl, trivial⟩)
  refine r_aload_n (i := 0) hG dX3_takeWord_0 rfl rfl ?_
  refine r_iconst hG dX3_takeWord_1 ?_
  refine r_put hG cX3_takeWord_X3 0 2 tyX3 tyX3_ok nmX3 rfl rfl (by decide) kX3_takeWord_19 rfl rfl rfl (Nat.le_of_ble_eq_true rfl) dX3_takeWord_2 rfl ?_
  exact V_ws (ws' := tapew (g_D G) a B n 1 st (en + ((0 : Nat) : Int)) va) (by rw [show en + ((0 : Nat) : Int) = en by omega]; rfl) (V_lv (L 0 (by omega) (by rw [show en + ((0 : Nat) : Int) = en by omega])) ⟨rfl, trivial⟩)
theorem kX3_takeNumber_19 : Cond.fieldLink RX3 19 "BreakSwaps$Tape" "token" "I" ∈ wsX3_takeNumber := List.mem_of_getElem? (i := 1) rfl
theorem kX3_takeNumber_28 : Cond.fieldLink RX3 28 "BreakSwaps$Tape" "value" "I" ∈ wsX3_takeNumber := List.mem_of_getElem? (i := 2) rfl
theorem kX3_takeNumber_25 : Cond.fieldLink RX3 25 "BreakSwaps$Tape" "end" "I" ∈ wsX3_takeNumber := List.mem_of_getElem? (i := 3) rfl
theorem kX3_takeNumber_15 : Cond.fieldLink RX3 15 "BreakSwaps$Tape" "length" "I" ∈ wsX3_takeNumber := List.mem_of_getElem? (i := 4) rfl
theorem kX3_takeNumber_9 : Cond.fieldLink RX3 9 "BreakSwaps$Tape" "bytes" "[I" ∈ wsX3_takeNumber := List.mem_of_getElem? (i := 5) rfl
theorem cX3_takeNumber_X3 : ∀ w ∈ wsX30, w ∈ wsX3_takeNumber := fun _ h => List.mem_cons_of_mem _ (List.mem_append_right _ h)
theorem hyX3_takeNumber : hyV yX3_takeNumber RX3 0 := by decide +kernel
set_option maxHeartbeats 4000000 in
set_option maxRecDepth 100000 in
theorem c_X3_takeNumber (l : Launch) (D : va_G) (a : Nat → Nat) (B : Int → Int) (n tk st en va : Int) (hB : bytesOk B) (hn : 0 ≤ n ∧ n ≤ 120) (he : 0 ≤ en ∧ en ≤ n) : Con l yX3_takeNumber wsX3_takeNumber 1 D (tapew D a B n tk st en va) [.ref (a 0)] none (fun w => w = tapew D a B n 2 st (scanF isD B n en) (numF B n en 0)) := by
  refine con_start (own := RX3) (by decide) rfl rfl (Nat.le_of_ble_eq_true rfl) ?_
  intro G hG hE hl hD
  subst hl
  subst hD
  have L : ∀ i, i ≤ (n - en).toNat → ∀ v, 0 ≤ v ∧ v ≤ 9999 → scanF isD B n (en + i) = scanF isD B n en → numF B n (en + i) v = numF B n en 0 → V G 0 0 (tapew (g_D G) a B n 2 st (en + i) v) 10 [(0, .ref (a 0))] [] := by
    refine down (fun i hi ih v hv hs hm => ?_)
    have hb : en + i < n → _ := fun h => hB (en + i) (by omega) (by omega)
    have J70 : ∀ u, u = (if v ≤ 999 then 10 * v + B (en + i) - 48 else v) → en + i < n → isD (B (en + i)) = true → V G 0 0 (tapew (g_D G) a B n 2 st (en + i) u) 70 [(0, .ref (a 0))] [] := by
      intro u hu hlt hd
      have hd2 : 48 ≤ B (en + i) ∧ B (en + i) ≤ 57 := of_decide_eq_true hd
      refine r_aload_n (i := 0) hG dX3_takeNumber_70 rfl rfl ?_
      refine r_dup hG dX3_takeNumber_71 rfl ?_
      refine r_get hG cX3_takeNumber_X3 0 4 rfl rfl (by decide) kX3_takeNumber_25 rfl dX3_takeNumber_72 ?_
      refine r_iconst hG dX3_takeNumber_75 ?_
      refine r_iadd hG dX3_takeNumber_76 ?_
      refine r_put hG cX3_takeNumber_X3 0 4 tyX3 tyX3_ok nmX3 rfl rfl (by decide) kX3_takeNumber_25 rfl rfl rfl (Nat.le_of_ble_eq_true rfl) dX3_takeNumber_77 rfl ?_
      refine r_goto (tgt := 10) hG dX3_takeNumber_80 (by decide) ?_
      exact V_ws (ws' := tapew (g_D G) a B n 2 st (en + ((i + 1 : Nat) : Int)) u) (by rw [show en + ((i + 1 : Nat) : Int) = en + i + 1 by omega]; rfl) (V_lv (ih (by omega) u (by rw [hu]; split <;> omega) (by rw [show en + ((i + 1 : Nat) : Int) = en + i + 1 by omega, ← scanF_go (by omega) hd]; exact hs) (by rw [show en + ((i + 1 : Nat) : Int) = en + i + 1 by omega, hu, ← numF_go (by omega) hd]; exact hm)) ⟨rfl, trivial⟩)
    refine r_aload_n (i := 0) hG dX3_takeNumber_10 rfl rfl ?_
    refine r_get hG cX3_takeNumber_X3 0 4 rfl rfl (by decide) kX3_takeNumber_25 rfl dX3_takeNumber_11 ?_
    refine r_aload_n (i := 0) hG dX3_takeNumber_14 rfl rfl ?_
    refine r_get hG cX3_takeNumber_X3 0 1 rfl rfl (by decide) kX3_takeNumber_15 rfl dX3_takeNumber_15 ?_
    refine r_icmp_ge (tgt := 83) hG (by omega) (by omega) dX3_takeNumber_18 (by decide) (fun c18 => ?_) (fun c18 => ?_)
    · exact r_vret hG hE dX3_takeNumber_83 (by rw [← hs, ← hm, scanF_stop (by first | exact Or.inl (by omega) | exact Or.inr c33), numF_stop (by first | exact Or.inl (by omega) | exact Or.inr c33)])
    · refine r_aload_n (i := 0) hG dX3_takeNumber_21 rfl rfl ?_
      refine r_get hG cX3_takeNumber_X3 0 0 rfl rfl (by decide) kX3_takeNumber_9 rfl dX3_takeNumber_22 ?_
      refine r_aload_n (i := 0) hG dX3_takeNumber_25 rfl rfl ?_
      refine r_get hG cX3_takeNumber_X3 0 4 rfl rfl (by decide) kX3_takeNumber_25 rfl dX3_takeNumber_26 ?_
      refine r_iald hG 1 rfl (by omega) (by decide) dX3_takeNumber_29 ?_
      refine r_call0i hG (c_X3_isDigit (g_l G) (g_D G) _ (by have := hb (by omega); omega))  gX3_takeNumber_X3_isDigit rfl hyX3_isDigit rfl (by decide) (by decide) rfl (Nat.le_of_ble_eq_true rfl) ⟨Nat.zero_le _, Nat.zero_le _⟩ dX3_takeNumber_30 ?_
      refine rb_if_eq (tgt := 83) hG dX3_takeNumber_33 (by decide) (fun c33 => ?_) (fun c33 => ?_)
      · exact r_vret hG hE dX3_takeNumber_83 (by rw [← hs, ← hm, scanF_stop (by first | exact Or.inl (by omega) | exact Or.inr c33), numF_stop (by first | exact Or.inl (by omega) | exact Or.inr c33)])
      · refine r_aload_n (i := 0) hG dX3_takeNumber_36 rfl rfl ?_
        refine r_get hG cX3_takeNumber_X3 0 5 rfl rfl (by decide) kX3_takeNumber_28 rfl dX3_takeNumber_37 ?_
        refine r_sipush hG dX3_takeNumber_40 rfl ?_
        refine r_icmp_gt (tgt := 70) hG (by omega) (by omega) dX3_takeNumber_43 (by decide) (fun c43 => ?_) (fun c43 => ?_)
        · first
            | exact V_ws (ws' := tapew (g_D G) a B n 2 st (en + i) (10 * v + B (en + i) - 48)) rfl (V_lv (J70 _ (by rw [if_pos (by omega)]) (by omega) c33) ⟨rfl, trivial⟩)
            | exact V_lv (J70 v (by rw [if_neg (by omega)]) (by omega) c33) ⟨rfl, trivial⟩
        · refine r_aload_n (i := 0) hG dX3_takeNumber_46 rfl rfl ?_
          refine r_bipush hG dX3_takeNumber_47 rfl ?_
          refine r_aload_n (i := 0) hG dX3_takeNumber_49 rfl rfl ?_
          refine r_get hG cX3_takeNumber_X3 0 5 rfl rfl (by decide) kX3_takeNumber_28 rfl dX3_takeNumber_50 ?_
          refine r_imul hG dX3_takeNumber_53 ?_
          refine r_aload_n (i := 0) hG dX3_takeNumber_54 rfl rfl ?_
          refine r_get hG cX3_takeNumber_X3 0 0 rfl rfl (by decide) kX3_takeNumber_9 rfl dX3_takeNumber_55 ?_
          refine r_aload_n (i := 0) hG dX3_takeNumber_58 rfl rfl ?_
          refine r_get hG cX3_takeNumber_X3 0 4 rfl rfl (by decide) kX3_takeNumber_25 rfl dX3_takeNumber_59 ?_
          refine r_iald hG 1 rfl (by omega) (by decide) dX3_takeNumber_62 ?_
          refine r_iadd hG dX3_takeNumber_63 ?_
          refine r_bipush hG dX3_takeNumber_64 rfl ?_
          refine r_isub hG dX3_takeNumber_66 ?_
          refine r_put hG cX3_takeNumber_X3 0 5 tyX3 tyX3_ok nmX3 rfl rfl (by decide) kX3_takeNumber_28 rfl rfl rfl (Nat.le_of_ble_eq_true rfl) dX3_takeNumber_67 rfl ?_
          first
            | exact V_ws (ws' := tapew (g_D G) a B n 2 st (en + i) (10 * v + B (en + i) - 48)) rfl (V_lv (J70 _ (by rw [if_pos (by omega)]) (by omega) c33) ⟨rfl, trivial⟩)
            | exact V_lv (J70 v (by rw [if_neg (by omega)]) (by omega) c33) ⟨rfl, trivial⟩
  refine r_aload_n (i := 0) hG dX3_takeNumber_0 rfl rfl ?_
  refine r_iconst hG dX3_takeNumber_1 ?_
  refine r_put hG cX3_takeNumber_X3 0 2 tyX3 tyX3_ok nmX3 rfl rfl (by decide) kX3_takeNumber_19 rfl rfl rfl (Nat.le_of_ble_eq_true rfl) dX3_takeNumber_2 rfl ?_
  refine r_aload_n (i := 0) hG dX3_takeNumber_5 rfl rfl ?_
  refine r_iconst hG dX3_takeNumber_6 ?_
  refine r_put hG cX3_takeNumber_X3 0 5 tyX3 tyX3_ok nmX3 rfl rfl (by decide) kX3_takeNumber_28 rfl rfl rfl (Nat.le_of_ble_eq_true rfl) dX3_takeNumber_7 rfl ?_
  exact V_ws (ws' := tapew (g_D G) a B n 2 st (en + ((0 : Nat) : Int)) 0) (by rw [show en + ((0 : Nat) : Int) = en by omega]; rfl) (V_lv (L 0 (by omega) 0 (by omega) (by rw [show en + ((0 : Nat) : Int) = en by omega]) (by rw [show en + ((0 : Nat) : Int) = en by omega])) ⟨rfl, trivial⟩)
theorem tok_end {B : Int → Int} {n p : Int} (va : Int) (h : n ≤ tS B n p) : tK B n p = 0 ∧ tE B n p = tS B n p ∧ (if tK B n p = 2 then tV B n p else va) = va := by
  have e : tK B n p = 0 := by unfold tK; rw [if_pos h]
  refine ⟨e, by unfold tE; rw [if_pos h], by rw [e]; rfl⟩
theorem tok_word {B : Int → Int} {n p : Int} (va : Int) (h : ¬ n ≤ tS B n p) (h1 : isL (B (tS B n p)) = true) : tK B n p = 1 ∧ tE B n p = scanF isL B n (tS B n p) ∧ (if tK B n p = 2 then tV B n p else va) = va := by
  have e : tK B n p = 1 := by unfold tK; rw [if_neg h, if_pos h1]
  refine ⟨e, by unfold tE; rw [if_neg h, if_pos h1], by rw [e]; rfl⟩
theorem tok_num {B : Int → Int} {n p : Int} (va : Int) (h : ¬ n ≤ tS B n p) (h1 : isL (B (tS B n p)) = false) (h2 : isD (B (tS B n p)) = true) : tK B n p = 2 ∧ tE B n p = scanF isD B n (tS B n p) ∧ (if tK B n p = 2 then tV B n p else va) = numF B n (tS B n p) 0 := by
  have e : tK B n p = 2 := by unfold tK; rw [if_neg h, if_neg (by rw [h1]; decide), if_pos h2]
  refine ⟨e, by unfold tE; rw [if_neg h, if_neg (by rw [h1]; decide), if_pos h2], ?_⟩
  rw [if_pos e]
  unfold tV
  rw [if_neg h, if_neg (by rw [h1]; decide), if_pos h2]
theorem tok_semi {B : Int → Int} {n p : Int} (va : Int) (h : ¬ n ≤ tS B n p) (h1 : isL (B (tS B n p)) = false) (h2 : isD (B (tS B n p)) = false) (h3 : B (tS B n p) = 59) : tK B n p = 3 ∧ tE B n p = tS B n p + 1 ∧ (if tK B n p = 2 then tV B n p else va) = va := by
  have e : tK B n p = 3 := by unfold tK; rw [if_neg h, if_neg (by rw [h1]; decide), if_neg (by rw [h2]; decide), if_pos h3]
  refine ⟨e, by unfold tE; rw [if_neg h, if_neg (by rw [h1]; decide), if_neg (by rw [h2]; decide)], by rw [e]; rfl⟩
theorem tok_other {B : Int → Int} {n p : Int} (va : Int) (h : ¬ n ≤ tS B n p) (h1 : isL (B (tS B n p)) = false) (h2 : isD (B (tS B n p)) = false) (h3 : ¬ B (tS B n p) = 59) : tK B n p = 4 ∧ tE B n p = tS B n p + 1 ∧ (if tK B n p = 2 then tV B n p else va) = va := by
  have e : tK B n p = 4 := by unfold tK; rw [if_neg h, if_neg (by rw [h1]; decide), if_neg (by rw [h2]; decide), if_neg h3]
  refine ⟨e, by unfold tE; rw [if_neg h, if_neg (by rw [h1]; decide), if_neg (by rw [h2]; decide)], by rw [e]; rfl⟩
theorem kX3_advance_25 : Cond.fieldLink RX3 25 "BreakSwaps$Tape" "end" "I" ∈ wsX3_advance := List.mem_of_getElem? (i := 1) rfl
theorem kX3_advance_22 : Cond.fieldLink RX3 22 "BreakSwaps$Tape" "start" "I" ∈ wsX3_advance := List.mem_of_getElem? (i := 2) rfl
theorem kX3_advance_15 : Cond.fieldLink RX3 15 "BreakSwaps$Tape" "length" "I" ∈ wsX3_advance := List.mem_of_getElem? (i := 3) rfl
theorem kX3_advance_9 : Cond.fieldLink RX3 9 "BreakSwaps$Tape" "bytes" "[I" ∈ wsX3_advance := List.mem_of_getElem? (i := 4) rfl
theorem kX3_advance_19 : Cond.fieldLink RX3 19 "BreakSwaps$Tape" "token" "I" ∈ wsX3_advance := List.mem_of_getElem? (i := 5) rfl
theorem cX3_advance_X3 : ∀ w ∈ wsX30, w ∈ wsX3_advance := fun _ h => List.mem_cons_of_mem _ (List.mem_append_right _ h)
theorem hyX3_advance : hyV yX3_advance RX3 0 := by decide +kernel
set_option maxHeartbeats 4000000 in
set_option maxRecDepth 100000 in
theorem c_X3_advance (l : Launch) (D : va_G) (a : Nat → Nat) (B : Int → Int) (n tk st en va : Int) (hB : bytesOk B) (hn : 0 ≤ n ∧ n ≤ 120) (he : 0 ≤ en ∧ en ≤ n) : Con l yX3_advance wsX3_advance 2 D (tapew D a B n tk st en va) [.ref (a 0)] none (fun w => w = tapew D a B n (tK B n en) (tS B n en) (tE B n en) (if tK B n en = 2 then tV B n en else va)) := by
  refine con_start (own := RX3) (by decide) rfl rfl (Nat.le_of_ble_eq_true rfl) ?_
  intro G hG hE hl hD
  subst hl
  subst hD
  have hr := tE_rng (B := B) (n := n) (p := en) he
  have hbs : ¬ n ≤ tS B n en → _ := fun h => hB (tS B n en) (by omega) (by omega)
  have J46 : V G 0 0 (tapew (g_D G) a B n tk (tS B n en) en va) 46 [(0, .ref (a 0))] [] := by
    refine r_aload_n (i := 0) hG dX3_advance_46 rfl rfl ?_
    refine r_aload_n (i := 0) hG dX3_advance_47 rfl rfl ?_
    refine r_get hG cX3_advance_X3 0 3 rfl rfl (by decide) kX3_advance_22 rfl dX3_advance_48 ?_
    refine r_put hG cX3_advance_X3 0 4 tyX3 tyX3_ok nmX3 rfl rfl (by decide) kX3_advance_25 rfl rfl rfl (Nat.le_of_ble_eq_true rfl) dX3_advance_51 rfl ?_
    refine r_aload_n (i := 0) hG dX3_advance_54 rfl rfl ?_
    refine r_get hG cX3_advance_X3 0 3 rfl rfl (by decide) kX3_advance_22 rfl dX3_advance_55 ?_
    refine r_aload_n (i := 0) hG dX3_advance_58 rfl rfl ?_
    refine r_get hG cX3_advance_X3 0 1 rfl rfl (by decide) kX3_advance_15 rfl dX3_advance_59 ?_
    refine r_icmp_lt (tgt := 73) hG (by omega) (by omega) dX3_advance_62 (by decide) (fun c62 => ?_) (fun c62 => ?_)
    · refine r_aload_n (i := 0) hG dX3_advance_73 rfl rfl ?_
      refine r_get hG cX3_advance_X3 0 0 rfl rfl (by decide) kX3_advance_9 rfl dX3_advance_74 ?_
      refine r_aload_n (i := 0) hG dX3_advance_77 rfl rfl ?_
      refine r_get hG cX3_advance_X3 0 3 rfl rfl (by decide) kX3_advance_22 rfl dX3_advance_78 ?_
      refine r_iald hG 1 rfl (by omega) (by decide) dX3_advance_81 ?_
      refine r_call0i hG (c_X3_isLetter (g_l G) (g_D G) _ (by have := hbs (by omega); omega))  gX3_advance_X3_isLetter rfl hyX3_isLetter rfl (by decide) (by decide) rfl (Nat.le_of_ble_eq_true rfl) ⟨Nat.zero_le _, Nat.zero_le _⟩ dX3_advance_82 ?_
      refine rb_if_eq (tgt := 95) hG dX3_advance_85 (by decide) (fun c85 => ?_) (fun c85 => ?_)
      · refine r_aload_n (i := 0) hG dX3_advance_95 rfl rfl ?_
        refine r_get hG cX3_advance_X3 0 0 rfl rfl (by decide) kX3_advance_9 rfl dX3_advance_96 ?_
        refine r_aload_n (i := 0) hG dX3_advance_99 rfl rfl ?_
        refine r_get hG cX3_advance_X3 0 3 rfl rfl (by decide) kX3_advance_22 rfl dX3_advance_100 ?_
        refine r_iald hG 1 rfl (by omega) (by decide) dX3_advance_103 ?_
        refine r_call0i hG (c_X3_isDigit (g_l G) (g_D G) _ (by have := hbs (by omega); omega))  gX3_advance_X3_isDigit rfl hyX3_isDigit rfl (by decide) (by decide) rfl (Nat.le_of_ble_eq_true rfl) ⟨Nat.zero_le _, Nat.zero_le _⟩ dX3_advance_104 ?_
        refine rb_if_eq (tgt := 117) hG dX3_advance_107 (by decide) (fun c107 => ?_) (fun c107 => ?_)
        · refine r_aload_n (i := 0) hG dX3_advance_117 rfl rfl ?_
          refine r_aload_n (i := 0) hG dX3_advance_118 rfl rfl ?_
          refine r_get hG cX3_advance_X3 0 0 rfl rfl (by decide) kX3_advance_9 rfl dX3_advance_119 ?_
          refine r_aload_n (i := 0) hG dX3_advance_122 rfl rfl ?_
          refine r_get hG cX3_advance_X3 0 3 rfl rfl (by decide) kX3_advance_22 rfl dX3_advance_123 ?_
          refine r_iald hG 1 rfl (by omega) (by decide) dX3_advance_126 ?_
          refine r_bipush hG dX3_advance_127 rfl ?_
          refine r_icmp_ne (tgt := 136) hG (by have := hbs (by omega); omega) (by have := hbs (by omega); omega) dX3_advance_129 (by decide) (fun c129 => ?_) (fun c129 => ?_)
          · refine r_iconst hG dX3_advance_136 ?_
            refine r_put hG cX3_advance_X3 0 2 tyX3 tyX3_ok nmX3 rfl rfl (by decide) kX3_advance_19 rfl rfl rfl (Nat.le_of_ble_eq_true rfl) dX3_advance_137 rfl ?_
            refine r_aload_n (i := 0) hG dX3_advance_140 rfl rfl ?_
            refine r_dup hG dX3_advance_141 rfl ?_
            refine r_get hG cX3_advance_X3 0 4 rfl rfl (by decide) kX3_advance_25 rfl dX3_advance_142 ?_
            refine r_iconst hG dX3_advance_145 ?_
            refine r_iadd hG dX3_advance_146 ?_
            refine r_put hG cX3_advance_X3 0 4 tyX3 tyX3_ok nmX3 rfl rfl (by decide) kX3_advance_25 rfl rfl rfl (Nat.le_of_ble_eq_true rfl) dX3_advance_147 rfl ?_
            first
              | exact r_vret hG hE dX3_advance_150 (by rw [(tok_end (B := B) (n := n) (p := en) va (by omega)).2.2, (tok_end (B := B) (n := n) (p := en) va (by omega)).1, (tok_end (B := B) (n := n) (p := en) va (by omega)).2.1]; rfl)
              | exact r_vret hG hE dX3_advance_150 (by rw [(tok_word (B := B) (n := n) (p := en) va (by omega) c85).2.2, (tok_word (B := B) (n := n) (p := en) va (by omega) c85).1, (tok_word (B := B) (n := n) (p := en) va (by omega) c85).2.1])
              | exact r_vret hG hE dX3_advance_150 (by rw [(tok_num (B := B) (n := n) (p := en) va (by omega) c85 c107).2.2, (tok_num (B := B) (n := n) (p := en) va (by omega) c85 c107).1, (tok_num (B := B) (n := n) (p := en) va (by omega) c85 c107).2.1])
              | exact r_vret hG hE dX3_advance_150 (by rw [(tok_semi (B := B) (n := n) (p := en) va (by omega) c85 c107 c129).2.2, (tok_semi (B := B) (n := n) (p := en) va (by omega) c85 c107 c129).1, (tok_semi (B := B) (n := n) (p := en) va (by omega) c85 c107 c129).2.1]; rfl)
              | exact r_vret hG hE dX3_advance_150 (by rw [(tok_other (B := B) (n := n) (p := en) va (by omega) c85 c107 c129).2.2, (tok_other (B := B) (n := n) (p := en) va (by omega) c85 c107 c129).1, (tok_other (B := B) (n := n) (p := en) va (by omega) c85 c107 c129).2.1]; rfl)
          · refine r_iconst hG dX3_advance_132 ?_
            refine r_goto (tgt := 137) hG dX3_advance_133 (by decide) ?_
            refine r_put hG cX3_advance_X3 0 2 tyX3 tyX3_ok nmX3 rfl rfl (by decide) kX3_advance_19 rfl rfl rfl (Nat.le_of_ble_eq_true rfl) dX3_advance_137 rfl ?_
            refine r_aload_n (i := 0) hG dX3_advance_140 rfl rfl ?_
            refine r_dup hG dX3_advance_141 rfl ?_
            refine r_get hG cX3_advance_X3 0 4 rfl rfl (by decide) kX3_advance_25 rfl dX3_advance_142 ?_
            refine r_iconst hG dX3_advance_145 ?_
            refine r_iadd hG dX3_advance_146 ?_
            refine r_put hG cX3_advance_X3 0 4 tyX3 tyX3_ok nmX3 rfl rfl (by decide) kX3_advance_25 rfl rfl rfl (Nat.le_of_ble_eq_true rfl) dX3_advance_147 rfl ?_
            first
              | exact r_vret hG hE dX3_advance_150 (by rw [(tok_end (B := B) (n := n) (p := en) va (by omega)).2.2, (tok_end (B := B) (n := n) (p := en) va (by omega)).1, (tok_end (B := B) (n := n) (p := en) va (by omega)).2.1]; rfl)
              | exact r_vret hG hE dX3_advance_150 (by rw [(tok_word (B := B) (n := n) (p := en) va (by omega) c85).2.2, (tok_word (B := B) (n := n) (p := en) va (by omega) c85).1, (tok_word (B := B) (n := n) (p := en) va (by omega) c85).2.1])
              | exact r_vret hG hE dX3_advance_150 (by rw [(tok_num (B := B) (n := n) (p := en) va (by omega) c85 c107).2.2, (tok_num (B := B) (n := n) (p := en) va (by omega) c85 c107).1, (tok_num (B := B) (n := n) (p := en) va (by omega) c85 c107).2.1])
              | exact r_vret hG hE dX3_advance_150 (by rw [(tok_semi (B := B) (n := n) (p := en) va (by omega) c85 c107 c129).2.2, (tok_semi (B := B) (n := n) (p := en) va (by omega) c85 c107 c129).1, (tok_semi (B := B) (n := n) (p := en) va (by omega) c85 c107 c129).2.1]; rfl)
              | exact r_vret hG hE dX3_advance_150 (by rw [(tok_other (B := B) (n := n) (p := en) va (by omega) c85 c107 c129).2.2, (tok_other (B := B) (n := n) (p := en) va (by omega) c85 c107 c129).1, (tok_other (B := B) (n := n) (p := en) va (by omega) c85 c107 c129).2.1]; rfl)
        · refine V_ws (ws' := tapew (g_D G) a B n tk (tS B n en) (tS B n en) va) rfl ?_
          refine r_aload_n (i := 0) hG dX3_advance_110 rfl rfl ?_
          refine r_callVv hG (c_X3_takeNumber (g_l G) (g_D G) a B n tk (tS B n en) (tS B n en) va hB hn (by omega))  gX3_advance_X3_takeNumber rfl hyX3_takeNumber rfl (by decide) (by decide) 0 rfl rfl rfl (Nat.le_of_ble_eq_true rfl) ⟨Nat.zero_le _, Nat.zero_le _⟩ dX3_advance_111 (fun w hw => ?_)
          subst hw
          refine r_goto (tgt := 150) hG dX3_advance_114 (by decide) ?_
          first
            | exact r_vret hG hE dX3_advance_150 (by rw [(tok_end (B := B) (n := n) (p := en) va (by omega)).2.2, (tok_end (B := B) (n := n) (p := en) va (by omega)).1, (tok_end (B := B) (n := n) (p := en) va (by omega)).2.1]; rfl)
            | exact r_vret hG hE dX3_advance_150 (by rw [(tok_word (B := B) (n := n) (p := en) va (by omega) c85).2.2, (tok_word (B := B) (n := n) (p := en) va (by omega) c85).1, (tok_word (B := B) (n := n) (p := en) va (by omega) c85).2.1])
            | exact r_vret hG hE dX3_advance_150 (by rw [(tok_num (B := B) (n := n) (p := en) va (by omega) c85 c107).2.2, (tok_num (B := B) (n := n) (p := en) va (by omega) c85 c107).1, (tok_num (B := B) (n := n) (p := en) va (by omega) c85 c107).2.1])
            | exact r_vret hG hE dX3_advance_150 (by rw [(tok_semi (B := B) (n := n) (p := en) va (by omega) c85 c107 c129).2.2, (tok_semi (B := B) (n := n) (p := en) va (by omega) c85 c107 c129).1, (tok_semi (B := B) (n := n) (p := en) va (by omega) c85 c107 c129).2.1]; rfl)
            | exact r_vret hG hE dX3_advance_150 (by rw [(tok_other (B := B) (n := n) (p := en) va (by omega) c85 c107 c129).2.2, (tok_other (B := B) (n := n) (p := en) va (by omega) c85 c107 c129).1, (tok_other (B := B) (n := n) (p := en) va (by omega) c85 c107 c129).2.1]; rfl)
      · refine V_ws (ws' := tapew (g_D G) a B n tk (tS B n en) (tS B n en) va) rfl ?_
        refine r_aload_n (i := 0) hG dX3_advance_88 rfl rfl ?_
        refine r_callVv hG (c_X3_takeWord (g_l G) (g_D G) a B n tk (tS B n en) (tS B n en) va hB hn (by omega))  gX3_advance_X3_takeWord rfl hyX3_takeWord rfl (by decide) (by decide) 0 rfl rfl rfl (Nat.le_of_ble_eq_true rfl) ⟨Nat.zero_le _, Nat.zero_le _⟩ dX3_advance_89 (fun w hw => ?_)
        subst hw
        refine r_goto (tgt := 150) hG dX3_advance_92 (by decide) ?_
        first
          | exact r_vret hG hE dX3_advance_150 (by rw [(tok_end (B := B) (n := n) (p := en) va (by omega)).2.2, (tok_end (B := B) (n := n) (p := en) va (by omega)).1, (tok_end (B := B) (n := n) (p := en) va (by omega)).2.1]; rfl)
          | exact r_vret hG hE dX3_advance_150 (by rw [(tok_word (B := B) (n := n) (p := en) va (by omega) c85).2.2, (tok_word (B := B) (n := n) (p := en) va (by omega) c85).1, (tok_word (B := B) (n := n) (p := en) va (by omega) c85).2.1])
          | exact r_vret hG hE dX3_advance_150 (by rw [(tok_num (B := B) (n := n) (p := en) va (by omega) c85 c107).2.2, (tok_num (B := B) (n := n) (p := en) va (by omega) c85 c107).1, (tok_num (B := B) (n := n) (p := en) va (by omega) c85 c107).2.1])
          | exact r_vret hG hE dX3_advance_150 (by rw [(tok_semi (B := B) (n := n) (p := en) va (by omega) c85 c107 c129).2.2, (tok_semi (B := B) (n := n) (p := en) va (by omega) c85 c107 c129).1, (tok_semi (B := B) (n := n) (p := en) va (by omega) c85 c107 c129).2.1]; rfl)
          | exact r_vret hG hE dX3_advance_150 (by rw [(tok_other (B := B) (n := n) (p := en) va (by omega) c85 c107 c129).2.2, (tok_other (B := B) (n := n) (p := en) va (by omega) c85 c107 c129).1, (tok_other (B := B) (n := n) (p := en) va (by omega) c85 c107 c129).2.1]; rfl)
    · refine r_aload_n (i := 0) hG dX3_advance_65 rfl rfl ?_
      refine r_iconst hG dX3_advance_66 ?_
      refine r_put hG cX3_advance_X3 0 2 tyX3 tyX3_ok nmX3 rfl rfl (by decide) kX3_advance_19 rfl rfl rfl (Nat.le_of_ble_eq_true rfl) dX3_advance_67 rfl ?_
      refine r_goto (tgt := 150) hG dX3_advance_70 (by decide) ?_
      first
        | exact r_vret hG hE dX3_advance_150 (by rw [(tok_end (B := B) (n := n) (p := en) va (by omega)).2.2, (tok_end (B := B) (n := n) (p := en) va (by omega)).1, (tok_end (B := B) (n := n) (p := en) va (by omega)).2.1]; rfl)
        | exact r_vret hG hE dX3_advance_150 (by rw [(tok_word (B := B) (n := n) (p := en) va (by omega) c85).2.2, (tok_word (B := B) (n := n) (p := en) va (by omega) c85).1, (tok_word (B := B) (n := n) (p := en) va (by omega) c85).2.1])
        | exact r_vret hG hE dX3_advance_150 (by rw [(tok_num (B := B) (n := n) (p := en) va (by omega) c85 c107).2.2, (tok_num (B := B) (n := n) (p := en) va (by omega) c85 c107).1, (tok_num (B := B) (n := n) (p := en) va (by omega) c85 c107).2.1])
        | exact r_vret hG hE dX3_advance_150 (by rw [(tok_semi (B := B) (n := n) (p := en) va (by omega) c85 c107 c129).2.2, (tok_semi (B := B) (n := n) (p := en) va (by omega) c85 c107 c129).1, (tok_semi (B := B) (n := n) (p := en) va (by omega) c85 c107 c129).2.1]; rfl)
        | exact r_vret hG hE dX3_advance_150 (by rw [(tok_other (B := B) (n := n) (p := en) va (by omega) c85 c107 c129).2.2, (tok_other (B := B) (n := n) (p := en) va (by omega) c85 c107 c129).1, (tok_other (B := B) (n := n) (p := en) va (by omega) c85 c107 c129).2.1]; rfl)
  have L : ∀ i, i ≤ (n - en).toNat → scanF isS B n (en + i) = tS B n en → V G 0 0 (tapew (g_D G) a B n tk (en + i) en va) 8 [(0, .ref (a 0))] [] := by
    refine down (fun i hi ih hs => ?_)
    have hb : en + i < n → _ := fun h => hB (en + i) (by omega) (by omega)
    refine r_aload_n (i := 0) hG dX3_advance_8 rfl rfl ?_
    refine r_get hG cX3_advance_X3 0 3 rfl rfl (by decide) kX3_advance_22 rfl dX3_advance_9 ?_
    refine r_aload_n (i := 0) hG dX3_advance_12 rfl rfl ?_
    refine r_get hG cX3_advance_X3 0 1 rfl rfl (by decide) kX3_advance_15 rfl dX3_advance_13 ?_
    refine r_icmp_ge (tgt := 46) hG (by omega) (by omega) dX3_advance_16 (by decide) (fun c16 => ?_) (fun c16 => ?_)
    · have e : tS B n en = en + i := by
        rw [← hs, scanF_stop (by first | exact Or.inl (by omega) | exact Or.inr (decide_eq_false (by omega)))]
      rw [← e]
      exact V_lv J46 ⟨rfl, trivial⟩
    · refine r_aload_n (i := 0) hG dX3_advance_19 rfl rfl ?_
      refine r_get hG cX3_advance_X3 0 0 rfl rfl (by decide) kX3_advance_9 rfl dX3_advance_20 ?_
      refine r_aload_n (i := 0) hG dX3_advance_23 rfl rfl ?_
      refine r_get hG cX3_advance_X3 0 3 rfl rfl (by decide) kX3_advance_22 rfl dX3_advance_24 ?_
      refine r_iald hG 1 rfl (by omega) (by decide) dX3_advance_27 ?_
      refine r_bipush hG dX3_advance_28 rfl ?_
      refine r_icmp_ne (tgt := 46) hG (by have := hb (by omega); omega) (by have := hb (by omega); omega) dX3_advance_30 (by decide) (fun c30 => ?_) (fun c30 => ?_)
      · have e : tS B n en = en + i := by
          rw [← hs, scanF_stop (by first | exact Or.inl (by omega) | exact Or.inr (decide_eq_false (by omega)))]
        rw [← e]
        exact V_lv J46 ⟨rfl, trivial⟩
      · refine r_aload_n (i := 0) hG dX3_advance_33 rfl rfl ?_
        refine r_dup hG dX3_advance_34 rfl ?_
        refine r_get hG cX3_advance_X3 0 3 rfl rfl (by decide) kX3_advance_22 rfl dX3_advance_35 ?_
        refine r_iconst hG dX3_advance_38 ?_
        refine r_iadd hG dX3_advance_39 ?_
        refine r_put hG cX3_advance_X3 0 3 tyX3 tyX3_ok nmX3 rfl rfl (by decide) kX3_advance_22 rfl rfl rfl (Nat.le_of_ble_eq_true rfl) dX3_advance_40 rfl ?_
        refine r_goto (tgt := 8) hG dX3_advance_43 (by decide) ?_
        exact V_ws (ws' := tapew (g_D G) a B n tk (en + ((i + 1 : Nat) : Int)) en va) (by rw [show en + ((i + 1 : Nat) : Int) = en + i + 1 by omega]; rfl) (V_lv (ih (by omega) (by rw [show en + ((i + 1 : Nat) : Int) = en + i + 1 by omega, ← scanF_go (by omega) (decide_eq_true (by omega))]; exact hs)) ⟨rfl, trivial⟩)
  refine r_aload_n (i := 0) hG dX3_advance_0 rfl rfl ?_
  refine r_aload_n (i := 0) hG dX3_advance_1 rfl rfl ?_
  refine r_get hG cX3_advance_X3 0 4 rfl rfl (by decide) kX3_advance_25 rfl dX3_advance_2 ?_
  refine r_put hG cX3_advance_X3 0 3 tyX3 tyX3_ok nmX3 rfl rfl (by decide) kX3_advance_22 rfl rfl rfl (Nat.le_of_ble_eq_true rfl) dX3_advance_5 rfl ?_
  exact V_ws (ws' := tapew (g_D G) a B n tk (en + ((0 : Nat) : Int)) en va) (by rw [show en + ((0 : Nat) : Int) = en by omega]; rfl) (V_lv (L 0 (by omega) (by rw [show en + ((0 : Nat) : Int) = en by omega]; rfl)) ⟨rfl, trivial⟩)
theorem kX3_rewind_25 : Cond.fieldLink RX3 25 "BreakSwaps$Tape" "end" "I" ∈ wsX3_rewind := List.mem_of_getElem? (i := 1) rfl
theorem cX3_rewind_X3 : ∀ w ∈ wsX30, w ∈ wsX3_rewind := fun _ h => List.mem_cons_of_mem _ (List.mem_append_right _ h)
theorem hyX3_rewind : hyV yX3_rewind RX3 0 := by decide +kernel
set_option maxHeartbeats 4000000 in
set_option maxRecDepth 100000 in
theorem c_X3_rewind (l : Launch) (D : va_G) (a : Nat → Nat) (B : Int → Int) (n tk st en va : Int) (hB : bytesOk B) (hn : 0 ≤ n ∧ n ≤ 120) : Con l yX3_rewind wsX3_rewind 3 D (tapew D a B n tk st en va) [.ref (a 0)] none (fun w => w = tapew D a B n (tK B n 0) (tS B n 0) (tE B n 0) (if tK B n 0 = 2 then tV B n 0 else va)) := by
  refine con_start (own := RX3) (by decide) rfl rfl (Nat.le_of_ble_eq_true rfl) ?_
  intro G hG hE hl hD
  subst hl
  subst hD
  refine r_aload_n (i := 0) hG dX3_rewind_0 rfl rfl ?_
  refine r_iconst hG dX3_rewind_1 ?_
  refine r_put hG cX3_rewind_X3 0 4 tyX3 tyX3_ok nmX3 rfl rfl (by decide) kX3_rewind_25 rfl rfl rfl (Nat.le_of_ble_eq_true rfl) dX3_rewind_2 rfl ?_
  refine r_aload_n (i := 0) hG dX3_rewind_5 rfl rfl ?_
  refine V_ws (ws' := tapew (g_D G) a B n tk st 0 va) rfl ?_
  refine r_callVv hG (c_X3_advance (g_l G) (g_D G) a B n tk st 0 va hB hn (by omega))  gX3_rewind_X3_advance rfl hyX3_advance rfl (by decide) (by decide) 0 rfl rfl rfl (Nat.le_of_ble_eq_true rfl) ⟨Nat.zero_le _, Nat.zero_le _⟩ dX3_rewind_6 (fun w hw => ?_)
  subst hw
  exact r_vret hG hE dX3_rewind_9 rfl
