theorem kX4_closesRing_18 : Cond.fieldLink RX4 18 "BreakSwaps$Yard" "size" "I" ∈ wsX4_closesRing := List.mem_of_getElem? (i := 1) rfl
theorem cX4_closesRing_X4 : ∀ w ∈ wsX40, w ∈ wsX4_closesRing := fun _ h => List.mem_cons_of_mem _ (List.mem_append_right _ h)
theorem hyX4_closesRing : hyV yX4_closesRing RX4 2 := by decide +kernel
set_option maxHeartbeats 4000000 in
set_option maxRecDepth 100000 in
theorem c_X4_closesRing (l : Launch) (D : va_G) (a : Nat → Nat) (Y : YS) (x z q : Int) (hI : Inv Y) (hH : Hol Y) (u v : Int) (hu : 0 ≤ u ∧ u < 8) (hv : 0 ≤ v ∧ v < 8) : Con l yX4_closesRing wsX4_closesRing 4 D (yw D a Y x z q) [.ref (a 0), .int (iI u), .int (iI v)] (some (.int (iI (leastN (fun c => wants Y v c && wants Y c u) (Y 5 2).toNat)))) (fun w => w = yw D a Y x z q) := by
  refine con_start (own := RX4) (by decide) rfl rfl (Nat.le_of_ble_eq_true rfl) ?_
  intro G hG hE hl hD
  subst hl
  subst hD
  have hN := hI.1
  have L : ∀ i, i ≤ (Y 5 2).toNat → (∀ j : Nat, j < i → (wants Y v j && wants Y j u) = false) → V G 0 0 (yw (g_D G) a Y x z q) 2 [(0, .ref (a 0)), (1, .int (iI u)), (2, .int (iI v)), (3, .int (iI (i : Int)))] [] := by
    refine down (fun i hi ih hF => ?_)
    refine r_iload_n (i := 3) hG dX4_closesRing_2 rfl rfl ?_
    refine r_aload_n (i := 0) hG dX4_closesRing_3 rfl rfl ?_
    refine r_get hG cX4_closesRing_X4 0 2 rfl rfl (by decide) kX4_closesRing_18 rfl dX4_closesRing_4 ?_
    refine r_icmp_ge (tgt := 36) hG (by omega) (by omega) dX4_closesRing_7 (by decide) (fun c7 => ?_) (fun c7 => ?_)
    · refine r_iconst hG dX4_closesRing_36 ?_
      exact r_iret hG hE dX4_closesRing_37 (by rw [leastN_none (f := fun c => wants Y v c && wants Y c u) (fun j hj => hF j (by omega))]) rfl
    · refine r_aload_n (i := 0) hG dX4_closesRing_10 rfl rfl ?_
      refine r_iload_n (i := 2) hG dX4_closesRing_11 rfl rfl ?_
      refine r_iload_n (i := 3) hG dX4_closesRing_12 rfl rfl ?_
      refine r_callVi hG (c_X4_wants (g_l G) (g_D G) a Y x z q hI hH _ _ (by omega) (by omega))  gX4_closesRing_X4_wants rfl hyX4_wants rfl (by decide) (by decide) 0 rfl rfl rfl (Nat.le_of_ble_eq_true rfl) ⟨Nat.zero_le _, Nat.zero_le _⟩ dX4_closesRing_13 (fun w hw => ?_)
      subst hw
      refine rb_if_eq (tgt := 30) hG dX4_closesRing_16 (by decide) (fun c16 => ?_) (fun c16 => ?_)
      · refine r_iinc hG dX4_closesRing_30 rfl (by decide) rfl ?_
        refine r_goto (tgt := 2) hG dX4_closesRing_33 (by decide) ?_
        exact V_lv (ih (by omega) (lt_s hF (by simp_all))) ⟨rfl, rfl, rfl, rfl, trivial⟩
      · refine r_aload_n (i := 0) hG dX4_closesRing_19 rfl rfl ?_
        refine r_iload_n (i := 3) hG dX4_closesRing_20 rfl rfl ?_
        refine r_iload_n (i := 1) hG dX4_closesRing_21 rfl rfl ?_
        refine r_callVi hG (c_X4_wants (g_l G) (g_D G) a Y x z q hI hH _ _ (by omega) (by omega))  gX4_closesRing_X4_wants rfl hyX4_wants rfl (by decide) (by decide) 0 rfl rfl rfl (Nat.le_of_ble_eq_true rfl) ⟨Nat.zero_le _, Nat.zero_le _⟩ dX4_closesRing_22 (fun w hw => ?_)
        subst hw
        refine rb_if_eq (tgt := 30) hG dX4_closesRing_25 (by decide) (fun c25 => ?_) (fun c25 => ?_)
        · refine r_iinc hG dX4_closesRing_30 rfl (by decide) rfl ?_
          refine r_goto (tgt := 2) hG dX4_closesRing_33 (by decide) ?_
          exact V_lv (ih (by omega) (lt_s hF (by simp_all))) ⟨rfl, rfl, rfl, rfl, trivial⟩
        · refine r_iload_n (i := 3) hG dX4_closesRing_28 rfl rfl ?_
          exact r_iret hG hE dX4_closesRing_29 (by rw [leastN_at (f := fun c => wants Y v c && wants Y c u) hF (by simp_all) (by omega)]) rfl
  refine r_iconst hG dX4_closesRing_0 ?_
  refine r_istore_n (i := 3) hG dX4_closesRing_1 rfl (by decide) rfl ?_
  exact V_lv (L 0 (by omega) (fun j hj => absurd hj (by omega))) ⟨rfl, rfl, rfl, rfl, trivial⟩
theorem kX4_isOver_18 : Cond.fieldLink RX4 18 "BreakSwaps$Yard" "size" "I" ∈ wsX4_isOver := List.mem_of_getElem? (i := 1) rfl
theorem cX4_isOver_X4 : ∀ w ∈ wsX40, w ∈ wsX4_isOver := fun _ h => List.mem_cons_of_mem _ (List.mem_append_right _ h)
theorem hyX4_isOver : hyV yX4_isOver RX4 0 := by decide +kernel
set_option maxHeartbeats 4000000 in
set_option maxRecDepth 100000 in
theorem c_X4_isOver (l : Launch) (D : va_G) (a : Nat → Nat) (Y : YS) (x z q : Int) (hI : Inv Y) (hH : Hol Y) : Con l yX4_isOver wsX4_isOver 5 D (yw D a Y x z q) [.ref (a 0)] (some (.int (iI (b2 (!pairY Y))))) (fun w => w = yw D a Y x z q) := by
  refine con_start (own := RX4) (by decide) rfl rfl (Nat.le_of_ble_eq_true rfl) ?_
  intro G hG hE hl hD
  subst hl
  subst hD
  have hN := hI.1
  have L : ∀ i, i ≤ (Y 5 2).toNat → (∀ c : Nat, c < i → anyN (wsw Y c) ((c : Int).toNat) = false) → V G 0 0 (yw (g_D G) a Y x z q) 2 [(0, .ref (a 0)), (1, .int (iI (i : Int)))] [] := by
    refine down (fun i hi ih hF => ?_)
    have K : i < (Y 5 2).toNat → ∀ j, j ≤ i → (∀ o : Nat, o < j → wsw Y i o = false) → V G 0 0 (yw (g_D G) a Y x z q) 12 [(0, .ref (a 0)), (1, .int (iI (i : Int))), (2, .int (iI (j : Int)))] [] := by
      intro hiN
      refine down (fun j hj jh hF2 => ?_)
      refine r_iload_n (i := 2) hG dX4_isOver_12 rfl rfl ?_
      refine r_iload_n (i := 1) hG dX4_isOver_13 rfl rfl ?_
      refine r_icmp_ge (tgt := 34) hG (by omega) (by omega) dX4_isOver_14 (by decide) (fun c14 => ?_) (fun c14 => ?_)
      · refine r_iinc hG dX4_isOver_34 rfl (by decide) rfl ?_
        refine r_goto (tgt := 2) hG dX4_isOver_37 (by decide) ?_
        exact V_lv (ih hiN (lt_s hF (anyN_false.mpr (fun o ho => hF2 o (by simp at ho; omega))))) ⟨rfl, rfl, trivial⟩
      · refine r_aload_n (i := 0) hG dX4_isOver_17 rfl rfl ?_
        refine r_iload_n (i := 1) hG dX4_isOver_18 rfl rfl ?_
        refine r_iload_n (i := 2) hG dX4_isOver_19 rfl rfl ?_
        refine r_callVi hG (c_X4_wouldSwap (g_l G) (g_D G) a Y x z q hI hH _ _ (by omega) (by omega))  gX4_isOver_X4_wouldSwap rfl hyX4_wouldSwap rfl (by decide) (by decide) 0 rfl rfl rfl (Nat.le_of_ble_eq_true rfl) ⟨Nat.zero_le _, Nat.zero_le _⟩ dX4_isOver_20 (fun w hw => ?_)
        subst hw
        refine rb_if_eq (tgt := 28) hG dX4_isOver_23 (by decide) (fun c23 => ?_) (fun c23 => ?_)
        · refine r_iinc hG dX4_isOver_28 rfl (by decide) rfl ?_
          refine r_goto (tgt := 12) hG dX4_isOver_31 (by decide) ?_
          exact V_lv (jh (by omega) (lt_s hF2 c23)) ⟨rfl, rfl, rfl, trivial⟩
        · refine r_iconst hG dX4_isOver_26 ?_
          exact r_zret hG hE dX4_isOver_27 (by rw [show pairY Y = true from anyN_true (f := fun c => anyN (wsw Y c) c.toNat) hiN (anyN_true (n := (i : Int).toNat) (j := j) (by simp; omega) c23)]; rfl) rfl
    refine r_iload_n (i := 1) hG dX4_isOver_2 rfl rfl ?_
    refine r_aload_n (i := 0) hG dX4_isOver_3 rfl rfl ?_
    refine r_get hG cX4_isOver_X4 0 2 rfl rfl (by decide) kX4_isOver_18 rfl dX4_isOver_4 ?_
    refine r_icmp_ge (tgt := 40) hG (by omega) (by omega) dX4_isOver_7 (by decide) (fun c7 => ?_) (fun c7 => ?_)
    · refine r_iconst hG dX4_isOver_40 ?_
      exact r_zret hG hE dX4_isOver_41 (by rw [show pairY Y = false from anyN_false.mpr (fun c hc => hF c (by omega))]; rfl) rfl
    · refine r_iconst hG dX4_isOver_10 ?_
      refine r_istore_n (i := 2) hG dX4_isOver_11 rfl (by decide) rfl ?_
      exact V_lv (K (by omega) 0 (by omega) (fun o ho => absurd ho (by omega))) ⟨rfl, rfl, rfl, trivial⟩
  refine r_iconst hG dX4_isOver_0 ?_
  refine r_istore_n (i := 1) hG dX4_isOver_1 rfl (by decide) rfl ?_
  exact V_lv (L 0 (by omega) (fun j hj => absurd hj (by omega))) ⟨rfl, rfl, trivial⟩
theorem kX4_noteSwap_28 : Cond.fieldLink RX4 28 "BreakSwaps$Yard" "swapped" "[I" ∈ wsX4_noteSwap := List.mem_of_getElem? (i := 1) rfl
theorem kX4_noteSwap_31 : Cond.fieldLink RX4 31 "BreakSwaps$Yard" "trusts" "[I" ∈ wsX4_noteSwap := List.mem_of_getElem? (i := 6) rfl
theorem kX4_noteSwap_21 : Cond.fieldLink RX4 21 "BreakSwaps$Yard" "kinds" "[I" ∈ wsX4_noteSwap := List.mem_of_getElem? (i := 7) rfl
theorem cX4_noteSwap_X4 : ∀ w ∈ wsX40, w ∈ wsX4_noteSwap := fun _ h => List.mem_cons_of_mem _ (List.mem_append_right _ h)
theorem hyX4_noteSwap : hyV yX4_noteSwap RX4 1 := by decide +kernel
set_option maxHeartbeats 4000000 in
set_option maxRecDepth 100000 in
theorem c_X4_noteSwap (l : Launch) (D : va_G) (a : Nat → Nat) (Y : YS) (x z q : Int) (hI : Inv Y) (c : Int) (hc : 0 ≤ c ∧ c < 8) : Con l yX4_noteSwap wsX4_noteSwap 1 D (yw D a Y x z q) [.ref (a 0), .int (iI c)] (none) (fun w => w = yw D a (noteZ Y c) x z q) := by
  refine con_start (own := RX4) (by decide) rfl rfl (Nat.le_of_ble_eq_true rfl) ?_
  intro G hG hE hl hD
  subst hl
  subst hD
  have hc1 := Inv_c hI hc
  have hk := losesK_rng (Y 0 c)
  refine r_aload_n (i := 0) hG dX4_noteSwap_0 rfl rfl ?_
  refine r_get hG cX4_noteSwap_X4 0 5 rfl rfl (by decide) kX4_noteSwap_28 rfl dX4_noteSwap_1 ?_
  refine r_iload_n (i := 1) hG dX4_noteSwap_4 rfl rfl ?_
  refine r_sipush hG dX4_noteSwap_5 rfl ?_
  refine r_aload_n (i := 0) hG dX4_noteSwap_8 rfl rfl ?_
  refine r_get hG cX4_noteSwap_X4 0 5 rfl rfl (by decide) kX4_noteSwap_28 rfl dX4_noteSwap_9 ?_
  refine r_iload_n (i := 1) hG dX4_noteSwap_12 rfl rfl ?_
  refine r_iald hG 3 rfl (by omega) (by decide) dX4_noteSwap_13 ?_
  refine r_iconst hG dX4_noteSwap_14 ?_
  refine r_iadd hG dX4_noteSwap_15 ?_
  refine r_mmin hG (by omega) (by omega) (List.mem_of_getElem? (i := 2) rfl) (List.mem_of_getElem? (i := 3) rfl) (List.mem_of_getElem? (i := 4) rfl) (List.mem_of_getElem? (i := 5) rfl) (by decide) (Nat.le_of_ble_eq_true rfl) ⟨Nat.zero_le _, Nat.zero_le _⟩ dX4_noteSwap_16 ?_
  refine r_iast hG 3 rfl (by omega) (by decide) dX4_noteSwap_19 rfl ?_
  refine r_aload_n (i := 0) hG dX4_noteSwap_20 rfl rfl ?_
  refine r_get hG cX4_noteSwap_X4 0 6 rfl rfl (by decide) kX4_noteSwap_31 rfl dX4_noteSwap_21 ?_
  refine r_iload_n (i := 1) hG dX4_noteSwap_24 rfl rfl ?_
  refine r_iconst hG dX4_noteSwap_25 ?_
  refine r_aload_n (i := 0) hG dX4_noteSwap_26 rfl rfl ?_
  refine r_get hG cX4_noteSwap_X4 0 6 rfl rfl (by decide) kX4_noteSwap_31 rfl dX4_noteSwap_27 ?_
  refine r_iload_n (i := 1) hG dX4_noteSwap_30 rfl rfl ?_
  refine r_iald hG 4 rfl (by omega) (by decide) dX4_noteSwap_31 ?_
  refine r_aload_n (i := 0) hG dX4_noteSwap_32 rfl rfl ?_
  refine r_get hG cX4_noteSwap_X4 0 3 rfl rfl (by decide) kX4_noteSwap_21 rfl dX4_noteSwap_33 ?_
  refine r_iload_n (i := 1) hG dX4_noteSwap_36 rfl rfl ?_
  refine r_iald hG 1 rfl (by omega) (by decide) dX4_noteSwap_37 ?_
  refine r_call0i hG (c_X1_losesOf (g_l G) (g_D G) _ (by exact hc1.1))  gX4_noteSwap_X1_losesOf rfl hyX1_losesOf rfl (by decide) (by decide) rfl (Nat.le_of_ble_eq_true rfl) ⟨Nat.zero_le _, Nat.zero_le _⟩ dX4_noteSwap_38 ?_
  refine V_top (x' := iI (losesK (Y 0 c))) rfl ?_
  refine V_st (st' := [.int (iI (losesK (Y 0 c))), .int (iI (Y 3 c)), .int (iI 0), .int (iI c), .ref (a 4)]) rfl ?_
  refine r_isub hG dX4_noteSwap_41 ?_
  refine r_mmax hG (by omega) (by omega) (List.mem_of_getElem? (i := 8) rfl) (List.mem_of_getElem? (i := 9) rfl) (List.mem_of_getElem? (i := 4) rfl) (List.mem_of_getElem? (i := 10) rfl) (by decide) (Nat.le_of_ble_eq_true rfl) ⟨Nat.zero_le _, Nat.zero_le _⟩ dX4_noteSwap_42 ?_
  refine r_iast hG 4 rfl (by omega) (by decide) dX4_noteSwap_45 rfl ?_
  exact r_vret hG hE dX4_noteSwap_46 rfl
theorem kX4_exchange_25 : Cond.fieldLink RX4 25 "BreakSwaps$Yard" "has" "[I" ∈ wsX4_exchange := List.mem_of_getElem? (i := 1) rfl
theorem cX4_exchange_X4 : ∀ w ∈ wsX40, w ∈ wsX4_exchange := fun _ h => List.mem_cons_of_mem _ (List.mem_append_right _ h)
theorem hyX4_exchange : hyV yX4_exchange RX4 2 := by decide +kernel
set_option maxHeartbeats 4000000 in
set_option maxRecDepth 100000 in
theorem c_X4_exchange (l : Launch) (D : va_G) (a : Nat → Nat) (Y : YS) (x z q : Int) (hI : Inv Y) (c o : Int) (hc : 0 ≤ c ∧ c < 8) (ho : 0 ≤ o ∧ o < 8) : Con l yX4_exchange wsX4_exchange 2 D (yw D a Y x z q) [.ref (a 0), .int (iI c), .int (iI o)] (none) (fun w => w = yw D a (swapZ Y c o) x z q) := by
  refine con_start (own := RX4) (by decide) rfl rfl (Nat.le_of_ble_eq_true rfl) ?_
  intro G hG hE hl hD
  subst hl
  subst hD
  have hc1 := Inv_c hI hc
  have ho1 := Inv_c hI ho
  have h1 : Inv (upY (upY Y 1 c (Y 1 o)) 1 o (Y 1 c)) := Inv_up1 (Inv_up1 hI ho1.2.1) hc1.2.1
  refine r_aload_n (i := 0) hG dX4_exchange_0 rfl rfl ?_
  refine r_get hG cX4_exchange_X4 0 4 rfl rfl (by decide) kX4_exchange_25 rfl dX4_exchange_1 ?_
  refine r_iload_n (i := 1) hG dX4_exchange_4 rfl rfl ?_
  refine r_iald hG 2 rfl (by omega) (by decide) dX4_exchange_5 ?_
  refine r_istore_n (i := 3) hG dX4_exchange_6 rfl (by decide) rfl ?_
  refine r_aload_n (i := 0) hG dX4_exchange_7 rfl rfl ?_
  refine r_get hG cX4_exchange_X4 0 4 rfl rfl (by decide) kX4_exchange_25 rfl dX4_exchange_8 ?_
  refine r_iload_n (i := 1) hG dX4_exchange_11 rfl rfl ?_
  refine r_aload_n (i := 0) hG dX4_exchange_12 rfl rfl ?_
  refine r_get hG cX4_exchange_X4 0 4 rfl rfl (by decide) kX4_exchange_25 rfl dX4_exchange_13 ?_
  refine r_iload_n (i := 2) hG dX4_exchange_16 rfl rfl ?_
  refine r_iald hG 2 rfl (by omega) (by decide) dX4_exchange_17 ?_
  refine r_iast hG 2 rfl (by omega) (by decide) dX4_exchange_18 rfl ?_
  refine r_aload_n (i := 0) hG dX4_exchange_19 rfl rfl ?_
  refine r_get hG cX4_exchange_X4 0 4 rfl rfl (by decide) kX4_exchange_25 rfl dX4_exchange_20 ?_
  refine r_iload_n (i := 2) hG dX4_exchange_23 rfl rfl ?_
  refine r_iload_n (i := 3) hG dX4_exchange_24 rfl rfl ?_
  refine r_iast hG 2 rfl (by omega) (by decide) dX4_exchange_25 rfl ?_
  refine r_aload_n (i := 0) hG dX4_exchange_26 rfl rfl ?_
  refine r_iload_n (i := 1) hG dX4_exchange_27 rfl rfl ?_
  refine V_ws (ws' := yw (g_D G) a (upY (upY Y 1 c (Y 1 o)) 1 o (Y 1 c)) x z q) rfl ?_
  refine r_callVv hG (c_X4_noteSwap (g_l G) (g_D G) a (upY (upY Y 1 c (Y 1 o)) 1 o (Y 1 c)) x z q h1 _ (by omega))  gX4_exchange_X4_noteSwap rfl hyX4_noteSwap rfl (by decide) (by decide) 0 rfl rfl rfl (Nat.le_of_ble_eq_true rfl) ⟨Nat.zero_le _, Nat.zero_le _⟩ dX4_exchange_28 (fun w hw => ?_)
  subst hw
  refine r_aload_n (i := 0) hG dX4_exchange_31 rfl rfl ?_
  refine r_iload_n (i := 2) hG dX4_exchange_32 rfl rfl ?_
  refine r_callVv hG (c_X4_noteSwap (g_l G) (g_D G) a (noteZ (upY (upY Y 1 c (Y 1 o)) 1 o (Y 1 c)) c) x z q (Inv_note h1 hc) _ (by omega))  gX4_exchange_X4_noteSwap rfl hyX4_noteSwap rfl (by decide) (by decide) 0 rfl rfl rfl (Nat.le_of_ble_eq_true rfl) ⟨Nat.zero_le _, Nat.zero_le _⟩ dX4_exchange_33 (fun w hw => ?_)
  subst hw
  exact r_vret hG hE dX4_exchange_36 rfl
theorem kX4_give_37 : Cond.fieldLink RX4 37 "BreakSwaps$Yard" "holders" "[I" ∈ wsX4_give := List.mem_of_getElem? (i := 1) rfl
theorem kX4_give_25 : Cond.fieldLink RX4 25 "BreakSwaps$Yard" "has" "[I" ∈ wsX4_give := List.mem_of_getElem? (i := 2) rfl
theorem cX4_give_X4 : ∀ w ∈ wsX40, w ∈ wsX4_give := fun _ h => List.mem_cons_of_mem _ (List.mem_append_right _ h)
theorem hyX4_give : hyV yX4_give RX4 2 := by decide +kernel
set_option maxHeartbeats 4000000 in
set_option maxRecDepth 100000 in
theorem c_X4_give (l : Launch) (D : va_G) (a : Nat → Nat) (Y : YS) (x z q : Int) (hI : Inv Y) (c t : Int) (hc : 0 ≤ c ∧ c < 8) (ht : 0 ≤ t ∧ t < 10) : Con l yX4_give wsX4_give 0 D (yw D a Y x z q) [.ref (a 0), .int (iI c), .int (iI t)] (none) (fun w => w = yw D a (giveY Y c t) x z q) := by
  refine con_start (own := RX4) (by decide) rfl rfl (Nat.le_of_ble_eq_true rfl) ?_
  intro G hG hE hl hD
  subst hl
  subst hD
  have hc1 := Inv_c hI hc
  refine r_aload_n (i := 0) hG dX4_give_0 rfl rfl ?_
  refine r_get hG cX4_give_X4 0 8 rfl rfl (by decide) kX4_give_37 rfl dX4_give_1 ?_
  refine r_aload_n (i := 0) hG dX4_give_4 rfl rfl ?_
  refine r_get hG cX4_give_X4 0 4 rfl rfl (by decide) kX4_give_25 rfl dX4_give_5 ?_
  refine r_iload_n (i := 1) hG dX4_give_8 rfl rfl ?_
  refine r_iald hG 2 rfl (by omega) (by decide) dX4_give_9 ?_
  refine r_dup2 hG dX4_give_10 rfl rfl ?_
  refine r_iald hG 6 rfl (by omega) (by decide) dX4_give_11 ?_
  refine r_iconst hG dX4_give_12 ?_
  refine r_isub hG dX4_give_13 ?_
  refine r_iast hG 6 rfl (by omega) (by decide) dX4_give_14 rfl ?_
  refine r_aload_n (i := 0) hG dX4_give_15 rfl rfl ?_
  refine r_get hG cX4_give_X4 0 8 rfl rfl (by decide) kX4_give_37 rfl dX4_give_16 ?_
  refine r_iload_n (i := 2) hG dX4_give_19 rfl rfl ?_
  refine r_dup2 hG dX4_give_20 rfl rfl ?_
  refine r_iald hG 6 rfl (by omega) (by decide) dX4_give_21 ?_
  refine r_iconst hG dX4_give_22 ?_
  refine r_iadd hG dX4_give_23 ?_
  refine r_iast hG 6 rfl (by omega) (by decide) dX4_give_24 rfl ?_
  refine r_aload_n (i := 0) hG dX4_give_25 rfl rfl ?_
  refine r_get hG cX4_give_X4 0 4 rfl rfl (by decide) kX4_give_25 rfl dX4_give_26 ?_
  refine r_iload_n (i := 1) hG dX4_give_29 rfl rfl ?_
  refine r_iload_n (i := 2) hG dX4_give_30 rfl rfl ?_
  refine r_iast hG 2 rfl (by omega) (by decide) dX4_give_31 rfl ?_
  exact r_vret hG hE dX4_give_32 rfl
theorem kX4_addOne_18 : Cond.fieldLink RX4 18 "BreakSwaps$Yard" "size" "I" ∈ wsX4_addOne := List.mem_of_getElem? (i := 1) rfl
theorem kX4_addOne_21 : Cond.fieldLink RX4 21 "BreakSwaps$Yard" "kinds" "[I" ∈ wsX4_addOne := List.mem_of_getElem? (i := 2) rfl
theorem kX4_addOne_25 : Cond.fieldLink RX4 25 "BreakSwaps$Yard" "has" "[I" ∈ wsX4_addOne := List.mem_of_getElem? (i := 3) rfl
theorem kX4_addOne_37 : Cond.fieldLink RX4 37 "BreakSwaps$Yard" "holders" "[I" ∈ wsX4_addOne := List.mem_of_getElem? (i := 4) rfl
theorem kX4_addOne_28 : Cond.fieldLink RX4 28 "BreakSwaps$Yard" "swapped" "[I" ∈ wsX4_addOne := List.mem_of_getElem? (i := 5) rfl
theorem kX4_addOne_31 : Cond.fieldLink RX4 31 "BreakSwaps$Yard" "trusts" "[I" ∈ wsX4_addOne := List.mem_of_getElem? (i := 6) rfl
theorem cX4_addOne_X4 : ∀ w ∈ wsX40, w ∈ wsX4_addOne := fun _ h => List.mem_cons_of_mem _ (List.mem_append_right _ h)
theorem hyX4_addOne : hyV yX4_addOne RX4 2 := by decide +kernel
set_option maxHeartbeats 4000000 in
set_option maxRecDepth 100000 in
theorem c_X4_addOne (l : Launch) (D : va_G) (a : Nat → Nat) (Y : YS) (x z q : Int) (hI : Inv Y) (hf : Y 5 2 < 8) (k t : Int) (ht : 0 ≤ t ∧ t < 10) : Con l yX4_addOne wsX4_addOne 1 D (yw D a Y x z q) [.ref (a 0), .int (iI k), .int (iI t)] (some (.int (iI (Y 5 2)))) (fun w => w = yw D a (addY Y k t) x z q) := by
  refine con_start (own := RX4) (by decide) rfl rfl (Nat.le_of_ble_eq_true rfl) ?_
  intro G hG hE hl hD
  subst hl
  subst hD
  have hN := hI.1
  have L : ∀ i, i ≤ 10 → V G 0 0 (yw (g_D G) a (addN (add0 Y k t) (Y 5 2) i) x z q) 54 [(0, .ref (a 0)), (3, .int (iI (Y 5 2))), (4, .int (iI (i : Int)))] [] := by
    refine down (fun i hi ih => ?_)
    refine r_iload hG dX4_addOne_54 rfl ?_
    refine r_bipush hG dX4_addOne_56 rfl ?_
    refine r_icmp_ge (tgt := 82) hG (by omega) (by omega) dX4_addOne_58 (by decide) (fun c58 => ?_) (fun c58 => ?_)
    · refine r_iload_n (i := 3) hG dX4_addOne_82 rfl rfl ?_
      exact r_iret hG hE dX4_addOne_83 rfl (by rw [show i = 10 by omega]; rfl)
    · refine r_aload_n (i := 0) hG dX4_addOne_61 rfl rfl ?_
      refine r_iload_n (i := 3) hG dX4_addOne_62 rfl rfl ?_
      refine r_iload hG dX4_addOne_63 rfl ?_
      refine r_bipush hG dX4_addOne_65 rfl ?_
      refine r_iload hG dX4_addOne_67 rfl ?_
      refine r_imul hG dX4_addOne_69 ?_
      refine r_bipush hG dX4_addOne_70 rfl ?_
      refine r_irem hG (by omega) (by omega) dX4_addOne_72 ?_
      refine r_callVv hG (c_X4_makeLike (g_l G) (g_D G) a (addN (add0 Y k t) (Y 5 2) i) x z q _ _ _ (by omega) (by omega))  gX4_addOne_X4_makeLike rfl hyX4_makeLike rfl (by decide) (by decide) 0 rfl rfl rfl (Nat.le_of_ble_eq_true rfl) ⟨Nat.zero_le _, Nat.zero_le _⟩ dX4_addOne_73 (fun w hw => ?_)
      subst hw
      refine r_iinc hG dX4_addOne_76 rfl (by decide) rfl ?_
      refine r_goto (tgt := 54) hG dX4_addOne_79 (by decide) ?_
      exact V_lv (ih (by omega)) ⟨rfl, rfl, rfl, trivial⟩
  refine r_aload_n (i := 0) hG dX4_addOne_0 rfl rfl ?_
  refine r_get hG cX4_addOne_X4 0 2 rfl rfl (by decide) kX4_addOne_18 rfl dX4_addOne_1 ?_
  refine r_istore_n (i := 3) hG dX4_addOne_4 rfl (by decide) rfl ?_
  refine r_aload_n (i := 0) hG dX4_addOne_5 rfl rfl ?_
  refine r_iload_n (i := 3) hG dX4_addOne_6 rfl rfl ?_
  refine r_iconst hG dX4_addOne_7 ?_
  refine r_iadd hG dX4_addOne_8 ?_
  refine r_put hG cX4_addOne_X4 0 2 tyX4 tyX4_ok nmX4 rfl rfl (by decide) kX4_addOne_18 rfl rfl rfl (Nat.le_of_ble_eq_true rfl) dX4_addOne_9 rfl ?_
  refine r_aload_n (i := 0) hG dX4_addOne_12 rfl rfl ?_
  refine r_get hG cX4_addOne_X4 0 3 rfl rfl (by decide) kX4_addOne_21 rfl dX4_addOne_13 ?_
  refine r_iload_n (i := 3) hG dX4_addOne_16 rfl rfl ?_
  refine r_iload_n (i := 1) hG dX4_addOne_17 rfl rfl ?_
  refine r_iast hG 1 rfl (by omega) (by decide) dX4_addOne_18 rfl ?_
  refine r_aload_n (i := 0) hG dX4_addOne_19 rfl rfl ?_
  refine r_get hG cX4_addOne_X4 0 4 rfl rfl (by decide) kX4_addOne_25 rfl dX4_addOne_20 ?_
  refine r_iload_n (i := 3) hG dX4_addOne_23 rfl rfl ?_
  refine r_iload_n (i := 2) hG dX4_addOne_24 rfl rfl ?_
  refine r_iast hG 2 rfl (by omega) (by decide) dX4_addOne_25 rfl ?_
  refine r_aload_n (i := 0) hG dX4_addOne_26 rfl rfl ?_
  refine r_get hG cX4_addOne_X4 0 8 rfl rfl (by decide) kX4_addOne_37 rfl dX4_addOne_27 ?_
  refine r_iload_n (i := 2) hG dX4_addOne_30 rfl rfl ?_
  refine r_dup2 hG dX4_addOne_31 rfl rfl ?_
  refine r_iald hG 6 rfl (by omega) (by decide) dX4_addOne_32 ?_
  refine r_iconst hG dX4_addOne_33 ?_
  refine r_iadd hG dX4_addOne_34 ?_
  refine r_iast hG 6 rfl (by omega) (by decide) dX4_addOne_35 rfl ?_
  refine r_aload_n (i := 0) hG dX4_addOne_36 rfl rfl ?_
  refine r_get hG cX4_addOne_X4 0 5 rfl rfl (by decide) kX4_addOne_28 rfl dX4_addOne_37 ?_
  refine r_iload_n (i := 3) hG dX4_addOne_40 rfl rfl ?_
  refine r_iconst hG dX4_addOne_41 ?_
  refine r_iast hG 3 rfl (by omega) (by decide) dX4_addOne_42 rfl ?_
  refine r_aload_n (i := 0) hG dX4_addOne_43 rfl rfl ?_
  refine r_get hG cX4_addOne_X4 0 6 rfl rfl (by decide) kX4_addOne_31 rfl dX4_addOne_44 ?_
  refine r_iload_n (i := 3) hG dX4_addOne_47 rfl rfl ?_
  refine r_bipush hG dX4_addOne_48 rfl ?_
  refine r_iast hG 4 rfl (by omega) (by decide) dX4_addOne_50 rfl ?_
  refine r_iconst hG dX4_addOne_51 ?_
  refine r_istore hG dX4_addOne_52 (by decide) rfl ?_
  exact V_ws (ws' := yw (g_D G) a (addN (add0 Y k t) (Y 5 2) 0) x z q) rfl (V_lv (L 0 (by omega)) ⟨rfl, rfl, rfl, trivial⟩)
