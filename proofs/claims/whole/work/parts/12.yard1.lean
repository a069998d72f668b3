theorem kX4_isFull_18 : Cond.fieldLink RX4 18 "BreakSwaps$Yard" "size" "I" ∈ wsX4_isFull := List.mem_of_getElem? (i := 1) rfl
theorem cX4_isFull_X4 : ∀ w ∈ wsX40, w ∈ wsX4_isFull := fun _ h => List.mem_cons_of_mem _ (List.mem_append_right _ h)
theorem hyX4_isFull : hyV yX4_isFull RX4 0 := by decide +kernel
set_option maxHeartbeats 4000000 in
set_option maxRecDepth 100000 in
theorem c_X4_isFull (l : Launch) (D : va_G) (a : Nat → Nat) (Y : YS) (x z q : Int) (hI : Inv Y) : Con l yX4_isFull wsX4_isFull 0 D (yw D a Y x z q) [.ref (a 0)] (some (.int (iI (b2 (decide (8 ≤ Y 5 2)))))) (fun w => w = yw D a Y x z q) := by
  refine con_start (own := RX4) (by decide) rfl rfl (Nat.le_of_ble_eq_true rfl) ?_
  intro G hG hE hl hD
  subst hl
  subst hD
  have hN := hI.1
  refine r_aload_n (i := 0) hG dX4_isFull_0 rfl rfl ?_
  refine r_get hG cX4_isFull_X4 0 2 rfl rfl (by decide) kX4_isFull_18 rfl dX4_isFull_1 ?_
  refine r_bipush hG dX4_isFull_4 rfl ?_
  refine r_icmp_lt (tgt := 13) hG (by omega) (by omega) dX4_isFull_6 (by decide) (fun c6 => ?_) (fun c6 => ?_)
  · refine r_iconst hG dX4_isFull_13 ?_
    exact r_zret hG hE dX4_isFull_14 (by congr 1; unfold b2; (repeat' split) <;> (try simp_all) <;> (try omega)) rfl
  · refine r_iconst hG dX4_isFull_9 ?_
    refine r_goto (tgt := 14) hG dX4_isFull_10 (by decide) ?_
    exact r_zret hG hE dX4_isFull_14 (by congr 1; unfold b2; (repeat' split) <;> (try simp_all) <;> (try omega)) rfl
theorem kX4_likedBy_34 : Cond.fieldLink RX4 34 "BreakSwaps$Yard" "liked" "[I" ∈ wsX4_likedBy := List.mem_of_getElem? (i := 1) rfl
theorem cX4_likedBy_X4 : ∀ w ∈ wsX40, w ∈ wsX4_likedBy := fun _ h => List.mem_cons_of_mem _ (List.mem_append_right _ h)
theorem hyX4_likedBy : hyV yX4_likedBy RX4 2 := by decide +kernel
set_option maxHeartbeats 4000000 in
set_option maxRecDepth 100000 in
theorem c_X4_likedBy (l : Launch) (D : va_G) (a : Nat → Nat) (Y : YS) (x z q : Int) (c t : Int) (hc : 0 ≤ c ∧ c < 8) (ht : 0 ≤ t ∧ t < 10) : Con l yX4_likedBy wsX4_likedBy 0 D (yw D a Y x z q) [.ref (a 0), .int (iI c), .int (iI t)] (some (.int (iI (Y 4 (c * 10 + t))))) (fun w => w = yw D a Y x z q) := by
  refine con_start (own := RX4) (by decide) rfl rfl (Nat.le_of_ble_eq_true rfl) ?_
  intro G hG hE hl hD
  subst hl
  subst hD
  refine r_aload_n (i := 0) hG dX4_likedBy_0 rfl rfl ?_
  refine r_get hG cX4_likedBy_X4 0 7 rfl rfl (by decide) kX4_likedBy_34 rfl dX4_likedBy_1 ?_
  refine r_iload_n (i := 1) hG dX4_likedBy_4 rfl rfl ?_
  refine r_bipush hG dX4_likedBy_5 rfl ?_
  refine r_imul hG dX4_likedBy_7 ?_
  refine r_iload_n (i := 2) hG dX4_likedBy_8 rfl rfl ?_
  refine r_iadd hG dX4_likedBy_9 ?_
  refine r_iald hG 5 rfl (by omega) (by decide) dX4_likedBy_10 ?_
  exact r_iret hG hE dX4_likedBy_11 rfl rfl
theorem kX4_makeLike_34 : Cond.fieldLink RX4 34 "BreakSwaps$Yard" "liked" "[I" ∈ wsX4_makeLike := List.mem_of_getElem? (i := 1) rfl
theorem cX4_makeLike_X4 : ∀ w ∈ wsX40, w ∈ wsX4_makeLike := fun _ h => List.mem_cons_of_mem _ (List.mem_append_right _ h)
theorem hyX4_makeLike : hyV yX4_makeLike RX4 3 := by decide +kernel
set_option maxHeartbeats 4000000 in
set_option maxRecDepth 100000 in
theorem c_X4_makeLike (l : Launch) (D : va_G) (a : Nat → Nat) (Y : YS) (x z q : Int) (c t v : Int) (hc : 0 ≤ c ∧ c < 8) (ht : 0 ≤ t ∧ t < 10) : Con l yX4_makeLike wsX4_makeLike 0 D (yw D a Y x z q) [.ref (a 0), .int (iI c), .int (iI t), .int (iI v)] (none) (fun w => w = yw D a (upY Y 4 (c * 10 + t) v) x z q) := by
  refine con_start (own := RX4) (by decide) rfl rfl (Nat.le_of_ble_eq_true rfl) ?_
  intro G hG hE hl hD
  subst hl
  subst hD
  refine r_aload_n (i := 0) hG dX4_makeLike_0 rfl rfl ?_
  refine r_get hG cX4_makeLike_X4 0 7 rfl rfl (by decide) kX4_makeLike_34 rfl dX4_makeLike_1 ?_
  refine r_iload_n (i := 1) hG dX4_makeLike_4 rfl rfl ?_
  refine r_bipush hG dX4_makeLike_5 rfl ?_
  refine r_imul hG dX4_makeLike_7 ?_
  refine r_iload_n (i := 2) hG dX4_makeLike_8 rfl rfl ?_
  refine r_iadd hG dX4_makeLike_9 ?_
  refine r_iload_n (i := 3) hG dX4_makeLike_10 rfl rfl ?_
  refine r_iast hG 5 rfl (by omega) (by decide) dX4_makeLike_11 rfl ?_
  exact r_vret hG hE dX4_makeLike_12 rfl
theorem kX4_worthTo_21 : Cond.fieldLink RX4 21 "BreakSwaps$Yard" "kinds" "[I" ∈ wsX4_worthTo := List.mem_of_getElem? (i := 1) rfl
theorem kX4_worthTo_37 : Cond.fieldLink RX4 37 "BreakSwaps$Yard" "holders" "[I" ∈ wsX4_worthTo := List.mem_of_getElem? (i := 2) rfl
theorem cX4_worthTo_X4 : ∀ w ∈ wsX40, w ∈ wsX4_worthTo := fun _ h => List.mem_cons_of_mem _ (List.mem_append_right _ h)
theorem hyX4_worthTo : hyV yX4_worthTo RX4 2 := by decide +kernel
set_option maxHeartbeats 4000000 in
set_option maxRecDepth 100000 in
theorem c_X4_worthTo (l : Launch) (D : va_G) (a : Nat → Nat) (Y : YS) (x z q : Int) (hI : Inv Y) (hH : Hol Y) (c t : Int) (hc : 0 ≤ c ∧ c < 8) (ht : 0 ≤ t ∧ t < 10) : Con l yX4_worthTo wsX4_worthTo 1 D (yw D a Y x z q) [.ref (a 0), .int (iI c), .int (iI t)] (some (.int (iI (worth Y c t)))) (fun w => w = yw D a Y x z q) := by
  refine con_start (own := RX4) (by decide) rfl rfl (Nat.le_of_ble_eq_true rfl) ?_
  intro G hG hE hl hD
  subst hl
  subst hD
  have hc1 := Inv_c hI hc
  have hl1 := hI.2.2.2.2 (c * 10 + t) (by omega) (by omega)
  have hn1 := cnt_rng hI t
  have hh := hH t ht.1 ht.2
  refine r_aload_n (i := 0) hG dX4_worthTo_0 rfl rfl ?_
  refine r_get hG cX4_worthTo_X4 0 3 rfl rfl (by decide) kX4_worthTo_21 rfl dX4_worthTo_1 ?_
  refine r_iload_n (i := 1) hG dX4_worthTo_4 rfl rfl ?_
  refine r_iald hG 1 rfl (by omega) (by decide) dX4_worthTo_5 ?_
  refine r_iload_n (i := 2) hG dX4_worthTo_6 rfl rfl ?_
  refine r_aload_n (i := 0) hG dX4_worthTo_7 rfl rfl ?_
  refine r_iload_n (i := 1) hG dX4_worthTo_8 rfl rfl ?_
  refine r_iload_n (i := 2) hG dX4_worthTo_9 rfl rfl ?_
  refine r_callVi hG (c_X4_likedBy (g_l G) (g_D G) a Y x z q _ _ (by omega) (by omega))  gX4_worthTo_X4_likedBy rfl hyX4_likedBy rfl (by decide) (by decide) 0 rfl rfl rfl (Nat.le_of_ble_eq_true rfl) ⟨Nat.zero_le _, Nat.zero_le _⟩ dX4_worthTo_10 (fun w hw => ?_)
  subst hw
  refine r_aload_n (i := 0) hG dX4_worthTo_13 rfl rfl ?_
  refine r_get hG cX4_worthTo_X4 0 8 rfl rfl (by decide) kX4_worthTo_37 rfl dX4_worthTo_14 ?_
  refine r_iload_n (i := 2) hG dX4_worthTo_17 rfl rfl ?_
  refine r_iald hG 6 rfl (by omega) (by decide) dX4_worthTo_18 ?_
  refine r_call0i hG (c_X1_worthOf (g_l G) (g_D G) _ _ _ _ (by omega) (by omega) (by omega) (by omega))  gX4_worthTo_X1_worthOf rfl hyX1_worthOf rfl (by decide) (by decide) rfl (Nat.le_of_ble_eq_true rfl) ⟨Nat.zero_le _, Nat.zero_le _⟩ dX4_worthTo_19 ?_
  exact r_iret hG hE dX4_worthTo_22 (by unfold worth; rw [hh]) rfl
theorem kX4_gladOf_25 : Cond.fieldLink RX4 25 "BreakSwaps$Yard" "has" "[I" ∈ wsX4_gladOf := List.mem_of_getElem? (i := 1) rfl
theorem cX4_gladOf_X4 : ∀ w ∈ wsX40, w ∈ wsX4_gladOf := fun _ h => List.mem_cons_of_mem _ (List.mem_append_right _ h)
theorem hyX4_gladOf : hyV yX4_gladOf RX4 1 := by decide +kernel
set_option maxHeartbeats 4000000 in
set_option maxRecDepth 100000 in
theorem c_X4_gladOf (l : Launch) (D : va_G) (a : Nat → Nat) (Y : YS) (x z q : Int) (hI : Inv Y) (hH : Hol Y) (c : Int) (hc : 0 ≤ c ∧ c < 8) : Con l yX4_gladOf wsX4_gladOf 2 D (yw D a Y x z q) [.ref (a 0), .int (iI c)] (some (.int (iI (glad Y c)))) (fun w => w = yw D a Y x z q) := by
  refine con_start (own := RX4) (by decide) rfl rfl (Nat.le_of_ble_eq_true rfl) ?_
  intro G hG hE hl hD
  subst hl
  subst hD
  have hc1 := Inv_c hI hc
  refine r_aload_n (i := 0) hG dX4_gladOf_0 rfl rfl ?_
  refine r_iload_n (i := 1) hG dX4_gladOf_1 rfl rfl ?_
  refine r_aload_n (i := 0) hG dX4_gladOf_2 rfl rfl ?_
  refine r_get hG cX4_gladOf_X4 0 4 rfl rfl (by decide) kX4_gladOf_25 rfl dX4_gladOf_3 ?_
  refine r_iload_n (i := 1) hG dX4_gladOf_6 rfl rfl ?_
  refine r_iald hG 2 rfl (by omega) (by decide) dX4_gladOf_7 ?_
  refine r_callVi hG (c_X4_worthTo (g_l G) (g_D G) a Y x z q hI hH _ _ (by omega) (by omega))  gX4_gladOf_X4_worthTo rfl hyX4_worthTo rfl (by decide) (by decide) 0 rfl rfl rfl (Nat.le_of_ble_eq_true rfl) ⟨Nat.zero_le _, Nat.zero_le _⟩ dX4_gladOf_8 (fun w hw => ?_)
  subst hw
  exact r_iret hG hE dX4_gladOf_11 rfl rfl
theorem kX4_agreesTo_25 : Cond.fieldLink RX4 25 "BreakSwaps$Yard" "has" "[I" ∈ wsX4_agreesTo := List.mem_of_getElem? (i := 1) rfl
theorem kX4_agreesTo_21 : Cond.fieldLink RX4 21 "BreakSwaps$Yard" "kinds" "[I" ∈ wsX4_agreesTo := List.mem_of_getElem? (i := 2) rfl
theorem kX4_agreesTo_28 : Cond.fieldLink RX4 28 "BreakSwaps$Yard" "swapped" "[I" ∈ wsX4_agreesTo := List.mem_of_getElem? (i := 3) rfl
theorem kX4_agreesTo_15 : Cond.fieldLink RX4 15 "BreakSwaps$Yard" "teacher" "I" ∈ wsX4_agreesTo := List.mem_of_getElem? (i := 4) rfl
theorem cX4_agreesTo_X4 : ∀ w ∈ wsX40, w ∈ wsX4_agreesTo := fun _ h => List.mem_cons_of_mem _ (List.mem_append_right _ h)
theorem hyX4_agreesTo : hyV yX4_agreesTo RX4 2 := by decide +kernel
set_option maxHeartbeats 4000000 in
set_option maxRecDepth 100000 in
theorem c_X4_agreesTo (l : Launch) (D : va_G) (a : Nat → Nat) (Y : YS) (x z q : Int) (hI : Inv Y) (hH : Hol Y) (c t : Int) (hc : 0 ≤ c ∧ c < 8) (ht : 0 ≤ t ∧ t < 10) : Con l yX4_agreesTo wsX4_agreesTo 2 D (yw D a Y x z q) [.ref (a 0), .int (iI c), .int (iI t)] (some (.int (iI (b2 (agree Y c t))))) (fun w => w = yw D a Y x z q) := by
  refine con_start (own := RX4) (by decide) rfl rfl (Nat.le_of_ble_eq_true rfl) ?_
  intro G hG hE hl hD
  subst hl
  subst hD
  have hc1 := Inv_c hI hc
  have hu := hI.2.2.1
  have hw1 := worth_rng hI hc ht
  have hw2 := worth_rng hI hc (t := Y 1 c) (by omega)
  refine r_aload_n (i := 0) hG dX4_agreesTo_0 rfl rfl ?_
  refine r_iload_n (i := 1) hG dX4_agreesTo_1 rfl rfl ?_
  refine r_iload_n (i := 2) hG dX4_agreesTo_2 rfl rfl ?_
  refine r_callVi hG (c_X4_worthTo (g_l G) (g_D G) a Y x z q hI hH _ _ (by omega) (by omega))  gX4_agreesTo_X4_worthTo rfl hyX4_worthTo rfl (by decide) (by decide) 0 rfl rfl rfl (Nat.le_of_ble_eq_true rfl) ⟨Nat.zero_le _, Nat.zero_le _⟩ dX4_agreesTo_3 (fun w hw => ?_)
  subst hw
  refine r_aload_n (i := 0) hG dX4_agreesTo_6 rfl rfl ?_
  refine r_iload_n (i := 1) hG dX4_agreesTo_7 rfl rfl ?_
  refine r_aload_n (i := 0) hG dX4_agreesTo_8 rfl rfl ?_
  refine r_get hG cX4_agreesTo_X4 0 4 rfl rfl (by decide) kX4_agreesTo_25 rfl dX4_agreesTo_9 ?_
  refine r_iload_n (i := 1) hG dX4_agreesTo_12 rfl rfl ?_
  refine r_iald hG 2 rfl (by omega) (by decide) dX4_agreesTo_13 ?_
  refine r_callVi hG (c_X4_worthTo (g_l G) (g_D G) a Y x z q hI hH _ _ (by omega) (by omega))  gX4_agreesTo_X4_worthTo rfl hyX4_worthTo rfl (by decide) (by decide) 0 rfl rfl rfl (Nat.le_of_ble_eq_true rfl) ⟨Nat.zero_le _, Nat.zero_le _⟩ dX4_agreesTo_14 (fun w hw => ?_)
  subst hw
  refine r_isub hG dX4_agreesTo_17 ?_
  refine r_istore_n (i := 3) hG dX4_agreesTo_18 rfl (by decide) rfl ?_
  refine r_aload_n (i := 0) hG dX4_agreesTo_19 rfl rfl ?_
  refine r_get hG cX4_agreesTo_X4 0 3 rfl rfl (by decide) kX4_agreesTo_21 rfl dX4_agreesTo_20 ?_
  refine r_iload_n (i := 1) hG dX4_agreesTo_23 rfl rfl ?_
  refine r_iald hG 1 rfl (by omega) (by decide) dX4_agreesTo_24 ?_
  refine r_iload_n (i := 3) hG dX4_agreesTo_25 rfl rfl ?_
  refine r_aload_n (i := 0) hG dX4_agreesTo_26 rfl rfl ?_
  refine r_get hG cX4_agreesTo_X4 0 5 rfl rfl (by decide) kX4_agreesTo_28 rfl dX4_agreesTo_27 ?_
  refine r_iload_n (i := 1) hG dX4_agreesTo_30 rfl rfl ?_
  refine r_iald hG 3 rfl (by omega) (by decide) dX4_agreesTo_31 ?_
  refine r_aload_n (i := 0) hG dX4_agreesTo_32 rfl rfl ?_
  refine r_get hG cX4_agreesTo_X4 0 1 rfl rfl (by decide) kX4_agreesTo_15 rfl dX4_agreesTo_33 ?_
  refine r_call0i hG (c_X1_agreesFor (g_l G) (g_D G) _ _ _ _ (by omega) (by omega) (by omega) (by omega))  gX4_agreesTo_X1_agreesFor rfl hyX1_agreesFor rfl (by decide) (by decide) rfl (Nat.le_of_ble_eq_true rfl) ⟨Nat.zero_le _, Nat.zero_le _⟩ dX4_agreesTo_36 ?_
  exact r_zret hG hE dX4_agreesTo_39 rfl rfl
theorem kX4_wants_25 : Cond.fieldLink RX4 25 "BreakSwaps$Yard" "has" "[I" ∈ wsX4_wants := List.mem_of_getElem? (i := 1) rfl
theorem cX4_wants_X4 : ∀ w ∈ wsX40, w ∈ wsX4_wants := fun _ h => List.mem_cons_of_mem _ (List.mem_append_right _ h)
theorem hyX4_wants : hyV yX4_wants RX4 2 := by decide +kernel
set_option maxHeartbeats 4000000 in
set_option maxRecDepth 100000 in
theorem c_X4_wants (l : Launch) (D : va_G) (a : Nat → Nat) (Y : YS) (x z q : Int) (hI : Inv Y) (hH : Hol Y) (c o : Int) (hc : 0 ≤ c ∧ c < 8) (ho : 0 ≤ o ∧ o < 8) : Con l yX4_wants wsX4_wants 3 D (yw D a Y x z q) [.ref (a 0), .int (iI c), .int (iI o)] (some (.int (iI (b2 (wants Y c o))))) (fun w => w = yw D a Y x z q) := by
  refine con_start (own := RX4) (by decide) rfl rfl (Nat.le_of_ble_eq_true rfl) ?_
  intro G hG hE hl hD
  subst hl
  subst hD
  have hc1 := Inv_c hI hc
  have ho1 := Inv_c hI ho
  refine r_aload_n (i := 0) hG dX4_wants_0 rfl rfl ?_
  refine r_get hG cX4_wants_X4 0 4 rfl rfl (by decide) kX4_wants_25 rfl dX4_wants_1 ?_
  refine r_iload_n (i := 1) hG dX4_wants_4 rfl rfl ?_
  refine r_iald hG 2 rfl (by omega) (by decide) dX4_wants_5 ?_
  refine r_aload_n (i := 0) hG dX4_wants_6 rfl rfl ?_
  refine r_get hG cX4_wants_X4 0 4 rfl rfl (by decide) kX4_wants_25 rfl dX4_wants_7 ?_
  refine r_iload_n (i := 2) hG dX4_wants_10 rfl rfl ?_
  refine r_iald hG 2 rfl (by omega) (by decide) dX4_wants_11 ?_
  refine r_icmp_eq (tgt := 33) hG (by omega) (by omega) dX4_wants_12 (by decide) (fun c12 => ?_) (fun c12 => ?_)
  · refine r_iconst hG dX4_wants_33 ?_
    exact r_zret hG hE dX4_wants_34 (by congr 1; simp_all [b2, wants]) rfl
  · refine r_aload_n (i := 0) hG dX4_wants_15 rfl rfl ?_
    refine r_iload_n (i := 1) hG dX4_wants_16 rfl rfl ?_
    refine r_aload_n (i := 0) hG dX4_wants_17 rfl rfl ?_
    refine r_get hG cX4_wants_X4 0 4 rfl rfl (by decide) kX4_wants_25 rfl dX4_wants_18 ?_
    refine r_iload_n (i := 2) hG dX4_wants_21 rfl rfl ?_
    refine r_iald hG 2 rfl (by omega) (by decide) dX4_wants_22 ?_
    refine r_callVi hG (c_X4_agreesTo (g_l G) (g_D G) a Y x z q hI hH _ _ (by omega) (by omega))  gX4_wants_X4_agreesTo rfl hyX4_agreesTo rfl (by decide) (by decide) 0 rfl rfl rfl (Nat.le_of_ble_eq_true rfl) ⟨Nat.zero_le _, Nat.zero_le _⟩ dX4_wants_23 (fun w hw => ?_)
    subst hw
    refine rb_if_eq (tgt := 33) hG dX4_wants_26 (by decide) (fun c26 => ?_) (fun c26 => ?_)
    · refine r_iconst hG dX4_wants_33 ?_
      exact r_zret hG hE dX4_wants_34 (by congr 1; simp_all [b2, wants]) rfl
    · refine r_iconst hG dX4_wants_29 ?_
      refine r_goto (tgt := 34) hG dX4_wants_30 (by decide) ?_
      exact r_zret hG hE dX4_wants_34 (by congr 1; simp_all [b2, wants]) rfl
theorem hyX4_wouldSwap : hyV yX4_wouldSwap RX4 2 := by decide +kernel
set_option maxHeartbeats 4000000 in
set_option maxRecDepth 100000 in
theorem c_X4_wouldSwap (l : Launch) (D : va_G) (a : Nat → Nat) (Y : YS) (x z q : Int) (hI : Inv Y) (hH : Hol Y) (c o : Int) (hc : 0 ≤ c ∧ c < 8) (ho : 0 ≤ o ∧ o < 8) : Con l yX4_wouldSwap wsX4_wouldSwap 4 D (yw D a Y x z q) [.ref (a 0), .int (iI c), .int (iI o)] (some (.int (iI (b2 (wsw Y c o))))) (fun w => w = yw D a Y x z q) := by
  refine con_start (own := RX4) (by decide) rfl rfl (Nat.le_of_ble_eq_true rfl) ?_
  intro G hG hE hl hD
  subst hl
  subst hD
  refine r_aload_n (i := 0) hG dX4_wouldSwap_0 rfl rfl ?_
  refine r_iload_n (i := 1) hG dX4_wouldSwap_1 rfl rfl ?_
  refine r_iload_n (i := 2) hG dX4_wouldSwap_2 rfl rfl ?_
  refine r_callVi hG (c_X4_wants (g_l G) (g_D G) a Y x z q hI hH _ _ (by omega) (by omega))  gX4_wouldSwap_X4_wants rfl hyX4_wants rfl (by decide) (by decide) 0 rfl rfl rfl (Nat.le_of_ble_eq_true rfl) ⟨Nat.zero_le _, Nat.zero_le _⟩ dX4_wouldSwap_3 (fun w hw => ?_)
  subst hw
  refine rb_if_eq (tgt := 22) hG dX4_wouldSwap_6 (by decide) (fun c6 => ?_) (fun c6 => ?_)
  · refine r_iconst hG dX4_wouldSwap_22 ?_
    exact r_zret hG hE dX4_wouldSwap_23 (by congr 1; simp_all [b2, wsw]) rfl
  · refine r_aload_n (i := 0) hG dX4_wouldSwap_9 rfl rfl ?_
    refine r_iload_n (i := 2) hG dX4_wouldSwap_10 rfl rfl ?_
    refine r_iload_n (i := 1) hG dX4_wouldSwap_11 rfl rfl ?_
    refine r_callVi hG (c_X4_wants (g_l G) (g_D G) a Y x z q hI hH _ _ (by omega) (by omega))  gX4_wouldSwap_X4_wants rfl hyX4_wants rfl (by decide) (by decide) 0 rfl rfl rfl (Nat.le_of_ble_eq_true rfl) ⟨Nat.zero_le _, Nat.zero_le _⟩ dX4_wouldSwap_12 (fun w hw => ?_)
    subst hw
    refine rb_if_eq (tgt := 22) hG dX4_wouldSwap_15 (by decide) (fun c15 => ?_) (fun c15 => ?_)
    · refine r_iconst hG dX4_wouldSwap_22 ?_
      exact r_zret hG hE dX4_wouldSwap_23 (by congr 1; simp_all [b2, wsw]) rfl
    · refine r_iconst hG dX4_wouldSwap_18 ?_
      refine r_goto (tgt := 23) hG dX4_wouldSwap_19 (by decide) ?_
      exact r_zret hG hE dX4_wouldSwap_23 (by congr 1; simp_all [b2, wsw]) rfl
theorem kX4_gladOfAll_18 : Cond.fieldLink RX4 18 "BreakSwaps$Yard" "size" "I" ∈ wsX4_gladOfAll := List.mem_of_getElem? (i := 1) rfl
theorem cX4_gladOfAll_X4 : ∀ w ∈ wsX40, w ∈ wsX4_gladOfAll := fun _ h => List.mem_cons_of_mem _ (List.mem_append_right _ h)
theorem hyX4_gladOfAll : hyV yX4_gladOfAll RX4 0 := by decide +kernel
set_option maxHeartbeats 4000000 in
set_option maxRecDepth 100000 in
theorem c_X4_gladOfAll (l : Launch) (D : va_G) (a : Nat → Nat) (Y : YS) (x z q : Int) (hI : Inv Y) (hH : Hol Y) : Con l yX4_gladOfAll wsX4_gladOfAll 3 D (yw D a Y x z q) [.ref (a 0)] (some (.int (iI (sumN (glad Y) (Y 5 2).toNat)))) (fun w => w = yw D a Y x z q) := by
  refine con_start (own := RX4) (by decide) rfl rfl (Nat.le_of_ble_eq_true rfl) ?_
  intro G hG hE hl hD
  subst hl
  subst hD
  have hN := hI.1
  have L : ∀ i, i ≤ (Y 5 2).toNat → V G 0 0 (yw (g_D G) a Y x z q) 4 [(0, .ref (a 0)), (1, .int (iI (sumN (glad Y) i))), (2, .int (iI (i : Int)))] [] := by
    refine down (fun i hi ih => ?_)
    refine r_iload_n (i := 2) hG dX4_gladOfAll_4 rfl rfl ?_
    refine r_aload_n (i := 0) hG dX4_gladOfAll_5 rfl rfl ?_
    refine r_get hG cX4_gladOfAll_X4 0 2 rfl rfl (by decide) kX4_gladOfAll_18 rfl dX4_gladOfAll_6 ?_
    refine r_icmp_ge (tgt := 26) hG (by omega) (by omega) dX4_gladOfAll_9 (by decide) (fun c9 => ?_) (fun c9 => ?_)
    · refine r_iload_n (i := 1) hG dX4_gladOfAll_26 rfl rfl ?_
      exact r_iret hG hE dX4_gladOfAll_27 (by rw [show i = (Y 5 2).toNat by omega]) rfl
    · refine r_iload_n (i := 1) hG dX4_gladOfAll_12 rfl rfl ?_
      refine r_aload_n (i := 0) hG dX4_gladOfAll_13 rfl rfl ?_
      refine r_iload_n (i := 2) hG dX4_gladOfAll_14 rfl rfl ?_
      refine r_callVi hG (c_X4_gladOf (g_l G) (g_D G) a Y x z q hI hH _ (by omega))  gX4_gladOfAll_X4_gladOf rfl hyX4_gladOf rfl (by decide) (by decide) 0 rfl rfl rfl (Nat.le_of_ble_eq_true rfl) ⟨Nat.zero_le _, Nat.zero_le _⟩ dX4_gladOfAll_15 (fun w hw => ?_)
      subst hw
      refine r_iadd hG dX4_gladOfAll_18 ?_
      refine r_istore_n (i := 1) hG dX4_gladOfAll_19 rfl (by decide) rfl ?_
      refine r_iinc hG dX4_gladOfAll_20 rfl (by decide) rfl ?_
      refine r_goto (tgt := 4) hG dX4_gladOfAll_23 (by decide) ?_
      exact V_lv (ih (by omega)) ⟨rfl, rfl, rfl, trivial⟩
  refine r_iconst hG dX4_gladOfAll_0 ?_
  refine r_istore_n (i := 1) hG dX4_gladOfAll_1 rfl (by decide) rfl ?_
  refine r_iconst hG dX4_gladOfAll_2 ?_
  refine r_istore_n (i := 2) hG dX4_gladOfAll_3 rfl (by decide) rfl ?_
  exact V_lv (L 0 (by omega)) ⟨rfl, rfl, rfl, trivial⟩
theorem kX4_swappedOfAll_18 : Cond.fieldLink RX4 18 "BreakSwaps$Yard" "size" "I" ∈ wsX4_swappedOfAll := List.mem_of_getElem? (i := 1) rfl
theorem kX4_swappedOfAll_28 : Cond.fieldLink RX4 28 "BreakSwaps$Yard" "swapped" "[I" ∈ wsX4_swappedOfAll := List.mem_of_getElem? (i := 2) rfl
theorem cX4_swappedOfAll_X4 : ∀ w ∈ wsX40, w ∈ wsX4_swappedOfAll := fun _ h => List.mem_cons_of_mem _ (List.mem_append_right _ h)
theorem hyX4_swappedOfAll : hyV yX4_swappedOfAll RX4 0 := by decide +kernel
set_option maxHeartbeats 4000000 in
set_option maxRecDepth 100000 in
theorem c_X4_swappedOfAll (l : Launch) (D : va_G) (a : Nat → Nat) (Y : YS) (x z q : Int) (hI : Inv Y) (hH : Hol Y) : Con l yX4_swappedOfAll wsX4_swappedOfAll 0 D (yw D a Y x z q) [.ref (a 0)] (some (.int (iI (sumN (Y 2) (Y 5 2).toNat)))) (fun w => w = yw D a Y x z q) := by
  refine con_start (own := RX4) (by decide) rfl rfl (Nat.le_of_ble_eq_true rfl) ?_
  intro G hG hE hl hD
  subst hl
  subst hD
  have hN := hI.1
  have L : ∀ i, i ≤ (Y 5 2).toNat → V G 0 0 (yw (g_D G) a Y x z q) 4 [(0, .ref (a 0)), (1, .int (iI (sumN (Y 2) i))), (2, .int (iI (i : Int)))] [] := by
    refine down (fun i hi ih => ?_)
    refine r_iload_n (i := 2) hG dX4_swappedOfAll_4 rfl rfl ?_
    refine r_aload_n (i := 0) hG dX4_swappedOfAll_5 rfl rfl ?_
    refine r_get hG cX4_swappedOfAll_X4 0 2 rfl rfl (by decide) kX4_swappedOfAll_18 rfl dX4_swappedOfAll_6 ?_
    refine r_icmp_ge (tgt := 27) hG (by omega) (by omega) dX4_swappedOfAll_9 (by decide) (fun c9 => ?_) (fun c9 => ?_)
    · refine r_iload_n (i := 1) hG dX4_swappedOfAll_27 rfl rfl ?_
      exact r_iret hG hE dX4_swappedOfAll_28 (by rw [show i = (Y 5 2).toNat by omega]) rfl
    · refine r_iload_n (i := 1) hG dX4_swappedOfAll_12 rfl rfl ?_
      refine r_aload_n (i := 0) hG dX4_swappedOfAll_13 rfl rfl ?_
      refine r_get hG cX4_swappedOfAll_X4 0 5 rfl rfl (by decide) kX4_swappedOfAll_28 rfl dX4_swappedOfAll_14 ?_
      refine r_iload_n (i := 2) hG dX4_swappedOfAll_17 rfl rfl ?_
      refine r_iald hG 3 rfl (by omega) (by decide) dX4_swappedOfAll_18 ?_
      refine r_iadd hG dX4_swappedOfAll_19 ?_
      refine r_istore_n (i := 1) hG dX4_swappedOfAll_20 rfl (by decide) rfl ?_
      refine r_iinc hG dX4_swappedOfAll_21 rfl (by decide) rfl ?_
      refine r_goto (tgt := 4) hG dX4_swappedOfAll_24 (by decide) ?_
      exact V_lv (ih (by omega)) ⟨rfl, rfl, rfl, trivial⟩
  refine r_iconst hG dX4_swappedOfAll_0 ?_
  refine r_istore_n (i := 1) hG dX4_swappedOfAll_1 rfl (by decide) rfl ?_
  refine r_iconst hG dX4_swappedOfAll_2 ?_
  refine r_istore_n (i := 2) hG dX4_swappedOfAll_3 rfl (by decide) rfl ?_
  exact V_lv (L 0 (by omega)) ⟨rfl, rfl, rfl, trivial⟩
theorem kX4_trustOfAll_18 : Cond.fieldLink RX4 18 "BreakSwaps$Yard" "size" "I" ∈ wsX4_trustOfAll := List.mem_of_getElem? (i := 1) rfl
theorem kX4_trustOfAll_31 : Cond.fieldLink RX4 31 "BreakSwaps$Yard" "trusts" "[I" ∈ wsX4_trustOfAll := List.mem_of_getElem? (i := 2) rfl
theorem cX4_trustOfAll_X4 : ∀ w ∈ wsX40, w ∈ wsX4_trustOfAll := fun _ h => List.mem_cons_of_mem _ (List.mem_append_right _ h)
theorem hyX4_trustOfAll : hyV yX4_trustOfAll RX4 0 := by decide +kernel
set_option maxHeartbeats 4000000 in
set_option maxRecDepth 100000 in
theorem c_X4_trustOfAll (l : Launch) (D : va_G) (a : Nat → Nat) (Y : YS) (x z q : Int) (hI : Inv Y) (hH : Hol Y) : Con l yX4_trustOfAll wsX4_trustOfAll 0 D (yw D a Y x z q) [.ref (a 0)] (some (.int (iI (sumN (Y 3) (Y 5 2).toNat)))) (fun w => w = yw D a Y x z q) := by
  refine con_start (own := RX4) (by decide) rfl rfl (Nat.le_of_ble_eq_true rfl) ?_
  intro G hG hE hl hD
  subst hl
  subst hD
  have hN := hI.1
  have L : ∀ i, i ≤ (Y 5 2).toNat → V G 0 0 (yw (g_D G) a Y x z q) 4 [(0, .ref (a 0)), (1, .int (iI (sumN (Y 3) i))), (2, .int (iI (i : Int)))] [] := by
    refine down (fun i hi ih => ?_)
    refine r_iload_n (i := 2) hG dX4_trustOfAll_4 rfl rfl ?_
    refine r_aload_n (i := 0) hG dX4_trustOfAll_5 rfl rfl ?_
    refine r_get hG cX4_trustOfAll_X4 0 2 rfl rfl (by decide) kX4_trustOfAll_18 rfl dX4_trustOfAll_6 ?_
    refine r_icmp_ge (tgt := 27) hG (by omega) (by omega) dX4_trustOfAll_9 (by decide) (fun c9 => ?_) (fun c9 => ?_)
    · refine r_iload_n (i := 1) hG dX4_trustOfAll_27 rfl rfl ?_
      exact r_iret hG hE dX4_trustOfAll_28 (by rw [show i = (Y 5 2).toNat by omega]) rfl
    · refine r_iload_n (i := 1) hG dX4_trustOfAll_12 rfl rfl ?_
      refine r_aload_n (i := 0) hG dX4_trustOfAll_13 rfl rfl ?_
      refine r_get hG cX4_trustOfAll_X4 0 6 rfl rfl (by decide) kX4_trustOfAll_31 rfl dX4_trustOfAll_14 ?_
      refine r_iload_n (i := 2) hG dX4_trustOfAll_17 rfl rfl ?_
      refine r_iald hG 4 rfl (by omega) (by decide) dX4_trustOfAll_18 ?_
      refine r_iadd hG dX4_trustOfAll_19 ?_
      refine r_istore_n (i := 1) hG dX4_trustOfAll_20 rfl (by decide) rfl ?_
      refine r_iinc hG dX4_trustOfAll_21 rfl (by decide) rfl ?_
      refine r_goto (tgt := 4) hG dX4_trustOfAll_24 (by decide) ?_
      exact V_lv (ih (by omega)) ⟨rfl, rfl, rfl, trivial⟩
  refine r_iconst hG dX4_trustOfAll_0 ?_
  refine r_istore_n (i := 1) hG dX4_trustOfAll_1 rfl (by decide) rfl ?_
  refine r_iconst hG dX4_trustOfAll_2 ?_
  refine r_istore_n (i := 2) hG dX4_trustOfAll_3 rfl (by decide) rfl ?_
  exact V_lv (L 0 (by omega)) ⟨rfl, rfl, rfl, trivial⟩
theorem kX4_thingsHeld_18 : Cond.fieldLink RX4 18 "BreakSwaps$Yard" "size" "I" ∈ wsX4_thingsHeld := List.mem_of_getElem? (i := 1) rfl
theorem kX4_thingsHeld_25 : Cond.fieldLink RX4 25 "BreakSwaps$Yard" "has" "[I" ∈ wsX4_thingsHeld := List.mem_of_getElem? (i := 2) rfl
theorem cX4_thingsHeld_X4 : ∀ w ∈ wsX40, w ∈ wsX4_thingsHeld := fun _ h => List.mem_cons_of_mem _ (List.mem_append_right _ h)
theorem hyX4_thingsHeld : hyV yX4_thingsHeld RX4 0 := by decide +kernel
set_option maxHeartbeats 4000000 in
set_option maxRecDepth 100000 in
theorem c_X4_thingsHeld (l : Launch) (D : va_G) (a : Nat → Nat) (Y : YS) (x z q : Int) (hI : Inv Y) : Con l yX4_thingsHeld wsX4_thingsHeld 0 D (yw D a Y x z q) [.ref (a 0)] (some (.int (orN (Y 1) (Y 5 2).toNat))) (fun w => w = yw D a Y x z q) := by
  refine con_start (own := RX4) (by decide) rfl rfl (Nat.le_of_ble_eq_true rfl) ?_
  intro G hG hE hl hD
  subst hl
  subst hD
  have hN := hI.1
  have L : ∀ i, i ≤ (Y 5 2).toNat → V G 0 0 (yw (g_D G) a Y x z q) 4 [(0, .ref (a 0)), (1, .int (orN (Y 1) i)), (2, .int (iI (i : Int)))] [] := by
    refine down (fun i hi ih => ?_)
    refine r_iload_n (i := 2) hG dX4_thingsHeld_4 rfl rfl ?_
    refine r_aload_n (i := 0) hG dX4_thingsHeld_5 rfl rfl ?_
    refine r_get hG cX4_thingsHeld_X4 0 2 rfl rfl (by decide) kX4_thingsHeld_18 rfl dX4_thingsHeld_6 ?_
    refine r_icmp_ge (tgt := 29) hG (by omega) (by omega) dX4_thingsHeld_9 (by decide) (fun c9 => ?_) (fun c9 => ?_)
    · refine r_iload_n (i := 1) hG dX4_thingsHeld_29 rfl rfl ?_
      exact r_iret hG hE dX4_thingsHeld_30 (by rw [show i = (Y 5 2).toNat by omega]) rfl
    · refine r_iload_n (i := 1) hG dX4_thingsHeld_12 rfl rfl ?_
      refine r_iconst hG dX4_thingsHeld_13 ?_
      refine r_aload_n (i := 0) hG dX4_thingsHeld_14 rfl rfl ?_
      refine r_get hG cX4_thingsHeld_X4 0 4 rfl rfl (by decide) kX4_thingsHeld_25 rfl dX4_thingsHeld_15 ?_
      refine r_iload_n (i := 2) hG dX4_thingsHeld_18 rfl rfl ?_
      refine r_iald hG 2 rfl (by omega) (by decide) dX4_thingsHeld_19 ?_
      refine rr_ishl hG dX4_thingsHeld_20 ?_
      refine rr_ior hG dX4_thingsHeld_21 ?_
      refine r_istore_n (i := 1) hG dX4_thingsHeld_22 rfl (by decide) rfl ?_
      refine r_iinc hG dX4_thingsHeld_23 rfl (by decide) rfl ?_
      refine r_goto (tgt := 4) hG dX4_thingsHeld_26 (by decide) ?_
      exact V_lv (ih (by omega)) ⟨rfl, rfl, rfl, trivial⟩
  refine r_iconst hG dX4_thingsHeld_0 ?_
  refine r_istore_n (i := 1) hG dX4_thingsHeld_1 rfl (by decide) rfl ?_
  refine r_iconst hG dX4_thingsHeld_2 ?_
  refine r_istore_n (i := 2) hG dX4_thingsHeld_3 rfl (by decide) rfl ?_
  exact V_lv (L 0 (by omega)) ⟨rfl, rfl, rfl, trivial⟩
theorem kX4_holdersOf_18 : Cond.fieldLink RX4 18 "BreakSwaps$Yard" "size" "I" ∈ wsX4_holdersOf := List.mem_of_getElem? (i := 1) rfl
theorem kX4_holdersOf_25 : Cond.fieldLink RX4 25 "BreakSwaps$Yard" "has" "[I" ∈ wsX4_holdersOf := List.mem_of_getElem? (i := 2) rfl
theorem cX4_holdersOf_X4 : ∀ w ∈ wsX40, w ∈ wsX4_holdersOf := fun _ h => List.mem_cons_of_mem _ (List.mem_append_right _ h)
theorem hyX4_holdersOf : hyV yX4_holdersOf RX4 1 := by decide +kernel
set_option maxHeartbeats 4000000 in
set_option maxRecDepth 100000 in
theorem c_X4_holdersOf (l : Launch) (D : va_G) (a : Nat → Nat) (Y : YS) (x z q : Int) (hI : Inv Y) (t : Int) (ht : 0 ≤ t ∧ t < 10) : Con l yX4_holdersOf wsX4_holdersOf 0 D (yw D a Y x z q) [.ref (a 0), .int (iI t)] (some (.int (iI (maskN (fun c => decide (Y 1 c = t)) (Y 5 2).toNat)))) (fun w => w = yw D a Y x z q) := by
  refine con_start (own := RX4) (by decide) rfl rfl (Nat.le_of_ble_eq_true rfl) ?_
  intro G hG hE hl hD
  subst hl
  subst hD
  have hN := hI.1
  have L : ∀ i, i ≤ (Y 5 2).toNat → V G 0 0 (yw (g_D G) a Y x z q) 4 [(0, .ref (a 0)), (1, .int (iI t)), (2, .int (iI (maskN (fun c => decide (Y 1 c = t)) i))), (3, .int (iI (i : Int)))] [] := by
    refine down (fun i hi ih => ?_)
    have hc1 : i < (Y 5 2).toNat → _ := fun h => Inv_c hI (c := i) (by omega)
    refine r_iload_n (i := 3) hG dX4_holdersOf_4 rfl rfl ?_
    refine r_aload_n (i := 0) hG dX4_holdersOf_5 rfl rfl ?_
    refine r_get hG cX4_holdersOf_X4 0 2 rfl rfl (by decide) kX4_holdersOf_18 rfl dX4_holdersOf_6 ?_
    refine r_icmp_ge (tgt := 34) hG (by omega) (by omega) dX4_holdersOf_9 (by decide) (fun c9 => ?_) (fun c9 => ?_)
    · refine r_iload_n (i := 2) hG dX4_holdersOf_34 rfl rfl ?_
      exact r_iret hG hE dX4_holdersOf_35 (by rw [show i = (Y 5 2).toNat by omega]) rfl
    · refine r_aload_n (i := 0) hG dX4_holdersOf_12 rfl rfl ?_
      refine r_get hG cX4_holdersOf_X4 0 4 rfl rfl (by decide) kX4_holdersOf_25 rfl dX4_holdersOf_13 ?_
      refine r_iload_n (i := 3) hG dX4_holdersOf_16 rfl rfl ?_
      refine r_iald hG 2 rfl (by omega) (by decide) dX4_holdersOf_17 ?_
      refine r_iload_n (i := 1) hG dX4_holdersOf_18 rfl rfl ?_
      refine r_icmp_ne (tgt := 28) hG (by have := Inv_c hI (c := (i : Int)) (by omega); omega) (by have := Inv_c hI (c := (i : Int)) (by omega); omega) dX4_holdersOf_19 (by decide) (fun c19 => ?_) (fun c19 => ?_)
      · refine r_iinc hG dX4_holdersOf_28 rfl (by decide) rfl ?_
        refine r_goto (tgt := 4) hG dX4_holdersOf_31 (by decide) ?_
        exact V_lv (ih (by omega)) ⟨rfl, rfl, (congrArg (fun x => some (Value.int x)) (by first | (simp_all [maskN]; done) | (simp_all [maskN]; exact mask_or _ (by omega)))), rfl, trivial⟩
      · refine r_iload_n (i := 2) hG dX4_holdersOf_22 rfl rfl ?_
        refine r_iconst hG dX4_holdersOf_23 ?_
        refine r_iload_n (i := 3) hG dX4_holdersOf_24 rfl rfl ?_
        refine rr_ishl hG dX4_holdersOf_25 ?_
        refine rr_ior hG dX4_holdersOf_26 ?_
        refine r_istore_n (i := 2) hG dX4_holdersOf_27 rfl (by decide) rfl ?_
        refine r_iinc hG dX4_holdersOf_28 rfl (by decide) rfl ?_
        refine r_goto (tgt := 4) hG dX4_holdersOf_31 (by decide) ?_
        exact V_lv (ih (by omega)) ⟨rfl, rfl, (congrArg (fun x => some (Value.int x)) (by first | (simp_all [maskN]; done) | (simp_all [maskN]; exact mask_or _ (by omega)))), rfl, trivial⟩
  refine r_iconst hG dX4_holdersOf_0 ?_
  refine r_istore_n (i := 2) hG dX4_holdersOf_1 rfl (by decide) rfl ?_
  refine r_iconst hG dX4_holdersOf_2 ?_
  refine r_istore_n (i := 3) hG dX4_holdersOf_3 rfl (by decide) rfl ?_
  exact V_lv (L 0 (by omega)) ⟨rfl, rfl, rfl, rfl, trivial⟩
