def ushr (x : Int32) (n : Int) : Int32 := (x.toUInt32 >>> ((iI n).toUInt32 &&& Int32.toUInt32 31)).toInt32
def bcA (x : Int32) : Int32 := x - (ushr x 1 &&& iI 1431655765)
def bcB (x : Int32) : Int32 := (x &&& iI 858993459) + (ushr x 2 &&& iI 858993459)
def bcC (x : Int32) : Int32 := (x + ushr x 4) &&& iI 252645135
def bcD (x : Int32) : Int32 := x + ushr x 8
def bcE (x : Int32) : Int32 := x + ushr x 16
theorem bc_pop : ∀ k : Fin 1024, bcE (bcD (bcC (bcB (bcA (iI (k.val : Int)))))) &&& iI 63 = iI ((pop k.val : Nat) : Int) := by decide +kernel
theorem hyJ6_bitCount_0f7a4 : hyS yJ6_bitCount_0f7a4 1 := by decide +kernel
set_option maxHeartbeats 4000000 in
set_option maxRecDepth 100000 in
theorem c_J6_bitCount_0f7a4 (l : Launch) (D : va_G) (k : Nat) (hk : k < 1024) : Con l yJ6_bitCount_0f7a4 wsJ6_bitCount_0f7a4 0 D [] [.int (iI (k : Int))] (some (.int (iI ((pop k : Nat) : Int)))) (fun w => w = []) := by
  refine con_start (own := RJ6) (by decide) rfl rfl (Nat.le_of_ble_eq_true rfl) ?_
  intro G hG hE hl hD
  subst hl
  subst hD
  refine r_iload_n (i := 0) hG dJ6_bitCount_0f7a4_0 rfl rfl ?_
  refine r_iload_n (i := 0) hG dJ6_bitCount_0f7a4_1 rfl rfl ?_
  refine r_iconst hG dJ6_bitCount_0f7a4_2 ?_
  refine rr_iushr hG dJ6_bitCount_0f7a4_3 rfl ?_
  refine r_ldcw (n := 1431655765) hG (List.mem_of_getElem? (i := 1) rfl) rfl dJ6_bitCount_0f7a4_4 ?_
  refine rr_iand hG dJ6_bitCount_0f7a4_7 ?_
  refine rr_isub hG dJ6_bitCount_0f7a4_8 ?_
  refine r_istore_n (i := 0) hG dJ6_bitCount_0f7a4_9 rfl (by decide) rfl ?_
  refine V_lv (lv' := [(0, .int (bcA (iI (k : Int))))]) ?_ ⟨rfl, trivial⟩
  refine r_iload_n (i := 0) hG dJ6_bitCount_0f7a4_10 rfl rfl ?_
  refine r_ldcw (n := 858993459) hG (List.mem_of_getElem? (i := 2) rfl) rfl dJ6_bitCount_0f7a4_11 ?_
  refine rr_iand hG dJ6_bitCount_0f7a4_14 ?_
  refine r_iload_n (i := 0) hG dJ6_bitCount_0f7a4_15 rfl rfl ?_
  refine r_iconst hG dJ6_bitCount_0f7a4_16 ?_
  refine rr_iushr hG dJ6_bitCount_0f7a4_17 rfl ?_
  refine r_ldcw (n := 858993459) hG (List.mem_of_getElem? (i := 2) rfl) rfl dJ6_bitCount_0f7a4_18 ?_
  refine rr_iand hG dJ6_bitCount_0f7a4_21 ?_
  refine rr_iadd hG dJ6_bitCount_0f7a4_22 ?_
  refine r_istore_n (i := 0) hG dJ6_bitCount_0f7a4_23 rfl (by decide) rfl ?_
  refine V_lv (lv' := [(0, .int (bcB (bcA (iI (k : Int)))))]) ?_ ⟨rfl, trivial⟩
  refine r_iload_n (i := 0) hG dJ6_bitCount_0f7a4_24 rfl rfl ?_
  refine r_iload_n (i := 0) hG dJ6_bitCount_0f7a4_25 rfl rfl ?_
  refine r_iconst hG dJ6_bitCount_0f7a4_26 ?_
  refine rr_iushr hG dJ6_bitCount_0f7a4_27 rfl ?_
  refine rr_iadd hG dJ6_bitCount_0f7a4_28 ?_
  refine r_ldcw (n := 252645135) hG (List.mem_of_getElem? (i := 3) rfl) rfl dJ6_bitCount_0f7a4_29 ?_
  refine rr_iand hG dJ6_bitCount_0f7a4_32 ?_
  refine r_istore_n (i := 0) hG dJ6_bitCount_0f7a4_33 rfl (by decide) rfl ?_
  refine V_lv (lv' := [(0, .int (bcC (bcB (bcA (iI (k : Int))))))]) ?_ ⟨rfl, trivial⟩
  refine r_iload_n (i := 0) hG dJ6_bitCount_0f7a4_34 rfl rfl ?_
  refine r_iload_n (i := 0) hG dJ6_bitCount_0f7a4_35 rfl rfl ?_
  refine r_bipush hG dJ6_bitCount_0f7a4_36 rfl ?_
  refine rr_iushr hG dJ6_bitCount_0f7a4_38 rfl ?_
  refine rr_iadd hG dJ6_bitCount_0f7a4_39 ?_
  refine r_istore_n (i := 0) hG dJ6_bitCount_0f7a4_40 rfl (by decide) rfl ?_
  refine V_lv (lv' := [(0, .int (bcD (bcC (bcB (bcA (iI (k : Int)))))))]) ?_ ⟨rfl, trivial⟩
  refine r_iload_n (i := 0) hG dJ6_bitCount_0f7a4_41 rfl rfl ?_
  refine r_iload_n (i := 0) hG dJ6_bitCount_0f7a4_42 rfl rfl ?_
  refine r_bipush hG dJ6_bitCount_0f7a4_43 rfl ?_
  refine rr_iushr hG dJ6_bitCount_0f7a4_45 rfl ?_
  refine rr_iadd hG dJ6_bitCount_0f7a4_46 ?_
  refine r_istore_n (i := 0) hG dJ6_bitCount_0f7a4_47 rfl (by decide) rfl ?_
  refine V_lv (lv' := [(0, .int (bcE (bcD (bcC (bcB (bcA (iI (k : Int))))))))]) ?_ ⟨rfl, trivial⟩
  refine r_iload_n (i := 0) hG dJ6_bitCount_0f7a4_48 rfl rfl ?_
  refine r_bipush hG dJ6_bitCount_0f7a4_49 rfl ?_
  refine rr_iand hG dJ6_bitCount_0f7a4_51 ?_
  exact r_iret hG hE dJ6_bitCount_0f7a4_52 (bc_pop ⟨k, hk⟩) rfl
theorem kX6_count_10 : Cond.fieldLink RX6 10 "BreakSwaps" "live" "LBreakSwaps$Yard;" ∈ wsX6_count := List.mem_of_getElem? (i := 1) rfl
theorem kX6_count_158 : Cond.fieldLink RX6 158 "BreakSwaps$Yard" "size" "I" ∈ wsX6_count := List.mem_of_getElem? (i := 2) rfl
theorem kX6_count_40 : Cond.fieldLink RX6 40 "BreakSwaps" "tape" "LBreakSwaps$Tape;" ∈ wsX6_count := List.mem_of_getElem? (i := 3) rfl
theorem kX6_count_191 : Cond.fieldLink RX6 191 "BreakSwaps$Tape" "length" "I" ∈ wsX6_count := List.mem_of_getElem? (i := 4) rfl
theorem cX6_count_X3 : ∀ w ∈ wsX30, w ∈ wsX6_count := fun _ h => List.mem_cons_of_mem _ (List.mem_append_right _ h)
theorem cX6_count_X4 : ∀ w ∈ wsX40, w ∈ wsX6_count := fun _ h => List.mem_cons_of_mem _ (List.mem_append_left _ (List.mem_append_right _ h))
theorem cX6_count_X6 : ∀ w ∈ wsX60, w ∈ wsX6_count := fun _ h => List.mem_cons_of_mem _ (List.mem_append_left _ (List.mem_append_left _ (List.mem_append_right _ h)))
theorem hyX6_count : hyV yX6_count RX6 1 := by decide +kernel
set_option maxHeartbeats 4000000 in
set_option maxRecDepth 100000 in
theorem c_X6_count (l : Launch) (D : va_G) (a : Nat → Nat) (Z K R : YS) (C : Int → Int64) (YT : YS) (J : Nat → Int) (hT : TI (Z, K, R, C)) (w : Int) (hw : -2147483648 ≤ w ∧ w < 2147483648) : Con l yX6_count wsX6_count 2 D (bw D a Z K R C YT J) [.ref (a 0), .int (iI w)] (some (.int (iI ((s_count (Z, K, R, C) w).1)))) (fun ww => ∃ Y2 J2, ww = bwT D a (s_count (Z, K, R, C) w).2 Y2 J2) := by
  refine con_start (own := RX6) (by decide) rfl rfl (Nat.le_of_ble_eq_true rfl) ?_
  intro G hG hE hl hD
  subst hl
  subst hD
  have hI : Inv Z := hT.1.1
  have hH : Hol Z := hT.1.2.1
  have hN := hI.1
  have hr0 := hI.2.1
  have hu5 := hI.2.2.1
  have hrd : Z 5 0 ≤ 99999 := hT.1.2.2
  have hR0 : R 0 0 = 0 ∨ R 0 0 = 1 := hT.2.2.1.1
  have hR1 : 0 ≤ R 0 1 ∧ R 0 1 ≤ 120 := hT.2.2.1.2.1
  obtain ⟨pk, hpk, epk⟩ := orN_nat (H := Z 1) (Z 5 2).toNat (fun c hc => (Inv_c hI (c := (c : Int)) (by omega)).2.1)
  have epn : (orN (Z 1) (Z 5 2).toNat).toInt.toNat = pk := by rw [epk, iI_toInt (by omega)]; omega
  refine r_iload_n (i := 1) hG dX6_count_0 rfl rfl ?_
  rcases (show w = 0 ∨ w = 1 ∨ w = 2 ∨ w = 3 ∨ (w < 0 ∨ 3 < w) by omega) with c1 | c1 | c1 | c1 | c1
  · refine r_tsIn (tgt := 32) hG 0 c1 dX6_count_1 (by omega) rfl (by decide) ?_
    refine r_aload_n (i := 0) hG dX6_count_32 rfl rfl ?_
    refine r_get hG cX6_count_X6 0 0 rfl rfl (by decide) kX6_count_10 rfl dX6_count_33 ?_
    refine r_get hG cX6_count_X4 2 2 rfl rfl (by decide) kX6_count_158 rfl dX6_count_36 ?_
    exact r_iret hG hE dX6_count_39 (by unfold s_count; (try dsimp only); (repeat (first | rw [if_pos (by omega)] | rw [if_neg (by omega)])) <;> (first | rfl | skip)) ⟨YT, J, (by unfold s_count; (try dsimp only); (repeat (first | rw [if_pos (by omega)] | rw [if_neg (by omega)])) <;> (first | rfl | skip))⟩
  · refine r_tsIn (tgt := 40) hG 1 c1 dX6_count_1 (by omega) rfl (by decide) ?_
    refine r_aload_n (i := 0) hG dX6_count_40 rfl rfl ?_
    refine r_get hG cX6_count_X6 0 5 rfl rfl (by decide) kX6_count_40 rfl dX6_count_41 ?_
    refine r_get hG cX6_count_X3 28 1 rfl rfl (by decide) kX6_count_191 rfl dX6_count_44 ?_
    exact r_iret hG hE dX6_count_47 (by unfold s_count; (try dsimp only); (repeat (first | rw [if_pos (by omega)] | rw [if_neg (by omega)])) <;> (first | rfl | skip)) ⟨YT, J, (by unfold s_count; (try dsimp only); (repeat (first | rw [if_pos (by omega)] | rw [if_neg (by omega)])) <;> (first | rfl | skip))⟩
  · refine r_tsIn (tgt := 48) hG 2 c1 dX6_count_1 (by omega) rfl (by decide) ?_
    refine r_aload_n (i := 0) hG dX6_count_48 rfl rfl ?_
    refine r_get hG cX6_count_X6 0 0 rfl rfl (by decide) kX6_count_10 rfl dX6_count_49 ?_
    refine r_midi hG (c_X4_trustOfAll (g_l G) (g_D G) (fun i => a (2 + i)) (Z) ((J) 0) ((J) 1) ((J) 2) hI hH) (bobj (g_D G) a (R)) (yw (g_D G) (fun i => a (10 + i)) (K) ((J) 3) ((J) 4) ((J) 5) ++ (yw (g_D G) (fun i => a (18 + i)) (YT) ((J) 6) ((J) 7) ((J) 8) ++ (bestw (a 26) ((J) 9) ((J) 10) ++ (btxt (g_D G) a (R) (J) ++ bshs (g_D G) a (R) (C))))) rfl gX6_count_X4_trustOfAll rfl hyX4_trustOfAll rfl (by decide) (by decide) 0 rfl rfl rfl (Nat.le_of_ble_eq_true rfl) ⟨Nat.zero_le _, Nat.zero_le _⟩ dX6_count_52 ?_
    intro w hw
    subst hw
    refine V_ws (ws' := bw (g_D G) a (Z) (K) (R) (C) (YT) (J)) rfl ?_
    exact r_iret hG hE dX6_count_55 (by unfold s_count; (try dsimp only); (repeat (first | rw [if_pos (by omega)] | rw [if_neg (by omega)])) <;> (first | rfl | skip)) ⟨YT, J, (by unfold s_count; (try dsimp only); (repeat (first | rw [if_pos (by omega)] | rw [if_neg (by omega)])) <;> (first | rfl | skip))⟩
  · refine r_tsIn (tgt := 56) hG 3 c1 dX6_count_1 (by omega) rfl (by decide) ?_
    refine r_bipush hG dX6_count_56 rfl ?_
    refine r_aload_n (i := 0) hG dX6_count_58 rfl rfl ?_
    refine r_get hG cX6_count_X6 0 0 rfl rfl (by decide) kX6_count_10 rfl dX6_count_59 ?_
    refine r_midi hG (c_X4_thingsHeld (g_l G) (g_D G) (fun i => a (2 + i)) (Z) ((J) 0) ((J) 1) ((J) 2) hI) (bobj (g_D G) a (R)) (yw (g_D G) (fun i => a (10 + i)) (K) ((J) 3) ((J) 4) ((J) 5) ++ (yw (g_D G) (fun i => a (18 + i)) (YT) ((J) 6) ((J) 7) ((J) 8) ++ (bestw (a 26) ((J) 9) ((J) 10) ++ (btxt (g_D G) a (R) (J) ++ bshs (g_D G) a (R) (C))))) rfl gX6_count_X4_thingsHeld rfl hyX4_thingsHeld rfl (by decide) (by decide) 0 rfl rfl rfl (Nat.le_of_ble_eq_true rfl) ⟨Nat.zero_le _, Nat.zero_le _⟩ dX6_count_62 ?_
    intro w hw
    subst hw
    refine V_ws (ws' := bw (g_D G) a (Z) (K) (R) (C) (YT) (J)) rfl ?_
    refine V_top (x' := iI (pk : Int)) epk ?_
    refine r_call0i hG (c_J6_bitCount_0f7a4 (g_l G) (g_D G) pk hpk)  gX6_count_J6_bitCount_0f7a4 rfl hyJ6_bitCount_0f7a4 rfl (by decide) (by decide) rfl (Nat.le_of_ble_eq_true rfl) ⟨Nat.zero_le _, Nat.zero_le _⟩ dX6_count_65 ?_
    refine r_isub hG dX6_count_68 ?_
    exact r_iret hG hE dX6_count_69 (by unfold s_count; (try dsimp only); (repeat (first | rw [if_pos (by omega)] | rw [if_neg (by omega)])); rw [epn]) ⟨YT, J, (by unfold s_count; (try dsimp only); (repeat (first | rw [if_pos (by omega)] | rw [if_neg (by omega)])) <;> (first | rfl | skip))⟩
  · refine r_tsOut (tgt := 70) hG (by omega) dX6_count_1 c1 (by decide) ?_
    refine r_aload_n (i := 0) hG dX6_count_70 rfl rfl ?_
    refine r_iconst hG dX6_count_71 ?_
    refine r_callVi hG (c_X6_finding (g_l G) (g_D G) a (Z) (K) (R) (C) (YT) (J) 0 (by omega))  gX6_count_X6_finding rfl hyX6_finding rfl (by decide) (by decide) 0 rfl rfl rfl (Nat.le_of_ble_eq_true rfl) ⟨Nat.zero_le _, Nat.zero_le _⟩ dX6_count_72 (fun w hw => ?_)
    subst hw
    exact r_iret hG hE dX6_count_75 (by unfold s_count; (try dsimp only); (repeat (first | rw [if_pos (by omega)] | rw [if_neg (by omega)])) <;> (first | rfl | skip)) ⟨YT, J, (by unfold s_count; (try dsimp only); (repeat (first | rw [if_pos (by omega)] | rw [if_neg (by omega)])) <;> (first | rfl | skip))⟩
theorem kX6_feed_40 : Cond.fieldLink RX6 40 "BreakSwaps" "tape" "LBreakSwaps$Tape;" ∈ wsX6_feed := List.mem_of_getElem? (i := 1) rfl
theorem kX6_feed_191 : Cond.fieldLink RX6 191 "BreakSwaps$Tape" "length" "I" ∈ wsX6_feed := List.mem_of_getElem? (i := 2) rfl
theorem cX6_feed_X3 : ∀ w ∈ wsX30, w ∈ wsX6_feed := fun _ h => List.mem_cons_of_mem _ (List.mem_append_right _ h)
theorem cX6_feed_X6 : ∀ w ∈ wsX60, w ∈ wsX6_feed := fun _ h => List.mem_cons_of_mem _ (List.mem_append_left _ (List.mem_append_right _ h))
theorem hyX6_feed : hyV yX6_feed RX6 2 := by decide +kernel
set_option maxHeartbeats 4000000 in
set_option maxRecDepth 100000 in
theorem c_X6_feed (l : Launch) (D : va_G) (a : Nat → Nat) (Z K R : YS) (C : Int → Int64) (YT : YS) (J : Nat → Int) (hT : TI (Z, K, R, C)) (b n : Int) (hb : -2147483648 ≤ b ∧ b < 2147483648) (hn : -2147483648 ≤ n ∧ n < 2147483648) : Con l yX6_feed wsX6_feed 2 D (bw D a Z K R C YT J) [.ref (a 0), .int (iI b), .int (iI n)] (some (.int (iI ((s_feed (Z, K, R, C) b n).1)))) (fun ww => ∃ Y2 J2, ww = bwT D a (s_feed (Z, K, R, C) b n).2 Y2 J2) := by
  refine con_start (own := RX6) (by decide) rfl rfl (Nat.le_of_ble_eq_true rfl) ?_
  intro G hG hE hl hD
  subst hl
  subst hD
  have hI : Inv Z := hT.1.1
  have hH : Hol Z := hT.1.2.1
  have hN := hI.1
  have hr0 := hI.2.1
  have hu5 := hI.2.2.1
  have hrd : Z 5 0 ≤ 99999 := hT.1.2.2
  have hR0 : R 0 0 = 0 ∨ R 0 0 = 1 := hT.2.2.1.1
  have hR1 : 0 ≤ R 0 1 ∧ R 0 1 ≤ 120 := hT.2.2.1.2.1
  have L : (1 ≤ n ∧ n ≤ 4) → R 0 1 + n ≤ 120 → ∀ k : Nat, k ≤ 4 → ∀ R1 : YS, 0 ≤ R1 0 1 ∧ R1 0 1 + k ≤ 120 → fdN R1 b k = fdN R b n.toNat → V G 0 0 (bw (g_D G) a (Z) (K) (R1) (C) (YT) (J)) 39 [(0, .ref (a 0)), (1, .int (iI b)), (2, .int (iI n)), (3, .int (iI ((k : Int) - 1)))] [] := by
    intro hn4 hn5
    have e0 : s_feed (Z, K, R, C) b n = (R 0 1 + n, (Z, K, fdN R b n.toNat, C)) := by unfold s_feed; (try dsimp only); rw [if_pos hn4, if_pos hn5]; rfl
    intro k
    induction k with
    | zero =>
      intro _ R1 hR e
      have e2 : R1 = fdN R b n.toNat := e
      refine r_iload_n (i := 3) hG dX6_feed_39 rfl rfl ?_
      refine r_if_lt (tgt := 66) hG (by omega) dX6_feed_40 (by decide) (fun c40 => ?_) (fun c40 => ?_)
      · refine r_aload_n (i := 0) hG dX6_feed_66 rfl rfl ?_
        refine r_get hG cX6_feed_X6 0 5 rfl rfl (by decide) kX6_feed_40 rfl dX6_feed_67 ?_
        refine r_get hG cX6_feed_X3 28 1 rfl rfl (by decide) kX6_feed_191 rfl dX6_feed_70 ?_
        exact r_iret hG hE dX6_feed_73 (by rw [e0, e2, fdN_01]; exact congrArg iI (by (try dsimp only); omega)) ⟨YT, J, by rw [e0, e2]; rfl⟩
      · exact absurd c40 (by omega)
    | succ k ih =>
      intro hk4 R1 hR e
      refine V_lv (lv' := [(0, .ref (a 0)), (1, .int (iI b)), (2, .int (iI n)), (3, .int (iI (k : Int)))]) ?_ ⟨rfl, rfl, rfl, congrArg (fun v => some (Value.int (iI v))) (by omega), trivial⟩
      refine r_iload_n (i := 3) hG dX6_feed_39 rfl rfl ?_
      refine r_if_lt (tgt := 66) hG (by omega) dX6_feed_40 (by decide) (fun c40 => ?_) (fun c40 => ?_)
      · exact absurd c40 (by omega)
      · refine r_aload_n (i := 0) hG dX6_feed_43 rfl rfl ?_
        refine r_get hG cX6_feed_X6 0 5 rfl rfl (by decide) kX6_feed_40 rfl dX6_feed_44 ?_
        refine r_iload_n (i := 1) hG dX6_feed_47 rfl rfl ?_
        refine r_bipush hG dX6_feed_48 rfl ?_
        refine r_iload_n (i := 3) hG dX6_feed_50 rfl rfl ?_
        refine r_imul hG dX6_feed_51 ?_
        refine rr_ishr hG dX6_feed_52 ?_
        refine r_sipush hG dX6_feed_53 rfl ?_
        refine rr_iand hG dX6_feed_56 ?_
        refine V_top (x' := iI (byteK b k)) (iI_of _).symm ?_
        refine r_midv hG (c_X3_append (g_l G) (g_D G) (fun i => a (28 + i)) ((R1) 2) ((R1) 0 1) ((J) 11) ((J) 12) ((J) 13) ((J) 14) (by omega) (byteK b k)) (bobj (g_D G) a (R1) ++ (yw (g_D G) (fun i => a (2 + i)) (Z) ((J) 0) ((J) 1) ((J) 2) ++ (yw (g_D G) (fun i => a (10 + i)) (K) ((J) 3) ((J) 4) ((J) 5) ++ (yw (g_D G) (fun i => a (18 + i)) (YT) ((J) 6) ((J) 7) ((J) 8) ++ (bestw (a 26) ((J) 9) ((J) 10) ++ [(a 27, .inr (4, [.ref (a 28)]))]))))) (bshs (g_D G) a (R1) (C)) rfl gX6_feed_X3_append rfl hyX3_append rfl (by decide) (by decide) 0 rfl rfl rfl (Nat.le_of_ble_eq_true rfl) ⟨Nat.zero_le _, Nat.zero_le _⟩ dX6_feed_57 ?_
        intro w hw
        subst hw
        refine V_ws (ws' := bw (g_D G) a (Z) (K) (upY (upY R1 2 (R1 0 1) (byteK b k)) 0 1 (R1 0 1 + 1)) (C) (YT) (J)) rfl ?_
        refine r_iinc hG dX6_feed_60 rfl (by decide) rfl ?_
        refine r_goto (tgt := 39) hG dX6_feed_63 (by decide) ?_
        exact V_lv (ih (by omega) _ (by show 0 ≤ R1 0 1 + 1 ∧ R1 0 1 + 1 + (k : Int) ≤ 120; omega) e) ⟨rfl, rfl, rfl, rfl, trivial⟩
  refine r_iload_n (i := 2) hG dX6_feed_0 rfl rfl ?_
  refine r_iconst hG dX6_feed_1 ?_
  refine r_iconst hG dX6_feed_2 ?_
  refine r_call0i hG (c_X6_isWithin (g_l G) (g_D G) _ _ _ (by omega) (by omega) (by omega))  gX6_feed_X6_isWithin rfl hyX6_isWithin rfl (by decide) (by decide) rfl (Nat.le_of_ble_eq_true rfl) ⟨Nat.zero_le _, Nat.zero_le _⟩ dX6_feed_3 ?_
  refine rb_if_ne (tgt := 15) hG dX6_feed_6 (by decide) (fun c6 => ?_) (fun c6 => ?_)
  · try simp only [decide_eq_true_eq, decide_eq_false_iff_not] at c6
    refine r_aload_n (i := 0) hG dX6_feed_15 rfl rfl ?_
    refine r_get hG cX6_feed_X6 0 5 rfl rfl (by decide) kX6_feed_40 rfl dX6_feed_16 ?_
    refine r_get hG cX6_feed_X3 28 1 rfl rfl (by decide) kX6_feed_191 rfl dX6_feed_19 ?_
    refine r_iload_n (i := 2) hG dX6_feed_22 rfl rfl ?_
    refine r_iadd hG dX6_feed_23 ?_
    refine r_bipush hG dX6_feed_24 rfl ?_
    refine r_icmp_le (tgt := 35) hG (by omega) (by omega) dX6_feed_26 (by decide) (fun c26 => ?_) (fun c26 => ?_)
    · refine r_iload_n (i := 2) hG dX6_feed_35 rfl rfl ?_
      refine r_iconst hG dX6_feed_36 ?_
      refine r_isub hG dX6_feed_37 ?_
      refine r_istore_n (i := 3) hG dX6_feed_38 rfl (by decide) rfl ?_
      exact V_lv (L (by omega) (by omega) n.toNat (by omega) R (by omega) rfl) ⟨rfl, rfl, rfl, congrArg (fun v => some (Value.int (iI v))) (by omega), trivial⟩
    · refine r_aload_n (i := 0) hG dX6_feed_29 rfl rfl ?_
      refine r_iconst hG dX6_feed_30 ?_
      refine r_callVi hG (c_X6_finding (g_l G) (g_D G) a (Z) (K) (R) (C) (YT) (J) 1 (by omega))  gX6_feed_X6_finding rfl hyX6_finding rfl (by decide) (by decide) 0 rfl rfl rfl (Nat.le_of_ble_eq_true rfl) ⟨Nat.zero_le _, Nat.zero_le _⟩ dX6_feed_31 (fun w hw => ?_)
      subst hw
      exact r_iret hG hE dX6_feed_34 (by unfold s_feed; (try dsimp only); (repeat (first | rw [if_pos (by omega)] | rw [if_neg (by omega)])) <;> (first | rfl | skip)) ⟨YT, J, (by unfold s_feed; (try dsimp only); (repeat (first | rw [if_pos (by omega)] | rw [if_neg (by omega)])) <;> (first | rfl | skip))⟩
  · try simp only [decide_eq_true_eq, decide_eq_false_iff_not] at c6
    refine r_aload_n (i := 0) hG dX6_feed_9 rfl rfl ?_
    refine r_iconst hG dX6_feed_10 ?_
    refine r_callVi hG (c_X6_finding (g_l G) (g_D G) a (Z) (K) (R) (C) (YT) (J) 0 (by omega))  gX6_feed_X6_finding rfl hyX6_finding rfl (by decide) (by decide) 0 rfl rfl rfl (Nat.le_of_ble_eq_true rfl) ⟨Nat.zero_le _, Nat.zero_le _⟩ dX6_feed_11 (fun w hw => ?_)
    subst hw
    exact r_iret hG hE dX6_feed_14 (by unfold s_feed; (try dsimp only); (repeat (first | rw [if_pos (by omega)] | rw [if_neg (by omega)])) <;> (first | rfl | skip)) ⟨YT, J, (by unfold s_feed; (try dsimp only); (repeat (first | rw [if_pos (by omega)] | rw [if_neg (by omega)])) <;> (first | rfl | skip))⟩
theorem kX6_wipe_40 : Cond.fieldLink RX6 40 "BreakSwaps" "tape" "LBreakSwaps$Tape;" ∈ wsX6_wipe := List.mem_of_getElem? (i := 1) rfl
theorem kX6_wipe_191 : Cond.fieldLink RX6 191 "BreakSwaps$Tape" "length" "I" ∈ wsX6_wipe := List.mem_of_getElem? (i := 2) rfl
theorem cX6_wipe_X3 : ∀ w ∈ wsX30, w ∈ wsX6_wipe := fun _ h => List.mem_cons_of_mem _ (List.mem_append_right _ h)
theorem cX6_wipe_X6 : ∀ w ∈ wsX60, w ∈ wsX6_wipe := fun _ h => List.mem_cons_of_mem _ (List.mem_append_left _ (List.mem_append_right _ h))
theorem hyX6_wipe : hyV yX6_wipe RX6 0 := by decide +kernel
set_option maxHeartbeats 4000000 in
set_option maxRecDepth 100000 in
theorem c_X6_wipe (l : Launch) (D : va_G) (a : Nat → Nat) (Z K R : YS) (C : Int → Int64) (YT : YS) (J : Nat → Int) (hT : TI (Z, K, R, C))  : Con l yX6_wipe wsX6_wipe 0 D (bw D a Z K R C YT J) [.ref (a 0)] (some (.int (iI ((s_wipe (Z, K, R, C)).1)))) (fun ww => ∃ Y2 J2, ww = bwT D a (s_wipe (Z, K, R, C)).2 Y2 J2) := by
  refine con_start (own := RX6) (by decide) rfl rfl (Nat.le_of_ble_eq_true rfl) ?_
  intro G hG hE hl hD
  subst hl
  subst hD
  have hI : Inv Z := hT.1.1
  have hH : Hol Z := hT.1.2.1
  have hN := hI.1
  have hr0 := hI.2.1
  have hu5 := hI.2.2.1
  have hrd : Z 5 0 ≤ 99999 := hT.1.2.2
  refine r_aload_n (i := 0) hG dX6_wipe_0 rfl rfl ?_
  refine r_get hG cX6_wipe_X6 0 5 rfl rfl (by decide) kX6_wipe_40 rfl dX6_wipe_1 ?_
  refine r_get hG cX6_wipe_X3 28 1 rfl rfl (by decide) kX6_wipe_191 rfl dX6_wipe_4 ?_
  refine r_istore_n (i := 1) hG dX6_wipe_7 rfl (by decide) rfl ?_
  refine r_aload_n (i := 0) hG dX6_wipe_8 rfl rfl ?_
  refine r_get hG cX6_wipe_X6 0 5 rfl rfl (by decide) kX6_wipe_40 rfl dX6_wipe_9 ?_
  refine r_iconst hG dX6_wipe_12 ?_
  refine r_put hG cX6_wipe_X3 28 1 tyX3 tyX3_ok nmX3 rfl rfl (by decide) kX6_wipe_191 rfl rfl rfl (Nat.le_of_ble_eq_true rfl) dX6_wipe_13 rfl ?_
  refine r_iload_n (i := 1) hG dX6_wipe_16 rfl rfl ?_
  exact r_iret hG hE dX6_wipe_17 rfl ⟨YT, J, rfl⟩
theorem kX6_image_16 : Cond.fieldLink RX6 16 "BreakSwaps" "kept" "LBreakSwaps$Yard;" ∈ wsX6_image := List.mem_of_getElem? (i := 1) rfl
theorem kX6_image_10 : Cond.fieldLink RX6 10 "BreakSwaps" "live" "LBreakSwaps$Yard;" ∈ wsX6_image := List.mem_of_getElem? (i := 2) rfl
theorem kX6_image_51 : Cond.fieldLink RX6 51 "BreakSwaps" "isKept" "Z" ∈ wsX6_image := List.mem_of_getElem? (i := 3) rfl
theorem cX6_image_X6 : ∀ w ∈ wsX60, w ∈ wsX6_image := fun _ h => List.mem_cons_of_mem _ (List.mem_append_left _ (List.mem_append_right _ h))
theorem hyX6_image : hyV yX6_image RX6 0 := by decide +kernel
set_option maxHeartbeats 4000000 in
set_option maxRecDepth 100000 in
theorem c_X6_image (l : Launch) (D : va_G) (a : Nat → Nat) (Z K R : YS) (C : Int → Int64) (YT : YS) (J : Nat → Int) (hT : TI (Z, K, R, C))  : Con l yX6_image wsX6_image 2 D (bw D a Z K R C YT J) [.ref (a 0)] (some (.int (iI ((s_image (Z, K, R, C)).1)))) (fun ww => ∃ Y2 J2, ww = bwT D a (s_image (Z, K, R, C)).2 Y2 J2) := by
  refine con_start (own := RX6) (by decide) rfl rfl (Nat.le_of_ble_eq_true rfl) ?_
  intro G hG hE hl hD
  subst hl
  subst hD
  have hI : Inv Z := hT.1.1
  have hH : Hol Z := hT.1.2.1
  have hN := hI.1
  have hr0 := hI.2.1
  have hu5 := hI.2.2.1
  have hrd : Z 5 0 ≤ 99999 := hT.1.2.2
  refine r_aload_n (i := 0) hG dX6_image_0 rfl rfl ?_
  refine r_get hG cX6_image_X6 0 1 rfl rfl (by decide) kX6_image_16 rfl dX6_image_1 ?_
  refine r_aload_n (i := 0) hG dX6_image_4 rfl rfl ?_
  refine r_get hG cX6_image_X6 0 0 rfl rfl (by decide) kX6_image_10 rfl dX6_image_5 ?_
  refine r_becK hG gX6_image_X4_become (by decide) (Nat.le_of_ble_eq_true rfl) ⟨Nat.zero_le _, Nat.zero_le _⟩ dX6_image_8 ?_
  refine r_aload_n (i := 0) hG dX6_image_11 rfl rfl ?_
  refine r_iconst hG dX6_image_12 ?_
  refine r_put hG cX6_image_X6 0 8 tyX6 tyX6_ok nmX6 rfl rfl (by decide) kX6_image_51 rfl rfl rfl (Nat.le_of_ble_eq_true rfl) dX6_image_13 rfl ?_
  refine r_iconst hG dX6_image_16 ?_
  exact r_iret hG hE dX6_image_17 rfl ⟨YT, jn J 5 0, rfl⟩
theorem kX6_undo_51 : Cond.fieldLink RX6 51 "BreakSwaps" "isKept" "Z" ∈ wsX6_undo := List.mem_of_getElem? (i := 1) rfl
theorem kX6_undo_10 : Cond.fieldLink RX6 10 "BreakSwaps" "live" "LBreakSwaps$Yard;" ∈ wsX6_undo := List.mem_of_getElem? (i := 2) rfl
theorem kX6_undo_16 : Cond.fieldLink RX6 16 "BreakSwaps" "kept" "LBreakSwaps$Yard;" ∈ wsX6_undo := List.mem_of_getElem? (i := 3) rfl
theorem kX6_undo_158 : Cond.fieldLink RX6 158 "BreakSwaps$Yard" "size" "I" ∈ wsX6_undo := List.mem_of_getElem? (i := 4) rfl
theorem cX6_undo_X4 : ∀ w ∈ wsX40, w ∈ wsX6_undo := fun _ h => List.mem_cons_of_mem _ (List.mem_append_right _ h)
theorem cX6_undo_X6 : ∀ w ∈ wsX60, w ∈ wsX6_undo := fun _ h => List.mem_cons_of_mem _ (List.mem_append_left _ (List.mem_append_right _ h))
theorem hyX6_undo : hyV yX6_undo RX6 0 := by decide +kernel
set_option maxHeartbeats 4000000 in
set_option maxRecDepth 100000 in
theorem c_X6_undo (l : Launch) (D : va_G) (a : Nat → Nat) (Z K R : YS) (C : Int → Int64) (YT : YS) (J : Nat → Int) (hT : TI (Z, K, R, C))  : Con l yX6_undo wsX6_undo 2 D (bw D a Z K R C YT J) [.ref (a 0)] (some (.int (iI ((s_undo (Z, K, R, C)).1)))) (fun ww => ∃ Y2 J2, ww = bwT D a (s_undo (Z, K, R, C)).2 Y2 J2) := by
  refine con_start (own := RX6) (by decide) rfl rfl (Nat.le_of_ble_eq_true rfl) ?_
  intro G hG hE hl hD
  subst hl
  subst hD
  have hI : Inv Z := hT.1.1
  have hH : Hol Z := hT.1.2.1
  have hN := hI.1
  have hr0 := hI.2.1
  have hu5 := hI.2.2.1
  have hrd : Z 5 0 ≤ 99999 := hT.1.2.2
  have hR0 : R 0 0 = 0 ∨ R 0 0 = 1 := hT.2.2.1.1
  have hR1 : 0 ≤ R 0 1 ∧ R 0 1 ≤ 120 := hT.2.2.1.2.1
  refine r_aload_n (i := 0) hG dX6_undo_0 rfl rfl ?_
  refine r_get hG cX6_undo_X6 0 8 rfl rfl (by decide) kX6_undo_51 rfl dX6_undo_1 ?_
  refine r_if_ne (tgt := 13) hG (by omega) dX6_undo_4 (by decide) (fun c4 => ?_) (fun c4 => ?_)
  · refine r_aload_n (i := 0) hG dX6_undo_13 rfl rfl ?_
    refine r_get hG cX6_undo_X6 0 0 rfl rfl (by decide) kX6_undo_10 rfl dX6_undo_14 ?_
    refine r_aload_n (i := 0) hG dX6_undo_17 rfl rfl ?_
    refine r_get hG cX6_undo_X6 0 1 rfl rfl (by decide) kX6_undo_16 rfl dX6_undo_18 ?_
    refine r_becLK hG gX6_undo_X4_become (by decide) (Nat.le_of_ble_eq_true rfl) ⟨Nat.zero_le _, Nat.zero_le _⟩ dX6_undo_21 ?_
    refine r_aload_n (i := 0) hG dX6_undo_24 rfl rfl ?_
    refine r_get hG cX6_undo_X6 0 0 rfl rfl (by decide) kX6_undo_10 rfl dX6_undo_25 ?_
    refine r_get hG cX6_undo_X4 2 2 rfl rfl (by decide) kX6_undo_158 rfl dX6_undo_28 ?_
    exact r_iret hG hE dX6_undo_31 (by unfold s_undo; dsimp only; rw [if_neg (by omega)]) ⟨YT, jn J 2 0, by unfold s_undo; dsimp only; rw [if_neg (by omega)]; rfl⟩
  · refine r_aload_n (i := 0) hG dX6_undo_7 rfl rfl ?_
    refine r_iconst hG dX6_undo_8 ?_
    refine r_callVi hG (c_X6_finding (g_l G) (g_D G) a (Z) (K) (R) (C) (YT) (J) 3 (by omega))  gX6_undo_X6_finding rfl hyX6_finding rfl (by decide) (by decide) 0 rfl rfl rfl (Nat.le_of_ble_eq_true rfl) ⟨Nat.zero_le _, Nat.zero_le _⟩ dX6_undo_9 (fun w hw => ?_)
    subst hw
    exact r_iret hG hE dX6_undo_12 (by unfold s_undo; dsimp only; rw [if_pos (by omega)]; rfl) ⟨YT, J, by unfold s_undo; dsimp only; rw [if_pos (by omega)]; rfl⟩
theorem kX6_tear_51 : Cond.fieldLink RX6 51 "BreakSwaps" "isKept" "Z" ∈ wsX6_tear := List.mem_of_getElem? (i := 1) rfl
theorem cX6_tear_X6 : ∀ w ∈ wsX60, w ∈ wsX6_tear := fun _ h => List.mem_cons_of_mem _ (List.mem_append_right _ h)
theorem hyX6_tear : hyV yX6_tear RX6 0 := by decide +kernel
set_option maxHeartbeats 4000000 in
set_option maxRecDepth 100000 in
theorem c_X6_tear (l : Launch) (D : va_G) (a : Nat → Nat) (Z K R : YS) (C : Int → Int64) (YT : YS) (J : Nat → Int) (hT : TI (Z, K, R, C))  : Con l yX6_tear wsX6_tear 0 D (bw D a Z K R C YT J) [.ref (a 0)] (some (.int (iI ((s_tear (Z, K, R, C)).1)))) (fun ww => ∃ Y2 J2, ww = bwT D a (s_tear (Z, K, R, C)).2 Y2 J2) := by
  refine con_start (own := RX6) (by decide) rfl rfl (Nat.le_of_ble_eq_true rfl) ?_
  intro G hG hE hl hD
  subst hl
  subst hD
  have hI : Inv Z := hT.1.1
  have hH : Hol Z := hT.1.2.1
  have hN := hI.1
  have hr0 := hI.2.1
  have hu5 := hI.2.2.1
  have hrd : Z 5 0 ≤ 99999 := hT.1.2.2
  have hR0 : R 0 0 = 0 ∨ R 0 0 = 1 := hT.2.2.1.1
  have hR1 : 0 ≤ R 0 1 ∧ R 0 1 ≤ 120 := hT.2.2.1.2.1
  refine r_aload_n (i := 0) hG dX6_tear_0 rfl rfl ?_
  refine r_get hG cX6_tear_X6 0 8 rfl rfl (by decide) kX6_tear_51 rfl dX6_tear_1 ?_
  refine r_if_eq (tgt := 11) hG (by omega) dX6_tear_4 (by decide) (fun c4 => ?_) (fun c4 => ?_)
  · refine r_iconst hG dX6_tear_11 ?_
    refine r_istore_n (i := 1) hG dX6_tear_12 rfl (by decide) rfl ?_
    refine r_aload_n (i := 0) hG dX6_tear_13 rfl rfl ?_
    refine r_iconst hG dX6_tear_14 ?_
    refine r_put hG cX6_tear_X6 0 8 tyX6 tyX6_ok nmX6 rfl rfl (by decide) kX6_tear_51 rfl rfl rfl (Nat.le_of_ble_eq_true rfl) dX6_tear_15 rfl ?_
    refine r_iload_n (i := 1) hG dX6_tear_18 rfl rfl ?_
    exact r_iret hG hE dX6_tear_19 (congrArg iI (show _ = R 0 0 by omega)) ⟨YT, J, rfl⟩
  · refine r_iconst hG dX6_tear_7 ?_
    refine r_goto (tgt := 12) hG dX6_tear_8 (by decide) ?_
    refine r_istore_n (i := 1) hG dX6_tear_12 rfl (by decide) rfl ?_
    refine r_aload_n (i := 0) hG dX6_tear_13 rfl rfl ?_
    refine r_iconst hG dX6_tear_14 ?_
    refine r_put hG cX6_tear_X6 0 8 tyX6 tyX6_ok nmX6 rfl rfl (by decide) kX6_tear_51 rfl rfl rfl (Nat.le_of_ble_eq_true rfl) dX6_tear_15 rfl ?_
    refine r_iload_n (i := 1) hG dX6_tear_18 rfl rfl ?_
    exact r_iret hG hE dX6_tear_19 (congrArg iI (show _ = R 0 0 by omega)) ⟨YT, J, rfl⟩
theorem kX6_status_47 : Cond.fieldLink RX6 47 "BreakSwaps" "found" "[I" ∈ wsX6_status := List.mem_of_getElem? (i := 1) rfl
theorem cX6_status_X6 : ∀ w ∈ wsX60, w ∈ wsX6_status := fun _ h => List.mem_cons_of_mem _ (List.mem_append_right _ h)
theorem hyX6_status : hyV yX6_status RX6 1 := by decide +kernel
set_option maxHeartbeats 4000000 in
set_option maxRecDepth 100000 in
theorem c_X6_status (l : Launch) (D : va_G) (a : Nat → Nat) (Z K R : YS) (C : Int → Int64) (YT : YS) (J : Nat → Int) (hT : TI (Z, K, R, C)) (w : Int) (hw : -2147483648 ≤ w ∧ w < 2147483648) : Con l yX6_status wsX6_status 2 D (bw D a Z K R C YT J) [.ref (a 0), .int (iI w)] (some (.int (iI ((s_status (Z, K, R, C) w).1)))) (fun ww => ∃ Y2 J2, ww = bwT D a (s_status (Z, K, R, C) w).2 Y2 J2) := by
  refine con_start (own := RX6) (by decide) rfl rfl (Nat.le_of_ble_eq_true rfl) ?_
  intro G hG hE hl hD
  subst hl
  subst hD
  have hI : Inv Z := hT.1.1
  have hH : Hol Z := hT.1.2.1
  have hN := hI.1
  have hr0 := hI.2.1
  have hu5 := hI.2.2.1
  have hrd : Z 5 0 ≤ 99999 := hT.1.2.2
  have L : w = -1 → ∀ i : Nat, i ≤ 7 → V G 0 0 (bw (g_D G) a Z K R C YT J) 9 [(0, .ref (a 0)), (1, .int (iI w)), (2, .int (iI (sumN (R 1) i))), (3, .int (iI (i : Int)))] [] := by
    intro hw1
    refine down (fun i hi ih => ?_)
    refine r_iload_n (i := 3) hG dX6_status_9 rfl rfl ?_
    refine r_bipush hG dX6_status_10 rfl ?_
    refine r_icmp_ge (tgt := 30) hG (by omega) (by omega) dX6_status_12 (by decide) (fun c12 => ?_) (fun c12 => ?_)
    · refine r_iload_n (i := 2) hG dX6_status_30 rfl rfl ?_
      have ei : i = 7 := by omega
      subst ei
      exact r_iret hG hE dX6_status_31 (by unfold s_status; (try dsimp only); rw [if_pos hw1]) ⟨YT, J, by unfold s_status; (try dsimp only); rw [if_pos hw1]; rfl⟩
    · refine r_iload_n (i := 2) hG dX6_status_15 rfl rfl ?_
      refine r_aload_n (i := 0) hG dX6_status_16 rfl rfl ?_
      refine r_get hG cX6_status_X6 0 7 rfl rfl (by decide) kX6_status_47 rfl dX6_status_17 ?_
      refine r_iload_n (i := 3) hG dX6_status_20 rfl rfl ?_
      refine r_iald hG 1 rfl (by omega) (by decide) dX6_status_21 ?_
      refine r_iadd hG dX6_status_22 ?_
      refine r_istore_n (i := 2) hG dX6_status_23 rfl (by decide) rfl ?_
      refine r_iinc hG dX6_status_24 rfl (by decide) rfl ?_
      refine r_goto (tgt := 9) hG dX6_status_27 (by decide) ?_
      exact V_lv (ih (by omega)) ⟨rfl, rfl, rfl, rfl, trivial⟩
  refine r_iload_n (i := 1) hG dX6_status_0 rfl rfl ?_
  refine r_iconst hG dX6_status_1 ?_
  refine r_icmp_ne (tgt := 32) hG (by omega) (by omega) dX6_status_2 (by decide) (fun c2 => ?_) (fun c2 => ?_)
  · refine r_iload_n (i := 1) hG dX6_status_32 rfl rfl ?_
    refine r_iconst hG dX6_status_33 ?_
    refine r_bipush hG dX6_status_34 rfl ?_
    refine r_call0i hG (c_X6_isWithin (g_l G) (g_D G) _ _ _ (by omega) (by omega) (by omega))  gX6_status_X6_isWithin rfl hyX6_isWithin rfl (by decide) (by decide) rfl (Nat.le_of_ble_eq_true rfl) ⟨Nat.zero_le _, Nat.zero_le _⟩ dX6_status_36 ?_
    refine rb_if_eq (tgt := 51) hG dX6_status_39 (by decide) (fun c39 => ?_) (fun c39 => ?_)
    · try simp only [decide_eq_true_eq, decide_eq_false_iff_not] at c39
      refine r_aload_n (i := 0) hG dX6_status_51 rfl rfl ?_
      refine r_iconst hG dX6_status_52 ?_
      refine r_callVi hG (c_X6_finding (g_l G) (g_D G) a (Z) (K) (R) (C) (YT) (J) 0 (by omega))  gX6_status_X6_finding rfl hyX6_finding rfl (by decide) (by decide) 0 rfl rfl rfl (Nat.le_of_ble_eq_true rfl) ⟨Nat.zero_le _, Nat.zero_le _⟩ dX6_status_53 (fun w hw => ?_)
      subst hw
      exact r_iret hG hE dX6_status_56 (by unfold s_status; (try dsimp only); (repeat (first | rw [if_pos (by omega)] | rw [if_neg (by omega)])) <;> (first | rfl | skip)) ⟨YT, J, (by unfold s_status; (try dsimp only); (repeat (first | rw [if_pos (by omega)] | rw [if_neg (by omega)])) <;> (first | rfl | skip))⟩
    · try simp only [decide_eq_true_eq, decide_eq_false_iff_not] at c39
      refine r_aload_n (i := 0) hG dX6_status_42 rfl rfl ?_
      refine r_get hG cX6_status_X6 0 7 rfl rfl (by decide) kX6_status_47 rfl dX6_status_43 ?_
      refine r_iload_n (i := 1) hG dX6_status_46 rfl rfl ?_
      refine r_iald hG 1 rfl (by omega) (by decide) dX6_status_47 ?_
      refine r_goto (tgt := 56) hG dX6_status_48 (by decide) ?_
      exact r_iret hG hE dX6_status_56 (by unfold s_status; (try dsimp only); (repeat (first | rw [if_pos (by omega)] | rw [if_neg (by omega)])) <;> (first | rfl | skip)) ⟨YT, J, (by unfold s_status; (try dsimp only); (repeat (first | rw [if_pos (by omega)] | rw [if_neg (by omega)])) <;> (first | rfl | skip))⟩
  · refine r_iconst hG dX6_status_5 ?_
    refine r_istore_n (i := 2) hG dX6_status_6 rfl (by decide) rfl ?_
    refine r_iconst hG dX6_status_7 ?_
    refine r_istore_n (i := 3) hG dX6_status_8 rfl (by decide) rfl ?_
    exact V_lv (L (by omega) 0 (by omega)) ⟨rfl, rfl, rfl, rfl, trivial⟩
