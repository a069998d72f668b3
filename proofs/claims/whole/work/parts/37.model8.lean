theorem hyX7_trust : hyV yX7_trust RX7 3 := by decide +kernel
set_option maxHeartbeats 4000000 in
set_option maxRecDepth 100000 in
theorem c_X7_trust (l : Launch) (D : va_G) (a : Nat → Nat) (Z K U R : YS) (C : Int → Int64) (hT : TI (Z, K, R, C)) (c n v : Int) (hc : -2147483648 ≤ c ∧ c < 2147483648) (hn : -2147483648 ≤ n ∧ n < 2147483648) (hv : -2147483648 ≤ v ∧ v < 2147483648) : Con l yX7_trust wsX7_trust 10 D (mw D a Z K U R C) [.ref (a 0), .int (iI c), .int (iI n), .int (iI v)] (some (.int (iI ((s_trust (Z, K, R, C) c n v).1)))) (fun ww => ∃ U2, ww = mwT D a (s_trust (Z, K, R, C) c n v).2 U2) := by
  refine con_start (own := RX7) (by decide) rfl rfl (Nat.le_of_ble_eq_true rfl) ?_
  intro G hG hE hl hD
  subst hl
  subst hD
  have hI : Inv Z := hT.1.1
  have hN := hI.1
  have hr0 := hI.2.1
  have hu5 := hI.2.2.1
  have hrd : Z 5 0 ≤ 99999 := hT.1.2.2
  have K92 : ((0 ≤ c ∧ c < Z 5 2) ∧ (0 ≤ n ∧ n ≤ 40) ∧ -20 ≤ v ∧ v ≤ 40) → ∀ b : Int, -1 ≤ b ∧ b < 100 → leastN (trustF Z c n v) 100 = b → V G 0 0 (mw (g_D G) a Z K Z R C) 92 [(0, .ref (a 0)), (4, .int (iI b))] [] := by
    intro hoc b hbr hl
    have e0 : s_trust (Z, K, R, C) c n v = orFin (Z, K, R, C) 3 b := by rw [← hl]; exact if_pos (by (try dsimp only); omega)
    refine r_aload_n (i := 0) hG dX7_trust_92 rfl rfl ?_
    refine r_iload hG dX7_trust_93 rfl ?_
    refine r_callVi hG (c_X7_orNone (g_l G) (g_D G) a Z K Z R C _ (by omega))  gX7_trust_X7_orNone rfl hyX7_orNone rfl (by decide) (by decide) 0 rfl rfl rfl (Nat.le_of_ble_eq_true rfl) ⟨Nat.zero_le _, Nat.zero_le _⟩ dX7_trust_95 (fun w hw => ?_)
    subst hw
    by_cases hb : b < 0
    · exact r_iret hG hE dX7_trust_98 (by rw [e0, orFin_neg hb, if_pos hb]; rfl) ⟨Z, by rw [e0, orFin_neg hb, if_pos hb]; rfl⟩
    · exact r_iret hG hE dX7_trust_98 (by rw [e0, orFin_pos hb, if_neg hb]) ⟨Z, by rw [e0, orFin_pos hb, if_neg hb]; rfl⟩
  have L : ((0 ≤ c ∧ c < Z 5 2) ∧ (0 ≤ n ∧ n ≤ 40) ∧ -20 ≤ v ∧ v ≤ 40) → ∀ i : Nat, i ≤ 100 → ∀ b : Int, ((b = -1 ∧ ∀ j : Nat, j < i → trustF Z c n v j = false) ∨ (∃ k : Nat, i = k + 1 ∧ b = k ∧ trustF Z c n v k = true ∧ ∀ j : Nat, j < k → trustF Z c n v j = false)) → V G 0 0 (mw (g_D G) a Z K Z R C) 48 [(0, .ref (a 0)), (1, .int (iI c)), (2, .int (iI n)), (3, .int (iI v)), (4, .int (iI b)), (5, .int (iI (i : Int)))] [] := by
    intro hoc
    refine down (fun i hi ih b hb => ?_)
    have hbr : -1 ≤ b ∧ b < 100 := by
      rcases hb with h | ⟨k, h⟩ <;> omega
    have hgo := fun (o : Int) (ho : 0 ≤ o ∧ o ≤ 99) => goZ_ok (Inv_up3 hI (i := c) (v := o) (by omega)) n.toNat
    have J86 : i < 100 → ∀ b2_ : Int, ((b2_ = -1 ∧ ∀ j : Nat, j < i + 1 → trustF Z c n v j = false) ∨ (∃ k : Nat, i + 1 = k + 1 ∧ b2_ = k ∧ trustF Z c n v k = true ∧ ∀ j : Nat, j < k → trustF Z c n v j = false)) → V G 0 0 (mw (g_D G) a Z K Z R C) 86 [(0, .ref (a 0)), (1, .int (iI c)), (2, .int (iI n)), (3, .int (iI v)), (4, .int (iI b2_)), (5, .int (iI (i : Int)))] [] := by
      intro hiN b2_ hb2
      refine r_iinc hG dX7_trust_86 rfl (by decide) rfl ?_
      refine r_goto (tgt := 48) hG dX7_trust_89 (by decide) ?_
      exact V_lv (ih hiN b2_ hb2) ⟨rfl, rfl, rfl, rfl, rfl, rfl, trivial⟩
    have hno : b < 0 → ∀ j : Nat, j < i → trustF Z c n v j = false := fun h => by
      rcases hb with h1 | ⟨k, h1⟩
      · exact h1.2
      · omega
    refine r_iload hG dX7_trust_48 rfl ?_
    refine r_bipush hG dX7_trust_50 rfl ?_
    refine r_icmp_gt (tgt := 92) hG (by omega) (by omega) dX7_trust_52 (by decide) (fun c52 => ?_) (fun c52 => ?_)
    · exact V_lv (K92 hoc b hbr (by
        rcases hb with h1 | ⟨k, h1, h2, h3, h4⟩
        · rw [h1.1]; exact leastN_none (fun j hj => h1.2 j (by omega))
        · rw [h2]; exact leastN_at h4 h3 (by omega))) ⟨rfl, rfl, trivial⟩
    · refine r_iload hG dX7_trust_55 rfl ?_
      refine r_if_ge (tgt := 92) hG (by omega) dX7_trust_57 (by decide) (fun c57 => ?_) (fun c57 => ?_)
      · exact V_lv (K92 hoc b hbr (by
          rcases hb with h1 | ⟨k, h1, h2, h3, h4⟩
          · rw [h1.1]; exact leastN_none (fun j hj => h1.2 j (by omega))
          · rw [h2]; exact leastN_at h4 h3 (by omega))) ⟨rfl, rfl, trivial⟩
      · refine r_aload_n (i := 0) hG dX7_trust_60 rfl rfl ?_
        refine r_iload_n (i := 1) hG dX7_trust_61 rfl rfl ?_
        refine r_iconst hG dX7_trust_62 ?_
        refine r_iload hG dX7_trust_63 rfl ?_
        refine r_callVv hG (c_put3 (g_l G) (g_D G) a Z K Z R C _ _ (by omega))  gX7_trust_X7_put rfl hyX7_put rfl (by decide) (by decide) 0 rfl rfl rfl (Nat.le_of_ble_eq_true rfl) ⟨Nat.zero_le _, Nat.zero_le _⟩ dX7_trust_65 (fun w hw => ?_)
        subst hw
        refine r_aload_n (i := 0) hG dX7_trust_68 rfl rfl ?_
        refine r_iload_n (i := 1) hG dX7_trust_69 rfl rfl ?_
        refine r_iload_n (i := 2) hG dX7_trust_70 rfl rfl ?_
        refine r_callVi hG (c_X7_gladOn (g_l G) (g_D G) a (upY Z 3 c i) K Z R C (Inv_up3 hI (by omega)) _ (by omega) (by show Z 5 0 + n < 2000000000; omega) _ (by omega))  gX7_trust_X7_gladOn rfl hyX7_gladOn rfl (by decide) (by decide) 0 rfl rfl rfl (Nat.le_of_ble_eq_true rfl) ⟨Nat.zero_le _, Nat.zero_le _⟩ dX7_trust_71 (fun w hw => ?_)
        subst hw
        refine r_iload_n (i := 3) hG dX7_trust_74 rfl rfl ?_
        refine r_icmp_lt (tgt := 83) hG (by have := glad_rng (hgo i (by omega)).1 (c := c) (by omega); omega) (by have := glad_rng (hgo i (by omega)).1 (c := c) (by omega); omega) dX7_trust_75 (by decide) (fun c75 => ?_) (fun c75 => ?_)
        · refine r_iconst hG dX7_trust_83 ?_
          refine r_istore hG dX7_trust_84 (by decide) rfl ?_
          first
            | exact V_lv (J86 (by omega) (i : Int) (Or.inr ⟨i, rfl, rfl, decide_eq_true (by omega), hno (by omega)⟩)) ⟨rfl, rfl, rfl, rfl, rfl, rfl, trivial⟩
            | exact V_lv (J86 (by omega) (-1) (Or.inl ⟨rfl, lt_s (hno (by omega)) (decide_eq_false (by omega))⟩)) ⟨rfl, rfl, rfl, rfl, rfl, rfl, trivial⟩
        · refine r_iload hG dX7_trust_78 rfl ?_
          refine r_goto (tgt := 84) hG dX7_trust_80 (by decide) ?_
          refine r_istore hG dX7_trust_84 (by decide) rfl ?_
          first
            | exact V_lv (J86 (by omega) (i : Int) (Or.inr ⟨i, rfl, rfl, decide_eq_true (by omega), hno (by omega)⟩)) ⟨rfl, rfl, rfl, rfl, rfl, rfl, trivial⟩
            | exact V_lv (J86 (by omega) (-1) (Or.inl ⟨rfl, lt_s (hno (by omega)) (decide_eq_false (by omega))⟩)) ⟨rfl, rfl, rfl, rfl, rfl, rfl, trivial⟩
  refine r_aload_n (i := 0) hG dX7_trust_0 rfl rfl ?_
  refine r_iload_n (i := 1) hG dX7_trust_1 rfl rfl ?_
  refine r_callVi hG (c_X7_isChild (g_l G) (g_D G) a Z K U R C hI _ (by omega))  gX7_trust_X7_isChild rfl hyX7_isChild rfl (by decide) (by decide) 0 rfl rfl rfl (Nat.le_of_ble_eq_true rfl) ⟨Nat.zero_le _, Nat.zero_le _⟩ dX7_trust_2 (fun w hw => ?_)
  subst hw
  refine rb_if_eq (tgt := 31) hG dX7_trust_5 (by decide) (fun c5 => ?_) (fun c5 => ?_)
  · try simp only [decide_eq_true_eq, decide_eq_false_iff_not] at c5
    refine r_aload_n (i := 0) hG dX7_trust_31 rfl rfl ?_
    refine r_ldc (n := -1000000001) hG (List.mem_of_getElem? (i := 1) rfl) rfl dX7_trust_32 ?_
    refine r_callVi hG (c_X7_finds (g_l G) (g_D G) a Z K U R C (-1000000001) 0 (by omega) (by omega))  gX7_trust_X7_finds rfl hyX7_finds rfl (by decide) (by decide) 0 rfl rfl rfl (Nat.le_of_ble_eq_true rfl) ⟨Nat.zero_le _, Nat.zero_le _⟩ dX7_trust_34 (fun w hw => ?_)
    subst hw
    exact r_iret hG hE dX7_trust_37 (by unfold s_trust; (try dsimp only); (repeat (first | rw [if_pos (by omega)] | rw [if_neg (by omega)])) <;> (first | rfl | skip)) ⟨U, (by unfold s_trust; (try dsimp only); (repeat (first | rw [if_pos (by omega)] | rw [if_neg (by omega)])) <;> (first | rfl | skip))⟩
  · try simp only [decide_eq_true_eq, decide_eq_false_iff_not] at c5
    refine r_iload_n (i := 2) hG dX7_trust_8 rfl rfl ?_
    refine r_i2l hG dX7_trust_9 ?_
    refine r_iconst hG dX7_trust_10 ?_
    refine r_bipush hG dX7_trust_11 rfl ?_
    refine r_call0i hG (c_X7_inI (g_l G) (g_D G) _ _ _ (by omega) (by omega) (by omega))  gX7_trust_X7_in rfl hyX7_in rfl (by decide) (by decide) rfl (Nat.le_of_ble_eq_true rfl) ⟨Nat.zero_le _, Nat.zero_le _⟩ dX7_trust_13 ?_
    refine rb_if_eq (tgt := 31) hG dX7_trust_16 (by decide) (fun c16 => ?_) (fun c16 => ?_)
    · try simp only [decide_eq_true_eq, decide_eq_false_iff_not] at c16
      refine r_aload_n (i := 0) hG dX7_trust_31 rfl rfl ?_
      refine r_ldc (n := -1000000001) hG (List.mem_of_getElem? (i := 1) rfl) rfl dX7_trust_32 ?_
      refine r_callVi hG (c_X7_finds (g_l G) (g_D G) a Z K U R C (-1000000001) 0 (by omega) (by omega))  gX7_trust_X7_finds rfl hyX7_finds rfl (by decide) (by decide) 0 rfl rfl rfl (Nat.le_of_ble_eq_true rfl) ⟨Nat.zero_le _, Nat.zero_le _⟩ dX7_trust_34 (fun w hw => ?_)
      subst hw
      exact r_iret hG hE dX7_trust_37 (by unfold s_trust; (try dsimp only); (repeat (first | rw [if_pos (by omega)] | rw [if_neg (by omega)])) <;> (first | rfl | skip)) ⟨U, (by unfold s_trust; (try dsimp only); (repeat (first | rw [if_pos (by omega)] | rw [if_neg (by omega)])) <;> (first | rfl | skip))⟩
    · try simp only [decide_eq_true_eq, decide_eq_false_iff_not] at c16
      refine r_iload_n (i := 3) hG dX7_trust_19 rfl rfl ?_
      refine r_i2l hG dX7_trust_20 ?_
      refine r_bipush hG dX7_trust_21 rfl ?_
      refine r_bipush hG dX7_trust_23 rfl ?_
      refine r_call0i hG (c_X7_inI (g_l G) (g_D G) _ _ _ (by omega) (by omega) (by omega))  gX7_trust_X7_in rfl hyX7_in rfl (by decide) (by decide) rfl (Nat.le_of_ble_eq_true rfl) ⟨Nat.zero_le _, Nat.zero_le _⟩ dX7_trust_25 ?_
      refine rb_if_ne (tgt := 38) hG dX7_trust_28 (by decide) (fun c28 => ?_) (fun c28 => ?_)
      · try simp only [decide_eq_true_eq, decide_eq_false_iff_not] at c28
        refine r_aload_n (i := 0) hG dX7_trust_38 rfl rfl ?_
        refine r_callVv hG (c_X7_thinks (g_l G) (g_D G) a Z K U R C)  gX7_trust_X7_thinks rfl hyX7_thinks rfl (by decide) (by decide) 0 rfl rfl rfl (Nat.le_of_ble_eq_true rfl) ⟨Nat.zero_le _, Nat.zero_le _⟩ dX7_trust_39 (fun w hw => ?_)
        subst hw
        refine r_iconst hG dX7_trust_42 ?_
        refine r_istore hG dX7_trust_43 (by decide) rfl ?_
        refine r_iconst hG dX7_trust_45 ?_
        refine r_istore hG dX7_trust_46 (by decide) rfl ?_
        exact V_lv (L (by omega) 0 (by omega) (-1) (Or.inl ⟨rfl, fun j hj => absurd hj (by omega)⟩)) ⟨rfl, rfl, rfl, rfl, rfl, rfl, trivial⟩
      · try simp only [decide_eq_true_eq, decide_eq_false_iff_not] at c28
        refine r_aload_n (i := 0) hG dX7_trust_31 rfl rfl ?_
        refine r_ldc (n := -1000000001) hG (List.mem_of_getElem? (i := 1) rfl) rfl dX7_trust_32 ?_
        refine r_callVi hG (c_X7_finds (g_l G) (g_D G) a Z K U R C (-1000000001) 0 (by omega) (by omega))  gX7_trust_X7_finds rfl hyX7_finds rfl (by decide) (by decide) 0 rfl rfl rfl (Nat.le_of_ble_eq_true rfl) ⟨Nat.zero_le _, Nat.zero_le _⟩ dX7_trust_34 (fun w hw => ?_)
        subst hw
        exact r_iret hG hE dX7_trust_37 (by unfold s_trust; (try dsimp only); (repeat (first | rw [if_pos (by omega)] | rw [if_neg (by omega)])) <;> (first | rfl | skip)) ⟨U, (by unfold s_trust; (try dsimp only); (repeat (first | rw [if_pos (by omega)] | rw [if_neg (by omega)])) <;> (first | rfl | skip))⟩
theorem kX7_feed_159 : Cond.fieldLink RX7 159 "BreakSwapsModel" "taped" "I" ∈ wsX7_feed := List.mem_of_getElem? (i := 2) rfl
theorem kX7_feed_22 : Cond.fieldLink RX7 22 "BreakSwapsModel" "tape" "[I" ∈ wsX7_feed := List.mem_of_getElem? (i := 4) rfl
theorem cX7_feed_X7 : ∀ w ∈ wsX70, w ∈ wsX7_feed := fun _ h => List.mem_cons_of_mem _ (List.mem_append_right _ h)
theorem hyX7_feed : hyV yX7_feed RX7 2 := by decide +kernel
set_option maxHeartbeats 4000000 in
set_option maxRecDepth 100000 in
theorem c_X7_feed (l : Launch) (D : va_G) (a : Nat → Nat) (Z K U R : YS) (C : Int → Int64) (hT : TI (Z, K, R, C)) (b n : Int) (hb : -2147483648 ≤ b ∧ b < 2147483648) (hn : -2147483648 ≤ n ∧ n < 2147483648) : Con l yX7_feed wsX7_feed 1 D (mw D a Z K U R C) [.ref (a 0), .int (iI b), .int (iI n)] (some (.int (iI ((s_feed (Z, K, R, C) b n).1)))) (fun ww => ∃ U2, ww = mwT D a (s_feed (Z, K, R, C) b n).2 U2) := by
  refine con_start (own := RX7) (by decide) rfl rfl (Nat.le_of_ble_eq_true rfl) ?_
  intro G hG hE hl hD
  subst hl
  subst hD
  have hI : Inv Z := hT.1.1
  have hN := hI.1
  have hr0 := hI.2.1
  have hu5 := hI.2.2.1
  have hrd : Z 5 0 ≤ 99999 := hT.1.2.2
  have hta : 0 ≤ R 0 1 ∧ R 0 1 ≤ 120 := hT.2.2.1.2.1
  have L : (1 ≤ n ∧ n ≤ 4) → R 0 1 + n ≤ 120 → ∀ (k : Nat) (R2 : YS) (m : Int), m = (k : Int) - 1 → k ≤ 4 → fdN R2 b k = fdN R b n.toNat → 0 ≤ R2 0 1 → R2 0 1 + k = R 0 1 + n → V G 0 0 (mw (g_D G) a Z K U R2 C) 39 [(0, .ref (a 0)), (1, .int (iI b)), (3, .int (iI m))] [] := by
    intro hn1 hn2 k
    induction k with
    | zero =>
      intro R2 m hm hk e1 e2 e3
      refine r_iload_n (i := 3) hG dX7_feed_39 rfl rfl ?_
      refine r_if_lt (tgt := 78) hG (by omega) dX7_feed_40 (by decide) (fun c40 => ?_) (fun c40 => ?_)
      · refine r_aload_n (i := 0) hG dX7_feed_78 rfl rfl ?_
        refine r_get hG cX7_feed_X7 0 6 rfl rfl (by decide) kX7_feed_159 rfl dX7_feed_79 ?_
        exact r_iret hG hE dX7_feed_82 (by unfold s_feed; dsimp only; rw [if_pos hn1, if_pos hn2]; exact congrArg iI (by omega)) ⟨U, by unfold s_feed; dsimp only; rw [if_pos hn1, if_pos hn2, ← e1]; rfl⟩
      · exact absurd c40 (by omega)
    | succ k ih =>
      intro R2 m hm hk e1 e2 e3
      obtain rfl : m = (k : Int) := by omega
      refine r_iload_n (i := 3) hG dX7_feed_39 rfl rfl ?_
      refine r_if_lt (tgt := 78) hG (by omega) dX7_feed_40 (by decide) (fun c40 => ?_) (fun c40 => ?_)
      · exact absurd c40 (by omega)
      · refine r_aload_n (i := 0) hG dX7_feed_43 rfl rfl ?_
        refine r_get hG cX7_feed_X7 0 5 rfl rfl (by decide) kX7_feed_22 rfl dX7_feed_44 ?_
        refine r_aload_n (i := 0) hG dX7_feed_47 rfl rfl ?_
        refine r_get hG cX7_feed_X7 0 6 rfl rfl (by decide) kX7_feed_159 rfl dX7_feed_48 ?_
        refine r_iload_n (i := 1) hG dX7_feed_51 rfl rfl ?_
        refine r_bipush hG dX7_feed_52 rfl ?_
        refine r_iload_n (i := 3) hG dX7_feed_54 rfl rfl ?_
        refine r_imul hG dX7_feed_55 ?_
        refine rr_ishr hG dX7_feed_56 ?_
        refine r_sipush hG dX7_feed_57 rfl ?_
        refine rr_iand hG dX7_feed_60 ?_
        refine V_top (x' := iI (byteK b k)) (iI_of _).symm ?_
        refine r_iast hG 5 rfl (by omega) (by decide) dX7_feed_61 rfl ?_
        refine r_aload_n (i := 0) hG dX7_feed_62 rfl rfl ?_
        refine r_dup hG dX7_feed_63 rfl ?_
        refine r_get hG cX7_feed_X7 0 6 rfl rfl (by decide) kX7_feed_159 rfl dX7_feed_64 ?_
        refine r_iconst hG dX7_feed_67 ?_
        refine r_iadd hG dX7_feed_68 ?_
        refine r_put hG cX7_feed_X7 0 6 tyX7 tyX7_ok nmX7 rfl rfl (by decide) kX7_feed_159 rfl rfl rfl (Nat.le_of_ble_eq_true rfl) dX7_feed_69 rfl ?_
        refine r_iinc hG dX7_feed_72 rfl (by decide) rfl ?_
        refine r_goto (tgt := 39) hG dX7_feed_75 (by decide) ?_
        exact V_ws (ws' := mw (g_D G) a Z K U (upY (upY R2 2 (R2 0 1) (byteK b k)) 0 1 (R2 0 1 + 1)) C) rfl (V_lv (ih (upY (upY R2 2 (R2 0 1) (byteK b k)) 0 1 (R2 0 1 + 1)) _ rfl (by omega) e1 (by show 0 ≤ R2 0 1 + 1; omega) (by show R2 0 1 + 1 + (k : Int) = _; omega)) ⟨rfl, rfl, rfl, trivial⟩)
  refine r_iload_n (i := 2) hG dX7_feed_0 rfl rfl ?_
  refine r_i2l hG dX7_feed_1 ?_
  refine r_iconst hG dX7_feed_2 ?_
  refine r_iconst hG dX7_feed_3 ?_
  refine r_call0i hG (c_X7_inI (g_l G) (g_D G) _ _ _ (by omega) (by omega) (by omega))  gX7_feed_X7_in rfl hyX7_in rfl (by decide) (by decide) rfl (Nat.le_of_ble_eq_true rfl) ⟨Nat.zero_le _, Nat.zero_le _⟩ dX7_feed_4 ?_
  refine rb_if_ne (tgt := 17) hG dX7_feed_7 (by decide) (fun c7 => ?_) (fun c7 => ?_)
  · try simp only [decide_eq_true_eq, decide_eq_false_iff_not] at c7
    refine r_aload_n (i := 0) hG dX7_feed_17 rfl rfl ?_
    refine r_get hG cX7_feed_X7 0 6 rfl rfl (by decide) kX7_feed_159 rfl dX7_feed_18 ?_
    refine r_iload_n (i := 2) hG dX7_feed_21 rfl rfl ?_
    refine r_iadd hG dX7_feed_22 ?_
    refine r_bipush hG dX7_feed_23 rfl ?_
    refine r_icmp_le (tgt := 35) hG (by omega) (by omega) dX7_feed_25 (by decide) (fun c25 => ?_) (fun c25 => ?_)
    · refine r_iload_n (i := 2) hG dX7_feed_35 rfl rfl ?_
      refine r_iconst hG dX7_feed_36 ?_
      refine r_isub hG dX7_feed_37 ?_
      refine r_istore_n (i := 3) hG dX7_feed_38 rfl (by decide) rfl ?_
      exact V_lv (L (by omega) (by omega) n.toNat R (n - 1) (by omega) (by omega) rfl (by omega) (by omega)) ⟨rfl, rfl, rfl, trivial⟩
    · refine r_aload_n (i := 0) hG dX7_feed_28 rfl rfl ?_
      refine r_ldc (n := -1000000002) hG (List.mem_of_getElem? (i := 3) rfl) rfl dX7_feed_29 ?_
      refine r_callVi hG (c_X7_finds (g_l G) (g_D G) a Z K U R C (-1000000002) 1 (by omega) (by omega))  gX7_feed_X7_finds rfl hyX7_finds rfl (by decide) (by decide) 0 rfl rfl rfl (Nat.le_of_ble_eq_true rfl) ⟨Nat.zero_le _, Nat.zero_le _⟩ dX7_feed_31 (fun w hw => ?_)
      subst hw
      exact r_iret hG hE dX7_feed_34 (by unfold s_feed; (try dsimp only); (repeat (first | rw [if_pos (by omega)] | rw [if_neg (by omega)])) <;> (first | rfl | skip)) ⟨U, (by unfold s_feed; (try dsimp only); (repeat (first | rw [if_pos (by omega)] | rw [if_neg (by omega)])) <;> (first | rfl | skip))⟩
  · try simp only [decide_eq_true_eq, decide_eq_false_iff_not] at c7
    refine r_aload_n (i := 0) hG dX7_feed_10 rfl rfl ?_
    refine r_ldc (n := -1000000001) hG (List.mem_of_getElem? (i := 1) rfl) rfl dX7_feed_11 ?_
    refine r_callVi hG (c_X7_finds (g_l G) (g_D G) a Z K U R C (-1000000001) 0 (by omega) (by omega))  gX7_feed_X7_finds rfl hyX7_finds rfl (by decide) (by decide) 0 rfl rfl rfl (Nat.le_of_ble_eq_true rfl) ⟨Nat.zero_le _, Nat.zero_le _⟩ dX7_feed_13 (fun w hw => ?_)
    subst hw
    exact r_iret hG hE dX7_feed_16 (by unfold s_feed; (try dsimp only); (repeat (first | rw [if_pos (by omega)] | rw [if_neg (by omega)])) <;> (first | rfl | skip)) ⟨U, (by unfold s_feed; (try dsimp only); (repeat (first | rw [if_pos (by omega)] | rw [if_neg (by omega)])) <;> (first | rfl | skip))⟩
theorem kX7_wipe_159 : Cond.fieldLink RX7 159 "BreakSwapsModel" "taped" "I" ∈ wsX7_wipe := List.mem_of_getElem? (i := 1) rfl
theorem cX7_wipe_X7 : ∀ w ∈ wsX70, w ∈ wsX7_wipe := fun _ h => List.mem_cons_of_mem _ (List.mem_append_right _ h)
theorem hyX7_wipe : hyV yX7_wipe RX7 0 := by decide +kernel
set_option maxHeartbeats 4000000 in
set_option maxRecDepth 100000 in
theorem c_X7_wipe (l : Launch) (D : va_G) (a : Nat → Nat) (Z K U R : YS) (C : Int → Int64) (hT : TI (Z, K, R, C))  : Con l yX7_wipe wsX7_wipe 0 D (mw D a Z K U R C) [.ref (a 0)] (some (.int (iI ((s_wipe (Z, K, R, C)).1)))) (fun ww => ∃ U2, ww = mwT D a (s_wipe (Z, K, R, C)).2 U2) := by
  refine con_start (own := RX7) (by decide) rfl rfl (Nat.le_of_ble_eq_true rfl) ?_
  intro G hG hE hl hD
  subst hl
  subst hD
  have hI : Inv Z := hT.1.1
  have hN := hI.1
  have hr0 := hI.2.1
  have hu5 := hI.2.2.1
  have hrd : Z 5 0 ≤ 99999 := hT.1.2.2
  refine r_aload_n (i := 0) hG dX7_wipe_0 rfl rfl ?_
  refine r_get hG cX7_wipe_X7 0 6 rfl rfl (by decide) kX7_wipe_159 rfl dX7_wipe_1 ?_
  refine r_istore_n (i := 1) hG dX7_wipe_4 rfl (by decide) rfl ?_
  refine r_aload_n (i := 0) hG dX7_wipe_5 rfl rfl ?_
  refine r_iconst hG dX7_wipe_6 ?_
  refine r_put hG cX7_wipe_X7 0 6 tyX7 tyX7_ok nmX7 rfl rfl (by decide) kX7_wipe_159 rfl rfl rfl (Nat.le_of_ble_eq_true rfl) dX7_wipe_7 rfl ?_
  refine r_iload_n (i := 1) hG dX7_wipe_10 rfl rfl ?_
  exact r_iret hG hE dX7_wipe_11 rfl ⟨U, rfl⟩
theorem kX7_status_19 : Cond.fieldLink RX7 19 "BreakSwapsModel" "found" "[I" ∈ wsX7_status := List.mem_of_getElem? (i := 2) rfl
theorem cX7_status_X7 : ∀ w ∈ wsX70, w ∈ wsX7_status := fun _ h => List.mem_cons_of_mem _ (List.mem_append_right _ h)
theorem hyX7_status : hyV yX7_status RX7 1 := by decide +kernel
set_option maxHeartbeats 4000000 in
set_option maxRecDepth 100000 in
theorem c_X7_status (l : Launch) (D : va_G) (a : Nat → Nat) (Z K U R : YS) (C : Int → Int64) (hT : TI (Z, K, R, C)) (w : Int) (hw : -2147483648 ≤ w ∧ w < 2147483648) : Con l yX7_status wsX7_status 1 D (mw D a Z K U R C) [.ref (a 0), .int (iI w)] (some (.int (iI ((s_status (Z, K, R, C) w).1)))) (fun ww => ∃ U2, ww = mwT D a (s_status (Z, K, R, C) w).2 U2) := by
  refine con_start (own := RX7) (by decide) rfl rfl (Nat.le_of_ble_eq_true rfl) ?_
  intro G hG hE hl hD
  subst hl
  subst hD
  have hI : Inv Z := hT.1.1
  have hN := hI.1
  have hr0 := hI.2.1
  have hu5 := hI.2.2.1
  have hrd : Z 5 0 ≤ 99999 := hT.1.2.2
  have L : (-1 ≤ w ∧ w ≤ 6) → ∀ i : Nat, i ≤ 7 → V G 0 0 (mw (g_D G) a Z K U R C) 22 [(0, .ref (a 0)), (1, .int (iI w)), (2, .int (iI (sumN (fun k => if w < 0 ∨ w = k then R 1 k else 0) i))), (3, .int (iI (i : Int)))] [] := by
    intro hoc
    refine down (fun i hi ih => ?_)
    refine r_iload_n (i := 3) hG dX7_status_22 rfl rfl ?_
    refine r_bipush hG dX7_status_23 rfl ?_
    refine r_icmp_ge (tgt := 56) hG (by omega) (by omega) dX7_status_25 (by decide) (fun c25 => ?_) (fun c25 => ?_)
    · refine r_iload_n (i := 2) hG dX7_status_56 rfl rfl ?_
      have ei : i = 7 := by omega
      subst ei
      exact r_iret hG hE dX7_status_57 (by
        unfold s_status
        (try dsimp only)
        by_cases hw1 : w = -1
        · rw [if_pos hw1]
          exact congrArg iI (sumN_ext (fun k hk => if_pos (Or.inl (by omega))))
        · rw [if_neg hw1, if_pos (by omega)]
          refine congrArg iI ?_
          rcases (show w = 0 ∨ w = 1 ∨ w = 2 ∨ w = 3 ∨ w = 4 ∨ w = 5 ∨ w = 6 by omega) with e | e | e | e | e | e | e <;> subst e <;> simp [sumN]) ⟨U, by
        unfold s_status
        (try dsimp only)
        by_cases hw1 : w = -1
        · rw [if_pos hw1]; rfl
        · rw [if_neg hw1, if_pos (by omega)]; rfl⟩
    · refine r_iload_n (i := 2) hG dX7_status_28 rfl rfl ?_
      refine r_iload_n (i := 1) hG dX7_status_29 rfl rfl ?_
      refine r_if_lt (tgt := 38) hG (by omega) dX7_status_30 (by decide) (fun c30 => ?_) (fun c30 => ?_)
      · refine r_aload_n (i := 0) hG dX7_status_38 rfl rfl ?_
        refine r_get hG cX7_status_X7 0 4 rfl rfl (by decide) kX7_status_19 rfl dX7_status_39 ?_
        refine r_iload_n (i := 3) hG dX7_status_42 rfl rfl ?_
        refine r_iald hG 4 rfl (by omega) (by decide) dX7_status_43 ?_
        refine r_goto (tgt := 48) hG dX7_status_44 (by decide) ?_
        refine r_iadd hG dX7_status_48 ?_
        refine r_istore_n (i := 2) hG dX7_status_49 rfl (by decide) rfl ?_
        refine r_iinc hG dX7_status_50 rfl (by decide) rfl ?_
        refine r_goto (tgt := 22) hG dX7_status_53 (by decide) ?_
        first
          | exact V_lv (ih (by omega)) ⟨rfl, rfl, (congrArg (fun v => some (Value.int (iI v))) (by rw [sumN, if_pos (by omega)])), rfl, trivial⟩
          | exact V_lv (ih (by omega)) ⟨rfl, rfl, (congrArg (fun v => some (Value.int (iI v))) (by rw [sumN, if_neg (by omega)])), rfl, trivial⟩
      · refine r_iload_n (i := 1) hG dX7_status_33 rfl rfl ?_
        refine r_iload_n (i := 3) hG dX7_status_34 rfl rfl ?_
        refine r_icmp_ne (tgt := 47) hG (by omega) (by omega) dX7_status_35 (by decide) (fun c35 => ?_) (fun c35 => ?_)
        · refine r_iconst hG dX7_status_47 ?_
          refine r_iadd hG dX7_status_48 ?_
          refine r_istore_n (i := 2) hG dX7_status_49 rfl (by decide) rfl ?_
          refine r_iinc hG dX7_status_50 rfl (by decide) rfl ?_
          refine r_goto (tgt := 22) hG dX7_status_53 (by decide) ?_
          first
            | exact V_lv (ih (by omega)) ⟨rfl, rfl, (congrArg (fun v => some (Value.int (iI v))) (by rw [sumN, if_pos (by omega)])), rfl, trivial⟩
            | exact V_lv (ih (by omega)) ⟨rfl, rfl, (congrArg (fun v => some (Value.int (iI v))) (by rw [sumN, if_neg (by omega)])), rfl, trivial⟩
        · refine r_aload_n (i := 0) hG dX7_status_38 rfl rfl ?_
          refine r_get hG cX7_status_X7 0 4 rfl rfl (by decide) kX7_status_19 rfl dX7_status_39 ?_
          refine r_iload_n (i := 3) hG dX7_status_42 rfl rfl ?_
          refine r_iald hG 4 rfl (by omega) (by decide) dX7_status_43 ?_
          refine r_goto (tgt := 48) hG dX7_status_44 (by decide) ?_
          refine r_iadd hG dX7_status_48 ?_
          refine r_istore_n (i := 2) hG dX7_status_49 rfl (by decide) rfl ?_
          refine r_iinc hG dX7_status_50 rfl (by decide) rfl ?_
          refine r_goto (tgt := 22) hG dX7_status_53 (by decide) ?_
          first
            | exact V_lv (ih (by omega)) ⟨rfl, rfl, (congrArg (fun v => some (Value.int (iI v))) (by rw [sumN, if_pos (by omega)])), rfl, trivial⟩
            | exact V_lv (ih (by omega)) ⟨rfl, rfl, (congrArg (fun v => some (Value.int (iI v))) (by rw [sumN, if_neg (by omega)])), rfl, trivial⟩
  refine r_iload_n (i := 1) hG dX7_status_0 rfl rfl ?_
  refine r_i2l hG dX7_status_1 ?_
  refine r_iconst hG dX7_status_2 ?_
  refine r_bipush hG dX7_status_3 rfl ?_
  refine r_call0i hG (c_X7_inI (g_l G) (g_D G) _ _ _ (by omega) (by omega) (by omega))  gX7_status_X7_in rfl hyX7_in rfl (by decide) (by decide) rfl (Nat.le_of_ble_eq_true rfl) ⟨Nat.zero_le _, Nat.zero_le _⟩ dX7_status_5 ?_
  refine rb_if_ne (tgt := 18) hG dX7_status_8 (by decide) (fun c8 => ?_) (fun c8 => ?_)
  · try simp only [decide_eq_true_eq, decide_eq_false_iff_not] at c8
    refine r_iconst hG dX7_status_18 ?_
    refine r_istore_n (i := 2) hG dX7_status_19 rfl (by decide) rfl ?_
    refine r_iconst hG dX7_status_20 ?_
    refine r_istore_n (i := 3) hG dX7_status_21 rfl (by decide) rfl ?_
    exact V_lv (L (by omega) 0 (by omega)) ⟨rfl, rfl, rfl, rfl, trivial⟩
  · try simp only [decide_eq_true_eq, decide_eq_false_iff_not] at c8
    refine r_aload_n (i := 0) hG dX7_status_11 rfl rfl ?_
    refine r_ldc (n := -1000000001) hG (List.mem_of_getElem? (i := 1) rfl) rfl dX7_status_12 ?_
    refine r_callVi hG (c_X7_finds (g_l G) (g_D G) a Z K U R C (-1000000001) 0 (by omega) (by omega))  gX7_status_X7_finds rfl hyX7_finds rfl (by decide) (by decide) 0 rfl rfl rfl (Nat.le_of_ble_eq_true rfl) ⟨Nat.zero_le _, Nat.zero_le _⟩ dX7_status_14 (fun w hw => ?_)
    subst hw
    exact r_iret hG hE dX7_status_17 (by unfold s_status; (try dsimp only); (repeat (first | rw [if_pos (by omega)] | rw [if_neg (by omega)])) <;> (first | rfl | skip)) ⟨U, (by unfold s_status; (try dsimp only); (repeat (first | rw [if_pos (by omega)] | rw [if_neg (by omega)])) <;> (first | rfl | skip))⟩
theorem kX7_image_9 : Cond.fieldLink RX7 9 "BreakSwapsModel" "m" "[I" ∈ wsX7_image := List.mem_of_getElem? (i := 1) rfl
theorem kX7_image_13 : Cond.fieldLink RX7 13 "BreakSwapsModel" "kept" "[I" ∈ wsX7_image := List.mem_of_getElem? (i := 2) rfl
theorem kX7_image_232 : Cond.fieldLink RX7 232 "BreakSwapsModel" "isKept" "Z" ∈ wsX7_image := List.mem_of_getElem? (i := 3) rfl
theorem cX7_image_X7 : ∀ w ∈ wsX70, w ∈ wsX7_image := fun _ h => List.mem_cons_of_mem _ (List.mem_append_right _ h)
theorem hyX7_image : hyV yX7_image RX7 0 := by decide +kernel
set_option maxHeartbeats 4000000 in
set_option maxRecDepth 100000 in
theorem c_X7_image (l : Launch) (D : va_G) (a : Nat → Nat) (Z K U R : YS) (C : Int → Int64) (hT : TI (Z, K, R, C))  : Con l yX7_image wsX7_image 1 D (mw D a Z K U R C) [.ref (a 0)] (some (.int (iI ((s_image (Z, K, R, C)).1)))) (fun ww => ∃ U2, ww = mwT D a (s_image (Z, K, R, C)).2 U2) := by
  refine con_start (own := RX7) (by decide) rfl rfl (Nat.le_of_ble_eq_true rfl) ?_
  intro G hG hE hl hD
  subst hl
  subst hD
  have hI : Inv Z := hT.1.1
  have hN := hI.1
  have hr0 := hI.2.1
  have hu5 := hI.2.2.1
  have hrd : Z 5 0 ≤ 99999 := hT.1.2.2
  refine r_aload_n (i := 0) hG dX7_image_0 rfl rfl ?_
  refine r_get hG cX7_image_X7 0 0 rfl rfl (by decide) kX7_image_9 rfl dX7_image_1 ?_
  refine r_aload_n (i := 0) hG dX7_image_4 rfl rfl ?_
  refine r_get hG cX7_image_X7 0 1 rfl rfl (by decide) kX7_image_13 rfl dX7_image_5 ?_
  refine r_callSvF hG (c_X7_copyAll (g_l G) (g_D G) (a 1) (a 2) (mro Z) (mro K)) [1, 2] [0, 3, 4, 5, 6, 7, 8] ([0, 3, 4, 5, 6, 7, 8].filterMap (fun i => (mw (g_D G) a Z K U R C)[i]?)) rfl rfl rfl rfl (by decide) gX7_image_X7_copyAll rfl hyX7_copyAll rfl (by decide) (by decide) rfl (Nat.le_of_ble_eq_true rfl) ⟨Nat.zero_le _, Nat.zero_le _⟩ dX7_image_8 ?_
  intro w hw
  subst hw
  refine V_sub (ws' := mw (g_D G) a Z Z U R C) [0, 7, 8, 1, 2, 3, 4, 5, 6] rfl rfl ?_
  refine r_aload_n (i := 0) hG dX7_image_11 rfl rfl ?_
  refine r_iconst hG dX7_image_12 ?_
  refine r_put hG cX7_image_X7 0 3 tyX7 tyX7_ok nmX7 rfl rfl (by decide) kX7_image_232 rfl rfl rfl (Nat.le_of_ble_eq_true rfl) dX7_image_13 rfl ?_
  refine r_iconst hG dX7_image_16 ?_
  exact r_iret hG hE dX7_image_17 rfl ⟨U, rfl⟩
theorem kX7_undo_232 : Cond.fieldLink RX7 232 "BreakSwapsModel" "isKept" "Z" ∈ wsX7_undo := List.mem_of_getElem? (i := 1) rfl
theorem kX7_undo_13 : Cond.fieldLink RX7 13 "BreakSwapsModel" "kept" "[I" ∈ wsX7_undo := List.mem_of_getElem? (i := 3) rfl
theorem kX7_undo_9 : Cond.fieldLink RX7 9 "BreakSwapsModel" "m" "[I" ∈ wsX7_undo := List.mem_of_getElem? (i := 4) rfl
theorem cX7_undo_X7 : ∀ w ∈ wsX70, w ∈ wsX7_undo := fun _ h => List.mem_cons_of_mem _ (List.mem_append_right _ h)
theorem hyX7_undo : hyV yX7_undo RX7 0 := by decide +kernel
set_option maxHeartbeats 4000000 in
set_option maxRecDepth 100000 in
theorem c_X7_undo (l : Launch) (D : va_G) (a : Nat → Nat) (Z K U R : YS) (C : Int → Int64) (hT : TI (Z, K, R, C))  : Con l yX7_undo wsX7_undo 1 D (mw D a Z K U R C) [.ref (a 0)] (some (.int (iI ((s_undo (Z, K, R, C)).1)))) (fun ww => ∃ U2, ww = mwT D a (s_undo (Z, K, R, C)).2 U2) := by
  refine con_start (own := RX7) (by decide) rfl rfl (Nat.le_of_ble_eq_true rfl) ?_
  intro G hG hE hl hD
  subst hl
  subst hD
  have hI : Inv Z := hT.1.1
  have hN := hI.1
  have hr0 := hI.2.1
  have hu5 := hI.2.2.1
  have hrd : Z 5 0 ≤ 99999 := hT.1.2.2
  have hk0 : R 0 0 = 0 ∨ R 0 0 = 1 := hT.2.2.1.1
  refine r_aload_n (i := 0) hG dX7_undo_0 rfl rfl ?_
  refine r_get hG cX7_undo_X7 0 3 rfl rfl (by decide) kX7_undo_232 rfl dX7_undo_1 ?_
  refine r_if_ne (tgt := 14) hG (by omega) dX7_undo_4 (by decide) (fun c4 => ?_) (fun c4 => ?_)
  · refine r_aload_n (i := 0) hG dX7_undo_14 rfl rfl ?_
    refine r_get hG cX7_undo_X7 0 1 rfl rfl (by decide) kX7_undo_13 rfl dX7_undo_15 ?_
    refine r_aload_n (i := 0) hG dX7_undo_18 rfl rfl ?_
    refine r_get hG cX7_undo_X7 0 0 rfl rfl (by decide) kX7_undo_9 rfl dX7_undo_19 ?_
    refine r_callSvF hG (c_X7_copyAll (g_l G) (g_D G) (a 2) (a 1) (mro K) (mro Z)) [2, 1] [0, 3, 4, 5, 6, 7, 8] ([0, 3, 4, 5, 6, 7, 8].filterMap (fun i => (mw (g_D G) a Z K U R C)[i]?)) rfl rfl rfl rfl (by decide) gX7_undo_X7_copyAll rfl hyX7_copyAll rfl (by decide) (by decide) rfl (Nat.le_of_ble_eq_true rfl) ⟨Nat.zero_le _, Nat.zero_le _⟩ dX7_undo_22 ?_
    intro w hw
    subst hw
    refine V_sub (ws' := mw (g_D G) a K K U R C) [0, 8, 7, 1, 2, 3, 4, 5, 6] rfl rfl ?_
    refine r_aload_n (i := 0) hG dX7_undo_25 rfl rfl ?_
    refine r_get hG cX7_undo_X7 0 0 rfl rfl (by decide) kX7_undo_9 rfl dX7_undo_26 ?_
    refine r_iconst hG dX7_undo_29 ?_
    refine r_iald hG 1 rfl (by omega) (by decide) dX7_undo_30 ?_
    refine V_top (x' := iI ((K) 5 2)) (congrArg iI (mro_2 (K))) ?_
    exact r_iret hG hE dX7_undo_31 (by unfold s_undo; (try dsimp only); (repeat (first | rw [if_pos (by omega)] | rw [if_neg (by omega)])) <;> (first | rfl | skip)) ⟨U, (by unfold s_undo; (try dsimp only); (repeat (first | rw [if_pos (by omega)] | rw [if_neg (by omega)])) <;> (first | rfl | skip))⟩
  · refine r_aload_n (i := 0) hG dX7_undo_7 rfl rfl ?_
    refine r_ldc (n := -1000000004) hG (List.mem_of_getElem? (i := 2) rfl) rfl dX7_undo_8 ?_
    refine r_callVi hG (c_X7_finds (g_l G) (g_D G) a Z K U R C (-1000000004) 3 (by omega) (by omega))  gX7_undo_X7_finds rfl hyX7_finds rfl (by decide) (by decide) 0 rfl rfl rfl (Nat.le_of_ble_eq_true rfl) ⟨Nat.zero_le _, Nat.zero_le _⟩ dX7_undo_10 (fun w hw => ?_)
    subst hw
    exact r_iret hG hE dX7_undo_13 (by unfold s_undo; (try dsimp only); (repeat (first | rw [if_pos (by omega)] | rw [if_neg (by omega)])) <;> (first | rfl | skip)) ⟨U, (by unfold s_undo; (try dsimp only); (repeat (first | rw [if_pos (by omega)] | rw [if_neg (by omega)])) <;> (first | rfl | skip))⟩
theorem kX7_tear_232 : Cond.fieldLink RX7 232 "BreakSwapsModel" "isKept" "Z" ∈ wsX7_tear := List.mem_of_getElem? (i := 1) rfl
theorem cX7_tear_X7 : ∀ w ∈ wsX70, w ∈ wsX7_tear := fun _ h => List.mem_cons_of_mem _ (List.mem_append_right _ h)
theorem hyX7_tear : hyV yX7_tear RX7 0 := by decide +kernel
set_option maxHeartbeats 4000000 in
set_option maxRecDepth 100000 in
theorem c_X7_tear (l : Launch) (D : va_G) (a : Nat → Nat) (Z K U R : YS) (C : Int → Int64) (hT : TI (Z, K, R, C))  : Con l yX7_tear wsX7_tear 0 D (mw D a Z K U R C) [.ref (a 0)] (some (.int (iI ((s_tear (Z, K, R, C)).1)))) (fun ww => ∃ U2, ww = mwT D a (s_tear (Z, K, R, C)).2 U2) := by
  refine con_start (own := RX7) (by decide) rfl rfl (Nat.le_of_ble_eq_true rfl) ?_
  intro G hG hE hl hD
  subst hl
  subst hD
  have hI : Inv Z := hT.1.1
  have hN := hI.1
  have hr0 := hI.2.1
  have hu5 := hI.2.2.1
  have hrd : Z 5 0 ≤ 99999 := hT.1.2.2
  have hk0 : R 0 0 = 0 ∨ R 0 0 = 1 := hT.2.2.1.1
  refine r_aload_n (i := 0) hG dX7_tear_0 rfl rfl ?_
  refine r_get hG cX7_tear_X7 0 3 rfl rfl (by decide) kX7_tear_232 rfl dX7_tear_1 ?_
  refine r_if_eq (tgt := 11) hG (by omega) dX7_tear_4 (by decide) (fun c4 => ?_) (fun c4 => ?_)
  · refine r_iconst hG dX7_tear_11 ?_
    refine r_istore_n (i := 1) hG dX7_tear_12 rfl (by decide) rfl ?_
    refine r_aload_n (i := 0) hG dX7_tear_13 rfl rfl ?_
    refine r_iconst hG dX7_tear_14 ?_
    refine r_put hG cX7_tear_X7 0 3 tyX7 tyX7_ok nmX7 rfl rfl (by decide) kX7_tear_232 rfl rfl rfl (Nat.le_of_ble_eq_true rfl) dX7_tear_15 rfl ?_
    refine r_iload_n (i := 1) hG dX7_tear_18 rfl rfl ?_
    exact r_iret hG hE dX7_tear_19 (congrArg iI (by show _ = R 0 0; omega)) ⟨U, rfl⟩
  · refine r_iconst hG dX7_tear_7 ?_
    refine r_goto (tgt := 12) hG dX7_tear_8 (by decide) ?_
    refine r_istore_n (i := 1) hG dX7_tear_12 rfl (by decide) rfl ?_
    refine r_aload_n (i := 0) hG dX7_tear_13 rfl rfl ?_
    refine r_iconst hG dX7_tear_14 ?_
    refine r_put hG cX7_tear_X7 0 3 tyX7 tyX7_ok nmX7 rfl rfl (by decide) kX7_tear_232 rfl rfl rfl (Nat.le_of_ble_eq_true rfl) dX7_tear_15 rfl ?_
    refine r_iload_n (i := 1) hG dX7_tear_18 rfl rfl ?_
    exact r_iret hG hE dX7_tear_19 (congrArg iI (by show _ = R 0 0; omega)) ⟨U, rfl⟩
theorem kX7_count_9 : Cond.fieldLink RX7 9 "BreakSwapsModel" "m" "[I" ∈ wsX7_count := List.mem_of_getElem? (i := 1) rfl
theorem kX7_count_159 : Cond.fieldLink RX7 159 "BreakSwapsModel" "taped" "I" ∈ wsX7_count := List.mem_of_getElem? (i := 2) rfl
theorem cX7_count_X7 : ∀ w ∈ wsX70, w ∈ wsX7_count := fun _ h => List.mem_cons_of_mem _ (List.mem_append_right _ h)
theorem hyX7_count : hyV yX7_count RX7 1 := by decide +kernel
set_option maxHeartbeats 4000000 in
set_option maxRecDepth 100000 in
theorem c_X7_count (l : Launch) (D : va_G) (a : Nat → Nat) (Z K U R : YS) (C : Int → Int64) (hT : TI (Z, K, R, C)) (w : Int) (hw : -2147483648 ≤ w ∧ w < 2147483648) : Con l yX7_count wsX7_count 2 D (mw D a Z K U R C) [.ref (a 0), .int (iI w)] (some (.int (iI ((s_count (Z, K, R, C) w).1)))) (fun ww => ∃ U2, ww = mwT D a (s_count (Z, K, R, C) w).2 U2) := by
  refine con_start (own := RX7) (by decide) rfl rfl (Nat.le_of_ble_eq_true rfl) ?_
  intro G hG hE hl hD
  subst hl
  subst hD
  have hI : Inv Z := hT.1.1
  have hN := hI.1
  have hr0 := hI.2.1
  have hu5 := hI.2.2.1
  have hrd : Z 5 0 ≤ 99999 := hT.1.2.2
  obtain ⟨kk, hkk, ekk⟩ := orN_nat (H := Z 1) (Z 5 2).toNat (fun c hc => by have := Inv_c hI (c := (c : Int)) (by omega); omega)
  have hpp : (orN (Z 1) (Z 5 2).toNat).toInt.toNat = kk := by rw [ekk, iI_toInt (by omega)]; omega
  refine r_iload_n (i := 1) hG dX7_count_0 rfl rfl ?_
  rcases (show w = 0 ∨ w = 1 ∨ w = 2 ∨ w = 3 ∨ (w < 0 ∨ 3 < w) by omega) with c1 | c1 | c1 | c1 | c1
  · refine r_tsIn (tgt := 32) hG 0 c1 dX7_count_1 (by omega) rfl (by decide) ?_
    refine r_aload_n (i := 0) hG dX7_count_32 rfl rfl ?_
    refine r_get hG cX7_count_X7 0 0 rfl rfl (by decide) kX7_count_9 rfl dX7_count_33 ?_
    refine r_iconst hG dX7_count_36 ?_
    refine r_iald hG 1 rfl (by omega) (by decide) dX7_count_37 ?_
    refine V_top (x' := iI ((Z) 5 2)) (congrArg iI (mro_2 (Z))) ?_
    exact r_iret hG hE dX7_count_38 (by unfold s_count; (try dsimp only); (repeat (first | rw [if_pos (by omega)] | rw [if_neg (by omega)])) <;> (first | rfl | skip)) ⟨U, (by unfold s_count; (try dsimp only); (repeat (first | rw [if_pos (by omega)] | rw [if_neg (by omega)])) <;> (first | rfl | skip))⟩
  · refine r_tsIn (tgt := 39) hG 1 c1 dX7_count_1 (by omega) rfl (by decide) ?_
    refine r_aload_n (i := 0) hG dX7_count_39 rfl rfl ?_
    refine r_get hG cX7_count_X7 0 6 rfl rfl (by decide) kX7_count_159 rfl dX7_count_40 ?_
    exact r_iret hG hE dX7_count_43 (by unfold s_count; (try dsimp only); (repeat (first | rw [if_pos (by omega)] | rw [if_neg (by omega)])) <;> (first | rfl | skip)) ⟨U, (by unfold s_count; (try dsimp only); (repeat (first | rw [if_pos (by omega)] | rw [if_neg (by omega)])) <;> (first | rfl | skip))⟩
  · refine r_tsIn (tgt := 44) hG 2 c1 dX7_count_1 (by omega) rfl (by decide) ?_
    refine r_aload_n (i := 0) hG dX7_count_44 rfl rfl ?_
    refine r_iconst hG dX7_count_45 ?_
    refine r_callVi hG (c_X7_sums (g_l G) (g_D G) a Z K U R C hI 3 (by omega))  gX7_count_X7_sums rfl hyX7_sums rfl (by decide) (by decide) 0 rfl rfl rfl (Nat.le_of_ble_eq_true rfl) ⟨Nat.zero_le _, Nat.zero_le _⟩ dX7_count_46 (fun w hw => ?_)
    subst hw
    exact r_iret hG hE dX7_count_49 (by unfold s_count; (try dsimp only); (repeat (first | rw [if_pos (by omega)] | rw [if_neg (by omega)])) <;> (first | rfl | skip)) ⟨U, (by unfold s_count; (try dsimp only); (repeat (first | rw [if_pos (by omega)] | rw [if_neg (by omega)])) <;> (first | rfl | skip))⟩
  · refine r_tsIn (tgt := 50) hG 3 c1 dX7_count_1 (by omega) rfl (by decide) ?_
    refine r_bipush hG dX7_count_50 rfl ?_
    refine r_aload_n (i := 0) hG dX7_count_52 rfl rfl ?_
    refine r_callVi hG (c_X7_thingsHad (g_l G) (g_D G) a Z K U R C hI)  gX7_count_X7_thingsHad rfl hyX7_thingsHad rfl (by decide) (by decide) 0 rfl rfl rfl (Nat.le_of_ble_eq_true rfl) ⟨Nat.zero_le _, Nat.zero_le _⟩ dX7_count_53 (fun w hw => ?_)
    subst hw
    refine V_top (x' := iI ((kk : Int))) ekk ?_
    refine r_call0i hG (c_X7_bits (g_l G) (g_D G) kk hkk)  gX7_count_X7_bits rfl hyX7_bits rfl (by decide) (by decide) rfl (Nat.le_of_ble_eq_true rfl) ⟨Nat.zero_le _, Nat.zero_le _⟩ dX7_count_56 ?_
    refine r_isub hG dX7_count_59 ?_
    exact r_iret hG hE dX7_count_60 (by unfold s_count; (try dsimp only); rw [if_neg (by omega), if_neg (by omega), if_neg (by omega), if_pos (by omega), hpp]) ⟨U, (by unfold s_count; (try dsimp only); (repeat (first | rw [if_pos (by omega)] | rw [if_neg (by omega)])) <;> (first | rfl | skip))⟩
  · refine r_tsOut (tgt := 61) hG (by omega) dX7_count_1 c1 (by decide) ?_
    refine r_aload_n (i := 0) hG dX7_count_61 rfl rfl ?_
    refine r_ldc (n := -1000000001) hG (List.mem_of_getElem? (i := 3) rfl) rfl dX7_count_62 ?_
    refine r_callVi hG (c_X7_finds (g_l G) (g_D G) a Z K U R C (-1000000001) 0 (by omega) (by omega))  gX7_count_X7_finds rfl hyX7_finds rfl (by decide) (by decide) 0 rfl rfl rfl (Nat.le_of_ble_eq_true rfl) ⟨Nat.zero_le _, Nat.zero_le _⟩ dX7_count_64 (fun w hw => ?_)
    subst hw
    exact r_iret hG hE dX7_count_67 (by unfold s_count; (try dsimp only); (repeat (first | rw [if_pos (by omega)] | rw [if_neg (by omega)])) <;> (first | rfl | skip)) ⟨U, (by unfold s_count; (try dsimp only); (repeat (first | rw [if_pos (by omega)] | rw [if_neg (by omega)])) <;> (first | rfl | skip))⟩
