theorem hyX7_set : hyV yX7_set RX7 3 := by decide +kernel
set_option maxHeartbeats 4000000 in
set_option maxRecDepth 100000 in
theorem c_X7_set (l : Launch) (D : va_G) (a : Nat → Nat) (Z K U R : YS) (C : Int → Int64) (hT : TI (Z, K, R, C)) (c w v : Int) (hc : -2147483648 ≤ c ∧ c < 2147483648) (hw : -2147483648 ≤ w ∧ w < 2147483648) (hv : -2147483648 ≤ v ∧ v < 2147483648) : Con l yX7_set wsX7_set 2 D (mw D a Z K U R C) [.ref (a 0), .int (iI c), .int (iI w), .int (iI v)] (some (.int (iI ((s_set (Z, K, R, C) c w v).1)))) (fun ww => ∃ U2, ww = mwT D a (s_set (Z, K, R, C) c w v).2 U2) := by
  refine con_start (own := RX7) (by decide) rfl rfl (Nat.le_of_ble_eq_true rfl) ?_
  intro G hG hE hl hD
  subst hl
  subst hD
  have hI : Inv Z := hT.1.1
  have hN := hI.1
  have hr0 := hI.2.1
  have hu5 := hI.2.2.1
  have hrd : Z 5 0 ≤ 99999 := hT.1.2.2
  have hm1 := @mostK_1 w
  have hm2 := @mostK_2 w
  have hm3 := @mostK_3 w
  have J78 : ¬ ((0 ≤ c ∧ c < Z 5 2) ∧ (1 ≤ w ∧ w ≤ 3) ∧ 0 ≤ v ∧ v ≤ mostK w) → V G 0 0 (mw (g_D G) a Z K U R C) 78 [(0, .ref (a 0)), (1, .int (iI c)), (2, .int (iI w)), (3, .int (iI v))] [] := by
    intro hc2
    refine r_aload_n (i := 0) hG dX7_set_78 rfl rfl ?_
    refine r_ldc (n := -1000000001) hG (List.mem_of_getElem? (i := 1) rfl) rfl dX7_set_79 ?_
    refine r_callVi hG (c_X7_finds (g_l G) (g_D G) a Z K U R C (-1000000001) 0 (by omega) (by omega))  gX7_set_X7_finds rfl hyX7_finds rfl (by decide) (by decide) 0 rfl rfl rfl (Nat.le_of_ble_eq_true rfl) ⟨Nat.zero_le _, Nat.zero_le _⟩ dX7_set_81 (fun w hw => ?_)
    subst hw
    exact r_iret hG hE dX7_set_84 (by unfold s_set; (try dsimp only); (repeat (first | rw [if_pos (by omega)] | rw [if_neg (by omega)])) <;> (first | rfl | skip)) ⟨U, (by unfold s_set; (try dsimp only); (repeat (first | rw [if_pos (by omega)] | rw [if_neg (by omega)])) <;> (first | rfl | skip))⟩
  have J62 : (0 ≤ c ∧ c < Z 5 2) ∧ (1 ≤ w ∧ w ≤ 3) ∧ 0 ≤ v ∧ v ≤ mostK w → V G 0 0 (mw (g_D G) a Z K U R C) 62 [(0, .ref (a 0)), (1, .int (iI c)), (2, .int (iI w)), (3, .int (iI v))] [] := by
    intro hc2
    rcases (show w = 1 ∨ w = 2 ∨ w = 3 by omega) with e | e | e
    · subst e
      refine r_aload_n (i := 0) hG dX7_set_62 rfl rfl ?_
      refine r_iconst hG dX7_set_63 ?_
      refine r_bipush hG dX7_set_64 rfl ?_
      refine r_iload_n (i := 1) hG dX7_set_66 rfl rfl ?_
      refine r_imul hG dX7_set_67 ?_
      refine r_iadd hG dX7_set_68 ?_
      refine r_iload_n (i := 2) hG dX7_set_69 rfl rfl ?_
      refine r_iadd hG dX7_set_70 ?_
      refine r_iload_n (i := 3) hG dX7_set_71 rfl rfl ?_
      refine r_callVi hG (c_X7_becomes (g_l G) (g_D G) a Z K U R C _ _ (Z 1 c) (by omega) (mro_f Z 1 (c := c) (by omega) (by omega)) (giveY Z c v) (fun j hj => (mro_upf Z 1 (c := c) (by omega) (by omega) j hj).trans (mro_congr (give_rows Z c v) j)))  gX7_set_X7_becomes rfl hyX7_becomes rfl (by decide) (by decide) 0 rfl rfl rfl (Nat.le_of_ble_eq_true rfl) ⟨Nat.zero_le _, Nat.zero_le _⟩ dX7_set_72 (fun w hw => ?_)
      subst hw
      refine r_goto (tgt := 84) hG dX7_set_75 (by decide) ?_
      exact r_iret hG hE dX7_set_84 (by unfold s_set; (try dsimp only); (repeat (first | rw [if_pos (by omega)] | rw [if_neg (by omega)])) <;> (first | rfl | skip)) ⟨U, (by unfold s_set; (try dsimp only); (repeat (first | rw [if_pos (by omega)] | rw [if_neg (by omega)])) <;> (first | rfl | skip))⟩
    · subst e
      refine r_aload_n (i := 0) hG dX7_set_62 rfl rfl ?_
      refine r_iconst hG dX7_set_63 ?_
      refine r_bipush hG dX7_set_64 rfl ?_
      refine r_iload_n (i := 1) hG dX7_set_66 rfl rfl ?_
      refine r_imul hG dX7_set_67 ?_
      refine r_iadd hG dX7_set_68 ?_
      refine r_iload_n (i := 2) hG dX7_set_69 rfl rfl ?_
      refine r_iadd hG dX7_set_70 ?_
      refine r_iload_n (i := 3) hG dX7_set_71 rfl rfl ?_
      refine r_callVi hG (c_X7_becomes (g_l G) (g_D G) a Z K U R C _ _ (Z 2 c) (by omega) (mro_f Z 2 (c := c) (by omega) (by omega)) (upY Z 2 c v) (fun j hj => mro_upf Z 2 (c := c) (by omega) (by omega) j hj))  gX7_set_X7_becomes rfl hyX7_becomes rfl (by decide) (by decide) 0 rfl rfl rfl (Nat.le_of_ble_eq_true rfl) ⟨Nat.zero_le _, Nat.zero_le _⟩ dX7_set_72 (fun w hw => ?_)
      subst hw
      refine r_goto (tgt := 84) hG dX7_set_75 (by decide) ?_
      exact r_iret hG hE dX7_set_84 (by unfold s_set; (try dsimp only); (repeat (first | rw [if_pos (by omega)] | rw [if_neg (by omega)])) <;> (first | rfl | skip)) ⟨U, (by unfold s_set; (try dsimp only); (repeat (first | rw [if_pos (by omega)] | rw [if_neg (by omega)])) <;> (first | rfl | skip))⟩
    · subst e
      refine r_aload_n (i := 0) hG dX7_set_62 rfl rfl ?_
      refine r_iconst hG dX7_set_63 ?_
      refine r_bipush hG dX7_set_64 rfl ?_
      refine r_iload_n (i := 1) hG dX7_set_66 rfl rfl ?_
      refine r_imul hG dX7_set_67 ?_
      refine r_iadd hG dX7_set_68 ?_
      refine r_iload_n (i := 2) hG dX7_set_69 rfl rfl ?_
      refine r_iadd hG dX7_set_70 ?_
      refine r_iload_n (i := 3) hG dX7_set_71 rfl rfl ?_
      refine r_callVi hG (c_X7_becomes (g_l G) (g_D G) a Z K U R C _ _ (Z 3 c) (by omega) (mro_f Z 3 (c := c) (by omega) (by omega)) (upY Z 3 c v) (fun j hj => mro_upf Z 3 (c := c) (by omega) (by omega) j hj))  gX7_set_X7_becomes rfl hyX7_becomes rfl (by decide) (by decide) 0 rfl rfl rfl (Nat.le_of_ble_eq_true rfl) ⟨Nat.zero_le _, Nat.zero_le _⟩ dX7_set_72 (fun w hw => ?_)
      subst hw
      refine r_goto (tgt := 84) hG dX7_set_75 (by decide) ?_
      exact r_iret hG hE dX7_set_84 (by unfold s_set; (try dsimp only); (repeat (first | rw [if_pos (by omega)] | rw [if_neg (by omega)])) <;> (first | rfl | skip)) ⟨U, (by unfold s_set; (try dsimp only); (repeat (first | rw [if_pos (by omega)] | rw [if_neg (by omega)])) <;> (first | rfl | skip))⟩
  refine r_aload_n (i := 0) hG dX7_set_0 rfl rfl ?_
  refine r_iload_n (i := 1) hG dX7_set_1 rfl rfl ?_
  refine r_callVi hG (c_X7_isChild (g_l G) (g_D G) a Z K U R C hI _ (by omega))  gX7_set_X7_isChild rfl hyX7_isChild rfl (by decide) (by decide) 0 rfl rfl rfl (Nat.le_of_ble_eq_true rfl) ⟨Nat.zero_le _, Nat.zero_le _⟩ dX7_set_2 (fun w hw => ?_)
  subst hw
  refine rb_if_eq (tgt := 54) hG dX7_set_5 (by decide) (fun c5 => ?_) (fun c5 => ?_)
  · try simp only [decide_eq_true_eq, decide_eq_false_iff_not] at c5
    refine r_iconst hG dX7_set_54 ?_
    refine r_istore hG dX7_set_55 (by decide) rfl ?_
    refine r_iload hG dX7_set_57 rfl ?_
    refine r_if_eq (tgt := 78) hG (by omega) dX7_set_59 (by decide) (fun c59 => ?_) (fun c59 => ?_)
    · first
        | exact absurd c59 (by decide)
        | exact V_lv (J78 (by omega)) ⟨rfl, rfl, rfl, rfl, trivial⟩
    · first
        | exact absurd rfl c59
        | exact V_lv (J62 (by omega)) ⟨rfl, rfl, rfl, rfl, trivial⟩
  · try simp only [decide_eq_true_eq, decide_eq_false_iff_not] at c5
    refine r_iload_n (i := 2) hG dX7_set_8 rfl rfl ?_
    refine r_i2l hG dX7_set_9 ?_
    refine r_iconst hG dX7_set_10 ?_
    refine r_iconst hG dX7_set_11 ?_
    refine r_call0i hG (c_X7_inI (g_l G) (g_D G) _ _ _ (by omega) (by omega) (by omega))  gX7_set_X7_in rfl hyX7_in rfl (by decide) (by decide) rfl (Nat.le_of_ble_eq_true rfl) ⟨Nat.zero_le _, Nat.zero_le _⟩ dX7_set_12 ?_
    refine rb_if_eq (tgt := 54) hG dX7_set_15 (by decide) (fun c15 => ?_) (fun c15 => ?_)
    · try simp only [decide_eq_true_eq, decide_eq_false_iff_not] at c15
      refine r_iconst hG dX7_set_54 ?_
      refine r_istore hG dX7_set_55 (by decide) rfl ?_
      refine r_iload hG dX7_set_57 rfl ?_
      refine r_if_eq (tgt := 78) hG (by omega) dX7_set_59 (by decide) (fun c59 => ?_) (fun c59 => ?_)
      · first
          | exact absurd c59 (by decide)
          | exact V_lv (J78 (by omega)) ⟨rfl, rfl, rfl, rfl, trivial⟩
      · first
          | exact absurd rfl c59
          | exact V_lv (J62 (by omega)) ⟨rfl, rfl, rfl, rfl, trivial⟩
    · try simp only [decide_eq_true_eq, decide_eq_false_iff_not] at c15
      refine r_iload_n (i := 3) hG dX7_set_18 rfl rfl ?_
      refine r_i2l hG dX7_set_19 ?_
      refine r_iconst hG dX7_set_20 ?_
      refine r_iload_n (i := 2) hG dX7_set_21 rfl rfl ?_
      refine r_iconst hG dX7_set_22 ?_
      refine r_icmp_ne (tgt := 31) hG (by omega) (by omega) dX7_set_23 (by decide) (fun c23 => ?_) (fun c23 => ?_)
      · refine r_iload_n (i := 2) hG dX7_set_31 rfl rfl ?_
        refine r_iconst hG dX7_set_32 ?_
        refine r_icmp_ne (tgt := 41) hG (by omega) (by omega) dX7_set_33 (by decide) (fun c33 => ?_) (fun c33 => ?_)
        · refine r_sipush hG dX7_set_41 rfl ?_
          refine r_call0i hG (c_X7_inI (g_l G) (g_D G) _ _ _ (by omega) (by omega) (by omega))  gX7_set_X7_in rfl hyX7_in rfl (by decide) (by decide) rfl (Nat.le_of_ble_eq_true rfl) ⟨Nat.zero_le _, Nat.zero_le _⟩ dX7_set_44 ?_
          refine rb_if_eq (tgt := 54) hG dX7_set_47 (by decide) (fun c47 => ?_) (fun c47 => ?_)
          · try simp only [decide_eq_true_eq, decide_eq_false_iff_not] at c47
            refine r_iconst hG dX7_set_54 ?_
            refine r_istore hG dX7_set_55 (by decide) rfl ?_
            refine r_iload hG dX7_set_57 rfl ?_
            refine r_if_eq (tgt := 78) hG (by omega) dX7_set_59 (by decide) (fun c59 => ?_) (fun c59 => ?_)
            · first
                | exact absurd c59 (by decide)
                | exact V_lv (J78 (by omega)) ⟨rfl, rfl, rfl, rfl, trivial⟩
            · first
                | exact absurd rfl c59
                | exact V_lv (J62 (by omega)) ⟨rfl, rfl, rfl, rfl, trivial⟩
          · try simp only [decide_eq_true_eq, decide_eq_false_iff_not] at c47
            refine r_iconst hG dX7_set_50 ?_
            refine r_goto (tgt := 55) hG dX7_set_51 (by decide) ?_
            refine r_istore hG dX7_set_55 (by decide) rfl ?_
            refine r_iload hG dX7_set_57 rfl ?_
            refine r_if_eq (tgt := 78) hG (by omega) dX7_set_59 (by decide) (fun c59 => ?_) (fun c59 => ?_)
            · first
                | exact absurd c59 (by decide)
                | exact V_lv (J78 (by omega)) ⟨rfl, rfl, rfl, rfl, trivial⟩
            · first
                | exact absurd rfl c59
                | exact V_lv (J62 (by omega)) ⟨rfl, rfl, rfl, rfl, trivial⟩
        · refine r_bipush hG dX7_set_36 rfl ?_
          refine r_goto (tgt := 44) hG dX7_set_38 (by decide) ?_
          refine r_call0i hG (c_X7_inI (g_l G) (g_D G) _ _ _ (by omega) (by omega) (by omega))  gX7_set_X7_in rfl hyX7_in rfl (by decide) (by decide) rfl (Nat.le_of_ble_eq_true rfl) ⟨Nat.zero_le _, Nat.zero_le _⟩ dX7_set_44 ?_
          refine rb_if_eq (tgt := 54) hG dX7_set_47 (by decide) (fun c47 => ?_) (fun c47 => ?_)
          · try simp only [decide_eq_true_eq, decide_eq_false_iff_not] at c47
            refine r_iconst hG dX7_set_54 ?_
            refine r_istore hG dX7_set_55 (by decide) rfl ?_
            refine r_iload hG dX7_set_57 rfl ?_
            refine r_if_eq (tgt := 78) hG (by omega) dX7_set_59 (by decide) (fun c59 => ?_) (fun c59 => ?_)
            · first
                | exact absurd c59 (by decide)
                | exact V_lv (J78 (by omega)) ⟨rfl, rfl, rfl, rfl, trivial⟩
            · first
                | exact absurd rfl c59
                | exact V_lv (J62 (by omega)) ⟨rfl, rfl, rfl, rfl, trivial⟩
          · try simp only [decide_eq_true_eq, decide_eq_false_iff_not] at c47
            refine r_iconst hG dX7_set_50 ?_
            refine r_goto (tgt := 55) hG dX7_set_51 (by decide) ?_
            refine r_istore hG dX7_set_55 (by decide) rfl ?_
            refine r_iload hG dX7_set_57 rfl ?_
            refine r_if_eq (tgt := 78) hG (by omega) dX7_set_59 (by decide) (fun c59 => ?_) (fun c59 => ?_)
            · first
                | exact absurd c59 (by decide)
                | exact V_lv (J78 (by omega)) ⟨rfl, rfl, rfl, rfl, trivial⟩
            · first
                | exact absurd rfl c59
                | exact V_lv (J62 (by omega)) ⟨rfl, rfl, rfl, rfl, trivial⟩
      · refine r_bipush hG dX7_set_26 rfl ?_
        refine r_goto (tgt := 44) hG dX7_set_28 (by decide) ?_
        refine r_call0i hG (c_X7_inI (g_l G) (g_D G) _ _ _ (by omega) (by omega) (by omega))  gX7_set_X7_in rfl hyX7_in rfl (by decide) (by decide) rfl (Nat.le_of_ble_eq_true rfl) ⟨Nat.zero_le _, Nat.zero_le _⟩ dX7_set_44 ?_
        refine rb_if_eq (tgt := 54) hG dX7_set_47 (by decide) (fun c47 => ?_) (fun c47 => ?_)
        · try simp only [decide_eq_true_eq, decide_eq_false_iff_not] at c47
          refine r_iconst hG dX7_set_54 ?_
          refine r_istore hG dX7_set_55 (by decide) rfl ?_
          refine r_iload hG dX7_set_57 rfl ?_
          refine r_if_eq (tgt := 78) hG (by omega) dX7_set_59 (by decide) (fun c59 => ?_) (fun c59 => ?_)
          · first
              | exact absurd c59 (by decide)
              | exact V_lv (J78 (by omega)) ⟨rfl, rfl, rfl, rfl, trivial⟩
          · first
              | exact absurd rfl c59
              | exact V_lv (J62 (by omega)) ⟨rfl, rfl, rfl, rfl, trivial⟩
        · try simp only [decide_eq_true_eq, decide_eq_false_iff_not] at c47
          refine r_iconst hG dX7_set_50 ?_
          refine r_goto (tgt := 55) hG dX7_set_51 (by decide) ?_
          refine r_istore hG dX7_set_55 (by decide) rfl ?_
          refine r_iload hG dX7_set_57 rfl ?_
          refine r_if_eq (tgt := 78) hG (by omega) dX7_set_59 (by decide) (fun c59 => ?_) (fun c59 => ?_)
          · first
              | exact absurd c59 (by decide)
              | exact V_lv (J78 (by omega)) ⟨rfl, rfl, rfl, rfl, trivial⟩
          · first
              | exact absurd rfl c59
              | exact V_lv (J62 (by omega)) ⟨rfl, rfl, rfl, rfl, trivial⟩
theorem hyX7_likes : hyV yX7_likes RX7 3 := by decide +kernel
set_option maxHeartbeats 4000000 in
set_option maxRecDepth 100000 in
theorem c_X7_likes (l : Launch) (D : va_G) (a : Nat → Nat) (Z K U R : YS) (C : Int → Int64) (hT : TI (Z, K, R, C)) (c t v : Int) (hc : -2147483648 ≤ c ∧ c < 2147483648) (ht : -2147483648 ≤ t ∧ t < 2147483648) (hv : -2147483648 ≤ v ∧ v < 2147483648) : Con l yX7_likes wsX7_likes 2 D (mw D a Z K U R C) [.ref (a 0), .int (iI c), .int (iI t), .int (iI v)] (some (.int (iI ((s_likes (Z, K, R, C) c t v).1)))) (fun ww => ∃ U2, ww = mwT D a (s_likes (Z, K, R, C) c t v).2 U2) := by
  refine con_start (own := RX7) (by decide) rfl rfl (Nat.le_of_ble_eq_true rfl) ?_
  intro G hG hE hl hD
  subst hl
  subst hD
  have hI : Inv Z := hT.1.1
  have hN := hI.1
  have hr0 := hI.2.1
  have hu5 := hI.2.2.1
  have hrd : Z 5 0 ≤ 99999 := hT.1.2.2
  have J56 : ¬ ((0 ≤ c ∧ c < Z 5 2) ∧ (0 ≤ t ∧ t ≤ 9) ∧ 0 ≤ v ∧ v ≤ 20) → V G 0 0 (mw (g_D G) a Z K U R C) 56 [(0, .ref (a 0)), (1, .int (iI c)), (2, .int (iI t)), (3, .int (iI v))] [] := by
    intro hc2
    refine r_aload_n (i := 0) hG dX7_likes_56 rfl rfl ?_
    refine r_ldc (n := -1000000001) hG (List.mem_of_getElem? (i := 1) rfl) rfl dX7_likes_57 ?_
    refine r_callVi hG (c_X7_finds (g_l G) (g_D G) a Z K U R C (-1000000001) 0 (by omega) (by omega))  gX7_likes_X7_finds rfl hyX7_finds rfl (by decide) (by decide) 0 rfl rfl rfl (Nat.le_of_ble_eq_true rfl) ⟨Nat.zero_le _, Nat.zero_le _⟩ dX7_likes_59 (fun w hw => ?_)
    subst hw
    exact r_iret hG hE dX7_likes_62 (by unfold s_likes; (try dsimp only); (repeat (first | rw [if_pos (by omega)] | rw [if_neg (by omega)])) <;> (first | rfl | skip)) ⟨U, (by unfold s_likes; (try dsimp only); (repeat (first | rw [if_pos (by omega)] | rw [if_neg (by omega)])) <;> (first | rfl | skip))⟩
  have J38 : (0 ≤ c ∧ c < Z 5 2) ∧ (0 ≤ t ∧ t ≤ 9) ∧ 0 ≤ v ∧ v ≤ 20 → V G 0 0 (mw (g_D G) a Z K U R C) 38 [(0, .ref (a 0)), (1, .int (iI c)), (2, .int (iI t)), (3, .int (iI v))] [] := by
    intro hc2
    refine r_aload_n (i := 0) hG dX7_likes_38 rfl rfl ?_
    refine r_iconst hG dX7_likes_39 ?_
    refine r_bipush hG dX7_likes_40 rfl ?_
    refine r_iload_n (i := 1) hG dX7_likes_42 rfl rfl ?_
    refine r_imul hG dX7_likes_43 ?_
    refine r_iadd hG dX7_likes_44 ?_
    refine r_iconst hG dX7_likes_45 ?_
    refine r_iadd hG dX7_likes_46 ?_
    refine r_iload_n (i := 2) hG dX7_likes_47 rfl rfl ?_
    refine r_iadd hG dX7_likes_48 ?_
    refine r_iload_n (i := 3) hG dX7_likes_49 rfl rfl ?_
    refine r_callVi hG (c_X7_becomes (g_l G) (g_D G) a Z K U R C _ _ (Z 4 (c * 10 + t)) (by omega) (by rw [← mro_l Z (c := c) (t := t) (by omega) (by omega)]; congr 1; omega) (upY Z 4 (c * 10 + t) v) (fun j hj => by rw [← mro_upl Z (c := c) (t := t) (by omega) (by omega) j hj]; congr 1; omega))  gX7_likes_X7_becomes rfl hyX7_becomes rfl (by decide) (by decide) 0 rfl rfl rfl (Nat.le_of_ble_eq_true rfl) ⟨Nat.zero_le _, Nat.zero_le _⟩ dX7_likes_50 (fun w hw => ?_)
    subst hw
    refine r_goto (tgt := 62) hG dX7_likes_53 (by decide) ?_
    exact r_iret hG hE dX7_likes_62 (by unfold s_likes; (try dsimp only); (repeat (first | rw [if_pos (by omega)] | rw [if_neg (by omega)])) <;> (first | rfl | skip)) ⟨U, (by unfold s_likes; (try dsimp only); (repeat (first | rw [if_pos (by omega)] | rw [if_neg (by omega)])) <;> (first | rfl | skip))⟩
  refine r_aload_n (i := 0) hG dX7_likes_0 rfl rfl ?_
  refine r_iload_n (i := 1) hG dX7_likes_1 rfl rfl ?_
  refine r_callVi hG (c_X7_isChild (g_l G) (g_D G) a Z K U R C hI _ (by omega))  gX7_likes_X7_isChild rfl hyX7_isChild rfl (by decide) (by decide) 0 rfl rfl rfl (Nat.le_of_ble_eq_true rfl) ⟨Nat.zero_le _, Nat.zero_le _⟩ dX7_likes_2 (fun w hw => ?_)
  subst hw
  refine rb_if_eq (tgt := 30) hG dX7_likes_5 (by decide) (fun c5 => ?_) (fun c5 => ?_)
  · try simp only [decide_eq_true_eq, decide_eq_false_iff_not] at c5
    refine r_iconst hG dX7_likes_30 ?_
    refine r_istore hG dX7_likes_31 (by decide) rfl ?_
    refine r_iload hG dX7_likes_33 rfl ?_
    refine r_if_eq (tgt := 56) hG (by omega) dX7_likes_35 (by decide) (fun c35 => ?_) (fun c35 => ?_)
    · first
        | exact absurd c35 (by decide)
        | exact V_lv (J56 (by omega)) ⟨rfl, rfl, rfl, rfl, trivial⟩
    · first
        | exact absurd rfl c35
        | exact V_lv (J38 (by omega)) ⟨rfl, rfl, rfl, rfl, trivial⟩
  · try simp only [decide_eq_true_eq, decide_eq_false_iff_not] at c5
    refine r_iload_n (i := 2) hG dX7_likes_8 rfl rfl ?_
    refine r_call0i hG (c_X7_isThing (g_l G) (g_D G) _ (by omega))  gX7_likes_X7_isThing rfl hyX7_isThing rfl (by decide) (by decide) rfl (Nat.le_of_ble_eq_true rfl) ⟨Nat.zero_le _, Nat.zero_le _⟩ dX7_likes_9 ?_
    refine rb_if_eq (tgt := 30) hG dX7_likes_12 (by decide) (fun c12 => ?_) (fun c12 => ?_)
    · try simp only [decide_eq_true_eq, decide_eq_false_iff_not] at c12
      refine r_iconst hG dX7_likes_30 ?_
      refine r_istore hG dX7_likes_31 (by decide) rfl ?_
      refine r_iload hG dX7_likes_33 rfl ?_
      refine r_if_eq (tgt := 56) hG (by omega) dX7_likes_35 (by decide) (fun c35 => ?_) (fun c35 => ?_)
      · first
          | exact absurd c35 (by decide)
          | exact V_lv (J56 (by omega)) ⟨rfl, rfl, rfl, rfl, trivial⟩
      · first
          | exact absurd rfl c35
          | exact V_lv (J38 (by omega)) ⟨rfl, rfl, rfl, rfl, trivial⟩
    · try simp only [decide_eq_true_eq, decide_eq_false_iff_not] at c12
      refine r_iload_n (i := 3) hG dX7_likes_15 rfl rfl ?_
      refine r_i2l hG dX7_likes_16 ?_
      refine r_iconst hG dX7_likes_17 ?_
      refine r_bipush hG dX7_likes_18 rfl ?_
      refine r_call0i hG (c_X7_inI (g_l G) (g_D G) _ _ _ (by omega) (by omega) (by omega))  gX7_likes_X7_in rfl hyX7_in rfl (by decide) (by decide) rfl (Nat.le_of_ble_eq_true rfl) ⟨Nat.zero_le _, Nat.zero_le _⟩ dX7_likes_20 ?_
      refine rb_if_eq (tgt := 30) hG dX7_likes_23 (by decide) (fun c23 => ?_) (fun c23 => ?_)
      · try simp only [decide_eq_true_eq, decide_eq_false_iff_not] at c23
        refine r_iconst hG dX7_likes_30 ?_
        refine r_istore hG dX7_likes_31 (by decide) rfl ?_
        refine r_iload hG dX7_likes_33 rfl ?_
        refine r_if_eq (tgt := 56) hG (by omega) dX7_likes_35 (by decide) (fun c35 => ?_) (fun c35 => ?_)
        · first
            | exact absurd c35 (by decide)
            | exact V_lv (J56 (by omega)) ⟨rfl, rfl, rfl, rfl, trivial⟩
        · first
            | exact absurd rfl c35
            | exact V_lv (J38 (by omega)) ⟨rfl, rfl, rfl, rfl, trivial⟩
      · try simp only [decide_eq_true_eq, decide_eq_false_iff_not] at c23
        refine r_iconst hG dX7_likes_26 ?_
        refine r_goto (tgt := 31) hG dX7_likes_27 (by decide) ?_
        refine r_istore hG dX7_likes_31 (by decide) rfl ?_
        refine r_iload hG dX7_likes_33 rfl ?_
        refine r_if_eq (tgt := 56) hG (by omega) dX7_likes_35 (by decide) (fun c35 => ?_) (fun c35 => ?_)
        · first
            | exact absurd c35 (by decide)
            | exact V_lv (J56 (by omega)) ⟨rfl, rfl, rfl, rfl, trivial⟩
        · first
            | exact absurd rfl c35
            | exact V_lv (J38 (by omega)) ⟨rfl, rfl, rfl, rfl, trivial⟩
theorem hyX7_as : hyV yX7_as RX7 2 := by decide +kernel
set_option maxHeartbeats 4000000 in
set_option maxRecDepth 100000 in
theorem c_X7_as (l : Launch) (D : va_G) (a : Nat → Nat) (Z K U R : YS) (C : Int → Int64) (hT : TI (Z, K, R, C)) (c k : Int) (hc : -2147483648 ≤ c ∧ c < 2147483648) (hk : -2147483648 ≤ k ∧ k < 2147483648) : Con l yX7_as wsX7_as 2 D (mw D a Z K U R C) [.ref (a 0), .int (iI c), .int (iI k)] (some (.int (iI ((s_as (Z, K, R, C) c k).1)))) (fun ww => ∃ U2, ww = mwT D a (s_as (Z, K, R, C) c k).2 U2) := by
  refine con_start (own := RX7) (by decide) rfl rfl (Nat.le_of_ble_eq_true rfl) ?_
  intro G hG hE hl hD
  subst hl
  subst hD
  have hI : Inv Z := hT.1.1
  have hN := hI.1
  have hr0 := hI.2.1
  have hu5 := hI.2.2.1
  have hrd : Z 5 0 ≤ 99999 := hT.1.2.2
  have J82 : (0 ≤ c ∧ c < Z 5 2) ∧ 0 ≤ k ∧ k ≤ 5 → ¬ (k = 0 ∨ k = Z 0 c ∨ (k = 1 ∧ Z 0 c = 4) ∨ (k = 2 ∧ Z 0 c = 5)) → V G 0 0 (mw (g_D G) a Z K U R C) 82 [(0, .ref (a 0)), (1, .int (iI c)), (2, .int (iI k))] [] := by
    intro hc2 hm
    refine r_aload_n (i := 0) hG dX7_as_82 rfl rfl ?_
    refine r_ldc (n := -1000000003) hG (List.mem_of_getElem? (i := 2) rfl) rfl dX7_as_83 ?_
    refine r_callVi hG (c_X7_finds (g_l G) (g_D G) a Z K U R C (-1000000003) 2 (by omega) (by omega))  gX7_as_X7_finds rfl hyX7_finds rfl (by decide) (by decide) 0 rfl rfl rfl (Nat.le_of_ble_eq_true rfl) ⟨Nat.zero_le _, Nat.zero_le _⟩ dX7_as_85 (fun w hw => ?_)
    subst hw
    exact r_iret hG hE dX7_as_88 (by unfold s_as; (try dsimp only); (repeat (first | rw [if_pos (by omega)] | rw [if_neg (by omega)])) <;> (first | rfl | skip)) ⟨U, (by unfold s_as; (try dsimp only); (repeat (first | rw [if_pos (by omega)] | rw [if_neg (by omega)])) <;> (first | rfl | skip))⟩
  have J73 : (0 ≤ c ∧ c < Z 5 2) ∧ 0 ≤ k ∧ k ≤ 5 → (k = 0 ∨ k = Z 0 c ∨ (k = 1 ∧ Z 0 c = 4) ∨ (k = 2 ∧ Z 0 c = 5)) → V G 0 0 (mw (g_D G) a Z K U R C) 73 [(0, .ref (a 0)), (1, .int (iI c)), (2, .int (iI k))] [] := by
    intro hc2 hm
    refine r_aload_n (i := 0) hG dX7_as_73 rfl rfl ?_
    refine r_iload_n (i := 1) hG dX7_as_74 rfl rfl ?_
    refine r_iconst hG dX7_as_75 ?_
    refine r_callVi hG (c_it3 (g_l G) (g_D G) a (Z) K U R C _ (by omega))  gX7_as_X7_it rfl hyX7_it rfl (by decide) (by decide) 0 rfl rfl rfl (Nat.le_of_ble_eq_true rfl) ⟨Nat.zero_le _, Nat.zero_le _⟩ dX7_as_76 (fun w hw => ?_)
    subst hw
    refine r_goto (tgt := 88) hG dX7_as_79 (by decide) ?_
    exact r_iret hG hE dX7_as_88 (by unfold s_as; (try dsimp only); (repeat (first | rw [if_pos (by omega)] | rw [if_neg (by omega)])) <;> (first | rfl | skip)) ⟨U, (by unfold s_as; (try dsimp only); (repeat (first | rw [if_pos (by omega)] | rw [if_neg (by omega)])) <;> (first | rfl | skip))⟩
  have J25 : (0 ≤ c ∧ c < Z 5 2) ∧ 0 ≤ k ∧ k ≤ 5 → V G 0 0 (mw (g_D G) a Z K U R C) 25 [(0, .ref (a 0)), (1, .int (iI c)), (2, .int (iI k))] [] := by
    intro hc2
    have hc1 := Inv_c hI (c := c) (by omega)
    refine r_aload_n (i := 0) hG dX7_as_25 rfl rfl ?_
    refine r_iload_n (i := 1) hG dX7_as_26 rfl rfl ?_
    refine r_iconst hG dX7_as_27 ?_
    refine r_callVi hG (c_it0 (g_l G) (g_D G) a (Z) K U R C _ (by omega))  gX7_as_X7_it rfl hyX7_it rfl (by decide) (by decide) 0 rfl rfl rfl (Nat.le_of_ble_eq_true rfl) ⟨Nat.zero_le _, Nat.zero_le _⟩ dX7_as_28 (fun w hw => ?_)
    subst hw
    refine r_istore_n (i := 3) hG dX7_as_31 rfl (by decide) rfl ?_
    refine r_iload_n (i := 2) hG dX7_as_32 rfl rfl ?_
    refine r_if_eq (tgt := 61) hG (by omega) dX7_as_33 (by decide) (fun c33 => ?_) (fun c33 => ?_)
    · refine r_iconst hG dX7_as_61 ?_
      refine r_goto (tgt := 66) hG dX7_as_62 (by decide) ?_
      refine r_istore hG dX7_as_66 (by decide) rfl ?_
      refine r_iload hG dX7_as_68 rfl ?_
      refine r_if_eq (tgt := 82) hG (by omega) dX7_as_70 (by decide) (fun c70 => ?_) (fun c70 => ?_)
      · first
          | exact absurd c70 (by decide)
          | exact V_lv (J82 hc2 (by omega)) ⟨rfl, rfl, rfl, trivial⟩
      · first
          | exact absurd rfl c70
          | exact V_lv (J73 hc2 (by omega)) ⟨rfl, rfl, rfl, trivial⟩
    · refine r_iload_n (i := 2) hG dX7_as_36 rfl rfl ?_
      refine r_iload_n (i := 3) hG dX7_as_37 rfl rfl ?_
      refine r_icmp_eq (tgt := 61) hG (by omega) (by omega) dX7_as_38 (by decide) (fun c38 => ?_) (fun c38 => ?_)
      · refine r_iconst hG dX7_as_61 ?_
        refine r_goto (tgt := 66) hG dX7_as_62 (by decide) ?_
        refine r_istore hG dX7_as_66 (by decide) rfl ?_
        refine r_iload hG dX7_as_68 rfl ?_
        refine r_if_eq (tgt := 82) hG (by omega) dX7_as_70 (by decide) (fun c70 => ?_) (fun c70 => ?_)
        · first
            | exact absurd c70 (by decide)
            | exact V_lv (J82 hc2 (by omega)) ⟨rfl, rfl, rfl, trivial⟩
        · first
            | exact absurd rfl c70
            | exact V_lv (J73 hc2 (by omega)) ⟨rfl, rfl, rfl, trivial⟩
      · refine r_iload_n (i := 2) hG dX7_as_41 rfl rfl ?_
        refine r_iconst hG dX7_as_42 ?_
        refine r_icmp_ne (tgt := 51) hG (by omega) (by omega) dX7_as_43 (by decide) (fun c43 => ?_) (fun c43 => ?_)
        · refine r_iload_n (i := 2) hG dX7_as_51 rfl rfl ?_
          refine r_iconst hG dX7_as_52 ?_
          refine r_icmp_ne (tgt := 65) hG (by omega) (by omega) dX7_as_53 (by decide) (fun c53 => ?_) (fun c53 => ?_)
          · refine r_iconst hG dX7_as_65 ?_
            refine r_istore hG dX7_as_66 (by decide) rfl ?_
            refine r_iload hG dX7_as_68 rfl ?_
            refine r_if_eq (tgt := 82) hG (by omega) dX7_as_70 (by decide) (fun c70 => ?_) (fun c70 => ?_)
            · first
                | exact absurd c70 (by decide)
                | exact V_lv (J82 hc2 (by omega)) ⟨rfl, rfl, rfl, trivial⟩
            · first
                | exact absurd rfl c70
                | exact V_lv (J73 hc2 (by omega)) ⟨rfl, rfl, rfl, trivial⟩
          · refine r_iload_n (i := 3) hG dX7_as_56 rfl rfl ?_
            refine r_iconst hG dX7_as_57 ?_
            refine r_icmp_ne (tgt := 65) hG (by omega) (by omega) dX7_as_58 (by decide) (fun c58 => ?_) (fun c58 => ?_)
            · refine r_iconst hG dX7_as_65 ?_
              refine r_istore hG dX7_as_66 (by decide) rfl ?_
              refine r_iload hG dX7_as_68 rfl ?_
              refine r_if_eq (tgt := 82) hG (by omega) dX7_as_70 (by decide) (fun c70 => ?_) (fun c70 => ?_)
              · first
                  | exact absurd c70 (by decide)
                  | exact V_lv (J82 hc2 (by omega)) ⟨rfl, rfl, rfl, trivial⟩
              · first
                  | exact absurd rfl c70
                  | exact V_lv (J73 hc2 (by omega)) ⟨rfl, rfl, rfl, trivial⟩
            · refine r_iconst hG dX7_as_61 ?_
              refine r_goto (tgt := 66) hG dX7_as_62 (by decide) ?_
              refine r_istore hG dX7_as_66 (by decide) rfl ?_
              refine r_iload hG dX7_as_68 rfl ?_
              refine r_if_eq (tgt := 82) hG (by omega) dX7_as_70 (by decide) (fun c70 => ?_) (fun c70 => ?_)
              · first
                  | exact absurd c70 (by decide)
                  | exact V_lv (J82 hc2 (by omega)) ⟨rfl, rfl, rfl, trivial⟩
              · first
                  | exact absurd rfl c70
                  | exact V_lv (J73 hc2 (by omega)) ⟨rfl, rfl, rfl, trivial⟩
        · refine r_iload_n (i := 3) hG dX7_as_46 rfl rfl ?_
          refine r_iconst hG dX7_as_47 ?_
          refine r_icmp_eq (tgt := 61) hG (by omega) (by omega) dX7_as_48 (by decide) (fun c48 => ?_) (fun c48 => ?_)
          · refine r_iconst hG dX7_as_61 ?_
            refine r_goto (tgt := 66) hG dX7_as_62 (by decide) ?_
            refine r_istore hG dX7_as_66 (by decide) rfl ?_
            refine r_iload hG dX7_as_68 rfl ?_
            refine r_if_eq (tgt := 82) hG (by omega) dX7_as_70 (by decide) (fun c70 => ?_) (fun c70 => ?_)
            · first
                | exact absurd c70 (by decide)
                | exact V_lv (J82 hc2 (by omega)) ⟨rfl, rfl, rfl, trivial⟩
            · first
                | exact absurd rfl c70
                | exact V_lv (J73 hc2 (by omega)) ⟨rfl, rfl, rfl, trivial⟩
          · refine r_iload_n (i := 2) hG dX7_as_51 rfl rfl ?_
            refine r_iconst hG dX7_as_52 ?_
            refine r_icmp_ne (tgt := 65) hG (by omega) (by omega) dX7_as_53 (by decide) (fun c53 => ?_) (fun c53 => ?_)
            · refine r_iconst hG dX7_as_65 ?_
              refine r_istore hG dX7_as_66 (by decide) rfl ?_
              refine r_iload hG dX7_as_68 rfl ?_
              refine r_if_eq (tgt := 82) hG (by omega) dX7_as_70 (by decide) (fun c70 => ?_) (fun c70 => ?_)
              · first
                  | exact absurd c70 (by decide)
                  | exact V_lv (J82 hc2 (by omega)) ⟨rfl, rfl, rfl, trivial⟩
              · first
                  | exact absurd rfl c70
                  | exact V_lv (J73 hc2 (by omega)) ⟨rfl, rfl, rfl, trivial⟩
            · refine r_iload_n (i := 3) hG dX7_as_56 rfl rfl ?_
              refine r_iconst hG dX7_as_57 ?_
              refine r_icmp_ne (tgt := 65) hG (by omega) (by omega) dX7_as_58 (by decide) (fun c58 => ?_) (fun c58 => ?_)
              · refine r_iconst hG dX7_as_65 ?_
                refine r_istore hG dX7_as_66 (by decide) rfl ?_
                refine r_iload hG dX7_as_68 rfl ?_
                refine r_if_eq (tgt := 82) hG (by omega) dX7_as_70 (by decide) (fun c70 => ?_) (fun c70 => ?_)
                · first
                    | exact absurd c70 (by decide)
                    | exact V_lv (J82 hc2 (by omega)) ⟨rfl, rfl, rfl, trivial⟩
                · first
                    | exact absurd rfl c70
                    | exact V_lv (J73 hc2 (by omega)) ⟨rfl, rfl, rfl, trivial⟩
              · refine r_iconst hG dX7_as_61 ?_
                refine r_goto (tgt := 66) hG dX7_as_62 (by decide) ?_
                refine r_istore hG dX7_as_66 (by decide) rfl ?_
                refine r_iload hG dX7_as_68 rfl ?_
                refine r_if_eq (tgt := 82) hG (by omega) dX7_as_70 (by decide) (fun c70 => ?_) (fun c70 => ?_)
                · first
                    | exact absurd c70 (by decide)
                    | exact V_lv (J82 hc2 (by omega)) ⟨rfl, rfl, rfl, trivial⟩
                · first
                    | exact absurd rfl c70
                    | exact V_lv (J73 hc2 (by omega)) ⟨rfl, rfl, rfl, trivial⟩
  refine r_aload_n (i := 0) hG dX7_as_0 rfl rfl ?_
  refine r_iload_n (i := 1) hG dX7_as_1 rfl rfl ?_
  refine r_callVi hG (c_X7_isChild (g_l G) (g_D G) a Z K U R C hI _ (by omega))  gX7_as_X7_isChild rfl hyX7_isChild rfl (by decide) (by decide) 0 rfl rfl rfl (Nat.le_of_ble_eq_true rfl) ⟨Nat.zero_le _, Nat.zero_le _⟩ dX7_as_2 (fun w hw => ?_)
  subst hw
  refine rb_if_eq (tgt := 18) hG dX7_as_5 (by decide) (fun c5 => ?_) (fun c5 => ?_)
  · try simp only [decide_eq_true_eq, decide_eq_false_iff_not] at c5
    refine r_aload_n (i := 0) hG dX7_as_18 rfl rfl ?_
    refine r_ldc (n := -1000000001) hG (List.mem_of_getElem? (i := 1) rfl) rfl dX7_as_19 ?_
    refine r_callVi hG (c_X7_finds (g_l G) (g_D G) a Z K U R C (-1000000001) 0 (by omega) (by omega))  gX7_as_X7_finds rfl hyX7_finds rfl (by decide) (by decide) 0 rfl rfl rfl (Nat.le_of_ble_eq_true rfl) ⟨Nat.zero_le _, Nat.zero_le _⟩ dX7_as_21 (fun w hw => ?_)
    subst hw
    exact r_iret hG hE dX7_as_24 (by unfold s_as; (try dsimp only); (repeat (first | rw [if_pos (by omega)] | rw [if_neg (by omega)])) <;> (first | rfl | skip)) ⟨U, (by unfold s_as; (try dsimp only); (repeat (first | rw [if_pos (by omega)] | rw [if_neg (by omega)])) <;> (first | rfl | skip))⟩
  · try simp only [decide_eq_true_eq, decide_eq_false_iff_not] at c5
    refine r_iload_n (i := 2) hG dX7_as_8 rfl rfl ?_
    refine r_i2l hG dX7_as_9 ?_
    refine r_iconst hG dX7_as_10 ?_
    refine r_iconst hG dX7_as_11 ?_
    refine r_call0i hG (c_X7_inI (g_l G) (g_D G) _ _ _ (by omega) (by omega) (by omega))  gX7_as_X7_in rfl hyX7_in rfl (by decide) (by decide) rfl (Nat.le_of_ble_eq_true rfl) ⟨Nat.zero_le _, Nat.zero_le _⟩ dX7_as_12 ?_
    refine rb_if_ne (tgt := 25) hG dX7_as_15 (by decide) (fun c15 => ?_) (fun c15 => ?_)
    · try simp only [decide_eq_true_eq, decide_eq_false_iff_not] at c15
      exact V_lv (J25 (by omega)) ⟨rfl, rfl, rfl, trivial⟩
    · try simp only [decide_eq_true_eq, decide_eq_false_iff_not] at c15
      refine r_aload_n (i := 0) hG dX7_as_18 rfl rfl ?_
      refine r_ldc (n := -1000000001) hG (List.mem_of_getElem? (i := 1) rfl) rfl dX7_as_19 ?_
      refine r_callVi hG (c_X7_finds (g_l G) (g_D G) a Z K U R C (-1000000001) 0 (by omega) (by omega))  gX7_as_X7_finds rfl hyX7_finds rfl (by decide) (by decide) 0 rfl rfl rfl (Nat.le_of_ble_eq_true rfl) ⟨Nat.zero_le _, Nat.zero_le _⟩ dX7_as_21 (fun w hw => ?_)
      subst hw
      exact r_iret hG hE dX7_as_24 (by unfold s_as; (try dsimp only); (repeat (first | rw [if_pos (by omega)] | rw [if_neg (by omega)])) <;> (first | rfl | skip)) ⟨U, (by unfold s_as; (try dsimp only); (repeat (first | rw [if_pos (by omega)] | rw [if_neg (by omega)])) <;> (first | rfl | skip))⟩
theorem kX7_ring_9 : Cond.fieldLink RX7 9 "BreakSwapsModel" "m" "[I" ∈ wsX7_ring := List.mem_of_getElem? (i := 1) rfl
theorem cX7_ring_X7 : ∀ w ∈ wsX70, w ∈ wsX7_ring := fun _ h => List.mem_cons_of_mem _ (List.mem_append_right _ h)
theorem hyX7_ring : hyV yX7_ring RX7 0 := by decide +kernel
set_option maxHeartbeats 4000000 in
set_option maxRecDepth 100000 in
theorem c_X7_ring (l : Launch) (D : va_G) (a : Nat → Nat) (Z K U R : YS) (C : Int → Int64) (hT : TI (Z, K, R, C))  : Con l yX7_ring wsX7_ring 6 D (mw D a Z K U R C) [.ref (a 0)] (some (.int (iI ((s_ring (Z, K, R, C)).1)))) (fun ww => ∃ U2, ww = mwT D a (s_ring (Z, K, R, C)).2 U2) := by
  refine con_start (own := RX7) (by decide) rfl rfl (Nat.le_of_ble_eq_true rfl) ?_
  intro G hG hE hl hD
  subst hl
  subst hD
  have hI : Inv Z := hT.1.1
  have hN := hI.1
  have hr0 := hI.2.1
  have hu5 := hI.2.2.1
  have hrd : Z 5 0 ≤ 99999 := hT.1.2.2
  have hq := sq_rng hI.1
  have L : ∀ i : Nat, i ≤ (Z 5 2 * Z 5 2 * Z 5 2).toNat → (∀ j : Nat, j < i → ringF Z j = false) → V G 0 0 (mw (g_D G) a Z K U R C) 9 [(0, .ref (a 0)), (1, .int (iI (Z 5 2))), (2, .int (iI (i : Int)))] [] := by
    refine down (fun i hi ih hF => ?_)
    have hx : ¬ (Z 5 2 * Z 5 2 * Z 5 2) ≤ (i : Int) → _ := fun h => ring_ix (k := (i : Int)) hI.1 (by omega)
    refine r_iload_n (i := 2) hG dX7_ring_9 rfl rfl ?_
    refine r_iload_n (i := 1) hG dX7_ring_10 rfl rfl ?_
    refine r_iload_n (i := 1) hG dX7_ring_11 rfl rfl ?_
    refine r_imul hG dX7_ring_12 ?_
    refine r_iload_n (i := 1) hG dX7_ring_13 rfl rfl ?_
    refine r_imul hG dX7_ring_14 ?_
    refine r_icmp_ge (tgt := 65) hG (by omega) (by omega) dX7_ring_15 (by decide) (fun c15 => ?_) (fun c15 => ?_)
    · refine r_aload_n (i := 0) hG dX7_ring_65 rfl rfl ?_
      refine r_ldc (n := -1000000004) hG (List.mem_of_getElem? (i := 2) rfl) rfl dX7_ring_66 ?_
      refine r_callVi hG (c_X7_finds (g_l G) (g_D G) a Z K U R C (-1000000004) 3 (by omega) (by omega))  gX7_ring_X7_finds rfl hyX7_finds rfl (by decide) (by decide) 0 rfl rfl rfl (Nat.le_of_ble_eq_true rfl) ⟨Nat.zero_le _, Nat.zero_le _⟩ dX7_ring_68 (fun w hw => ?_)
      subst hw
      have e1 := leastN_none (f := ringF Z) (n := (Z 5 2 * Z 5 2 * Z 5 2).toNat) (fun j hj => hF j (by omega))
      exact r_iret hG hE dX7_ring_71 (by unfold s_ring; dsimp only; rw [e1, if_pos (by omega)]; rfl) ⟨U, by unfold s_ring; dsimp only; rw [e1, if_pos (by omega)]; rfl⟩
    · refine r_iload_n (i := 2) hG dX7_ring_18 rfl rfl ?_
      refine r_iload_n (i := 1) hG dX7_ring_19 rfl rfl ?_
      refine r_iload_n (i := 1) hG dX7_ring_20 rfl rfl ?_
      refine r_imul hG dX7_ring_21 ?_
      refine r_idiv hG (by omega) (by have := hx (by omega); omega) dX7_ring_22 ?_
      refine r_istore_n (i := 3) hG dX7_ring_23 rfl (by decide) rfl ?_
      refine r_iload_n (i := 2) hG dX7_ring_24 rfl rfl ?_
      refine r_iload_n (i := 1) hG dX7_ring_25 rfl rfl ?_
      refine r_idiv hG (by omega) (by have := hx (by omega); omega) dX7_ring_26 ?_
      refine r_iload_n (i := 1) hG dX7_ring_27 rfl rfl ?_
      refine r_irem hG (by have := hx (by omega); omega) (by have := hx (by omega); omega) dX7_ring_28 ?_
      refine r_istore hG dX7_ring_29 (by decide) rfl ?_
      refine r_aload_n (i := 0) hG dX7_ring_31 rfl rfl ?_
      refine r_iload_n (i := 3) hG dX7_ring_32 rfl rfl ?_
      refine r_iload hG dX7_ring_33 rfl ?_
      refine r_iload_n (i := 2) hG dX7_ring_35 rfl rfl ?_
      refine r_iload_n (i := 1) hG dX7_ring_36 rfl rfl ?_
      refine r_irem hG (by omega) (by have := hx (by omega); omega) dX7_ring_37 ?_
      refine r_callVi hG (c_X7_isRing (g_l G) (g_D G) a Z K U R C hI _ _ _ (by have := hx (by omega); omega) (by have := hx (by omega); omega) (by have := hx (by omega); omega))  gX7_ring_X7_isRing rfl hyX7_isRing rfl (by decide) (by decide) 0 rfl rfl rfl (Nat.le_of_ble_eq_true rfl) ⟨Nat.zero_le _, Nat.zero_le _⟩ dX7_ring_38 (fun w hw => ?_)
      subst hw
      refine rb_if_eq (tgt := 59) hG dX7_ring_41 (by decide) (fun c41 => ?_) (fun c41 => ?_)
      · try simp only [decide_eq_true_eq, decide_eq_false_iff_not] at c41
        refine r_iinc hG dX7_ring_59 rfl (by decide) rfl ?_
        refine r_goto (tgt := 9) hG dX7_ring_62 (by decide) ?_
        exact V_lv (ih (by omega) (lt_s hF c41)) ⟨rfl, rfl, rfl, trivial⟩
      · try simp only [decide_eq_true_eq, decide_eq_false_iff_not] at c41
        refine r_bipush hG dX7_ring_44 rfl ?_
        refine r_iload_n (i := 3) hG dX7_ring_46 rfl rfl ?_
        refine r_imul hG dX7_ring_47 ?_
        refine r_bipush hG dX7_ring_48 rfl ?_
        refine r_iload hG dX7_ring_50 rfl ?_
        refine r_imul hG dX7_ring_52 ?_
        refine r_iadd hG dX7_ring_53 ?_
        refine r_iload_n (i := 2) hG dX7_ring_54 rfl rfl ?_
        refine r_iload_n (i := 1) hG dX7_ring_55 rfl rfl ?_
        refine r_irem hG (by omega) (by have := hx (by omega); omega) dX7_ring_56 ?_
        refine r_iadd hG dX7_ring_57 ?_
        have e1 := leastN_at (f := ringF Z) hF c41 (show i < (Z 5 2 * Z 5 2 * Z 5 2).toNat by omega)
        exact r_iret hG hE dX7_ring_58 (by unfold s_ring; dsimp only; rw [e1, if_neg (by omega)]; rfl) ⟨U, by unfold s_ring; dsimp only; rw [e1, if_neg (by omega)]; rfl⟩
  refine r_aload_n (i := 0) hG dX7_ring_0 rfl rfl ?_
  refine r_get hG cX7_ring_X7 0 0 rfl rfl (by decide) kX7_ring_9 rfl dX7_ring_1 ?_
  refine r_iconst hG dX7_ring_4 ?_
  refine r_iald hG 1 rfl (by omega) (by decide) dX7_ring_5 ?_
  refine V_top (x' := iI ((Z) 5 2)) (congrArg iI (mro_2 (Z))) ?_
  refine r_istore_n (i := 1) hG dX7_ring_6 rfl (by decide) rfl ?_
  refine r_iconst hG dX7_ring_7 ?_
  refine r_istore_n (i := 2) hG dX7_ring_8 rfl (by decide) rfl ?_
  exact V_lv (L 0 (by omega) (fun j hj => absurd hj (by omega))) ⟨rfl, rfl, rfl, trivial⟩
theorem kX7_rounds_9 : Cond.fieldLink RX7 9 "BreakSwapsModel" "m" "[I" ∈ wsX7_rounds := List.mem_of_getElem? (i := 2) rfl
theorem cX7_rounds_X7 : ∀ w ∈ wsX70, w ∈ wsX7_rounds := fun _ h => List.mem_cons_of_mem _ (List.mem_append_right _ h)
theorem hyX7_rounds : hyV yX7_rounds RX7 1 := by decide +kernel
set_option maxHeartbeats 4000000 in
set_option maxRecDepth 100000 in
theorem c_X7_rounds (l : Launch) (D : va_G) (a : Nat → Nat) (Z K U R : YS) (C : Int → Int64) (hT : TI (Z, K, R, C)) (n : Int) (hn : -2147483648 ≤ n ∧ n < 2147483648) : Con l yX7_rounds wsX7_rounds 9 D (mw D a Z K U R C) [.ref (a 0), .int (iI n)] (some (.int (iI ((s_rounds (Z, K, R, C) n).1)))) (fun ww => ∃ U2, ww = mwT D a (s_rounds (Z, K, R, C) n).2 U2) := by
  refine con_start (own := RX7) (by decide) rfl rfl (Nat.le_of_ble_eq_true rfl) ?_
  intro G hG hE hl hD
  subst hl
  subst hD
  have hI : Inv Z := hT.1.1
  have hN := hI.1
  have hr0 := hI.2.1
  have hu5 := hI.2.2.1
  have hrd : Z 5 0 ≤ 99999 := hT.1.2.2
  have hg := goZ_ok hI n.toNat
  refine r_iload_n (i := 1) hG dX7_rounds_0 rfl rfl ?_
  refine r_i2l hG dX7_rounds_1 ?_
  refine r_iconst hG dX7_rounds_2 ?_
  refine r_bipush hG dX7_rounds_3 rfl ?_
  refine r_call0i hG (c_X7_inI (g_l G) (g_D G) _ _ _ (by omega) (by omega) (by omega))  gX7_rounds_X7_in rfl hyX7_in rfl (by decide) (by decide) rfl (Nat.le_of_ble_eq_true rfl) ⟨Nat.zero_le _, Nat.zero_le _⟩ dX7_rounds_5 ?_
  refine rb_if_ne (tgt := 18) hG dX7_rounds_8 (by decide) (fun c8 => ?_) (fun c8 => ?_)
  · try simp only [decide_eq_true_eq, decide_eq_false_iff_not] at c8
    refine r_aload_n (i := 0) hG dX7_rounds_18 rfl rfl ?_
    refine r_get hG cX7_rounds_X7 0 0 rfl rfl (by decide) kX7_rounds_9 rfl dX7_rounds_19 ?_
    refine r_iconst hG dX7_rounds_22 ?_
    refine r_iald hG 1 rfl (by omega) (by decide) dX7_rounds_23 ?_
    refine V_top (x' := iI ((Z) 5 0)) (congrArg iI (mro_0 (Z))) ?_
    refine r_iload_n (i := 1) hG dX7_rounds_24 rfl rfl ?_
    refine r_iadd hG dX7_rounds_25 ?_
    refine r_ldc (n := 99999) hG (List.mem_of_getElem? (i := 3) rfl) rfl dX7_rounds_26 ?_
    refine r_icmp_le (tgt := 38) hG (by omega) (by omega) dX7_rounds_28 (by decide) (fun c28 => ?_) (fun c28 => ?_)
    · refine r_aload_n (i := 0) hG dX7_rounds_38 rfl rfl ?_
      refine r_iload_n (i := 1) hG dX7_rounds_39 rfl rfl ?_
      refine r_callVv hG (c_X7_goesFor (g_l G) (g_D G) a Z K U R C hI _ (by omega) (by omega))  gX7_rounds_X7_goesFor rfl hyX7_goesFor rfl (by decide) (by decide) 0 rfl rfl rfl (Nat.le_of_ble_eq_true rfl) ⟨Nat.zero_le _, Nat.zero_le _⟩ dX7_rounds_40 (fun w hw => ?_)
      subst hw
      refine r_aload_n (i := 0) hG dX7_rounds_43 rfl rfl ?_
      refine r_iconst hG dX7_rounds_44 ?_
      refine r_callVi hG (c_X7_sums (g_l G) (g_D G) a (goZ Z n.toNat) K U R C hg.1 2 (by omega))  gX7_rounds_X7_sums rfl hyX7_sums rfl (by decide) (by decide) 0 rfl rfl rfl (Nat.le_of_ble_eq_true rfl) ⟨Nat.zero_le _, Nat.zero_le _⟩ dX7_rounds_45 (fun w hw => ?_)
      subst hw
      exact r_iret hG hE dX7_rounds_48 (by unfold s_rounds; dsimp only; rw [if_pos (by omega), if_pos (by omega), hg.2.1]) ⟨U, by unfold s_rounds; dsimp only; rw [if_pos (by omega), if_pos (by omega)]; rfl⟩
    · refine r_aload_n (i := 0) hG dX7_rounds_31 rfl rfl ?_
      refine r_ldc (n := -1000000005) hG (List.mem_of_getElem? (i := 4) rfl) rfl dX7_rounds_32 ?_
      refine r_callVi hG (c_X7_finds (g_l G) (g_D G) a Z K U R C (-1000000005) 4 (by omega) (by omega))  gX7_rounds_X7_finds rfl hyX7_finds rfl (by decide) (by decide) 0 rfl rfl rfl (Nat.le_of_ble_eq_true rfl) ⟨Nat.zero_le _, Nat.zero_le _⟩ dX7_rounds_34 (fun w hw => ?_)
      subst hw
      exact r_iret hG hE dX7_rounds_37 (by unfold s_rounds; (try dsimp only); (repeat (first | rw [if_pos (by omega)] | rw [if_neg (by omega)])) <;> (first | rfl | skip)) ⟨U, (by unfold s_rounds; (try dsimp only); (repeat (first | rw [if_pos (by omega)] | rw [if_neg (by omega)])) <;> (first | rfl | skip))⟩
  · try simp only [decide_eq_true_eq, decide_eq_false_iff_not] at c8
    refine r_aload_n (i := 0) hG dX7_rounds_11 rfl rfl ?_
    refine r_ldc (n := -1000000001) hG (List.mem_of_getElem? (i := 1) rfl) rfl dX7_rounds_12 ?_
    refine r_callVi hG (c_X7_finds (g_l G) (g_D G) a Z K U R C (-1000000001) 0 (by omega) (by omega))  gX7_rounds_X7_finds rfl hyX7_finds rfl (by decide) (by decide) 0 rfl rfl rfl (Nat.le_of_ble_eq_true rfl) ⟨Nat.zero_le _, Nat.zero_le _⟩ dX7_rounds_14 (fun w hw => ?_)
    subst hw
    exact r_iret hG hE dX7_rounds_17 (by unfold s_rounds; (try dsimp only); (repeat (first | rw [if_pos (by omega)] | rw [if_neg (by omega)])) <;> (first | rfl | skip)) ⟨U, (by unfold s_rounds; (try dsimp only); (repeat (first | rw [if_pos (by omega)] | rw [if_neg (by omega)])) <;> (first | rfl | skip))⟩
theorem hyX7_on : hyV yX7_on RX7 3 := by decide +kernel
set_option maxHeartbeats 4000000 in
set_option maxRecDepth 100000 in
theorem c_X7_on (l : Launch) (D : va_G) (a : Nat → Nat) (Z K U R : YS) (C : Int → Int64) (hT : TI (Z, K, R, C)) (c n w : Int) (hc : -2147483648 ≤ c ∧ c < 2147483648) (hn : -2147483648 ≤ n ∧ n < 2147483648) (hw : -2147483648 ≤ w ∧ w < 2147483648) : Con l yX7_on wsX7_on 9 D (mw D a Z K U R C) [.ref (a 0), .int (iI c), .int (iI n), .int (iI w)] (some (.int (iI ((s_on (Z, K, R, C) c n w).1)))) (fun ww => ∃ U2, ww = mwT D a (s_on (Z, K, R, C) c n w).2 U2) := by
  refine con_start (own := RX7) (by decide) rfl rfl (Nat.le_of_ble_eq_true rfl) ?_
  intro G hG hE hl hD
  subst hl
  subst hD
  have hI : Inv Z := hT.1.1
  have hN := hI.1
  have hr0 := hI.2.1
  have hu5 := hI.2.2.1
  have hrd : Z 5 0 ≤ 99999 := hT.1.2.2
  have hg := goZ_ok hI n.toNat
  refine r_aload_n (i := 0) hG dX7_on_0 rfl rfl ?_
  refine r_iload_n (i := 1) hG dX7_on_1 rfl rfl ?_
  refine r_callVi hG (c_X7_isChild (g_l G) (g_D G) a Z K U R C hI _ (by omega))  gX7_on_X7_isChild rfl hyX7_isChild rfl (by decide) (by decide) 0 rfl rfl rfl (Nat.le_of_ble_eq_true rfl) ⟨Nat.zero_le _, Nat.zero_le _⟩ dX7_on_2 (fun w hw => ?_)
  subst hw
  refine rb_if_eq (tgt := 29) hG dX7_on_5 (by decide) (fun c5 => ?_) (fun c5 => ?_)
  · try simp only [decide_eq_true_eq, decide_eq_false_iff_not] at c5
    refine r_aload_n (i := 0) hG dX7_on_29 rfl rfl ?_
    refine r_ldc (n := -1000000001) hG (List.mem_of_getElem? (i := 1) rfl) rfl dX7_on_30 ?_
    refine r_callVi hG (c_X7_finds (g_l G) (g_D G) a Z K U R C (-1000000001) 0 (by omega) (by omega))  gX7_on_X7_finds rfl hyX7_finds rfl (by decide) (by decide) 0 rfl rfl rfl (Nat.le_of_ble_eq_true rfl) ⟨Nat.zero_le _, Nat.zero_le _⟩ dX7_on_32 (fun w hw => ?_)
    subst hw
    exact r_iret hG hE dX7_on_35 (by unfold s_on; (try dsimp only); (repeat (first | rw [if_pos (by omega)] | rw [if_neg (by omega)])) <;> (first | rfl | skip)) ⟨U, (by unfold s_on; (try dsimp only); (repeat (first | rw [if_pos (by omega)] | rw [if_neg (by omega)])) <;> (first | rfl | skip))⟩
  · try simp only [decide_eq_true_eq, decide_eq_false_iff_not] at c5
    refine r_iload_n (i := 2) hG dX7_on_8 rfl rfl ?_
    refine r_i2l hG dX7_on_9 ?_
    refine r_iconst hG dX7_on_10 ?_
    refine r_bipush hG dX7_on_11 rfl ?_
    refine r_call0i hG (c_X7_inI (g_l G) (g_D G) _ _ _ (by omega) (by omega) (by omega))  gX7_on_X7_in rfl hyX7_in rfl (by decide) (by decide) rfl (Nat.le_of_ble_eq_true rfl) ⟨Nat.zero_le _, Nat.zero_le _⟩ dX7_on_13 ?_
    refine rb_if_eq (tgt := 29) hG dX7_on_16 (by decide) (fun c16 => ?_) (fun c16 => ?_)
    · try simp only [decide_eq_true_eq, decide_eq_false_iff_not] at c16
      refine r_aload_n (i := 0) hG dX7_on_29 rfl rfl ?_
      refine r_ldc (n := -1000000001) hG (List.mem_of_getElem? (i := 1) rfl) rfl dX7_on_30 ?_
      refine r_callVi hG (c_X7_finds (g_l G) (g_D G) a Z K U R C (-1000000001) 0 (by omega) (by omega))  gX7_on_X7_finds rfl hyX7_finds rfl (by decide) (by decide) 0 rfl rfl rfl (Nat.le_of_ble_eq_true rfl) ⟨Nat.zero_le _, Nat.zero_le _⟩ dX7_on_32 (fun w hw => ?_)
      subst hw
      exact r_iret hG hE dX7_on_35 (by unfold s_on; (try dsimp only); (repeat (first | rw [if_pos (by omega)] | rw [if_neg (by omega)])) <;> (first | rfl | skip)) ⟨U, (by unfold s_on; (try dsimp only); (repeat (first | rw [if_pos (by omega)] | rw [if_neg (by omega)])) <;> (first | rfl | skip))⟩
    · try simp only [decide_eq_true_eq, decide_eq_false_iff_not] at c16
      refine r_iload_n (i := 3) hG dX7_on_19 rfl rfl ?_
      refine r_i2l hG dX7_on_20 ?_
      refine r_iconst hG dX7_on_21 ?_
      refine r_iconst hG dX7_on_22 ?_
      refine r_call0i hG (c_X7_inI (g_l G) (g_D G) _ _ _ (by omega) (by omega) (by omega))  gX7_on_X7_in rfl hyX7_in rfl (by decide) (by decide) rfl (Nat.le_of_ble_eq_true rfl) ⟨Nat.zero_le _, Nat.zero_le _⟩ dX7_on_23 ?_
      refine rb_if_ne (tgt := 36) hG dX7_on_26 (by decide) (fun c26 => ?_) (fun c26 => ?_)
      · try simp only [decide_eq_true_eq, decide_eq_false_iff_not] at c26
        refine r_aload_n (i := 0) hG dX7_on_36 rfl rfl ?_
        refine r_callVv hG (c_X7_thinks (g_l G) (g_D G) a Z K U R C)  gX7_on_X7_thinks rfl hyX7_thinks rfl (by decide) (by decide) 0 rfl rfl rfl (Nat.le_of_ble_eq_true rfl) ⟨Nat.zero_le _, Nat.zero_le _⟩ dX7_on_37 (fun w hw => ?_)
        subst hw
        refine r_aload_n (i := 0) hG dX7_on_40 rfl rfl ?_
        refine r_iload_n (i := 2) hG dX7_on_41 rfl rfl ?_
        refine r_callVv hG (c_X7_goesFor (g_l G) (g_D G) a Z K Z R C hI _ (by omega) (by omega))  gX7_on_X7_goesFor rfl hyX7_goesFor rfl (by decide) (by decide) 0 rfl rfl rfl (Nat.le_of_ble_eq_true rfl) ⟨Nat.zero_le _, Nat.zero_le _⟩ dX7_on_42 (fun w hw => ?_)
        subst hw
        refine r_iload_n (i := 3) hG dX7_on_45 rfl rfl ?_
        refine r_iconst hG dX7_on_46 ?_
        refine r_icmp_ne (tgt := 58) hG (by omega) (by omega) dX7_on_47 (by decide) (fun c47 => ?_) (fun c47 => ?_)
        · refine r_aload_n (i := 0) hG dX7_on_58 rfl rfl ?_
          refine r_iload_n (i := 1) hG dX7_on_59 rfl rfl ?_
          refine r_iconst hG dX7_on_60 ?_
          refine r_iload_n (i := 3) hG dX7_on_61 rfl rfl ?_
          refine r_iadd hG dX7_on_62 ?_
          refine r_callVi hG (c_X7_it (g_l G) (g_D G) a (goZ Z n.toNat) K Z R C _ _ ((goZ Z n.toNat) (1 + w).toNat c) (by omega) (by rw [← mro_f (goZ Z n.toNat) (1 + w).toNat (c := c) (by omega) (by omega)]; congr 1; omega))  gX7_on_X7_it rfl hyX7_it rfl (by decide) (by decide) 0 rfl rfl rfl (Nat.le_of_ble_eq_true rfl) ⟨Nat.zero_le _, Nat.zero_le _⟩ dX7_on_63 (fun w hw => ?_)
          subst hw
          refine r_istore hG dX7_on_66 (by decide) rfl ?_
          refine r_aload_n (i := 0) hG dX7_on_68 rfl rfl ?_
          refine r_callVv hG (c_X7_putsBack (g_l G) (g_D G) a (goZ Z n.toNat) K Z R C)  gX7_on_X7_putsBack rfl hyX7_putsBack rfl (by decide) (by decide) 0 rfl rfl rfl (Nat.le_of_ble_eq_true rfl) ⟨Nat.zero_le _, Nat.zero_le _⟩ dX7_on_69 (fun w hw => ?_)
          subst hw
          refine r_iload hG dX7_on_72 rfl ?_
          first
            | exact r_iret hG hE dX7_on_74 (by unfold s_on; dsimp only; rw [if_pos (by omega), if_neg (by omega), if_neg (by omega), if_neg (by omega)]) ⟨Z, by unfold s_on; dsimp only; rw [if_pos (by omega), if_neg (by omega), if_neg (by omega), if_neg (by omega)]; rfl⟩
            | exact r_iret hG hE dX7_on_74 (by rcases (show w = 0 ∨ w = 1 ∨ w = 2 by omega) with e | e | e <;> subst e <;> (unfold s_on; dsimp only; rw [if_pos (by omega)]; rfl)) ⟨Z, by rcases (show w = 0 ∨ w = 1 ∨ w = 2 by omega) with e | e | e <;> subst e <;> (unfold s_on; dsimp only; rw [if_pos (by omega)]; rfl)⟩
        · refine r_aload_n (i := 0) hG dX7_on_50 rfl rfl ?_
          refine r_iload_n (i := 1) hG dX7_on_51 rfl rfl ?_
          refine r_callVi hG (c_X7_gladness (g_l G) (g_D G) a (goZ Z n.toNat) K Z R C hg.1 _ (by omega))  gX7_on_X7_gladness rfl hyX7_gladness rfl (by decide) (by decide) 0 rfl rfl rfl (Nat.le_of_ble_eq_true rfl) ⟨Nat.zero_le _, Nat.zero_le _⟩ dX7_on_52 (fun w hw => ?_)
          subst hw
          refine r_goto (tgt := 66) hG dX7_on_55 (by decide) ?_
          refine r_istore hG dX7_on_66 (by decide) rfl ?_
          refine r_aload_n (i := 0) hG dX7_on_68 rfl rfl ?_
          refine r_callVv hG (c_X7_putsBack (g_l G) (g_D G) a (goZ Z n.toNat) K Z R C)  gX7_on_X7_putsBack rfl hyX7_putsBack rfl (by decide) (by decide) 0 rfl rfl rfl (Nat.le_of_ble_eq_true rfl) ⟨Nat.zero_le _, Nat.zero_le _⟩ dX7_on_69 (fun w hw => ?_)
          subst hw
          refine r_iload hG dX7_on_72 rfl ?_
          first
            | exact r_iret hG hE dX7_on_74 (by unfold s_on; dsimp only; rw [if_pos (by omega), if_neg (by omega), if_neg (by omega), if_neg (by omega)]) ⟨Z, by unfold s_on; dsimp only; rw [if_pos (by omega), if_neg (by omega), if_neg (by omega), if_neg (by omega)]; rfl⟩
            | exact r_iret hG hE dX7_on_74 (by rcases (show w = 0 ∨ w = 1 ∨ w = 2 by omega) with e | e | e <;> subst e <;> (unfold s_on; dsimp only; rw [if_pos (by omega)]; rfl)) ⟨Z, by rcases (show w = 0 ∨ w = 1 ∨ w = 2 by omega) with e | e | e <;> subst e <;> (unfold s_on; dsimp only; rw [if_pos (by omega)]; rfl)⟩
      · try simp only [decide_eq_true_eq, decide_eq_false_iff_not] at c26
        refine r_aload_n (i := 0) hG dX7_on_29 rfl rfl ?_
        refine r_ldc (n := -1000000001) hG (List.mem_of_getElem? (i := 1) rfl) rfl dX7_on_30 ?_
        refine r_callVi hG (c_X7_finds (g_l G) (g_D G) a Z K U R C (-1000000001) 0 (by omega) (by omega))  gX7_on_X7_finds rfl hyX7_finds rfl (by decide) (by decide) 0 rfl rfl rfl (Nat.le_of_ble_eq_true rfl) ⟨Nat.zero_le _, Nat.zero_le _⟩ dX7_on_32 (fun w hw => ?_)
        subst hw
        exact r_iret hG hE dX7_on_35 (by unfold s_on; (try dsimp only); (repeat (first | rw [if_pos (by omega)] | rw [if_neg (by omega)])) <;> (first | rfl | skip)) ⟨U, (by unfold s_on; (try dsimp only); (repeat (first | rw [if_pos (by omega)] | rw [if_neg (by omega)])) <;> (first | rfl | skip))⟩
theorem hyX7_glad : hyV yX7_glad RX7 1 := by decide +kernel
set_option maxHeartbeats 4000000 in
set_option maxRecDepth 100000 in
theorem c_X7_glad (l : Launch) (D : va_G) (a : Nat → Nat) (Z K U R : YS) (C : Int → Int64) (hT : TI (Z, K, R, C)) (n : Int) (hn : -2147483648 ≤ n ∧ n < 2147483648) : Con l yX7_glad wsX7_glad 9 D (mw D a Z K U R C) [.ref (a 0), .int (iI n)] (some (.int (iI ((s_glad (Z, K, R, C) n).1)))) (fun ww => ∃ U2, ww = mwT D a (s_glad (Z, K, R, C) n).2 U2) := by
  refine con_start (own := RX7) (by decide) rfl rfl (Nat.le_of_ble_eq_true rfl) ?_
  intro G hG hE hl hD
  subst hl
  subst hD
  have hI : Inv Z := hT.1.1
  have hN := hI.1
  have hr0 := hI.2.1
  have hu5 := hI.2.2.1
  have hrd : Z 5 0 ≤ 99999 := hT.1.2.2
  have hg := goZ_ok hI n.toNat
  refine r_iload_n (i := 1) hG dX7_glad_0 rfl rfl ?_
  refine r_i2l hG dX7_glad_1 ?_
  refine r_iconst hG dX7_glad_2 ?_
  refine r_bipush hG dX7_glad_3 rfl ?_
  refine r_call0i hG (c_X7_inI (g_l G) (g_D G) _ _ _ (by omega) (by omega) (by omega))  gX7_glad_X7_in rfl hyX7_in rfl (by decide) (by decide) rfl (Nat.le_of_ble_eq_true rfl) ⟨Nat.zero_le _, Nat.zero_le _⟩ dX7_glad_5 ?_
  refine rb_if_ne (tgt := 18) hG dX7_glad_8 (by decide) (fun c8 => ?_) (fun c8 => ?_)
  · try simp only [decide_eq_true_eq, decide_eq_false_iff_not] at c8
    refine r_aload_n (i := 0) hG dX7_glad_18 rfl rfl ?_
    refine r_callVv hG (c_X7_thinks (g_l G) (g_D G) a Z K U R C)  gX7_glad_X7_thinks rfl hyX7_thinks rfl (by decide) (by decide) 0 rfl rfl rfl (Nat.le_of_ble_eq_true rfl) ⟨Nat.zero_le _, Nat.zero_le _⟩ dX7_glad_19 (fun w hw => ?_)
    subst hw
    refine r_aload_n (i := 0) hG dX7_glad_22 rfl rfl ?_
    refine r_iload_n (i := 1) hG dX7_glad_23 rfl rfl ?_
    refine r_callVv hG (c_X7_goesFor (g_l G) (g_D G) a Z K Z R C hI _ (by omega) (by omega))  gX7_glad_X7_goesFor rfl hyX7_goesFor rfl (by decide) (by decide) 0 rfl rfl rfl (Nat.le_of_ble_eq_true rfl) ⟨Nat.zero_le _, Nat.zero_le _⟩ dX7_glad_24 (fun w hw => ?_)
    subst hw
    refine r_aload_n (i := 0) hG dX7_glad_27 rfl rfl ?_
    refine r_callVi hG (c_X7_allGlad (g_l G) (g_D G) a (goZ Z n.toNat) K Z R C hg.1)  gX7_glad_X7_allGlad rfl hyX7_allGlad rfl (by decide) (by decide) 0 rfl rfl rfl (Nat.le_of_ble_eq_true rfl) ⟨Nat.zero_le _, Nat.zero_le _⟩ dX7_glad_28 (fun w hw => ?_)
    subst hw
    refine r_istore_n (i := 2) hG dX7_glad_31 rfl (by decide) rfl ?_
    refine r_aload_n (i := 0) hG dX7_glad_32 rfl rfl ?_
    refine r_callVv hG (c_X7_putsBack (g_l G) (g_D G) a (goZ Z n.toNat) K Z R C)  gX7_glad_X7_putsBack rfl hyX7_putsBack rfl (by decide) (by decide) 0 rfl rfl rfl (Nat.le_of_ble_eq_true rfl) ⟨Nat.zero_le _, Nat.zero_le _⟩ dX7_glad_33 (fun w hw => ?_)
    subst hw
    refine r_iload_n (i := 2) hG dX7_glad_36 rfl rfl ?_
    exact r_iret hG hE dX7_glad_37 (by unfold s_glad; dsimp only; rw [if_pos (by omega), hg.2.1]) ⟨Z, by unfold s_glad; dsimp only; rw [if_pos (by omega)]; rfl⟩
  · try simp only [decide_eq_true_eq, decide_eq_false_iff_not] at c8
    refine r_aload_n (i := 0) hG dX7_glad_11 rfl rfl ?_
    refine r_ldc (n := -1000000001) hG (List.mem_of_getElem? (i := 1) rfl) rfl dX7_glad_12 ?_
    refine r_callVi hG (c_X7_finds (g_l G) (g_D G) a Z K U R C (-1000000001) 0 (by omega) (by omega))  gX7_glad_X7_finds rfl hyX7_finds rfl (by decide) (by decide) 0 rfl rfl rfl (Nat.le_of_ble_eq_true rfl) ⟨Nat.zero_le _, Nat.zero_le _⟩ dX7_glad_14 (fun w hw => ?_)
    subst hw
    exact r_iret hG hE dX7_glad_17 (by unfold s_glad; (try dsimp only); (repeat (first | rw [if_pos (by omega)] | rw [if_neg (by omega)])) <;> (first | rfl | skip)) ⟨U, (by unfold s_glad; (try dsimp only); (repeat (first | rw [if_pos (by omega)] | rw [if_neg (by omega)])) <;> (first | rfl | skip))⟩
theorem hyX7_gets : hyV yX7_gets RX7 2 := by decide +kernel
set_option maxHeartbeats 4000000 in
set_option maxRecDepth 100000 in
theorem c_X7_gets (l : Launch) (D : va_G) (a : Nat → Nat) (Z K U R : YS) (C : Int → Int64) (hT : TI (Z, K, R, C)) (c t : Int) (hc : -2147483648 ≤ c ∧ c < 2147483648) (ht : -2147483648 ≤ t ∧ t < 2147483648) : Con l yX7_gets wsX7_gets 9 D (mw D a Z K U R C) [.ref (a 0), .int (iI c), .int (iI t)] (some (.int (iI ((s_gets (Z, K, R, C) c t).1)))) (fun ww => ∃ U2, ww = mwT D a (s_gets (Z, K, R, C) c t).2 U2) := by
  refine con_start (own := RX7) (by decide) rfl rfl (Nat.le_of_ble_eq_true rfl) ?_
  intro G hG hE hl hD
  subst hl
  subst hD
  have hI : Inv Z := hT.1.1
  have hN := hI.1
  have hr0 := hI.2.1
  have hu5 := hI.2.2.1
  have hrd : Z 5 0 ≤ 99999 := hT.1.2.2
  have J : ((0 ≤ c ∧ c < Z 5 2) ∧ 0 ≤ t ∧ t ≤ 9) → ∀ (i : Nat) (x : Int), ((i ≤ 100 ∧ x = i) ∨ (i = 101 ∧ x = -1)) → leastN (getsF Z c t) 101 = x → V G 0 0 (mw (g_D G) a (goZ Z i) K Z R C) 54 [(0, .ref (a 0)), (1, .int (iI c)), (2, .int (iI t)), (3, .int (iI (i : Int)))] [] := by
    intro hoc i x hx hl
    have e0 : s_gets (Z, K, R, C) c t = orFin (Z, K, R, C) 3 x := by rw [← hl]; exact if_pos (by dsimp only; omega)
    refine r_aload_n (i := 0) hG dX7_gets_54 rfl rfl ?_
    refine r_callVv hG (c_X7_putsBack (g_l G) (g_D G) a (goZ Z i) K Z R C)  gX7_gets_X7_putsBack rfl hyX7_putsBack rfl (by decide) (by decide) 0 rfl rfl rfl (Nat.le_of_ble_eq_true rfl) ⟨Nat.zero_le _, Nat.zero_le _⟩ dX7_gets_55 (fun w hw => ?_)
    subst hw
    refine r_iload_n (i := 3) hG dX7_gets_58 rfl rfl ?_
    refine r_bipush hG dX7_gets_59 rfl ?_
    refine r_icmp_le (tgt := 73) hG (by omega) (by omega) dX7_gets_61 (by decide) (fun c61 => ?_) (fun c61 => ?_)
    · refine r_iload_n (i := 3) hG dX7_gets_73 rfl rfl ?_
      first
        | exact r_iret hG hE dX7_gets_74 (by rw [e0, orFin_neg (by omega)]; rfl) ⟨Z, by rw [e0, orFin_neg (by omega)]; rfl⟩
        | exact r_iret hG hE dX7_gets_74 (by rw [e0, orFin_pos (by omega)]; exact congrArg iI (by omega)) ⟨Z, by rw [e0, orFin_pos (by omega)]; rfl⟩
    · refine r_aload_n (i := 0) hG dX7_gets_64 rfl rfl ?_
      refine r_ldc (n := -1000000004) hG (List.mem_of_getElem? (i := 2) rfl) rfl dX7_gets_65 ?_
      refine r_callVi hG (c_X7_finds (g_l G) (g_D G) a Z K Z R C (-1000000004) 3 (by omega) (by omega))  gX7_gets_X7_finds rfl hyX7_finds rfl (by decide) (by decide) 0 rfl rfl rfl (Nat.le_of_ble_eq_true rfl) ⟨Nat.zero_le _, Nat.zero_le _⟩ dX7_gets_67 (fun w hw => ?_)
      subst hw
      refine r_goto (tgt := 74) hG dX7_gets_70 (by decide) ?_
      first
        | exact r_iret hG hE dX7_gets_74 (by rw [e0, orFin_neg (by omega)]; rfl) ⟨Z, by rw [e0, orFin_neg (by omega)]; rfl⟩
        | exact r_iret hG hE dX7_gets_74 (by rw [e0, orFin_pos (by omega)]; exact congrArg iI (by omega)) ⟨Z, by rw [e0, orFin_pos (by omega)]; rfl⟩
  have L : ((0 ≤ c ∧ c < Z 5 2) ∧ 0 ≤ t ∧ t ≤ 9) → ∀ i : Nat, i ≤ 101 → (∀ j : Nat, j < i → getsF Z c t j = false) → V G 0 0 (mw (g_D G) a (goZ Z i) K Z R C) 28 [(0, .ref (a 0)), (1, .int (iI c)), (2, .int (iI t)), (3, .int (iI (i : Int)))] [] := by
    intro hoc
    refine down (fun i hi ih hF => ?_)
    have hg := goZ_ok hI i
    have h50 := hg.2.2.2.1
    have hc1 := Inv_c hg.1 (c := c) (by omega)
    refine r_iload_n (i := 3) hG dX7_gets_28 rfl rfl ?_
    refine r_bipush hG dX7_gets_29 rfl ?_
    refine r_icmp_gt (tgt := 54) hG (by omega) (by omega) dX7_gets_31 (by decide) (fun c31 => ?_) (fun c31 => ?_)
    · first
        | exact V_lv (J hoc i i (by omega) (leastN_at hF (decide_eq_true c41) (by omega))) ⟨rfl, rfl, rfl, rfl, trivial⟩
        | exact V_lv (J hoc i (-1) (by omega) (leastN_none (fun j hj => hF j (by omega)))) ⟨rfl, rfl, rfl, rfl, trivial⟩
    · refine r_aload_n (i := 0) hG dX7_gets_34 rfl rfl ?_
      refine r_iload_n (i := 1) hG dX7_gets_35 rfl rfl ?_
      refine r_iconst hG dX7_gets_36 ?_
      refine r_callVi hG (c_it1 (g_l G) (g_D G) a (goZ Z i) K Z R C _ (by omega))  gX7_gets_X7_it rfl hyX7_it rfl (by decide) (by decide) 0 rfl rfl rfl (Nat.le_of_ble_eq_true rfl) ⟨Nat.zero_le _, Nat.zero_le _⟩ dX7_gets_37 (fun w hw => ?_)
      subst hw
      refine r_iload_n (i := 2) hG dX7_gets_40 rfl rfl ?_
      refine r_icmp_eq (tgt := 54) hG (by omega) (by omega) dX7_gets_41 (by decide) (fun c41 => ?_) (fun c41 => ?_)
      · first
          | exact V_lv (J hoc i i (by omega) (leastN_at hF (decide_eq_true c41) (by omega))) ⟨rfl, rfl, rfl, rfl, trivial⟩
          | exact V_lv (J hoc i (-1) (by omega) (leastN_none (fun j hj => hF j (by omega)))) ⟨rfl, rfl, rfl, rfl, trivial⟩
      · refine r_aload_n (i := 0) hG dX7_gets_44 rfl rfl ?_
        refine r_callVv hG (c_X7_goes (g_l G) (g_D G) a (goZ Z i) K Z R C hg.1 (by omega))  gX7_gets_X7_goes rfl hyX7_goes rfl (by decide) (by decide) 0 rfl rfl rfl (Nat.le_of_ble_eq_true rfl) ⟨Nat.zero_le _, Nat.zero_le _⟩ dX7_gets_45 (fun w hw => ?_)
        subst hw
        refine r_iinc hG dX7_gets_48 rfl (by decide) rfl ?_
        refine r_goto (tgt := 28) hG dX7_gets_51 (by decide) ?_
        exact V_lv (ih (by omega) (lt_s hF (decide_eq_false c41))) ⟨rfl, rfl, rfl, rfl, trivial⟩
  refine r_aload_n (i := 0) hG dX7_gets_0 rfl rfl ?_
  refine r_iload_n (i := 1) hG dX7_gets_1 rfl rfl ?_
  refine r_callVi hG (c_X7_isChild (g_l G) (g_D G) a Z K U R C hI _ (by omega))  gX7_gets_X7_isChild rfl hyX7_isChild rfl (by decide) (by decide) 0 rfl rfl rfl (Nat.le_of_ble_eq_true rfl) ⟨Nat.zero_le _, Nat.zero_le _⟩ dX7_gets_2 (fun w hw => ?_)
  subst hw
  refine rb_if_eq (tgt := 15) hG dX7_gets_5 (by decide) (fun c5 => ?_) (fun c5 => ?_)
  · try simp only [decide_eq_true_eq, decide_eq_false_iff_not] at c5
    refine r_aload_n (i := 0) hG dX7_gets_15 rfl rfl ?_
    refine r_ldc (n := -1000000001) hG (List.mem_of_getElem? (i := 1) rfl) rfl dX7_gets_16 ?_
    refine r_callVi hG (c_X7_finds (g_l G) (g_D G) a Z K U R C (-1000000001) 0 (by omega) (by omega))  gX7_gets_X7_finds rfl hyX7_finds rfl (by decide) (by decide) 0 rfl rfl rfl (Nat.le_of_ble_eq_true rfl) ⟨Nat.zero_le _, Nat.zero_le _⟩ dX7_gets_18 (fun w hw => ?_)
    subst hw
    exact r_iret hG hE dX7_gets_21 (by unfold s_gets; (try dsimp only); (repeat (first | rw [if_pos (by omega)] | rw [if_neg (by omega)])) <;> (first | rfl | skip)) ⟨U, (by unfold s_gets; (try dsimp only); (repeat (first | rw [if_pos (by omega)] | rw [if_neg (by omega)])) <;> (first | rfl | skip))⟩
  · try simp only [decide_eq_true_eq, decide_eq_false_iff_not] at c5
    refine r_iload_n (i := 2) hG dX7_gets_8 rfl rfl ?_
    refine r_call0i hG (c_X7_isThing (g_l G) (g_D G) _ (by omega))  gX7_gets_X7_isThing rfl hyX7_isThing rfl (by decide) (by decide) rfl (Nat.le_of_ble_eq_true rfl) ⟨Nat.zero_le _, Nat.zero_le _⟩ dX7_gets_9 ?_
    refine rb_if_ne (tgt := 22) hG dX7_gets_12 (by decide) (fun c12 => ?_) (fun c12 => ?_)
    · try simp only [decide_eq_true_eq, decide_eq_false_iff_not] at c12
      refine r_aload_n (i := 0) hG dX7_gets_22 rfl rfl ?_
      refine r_callVv hG (c_X7_thinks (g_l G) (g_D G) a Z K U R C)  gX7_gets_X7_thinks rfl hyX7_thinks rfl (by decide) (by decide) 0 rfl rfl rfl (Nat.le_of_ble_eq_true rfl) ⟨Nat.zero_le _, Nat.zero_le _⟩ dX7_gets_23 (fun w hw => ?_)
      subst hw
      refine r_iconst hG dX7_gets_26 ?_
      refine r_istore_n (i := 3) hG dX7_gets_27 rfl (by decide) rfl ?_
      exact V_lv (L (by omega) 0 (by omega) (fun j hj => absurd hj (by omega))) ⟨rfl, rfl, rfl, rfl, trivial⟩
    · try simp only [decide_eq_true_eq, decide_eq_false_iff_not] at c12
      refine r_aload_n (i := 0) hG dX7_gets_15 rfl rfl ?_
      refine r_ldc (n := -1000000001) hG (List.mem_of_getElem? (i := 1) rfl) rfl dX7_gets_16 ?_
      refine r_callVi hG (c_X7_finds (g_l G) (g_D G) a Z K U R C (-1000000001) 0 (by omega) (by omega))  gX7_gets_X7_finds rfl hyX7_finds rfl (by decide) (by decide) 0 rfl rfl rfl (Nat.le_of_ble_eq_true rfl) ⟨Nat.zero_le _, Nat.zero_le _⟩ dX7_gets_18 (fun w hw => ?_)
      subst hw
      exact r_iret hG hE dX7_gets_21 (by unfold s_gets; (try dsimp only); (repeat (first | rw [if_pos (by omega)] | rw [if_neg (by omega)])) <;> (first | rfl | skip)) ⟨U, (by unfold s_gets; (try dsimp only); (repeat (first | rw [if_pos (by omega)] | rw [if_neg (by omega)])) <;> (first | rfl | skip))⟩
theorem hyX7_over : hyV yX7_over RX7 0 := by decide +kernel
set_option maxHeartbeats 4000000 in
set_option maxRecDepth 100000 in
theorem c_X7_over (l : Launch) (D : va_G) (a : Nat → Nat) (Z K U R : YS) (C : Int → Int64) (hT : TI (Z, K, R, C))  : Con l yX7_over wsX7_over 9 D (mw D a Z K U R C) [.ref (a 0)] (some (.int (iI ((s_over (Z, K, R, C)).1)))) (fun ww => ∃ U2, ww = mwT D a (s_over (Z, K, R, C)).2 U2) := by
  refine con_start (own := RX7) (by decide) rfl rfl (Nat.le_of_ble_eq_true rfl) ?_
  intro G hG hE hl hD
  subst hl
  subst hD
  have hI : Inv Z := hT.1.1
  have hN := hI.1
  have hr0 := hI.2.1
  have hu5 := hI.2.2.1
  have hrd : Z 5 0 ≤ 99999 := hT.1.2.2
  have J : ∀ (i : Nat) (x : Int), ((i ≤ 100 ∧ x = i) ∨ (i = 101 ∧ x = -1)) → leastN (overF Z) 101 = x → V G 0 0 (mw (g_D G) a (goZ Z i) K Z R C) 29 [(0, .ref (a 0)), (1, .int (iI (i : Int)))] [] := by
    intro i x hx hl
    have e0 : s_over (Z, K, R, C) = orFin (Z, K, R, C) 3 x := by rw [← hl]; rfl
    refine r_aload_n (i := 0) hG dX7_over_29 rfl rfl ?_
    refine r_callVv hG (c_X7_putsBack (g_l G) (g_D G) a (goZ Z i) K Z R C)  gX7_over_X7_putsBack rfl hyX7_putsBack rfl (by decide) (by decide) 0 rfl rfl rfl (Nat.le_of_ble_eq_true rfl) ⟨Nat.zero_le _, Nat.zero_le _⟩ dX7_over_30 (fun w hw => ?_)
    subst hw
    refine r_iload_n (i := 1) hG dX7_over_33 rfl rfl ?_
    refine r_bipush hG dX7_over_34 rfl ?_
    refine r_icmp_le (tgt := 48) hG (by omega) (by omega) dX7_over_36 (by decide) (fun c36 => ?_) (fun c36 => ?_)
    · refine r_iload_n (i := 1) hG dX7_over_48 rfl rfl ?_
      first
        | exact r_iret hG hE dX7_over_49 (by rw [e0, orFin_neg (by omega)]; rfl) ⟨Z, by rw [e0, orFin_neg (by omega)]; rfl⟩
        | exact r_iret hG hE dX7_over_49 (by rw [e0, orFin_pos (by omega)]; exact congrArg iI (by omega)) ⟨Z, by rw [e0, orFin_pos (by omega)]; rfl⟩
    · refine r_aload_n (i := 0) hG dX7_over_39 rfl rfl ?_
      refine r_ldc (n := -1000000004) hG (List.mem_of_getElem? (i := 1) rfl) rfl dX7_over_40 ?_
      refine r_callVi hG (c_X7_finds (g_l G) (g_D G) a Z K Z R C (-1000000004) 3 (by omega) (by omega))  gX7_over_X7_finds rfl hyX7_finds rfl (by decide) (by decide) 0 rfl rfl rfl (Nat.le_of_ble_eq_true rfl) ⟨Nat.zero_le _, Nat.zero_le _⟩ dX7_over_42 (fun w hw => ?_)
      subst hw
      refine r_goto (tgt := 49) hG dX7_over_45 (by decide) ?_
      first
        | exact r_iret hG hE dX7_over_49 (by rw [e0, orFin_neg (by omega)]; rfl) ⟨Z, by rw [e0, orFin_neg (by omega)]; rfl⟩
        | exact r_iret hG hE dX7_over_49 (by rw [e0, orFin_pos (by omega)]; exact congrArg iI (by omega)) ⟨Z, by rw [e0, orFin_pos (by omega)]; rfl⟩
  have L : ∀ i : Nat, i ≤ 101 → (∀ j : Nat, j < i → overF Z j = false) → V G 0 0 (mw (g_D G) a (goZ Z i) K Z R C) 6 [(0, .ref (a 0)), (1, .int (iI (i : Int)))] [] := by
    skip
    refine down (fun i hi ih hF => ?_)
    have hg := goZ_ok hI i
    have h50 := hg.2.2.2.1
    skip
    refine r_iload_n (i := 1) hG dX7_over_6 rfl rfl ?_
    refine r_bipush hG dX7_over_7 rfl ?_
    refine r_icmp_gt (tgt := 29) hG (by omega) (by omega) dX7_over_9 (by decide) (fun c9 => ?_) (fun c9 => ?_)
    · first
        | exact V_lv (J i i (by omega) (leastN_at hF (c16) (by omega))) ⟨rfl, rfl, trivial⟩
        | exact V_lv (J i (-1) (by omega) (leastN_none (fun j hj => hF j (by omega)))) ⟨rfl, rfl, trivial⟩
    · refine r_aload_n (i := 0) hG dX7_over_12 rfl rfl ?_
      refine r_callVi hG (c_X7_isOver (g_l G) (g_D G) a (goZ Z i) K Z R C hg.1)  gX7_over_X7_isOver rfl hyX7_isOver rfl (by decide) (by decide) 0 rfl rfl rfl (Nat.le_of_ble_eq_true rfl) ⟨Nat.zero_le _, Nat.zero_le _⟩ dX7_over_13 (fun w hw => ?_)
      subst hw
      refine rb_if_ne (tgt := 29) hG dX7_over_16 (by decide) (fun c16 => ?_) (fun c16 => ?_)
      · try simp only [decide_eq_true_eq, decide_eq_false_iff_not] at c16
        first
          | exact V_lv (J i i (by omega) (leastN_at hF (c16) (by omega))) ⟨rfl, rfl, trivial⟩
          | exact V_lv (J i (-1) (by omega) (leastN_none (fun j hj => hF j (by omega)))) ⟨rfl, rfl, trivial⟩
      · try simp only [decide_eq_true_eq, decide_eq_false_iff_not] at c16
        refine r_aload_n (i := 0) hG dX7_over_19 rfl rfl ?_
        refine r_callVv hG (c_X7_goes (g_l G) (g_D G) a (goZ Z i) K Z R C hg.1 (by omega))  gX7_over_X7_goes rfl hyX7_goes rfl (by decide) (by decide) 0 rfl rfl rfl (Nat.le_of_ble_eq_true rfl) ⟨Nat.zero_le _, Nat.zero_le _⟩ dX7_over_20 (fun w hw => ?_)
        subst hw
        refine r_iinc hG dX7_over_23 rfl (by decide) rfl ?_
        refine r_goto (tgt := 6) hG dX7_over_26 (by decide) ?_
        exact V_lv (ih (by omega) (lt_s hF (c16))) ⟨rfl, rfl, trivial⟩
  refine r_aload_n (i := 0) hG dX7_over_0 rfl rfl ?_
  refine r_callVv hG (c_X7_thinks (g_l G) (g_D G) a Z K U R C)  gX7_over_X7_thinks rfl hyX7_thinks rfl (by decide) (by decide) 0 rfl rfl rfl (Nat.le_of_ble_eq_true rfl) ⟨Nat.zero_le _, Nat.zero_le _⟩ dX7_over_1 (fun w hw => ?_)
  subst hw
  refine r_iconst hG dX7_over_4 ?_
  refine r_istore_n (i := 1) hG dX7_over_5 rfl (by decide) rfl ?_
  exact V_lv (L 0 (by omega) (fun j hj => absurd hj (by omega))) ⟨rfl, rfl, trivial⟩
