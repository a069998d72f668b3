theorem hyX7_teacher : hyV yX7_teacher RX7 1 := by decide +kernel
set_option maxHeartbeats 4000000 in
set_option maxRecDepth 100000 in
theorem c_X7_teacher (l : Launch) (D : va_G) (a : Nat → Nat) (Z K U R : YS) (C : Int → Int64) (hT : TI (Z, K, R, C)) (v : Int) (hv : -2147483648 ≤ v ∧ v < 2147483648) : Con l yX7_teacher wsX7_teacher 1 D (mw D a Z K U R C) [.ref (a 0), .int (iI v)] (some (.int (iI ((s_teacher (Z, K, R, C) v).1)))) (fun ww => ∃ U2, ww = mwT D a (s_teacher (Z, K, R, C) v).2 U2) := by
  refine con_start (own := RX7) (by decide) rfl rfl (Nat.le_of_ble_eq_true rfl) ?_
  intro G hG hE hl hD
  subst hl
  subst hD
  have hI : Inv Z := hT.1.1
  have hN := hI.1
  have hr0 := hI.2.1
  have hu5 := hI.2.2.1
  have hrd : Z 5 0 ≤ 99999 := hT.1.2.2
  refine r_iload_n (i := 1) hG dX7_teacher_0 rfl rfl ?_
  refine r_i2l hG dX7_teacher_1 ?_
  refine r_iconst hG dX7_teacher_2 ?_
  refine r_iconst hG dX7_teacher_3 ?_
  refine r_call0i hG (c_X7_inI (g_l G) (g_D G) _ _ _ (by omega) (by omega) (by omega))  gX7_teacher_X7_in rfl hyX7_in rfl (by decide) (by decide) rfl (Nat.le_of_ble_eq_true rfl) ⟨Nat.zero_le _, Nat.zero_le _⟩ dX7_teacher_4 ?_
  refine rb_if_eq (tgt := 19) hG dX7_teacher_7 (by decide) (fun c7 => ?_) (fun c7 => ?_)
  · try simp only [decide_eq_true_eq, decide_eq_false_iff_not] at c7
    refine r_aload_n (i := 0) hG dX7_teacher_19 rfl rfl ?_
    refine r_ldc (n := -1000000001) hG (List.mem_of_getElem? (i := 1) rfl) rfl dX7_teacher_20 ?_
    refine r_callVi hG (c_X7_finds (g_l G) (g_D G) a Z K U R C (-1000000001) 0 (by omega) (by omega))  gX7_teacher_X7_finds rfl hyX7_finds rfl (by decide) (by decide) 0 rfl rfl rfl (Nat.le_of_ble_eq_true rfl) ⟨Nat.zero_le _, Nat.zero_le _⟩ dX7_teacher_22 (fun w hw => ?_)
    subst hw
    exact r_iret hG hE dX7_teacher_25 (by unfold s_teacher; (try dsimp only); (repeat (first | rw [if_pos (by omega)] | rw [if_neg (by omega)])) <;> (first | rfl | skip)) ⟨U, (by unfold s_teacher; (try dsimp only); (repeat (first | rw [if_pos (by omega)] | rw [if_neg (by omega)])) <;> (first | rfl | skip))⟩
  · try simp only [decide_eq_true_eq, decide_eq_false_iff_not] at c7
    refine r_aload_n (i := 0) hG dX7_teacher_10 rfl rfl ?_
    refine r_iconst hG dX7_teacher_11 ?_
    refine r_iload_n (i := 1) hG dX7_teacher_12 rfl rfl ?_
    refine r_callVi hG (c_X7_becomes (g_l G) (g_D G) a Z K U R C _ _ (Z 5 1) (by omega) (mro_1 Z) (upY Z 5 1 v) (fun j hj => mro_up5 Z (by omega) j hj))  gX7_teacher_X7_becomes rfl hyX7_becomes rfl (by decide) (by decide) 0 rfl rfl rfl (Nat.le_of_ble_eq_true rfl) ⟨Nat.zero_le _, Nat.zero_le _⟩ dX7_teacher_13 (fun w hw => ?_)
    subst hw
    refine r_goto (tgt := 25) hG dX7_teacher_16 (by decide) ?_
    exact r_iret hG hE dX7_teacher_25 (by unfold s_teacher; (try dsimp only); (repeat (first | rw [if_pos (by omega)] | rw [if_neg (by omega)])) <;> (first | rfl | skip)) ⟨U, (by unfold s_teacher; (try dsimp only); (repeat (first | rw [if_pos (by omega)] | rw [if_neg (by omega)])) <;> (first | rfl | skip))⟩
theorem kX7_now_9 : Cond.fieldLink RX7 9 "BreakSwapsModel" "m" "[I" ∈ wsX7_now := List.mem_of_getElem? (i := 1) rfl
theorem cX7_now_X7 : ∀ w ∈ wsX70, w ∈ wsX7_now := fun _ h => List.mem_cons_of_mem _ (List.mem_append_right _ h)
theorem hyX7_now : hyV yX7_now RX7 1 := by decide +kernel
set_option maxHeartbeats 4000000 in
set_option maxRecDepth 100000 in
theorem c_X7_now (l : Launch) (D : va_G) (a : Nat → Nat) (Z K U R : YS) (C : Int → Int64) (hT : TI (Z, K, R, C)) (v : Int) (hv : -2147483648 ≤ v ∧ v < 2147483648) : Con l yX7_now wsX7_now 8 D (mw D a Z K U R C) [.ref (a 0), .int (iI v)] (some (.int (iI ((s_now (Z, K, R, C) v).1)))) (fun ww => ∃ U2, ww = mwT D a (s_now (Z, K, R, C) v).2 U2) := by
  refine con_start (own := RX7) (by decide) rfl rfl (Nat.le_of_ble_eq_true rfl) ?_
  intro G hG hE hl hD
  subst hl
  subst hD
  have hI : Inv Z := hT.1.1
  have hN := hI.1
  have hr0 := hI.2.1
  have hu5 := hI.2.2.1
  have hrd : Z 5 0 ≤ 99999 := hT.1.2.2
  refine r_iload_n (i := 1) hG dX7_now_0 rfl rfl ?_
  rcases (show v = 0 ∨ v = 1 ∨ v = 2 ∨ v = 3 ∨ v = 4 ∨ v = 5 ∨ (v < 0 ∨ 5 < v) by omega) with c1 | c1 | c1 | c1 | c1 | c1 | c1
  · refine r_tsIn (tgt := 40) hG 0 c1 dX7_now_1 (by omega) rfl (by decide) ?_
    refine r_aload_n (i := 0) hG dX7_now_40 rfl rfl ?_
    refine r_get hG cX7_now_X7 0 0 rfl rfl (by decide) kX7_now_9 rfl dX7_now_41 ?_
    refine r_iconst hG dX7_now_44 ?_
    refine r_iload_n (i := 1) hG dX7_now_45 rfl rfl ?_
    refine r_iadd hG dX7_now_46 ?_
    refine r_iald hG 1 rfl (by omega) (by decide) dX7_now_47 ?_
    exact r_iret hG hE dX7_now_48 (by rw [mro_s Z (by omega)]; rcases (show v = 0 ∨ v = 1 by omega) with e | e <;> subst e <;> rfl) ⟨U, (by unfold s_now; (try dsimp only); (repeat (first | rw [if_pos (by omega)] | rw [if_neg (by omega)])) <;> (first | rfl | skip))⟩
  · refine r_tsIn (tgt := 40) hG 1 c1 dX7_now_1 (by omega) rfl (by decide) ?_
    refine r_aload_n (i := 0) hG dX7_now_40 rfl rfl ?_
    refine r_get hG cX7_now_X7 0 0 rfl rfl (by decide) kX7_now_9 rfl dX7_now_41 ?_
    refine r_iconst hG dX7_now_44 ?_
    refine r_iload_n (i := 1) hG dX7_now_45 rfl rfl ?_
    refine r_iadd hG dX7_now_46 ?_
    refine r_iald hG 1 rfl (by omega) (by decide) dX7_now_47 ?_
    exact r_iret hG hE dX7_now_48 (by rw [mro_s Z (by omega)]; rcases (show v = 0 ∨ v = 1 by omega) with e | e <;> subst e <;> rfl) ⟨U, (by unfold s_now; (try dsimp only); (repeat (first | rw [if_pos (by omega)] | rw [if_neg (by omega)])) <;> (first | rfl | skip))⟩
  · refine r_tsIn (tgt := 49) hG 2 c1 dX7_now_1 (by omega) rfl (by decide) ?_
    refine r_aload_n (i := 0) hG dX7_now_49 rfl rfl ?_
    refine r_callVi hG (c_X7_thingsHad (g_l G) (g_D G) a Z K U R C hI)  gX7_now_X7_thingsHad rfl hyX7_thingsHad rfl (by decide) (by decide) 0 rfl rfl rfl (Nat.le_of_ble_eq_true rfl) ⟨Nat.zero_le _, Nat.zero_le _⟩ dX7_now_50 (fun w hw => ?_)
    subst hw
    exact r_iret hG hE dX7_now_53 (by unfold s_now; (try dsimp only); (repeat (first | rw [if_pos (by omega)] | rw [if_neg (by omega)])); exact (iI_of _).symm) ⟨U, (by unfold s_now; (try dsimp only); (repeat (first | rw [if_pos (by omega)] | rw [if_neg (by omega)])) <;> (first | rfl | skip))⟩
  · refine r_tsIn (tgt := 54) hG 3 c1 dX7_now_1 (by omega) rfl (by decide) ?_
    refine r_aload_n (i := 0) hG dX7_now_54 rfl rfl ?_
    refine r_callVi hG (c_X7_allGlad (g_l G) (g_D G) a Z K U R C hI)  gX7_now_X7_allGlad rfl hyX7_allGlad rfl (by decide) (by decide) 0 rfl rfl rfl (Nat.le_of_ble_eq_true rfl) ⟨Nat.zero_le _, Nat.zero_le _⟩ dX7_now_55 (fun w hw => ?_)
    subst hw
    exact r_iret hG hE dX7_now_58 (by unfold s_now; (try dsimp only); (repeat (first | rw [if_pos (by omega)] | rw [if_neg (by omega)])) <;> (first | rfl | skip)) ⟨U, (by unfold s_now; (try dsimp only); (repeat (first | rw [if_pos (by omega)] | rw [if_neg (by omega)])) <;> (first | rfl | skip))⟩
  · refine r_tsIn (tgt := 59) hG 4 c1 dX7_now_1 (by omega) rfl (by decide) ?_
    refine r_aload_n (i := 0) hG dX7_now_59 rfl rfl ?_
    refine r_callVi hG (c_X7_isOver (g_l G) (g_D G) a Z K U R C hI)  gX7_now_X7_isOver rfl hyX7_isOver rfl (by decide) (by decide) 0 rfl rfl rfl (Nat.le_of_ble_eq_true rfl) ⟨Nat.zero_le _, Nat.zero_le _⟩ dX7_now_60 (fun w hw => ?_)
    subst hw
    refine rb_if_eq (tgt := 70) hG dX7_now_63 (by decide) (fun c63 => ?_) (fun c63 => ?_)
    · try simp only [decide_eq_true_eq, decide_eq_false_iff_not] at c63
      refine r_iconst hG dX7_now_70 ?_
      first
        | exact r_iret hG hE dX7_now_71 (by unfold s_now; (try dsimp only); (repeat (first | rw [if_pos (by omega)] | rw [if_neg (by omega)])); rw [c63]; rfl) ⟨U, (by unfold s_now; (try dsimp only); (repeat (first | rw [if_pos (by omega)] | rw [if_neg (by omega)])) <;> (first | rfl | skip))⟩
    · try simp only [decide_eq_true_eq, decide_eq_false_iff_not] at c63
      refine r_iconst hG dX7_now_66 ?_
      refine r_goto (tgt := 71) hG dX7_now_67 (by decide) ?_
      first
        | exact r_iret hG hE dX7_now_71 (by unfold s_now; (try dsimp only); (repeat (first | rw [if_pos (by omega)] | rw [if_neg (by omega)])); rw [c63]; rfl) ⟨U, (by unfold s_now; (try dsimp only); (repeat (first | rw [if_pos (by omega)] | rw [if_neg (by omega)])) <;> (first | rfl | skip))⟩
  · refine r_tsIn (tgt := 72) hG 5 c1 dX7_now_1 (by omega) rfl (by decide) ?_
    refine r_aload_n (i := 0) hG dX7_now_72 rfl rfl ?_
    refine r_iconst hG dX7_now_73 ?_
    refine r_callVi hG (c_X7_sums (g_l G) (g_D G) a Z K U R C hI 2 (by omega))  gX7_now_X7_sums rfl hyX7_sums rfl (by decide) (by decide) 0 rfl rfl rfl (Nat.le_of_ble_eq_true rfl) ⟨Nat.zero_le _, Nat.zero_le _⟩ dX7_now_74 (fun w hw => ?_)
    subst hw
    exact r_iret hG hE dX7_now_77 (by unfold s_now; (try dsimp only); (repeat (first | rw [if_pos (by omega)] | rw [if_neg (by omega)])) <;> (first | rfl | skip)) ⟨U, (by unfold s_now; (try dsimp only); (repeat (first | rw [if_pos (by omega)] | rw [if_neg (by omega)])) <;> (first | rfl | skip))⟩
  · refine r_tsOut (tgt := 78) hG (by omega) dX7_now_1 c1 (by decide) ?_
    refine r_aload_n (i := 0) hG dX7_now_78 rfl rfl ?_
    refine r_ldc (n := -1000000001) hG (List.mem_of_getElem? (i := 2) rfl) rfl dX7_now_79 ?_
    refine r_callVi hG (c_X7_finds (g_l G) (g_D G) a Z K U R C (-1000000001) 0 (by omega) (by omega))  gX7_now_X7_finds rfl hyX7_finds rfl (by decide) (by decide) 0 rfl rfl rfl (Nat.le_of_ble_eq_true rfl) ⟨Nat.zero_le _, Nat.zero_le _⟩ dX7_now_81 (fun w hw => ?_)
    subst hw
    exact r_iret hG hE dX7_now_84 (by unfold s_now; (try dsimp only); (repeat (first | rw [if_pos (by omega)] | rw [if_neg (by omega)])) <;> (first | rfl | skip)) ⟨U, (by unfold s_now; (try dsimp only); (repeat (first | rw [if_pos (by omega)] | rw [if_neg (by omega)])) <;> (first | rfl | skip))⟩
theorem hyX7_who : hyV yX7_who RX7 1 := by decide +kernel
set_option maxHeartbeats 4000000 in
set_option maxRecDepth 100000 in
theorem c_X7_who (l : Launch) (D : va_G) (a : Nat → Nat) (Z K U R : YS) (C : Int → Int64) (hT : TI (Z, K, R, C)) (t : Int) (ht : -2147483648 ≤ t ∧ t < 2147483648) : Con l yX7_who wsX7_who 2 D (mw D a Z K U R C) [.ref (a 0), .int (iI t)] (some (.int (iI ((s_who (Z, K, R, C) t).1)))) (fun ww => ∃ U2, ww = mwT D a (s_who (Z, K, R, C) t).2 U2) := by
  refine con_start (own := RX7) (by decide) rfl rfl (Nat.le_of_ble_eq_true rfl) ?_
  intro G hG hE hl hD
  subst hl
  subst hD
  have hI : Inv Z := hT.1.1
  have hN := hI.1
  have hr0 := hI.2.1
  have hu5 := hI.2.2.1
  have hrd : Z 5 0 ≤ 99999 := hT.1.2.2
  refine r_iload_n (i := 1) hG dX7_who_0 rfl rfl ?_
  refine r_call0i hG (c_X7_isThing (g_l G) (g_D G) _ (by omega))  gX7_who_X7_isThing rfl hyX7_isThing rfl (by decide) (by decide) rfl (Nat.le_of_ble_eq_true rfl) ⟨Nat.zero_le _, Nat.zero_le _⟩ dX7_who_1 ?_
  refine rb_if_eq (tgt := 15) hG dX7_who_4 (by decide) (fun c4 => ?_) (fun c4 => ?_)
  · try simp only [decide_eq_true_eq, decide_eq_false_iff_not] at c4
    refine r_aload_n (i := 0) hG dX7_who_15 rfl rfl ?_
    refine r_ldc (n := -1000000001) hG (List.mem_of_getElem? (i := 1) rfl) rfl dX7_who_16 ?_
    refine r_callVi hG (c_X7_finds (g_l G) (g_D G) a Z K U R C (-1000000001) 0 (by omega) (by omega))  gX7_who_X7_finds rfl hyX7_finds rfl (by decide) (by decide) 0 rfl rfl rfl (Nat.le_of_ble_eq_true rfl) ⟨Nat.zero_le _, Nat.zero_le _⟩ dX7_who_18 (fun w hw => ?_)
    subst hw
    exact r_iret hG hE dX7_who_21 (by unfold s_who; (try dsimp only); (repeat (first | rw [if_pos (by omega)] | rw [if_neg (by omega)])) <;> (first | rfl | skip)) ⟨U, (by unfold s_who; (try dsimp only); (repeat (first | rw [if_pos (by omega)] | rw [if_neg (by omega)])) <;> (first | rfl | skip))⟩
  · try simp only [decide_eq_true_eq, decide_eq_false_iff_not] at c4
    refine r_aload_n (i := 0) hG dX7_who_7 rfl rfl ?_
    refine r_iload_n (i := 1) hG dX7_who_8 rfl rfl ?_
    refine r_callVi hG (c_X7_whoHas (g_l G) (g_D G) a Z K U R C hI _ (by omega))  gX7_who_X7_whoHas rfl hyX7_whoHas rfl (by decide) (by decide) 0 rfl rfl rfl (Nat.le_of_ble_eq_true rfl) ⟨Nat.zero_le _, Nat.zero_le _⟩ dX7_who_9 (fun w hw => ?_)
    subst hw
    refine r_goto (tgt := 21) hG dX7_who_12 (by decide) ?_
    exact r_iret hG hE dX7_who_21 (by unfold s_who; (try dsimp only); (repeat (first | rw [if_pos (by omega)] | rw [if_neg (by omega)])) <;> (first | rfl | skip)) ⟨U, (by unfold s_who; (try dsimp only); (repeat (first | rw [if_pos (by omega)] | rw [if_neg (by omega)])) <;> (first | rfl | skip))⟩
theorem kX7_child_9 : Cond.fieldLink RX7 9 "BreakSwapsModel" "m" "[I" ∈ wsX7_child := List.mem_of_getElem? (i := 2) rfl
theorem cX7_child_X7 : ∀ w ∈ wsX70, w ∈ wsX7_child := fun _ h => List.mem_cons_of_mem _ (List.mem_append_right _ h)
theorem hyX7_child : hyV yX7_child RX7 2 := by decide +kernel
set_option maxHeartbeats 4000000 in
set_option maxRecDepth 100000 in
theorem c_X7_child (l : Launch) (D : va_G) (a : Nat → Nat) (Z K U R : YS) (C : Int → Int64) (hT : TI (Z, K, R, C)) (k t : Int) (hk : -2147483648 ≤ k ∧ k < 2147483648) (ht : -2147483648 ≤ t ∧ t < 2147483648) : Con l yX7_child wsX7_child 2 D (mw D a Z K U R C) [.ref (a 0), .int (iI k), .int (iI t)] (some (.int (iI ((s_child (Z, K, R, C) k t).1)))) (fun ww => ∃ U2, ww = mwT D a (s_child (Z, K, R, C) k t).2 U2) := by
  refine con_start (own := RX7) (by decide) rfl rfl (Nat.le_of_ble_eq_true rfl) ?_
  intro G hG hE hl hD
  subst hl
  subst hD
  have hI : Inv Z := hT.1.1
  have hN := hI.1
  have hr0 := hI.2.1
  have hu5 := hI.2.2.1
  have hrd : Z 5 0 ≤ 99999 := hT.1.2.2
  refine r_iload_n (i := 1) hG dX7_child_0 rfl rfl ?_
  refine r_i2l hG dX7_child_1 ?_
  refine r_iconst hG dX7_child_2 ?_
  refine r_iconst hG dX7_child_3 ?_
  refine r_call0i hG (c_X7_inI (g_l G) (g_D G) _ _ _ (by omega) (by omega) (by omega))  gX7_child_X7_in rfl hyX7_in rfl (by decide) (by decide) rfl (Nat.le_of_ble_eq_true rfl) ⟨Nat.zero_le _, Nat.zero_le _⟩ dX7_child_4 ?_
  refine rb_if_eq (tgt := 17) hG dX7_child_7 (by decide) (fun c7 => ?_) (fun c7 => ?_)
  · try simp only [decide_eq_true_eq, decide_eq_false_iff_not] at c7
    refine r_aload_n (i := 0) hG dX7_child_17 rfl rfl ?_
    refine r_ldc (n := -1000000001) hG (List.mem_of_getElem? (i := 1) rfl) rfl dX7_child_18 ?_
    refine r_callVi hG (c_X7_finds (g_l G) (g_D G) a Z K U R C (-1000000001) 0 (by omega) (by omega))  gX7_child_X7_finds rfl hyX7_finds rfl (by decide) (by decide) 0 rfl rfl rfl (Nat.le_of_ble_eq_true rfl) ⟨Nat.zero_le _, Nat.zero_le _⟩ dX7_child_20 (fun w hw => ?_)
    subst hw
    exact r_iret hG hE dX7_child_23 (by unfold s_child; (try dsimp only); (repeat (first | rw [if_pos (by omega)] | rw [if_neg (by omega)])) <;> (first | rfl | skip)) ⟨U, (by unfold s_child; (try dsimp only); (repeat (first | rw [if_pos (by omega)] | rw [if_neg (by omega)])) <;> (first | rfl | skip))⟩
  · try simp only [decide_eq_true_eq, decide_eq_false_iff_not] at c7
    refine r_iload_n (i := 2) hG dX7_child_10 rfl rfl ?_
    refine r_call0i hG (c_X7_isThing (g_l G) (g_D G) _ (by omega))  gX7_child_X7_isThing rfl hyX7_isThing rfl (by decide) (by decide) rfl (Nat.le_of_ble_eq_true rfl) ⟨Nat.zero_le _, Nat.zero_le _⟩ dX7_child_11 ?_
    refine rb_if_ne (tgt := 24) hG dX7_child_14 (by decide) (fun c14 => ?_) (fun c14 => ?_)
    · try simp only [decide_eq_true_eq, decide_eq_false_iff_not] at c14
      refine r_aload_n (i := 0) hG dX7_child_24 rfl rfl ?_
      refine r_get hG cX7_child_X7 0 0 rfl rfl (by decide) kX7_child_9 rfl dX7_child_25 ?_
      refine r_iconst hG dX7_child_28 ?_
      refine r_iald hG 1 rfl (by omega) (by decide) dX7_child_29 ?_
      refine V_top (x' := iI ((Z) 5 2)) (congrArg iI (mro_2 (Z))) ?_
      refine r_bipush hG dX7_child_30 rfl ?_
      refine r_icmp_ne (tgt := 44) hG (by omega) (by omega) dX7_child_32 (by decide) (fun c32 => ?_) (fun c32 => ?_)
      · refine r_aload_n (i := 0) hG dX7_child_44 rfl rfl ?_
        refine r_iload_n (i := 1) hG dX7_child_45 rfl rfl ?_
        refine r_iload_n (i := 2) hG dX7_child_46 rfl rfl ?_
        refine r_bipush hG dX7_child_47 rfl ?_
        refine r_callVi hG (c_X7_comesAs (g_l G) (g_D G) a Z K U R C hI (by omega) _ _ _)  gX7_child_X7_comesAs rfl hyX7_comesAs rfl (by decide) (by decide) 0 rfl rfl rfl (Nat.le_of_ble_eq_true rfl) ⟨Nat.zero_le _, Nat.zero_le _⟩ dX7_child_49 ?_
        intro w hw
        subst hw
        refine V_ia (g := mro (addY Z k t)) 1 rfl (fun j h0 h1 => mro_congr (come_add Z k t) j) rfl ?_
        refine V_ws (ws' := mw (g_D G) a (addY Z k t) K U R C) rfl ?_
        exact r_iret hG hE dX7_child_52 (by unfold s_child; (try dsimp only); (repeat (first | rw [if_pos (by omega)] | rw [if_neg (by omega)])) <;> (first | rfl | skip)) ⟨U, (by unfold s_child; (try dsimp only); (repeat (first | rw [if_pos (by omega)] | rw [if_neg (by omega)])) <;> (first | rfl | skip))⟩
      · refine r_aload_n (i := 0) hG dX7_child_35 rfl rfl ?_
        refine r_ldc (n := -1000000002) hG (List.mem_of_getElem? (i := 3) rfl) rfl dX7_child_36 ?_
        refine r_callVi hG (c_X7_finds (g_l G) (g_D G) a Z K U R C (-1000000002) 1 (by omega) (by omega))  gX7_child_X7_finds rfl hyX7_finds rfl (by decide) (by decide) 0 rfl rfl rfl (Nat.le_of_ble_eq_true rfl) ⟨Nat.zero_le _, Nat.zero_le _⟩ dX7_child_38 (fun w hw => ?_)
        subst hw
        refine r_goto (tgt := 52) hG dX7_child_41 (by decide) ?_
        exact r_iret hG hE dX7_child_52 (by unfold s_child; (try dsimp only); (repeat (first | rw [if_pos (by omega)] | rw [if_neg (by omega)])) <;> (first | rfl | skip)) ⟨U, (by unfold s_child; (try dsimp only); (repeat (first | rw [if_pos (by omega)] | rw [if_neg (by omega)])) <;> (first | rfl | skip))⟩
    · try simp only [decide_eq_true_eq, decide_eq_false_iff_not] at c14
      refine r_aload_n (i := 0) hG dX7_child_17 rfl rfl ?_
      refine r_ldc (n := -1000000001) hG (List.mem_of_getElem? (i := 1) rfl) rfl dX7_child_18 ?_
      refine r_callVi hG (c_X7_finds (g_l G) (g_D G) a Z K U R C (-1000000001) 0 (by omega) (by omega))  gX7_child_X7_finds rfl hyX7_finds rfl (by decide) (by decide) 0 rfl rfl rfl (Nat.le_of_ble_eq_true rfl) ⟨Nat.zero_le _, Nat.zero_le _⟩ dX7_child_20 (fun w hw => ?_)
      subst hw
      exact r_iret hG hE dX7_child_23 (by unfold s_child; (try dsimp only); (repeat (first | rw [if_pos (by omega)] | rw [if_neg (by omega)])) <;> (first | rfl | skip)) ⟨U, (by unfold s_child; (try dsimp only); (repeat (first | rw [if_pos (by omega)] | rw [if_neg (by omega)])) <;> (first | rfl | skip))⟩
theorem hyX7_of : hyV yX7_of RX7 2 := by decide +kernel
set_option maxHeartbeats 4000000 in
set_option maxRecDepth 100000 in
theorem c_X7_of (l : Launch) (D : va_G) (a : Nat → Nat) (Z K U R : YS) (C : Int → Int64) (hT : TI (Z, K, R, C)) (c v : Int) (hc : -2147483648 ≤ c ∧ c < 2147483648) (hv : -2147483648 ≤ v ∧ v < 2147483648) : Con l yX7_of wsX7_of 4 D (mw D a Z K U R C) [.ref (a 0), .int (iI c), .int (iI v)] (some (.int (iI ((s_of (Z, K, R, C) c v).1)))) (fun ww => ∃ U2, ww = mwT D a (s_of (Z, K, R, C) c v).2 U2) := by
  refine con_start (own := RX7) (by decide) rfl rfl (Nat.le_of_ble_eq_true rfl) ?_
  intro G hG hE hl hD
  subst hl
  subst hD
  have hI : Inv Z := hT.1.1
  have hN := hI.1
  have hr0 := hI.2.1
  have hu5 := hI.2.2.1
  have hrd : Z 5 0 ≤ 99999 := hT.1.2.2
  refine r_aload_n (i := 0) hG dX7_of_0 rfl rfl ?_
  refine r_iload_n (i := 1) hG dX7_of_1 rfl rfl ?_
  refine r_callVi hG (c_X7_isChild (g_l G) (g_D G) a Z K U R C hI _ (by omega))  gX7_of_X7_isChild rfl hyX7_isChild rfl (by decide) (by decide) 0 rfl rfl rfl (Nat.le_of_ble_eq_true rfl) ⟨Nat.zero_le _, Nat.zero_le _⟩ dX7_of_2 (fun w hw => ?_)
  subst hw
  refine rb_if_eq (tgt := 19) hG dX7_of_5 (by decide) (fun c5 => ?_) (fun c5 => ?_)
  · try simp only [decide_eq_true_eq, decide_eq_false_iff_not] at c5
    refine r_aload_n (i := 0) hG dX7_of_19 rfl rfl ?_
    refine r_ldc (n := -1000000001) hG (List.mem_of_getElem? (i := 1) rfl) rfl dX7_of_20 ?_
    refine r_callVi hG (c_X7_finds (g_l G) (g_D G) a Z K U R C (-1000000001) 0 (by omega) (by omega))  gX7_of_X7_finds rfl hyX7_finds rfl (by decide) (by decide) 0 rfl rfl rfl (Nat.le_of_ble_eq_true rfl) ⟨Nat.zero_le _, Nat.zero_le _⟩ dX7_of_22 (fun w hw => ?_)
    subst hw
    exact r_iret hG hE dX7_of_25 (by unfold s_of; (try dsimp only); (repeat (first | rw [if_pos (by omega)] | rw [if_neg (by omega)])) <;> (first | rfl | skip)) ⟨U, (by unfold s_of; (try dsimp only); (repeat (first | rw [if_pos (by omega)] | rw [if_neg (by omega)])) <;> (first | rfl | skip))⟩
  · try simp only [decide_eq_true_eq, decide_eq_false_iff_not] at c5
    refine r_iload_n (i := 2) hG dX7_of_8 rfl rfl ?_
    refine r_i2l hG dX7_of_9 ?_
    refine r_iconst hG dX7_of_10 ?_
    refine r_bipush hG dX7_of_11 rfl ?_
    refine r_call0i hG (c_X7_inI (g_l G) (g_D G) _ _ _ (by omega) (by omega) (by omega))  gX7_of_X7_in rfl hyX7_in rfl (by decide) (by decide) rfl (Nat.le_of_ble_eq_true rfl) ⟨Nat.zero_le _, Nat.zero_le _⟩ dX7_of_13 ?_
    refine rb_if_ne (tgt := 26) hG dX7_of_16 (by decide) (fun c16 => ?_) (fun c16 => ?_)
    · try simp only [decide_eq_true_eq, decide_eq_false_iff_not] at c16
      refine r_iload_n (i := 2) hG dX7_of_26 rfl rfl ?_
      refine r_iconst hG dX7_of_27 ?_
      refine r_icmp_ge (tgt := 38) hG (by omega) (by omega) dX7_of_28 (by decide) (fun c28 => ?_) (fun c28 => ?_)
      · refine r_iload_n (i := 2) hG dX7_of_38 rfl rfl ?_
        refine r_iconst hG dX7_of_39 ?_
        refine r_icmp_ne (tgt := 51) hG (by omega) (by omega) dX7_of_40 (by decide) (fun c40 => ?_) (fun c40 => ?_)
        · refine r_iload_n (i := 2) hG dX7_of_51 rfl rfl ?_
          refine r_iconst hG dX7_of_52 ?_
          refine r_icmp_ne (tgt := 64) hG (by omega) (by omega) dX7_of_53 (by decide) (fun c53 => ?_) (fun c53 => ?_)
          · refine r_aload_n (i := 0) hG dX7_of_64 rfl rfl ?_
            refine r_iload_n (i := 1) hG dX7_of_65 rfl rfl ?_
            refine r_callVi hG (c_X7_losesOf (g_l G) (g_D G) a Z K U R C hI _ (by omega))  gX7_of_X7_losesOf rfl hyX7_losesOf rfl (by decide) (by decide) 0 rfl rfl rfl (Nat.le_of_ble_eq_true rfl) ⟨Nat.zero_le _, Nat.zero_le _⟩ dX7_of_66 (fun w hw => ?_)
            subst hw
            exact r_iret hG hE dX7_of_69 (by unfold s_of; (try dsimp only); (repeat (first | rw [if_pos (by omega)] | rw [if_neg (by omega)])) <;> (first | rfl | skip)) ⟨U, (by unfold s_of; (try dsimp only); (repeat (first | rw [if_pos (by omega)] | rw [if_neg (by omega)])) <;> (first | rfl | skip))⟩
          · refine r_aload_n (i := 0) hG dX7_of_56 rfl rfl ?_
            refine r_iload_n (i := 1) hG dX7_of_57 rfl rfl ?_
            refine r_callVi hG (c_X7_asksOf (g_l G) (g_D G) a Z K U R C hI (by omega) _ (by omega))  gX7_of_X7_asksOf rfl hyX7_asksOf rfl (by decide) (by decide) 0 rfl rfl rfl (Nat.le_of_ble_eq_true rfl) ⟨Nat.zero_le _, Nat.zero_le _⟩ dX7_of_58 (fun w hw => ?_)
            subst hw
            refine r_goto (tgt := 69) hG dX7_of_61 (by decide) ?_
            exact r_iret hG hE dX7_of_69 (by unfold s_of; (try dsimp only); (repeat (first | rw [if_pos (by omega)] | rw [if_neg (by omega)])) <;> (first | rfl | skip)) ⟨U, (by unfold s_of; (try dsimp only); (repeat (first | rw [if_pos (by omega)] | rw [if_neg (by omega)])) <;> (first | rfl | skip))⟩
        · refine r_aload_n (i := 0) hG dX7_of_43 rfl rfl ?_
          refine r_iload_n (i := 1) hG dX7_of_44 rfl rfl ?_
          refine r_callVi hG (c_X7_gladness (g_l G) (g_D G) a Z K U R C hI _ (by omega))  gX7_of_X7_gladness rfl hyX7_gladness rfl (by decide) (by decide) 0 rfl rfl rfl (Nat.le_of_ble_eq_true rfl) ⟨Nat.zero_le _, Nat.zero_le _⟩ dX7_of_45 (fun w hw => ?_)
          subst hw
          refine r_goto (tgt := 69) hG dX7_of_48 (by decide) ?_
          exact r_iret hG hE dX7_of_69 (by unfold s_of; (try dsimp only); (repeat (first | rw [if_pos (by omega)] | rw [if_neg (by omega)])) <;> (first | rfl | skip)) ⟨U, (by unfold s_of; (try dsimp only); (repeat (first | rw [if_pos (by omega)] | rw [if_neg (by omega)])) <;> (first | rfl | skip))⟩
      · refine r_aload_n (i := 0) hG dX7_of_31 rfl rfl ?_
        refine r_iload_n (i := 1) hG dX7_of_32 rfl rfl ?_
        refine r_iload_n (i := 2) hG dX7_of_33 rfl rfl ?_
        refine r_callVi hG (c_X7_it (g_l G) (g_D G) a Z K U R C _ _ (Z v.toNat c) (by omega) (by rw [← mro_f Z v.toNat (by omega) (by omega)]; congr 1; omega))  gX7_of_X7_it rfl hyX7_it rfl (by decide) (by decide) 0 rfl rfl rfl (Nat.le_of_ble_eq_true rfl) ⟨Nat.zero_le _, Nat.zero_le _⟩ dX7_of_34 (fun w hw => ?_)
        subst hw
        exact r_iret hG hE dX7_of_37 (by rcases (show v = 0 ∨ v = 1 ∨ v = 2 ∨ v = 3 by omega) with e | e | e | e <;> subst e <;> (unfold s_of; dsimp only; rw [if_pos (by omega)]; rfl)) ⟨U, by rcases (show v = 0 ∨ v = 1 ∨ v = 2 ∨ v = 3 by omega) with e | e | e | e <;> subst e <;> (unfold s_of; dsimp only; rw [if_pos (by omega)]; rfl)⟩
    · try simp only [decide_eq_true_eq, decide_eq_false_iff_not] at c16
      refine r_aload_n (i := 0) hG dX7_of_19 rfl rfl ?_
      refine r_ldc (n := -1000000001) hG (List.mem_of_getElem? (i := 1) rfl) rfl dX7_of_20 ?_
      refine r_callVi hG (c_X7_finds (g_l G) (g_D G) a Z K U R C (-1000000001) 0 (by omega) (by omega))  gX7_of_X7_finds rfl hyX7_finds rfl (by decide) (by decide) 0 rfl rfl rfl (Nat.le_of_ble_eq_true rfl) ⟨Nat.zero_le _, Nat.zero_le _⟩ dX7_of_22 (fun w hw => ?_)
      subst hw
      exact r_iret hG hE dX7_of_25 (by unfold s_of; (try dsimp only); (repeat (first | rw [if_pos (by omega)] | rw [if_neg (by omega)])) <;> (first | rfl | skip)) ⟨U, (by unfold s_of; (try dsimp only); (repeat (first | rw [if_pos (by omega)] | rw [if_neg (by omega)])) <;> (first | rfl | skip))⟩
theorem hyX7_worth : hyV yX7_worth RX7 2 := by decide +kernel
set_option maxHeartbeats 4000000 in
set_option maxRecDepth 100000 in
theorem c_X7_worth (l : Launch) (D : va_G) (a : Nat → Nat) (Z K U R : YS) (C : Int → Int64) (hT : TI (Z, K, R, C)) (c t : Int) (hc : -2147483648 ≤ c ∧ c < 2147483648) (ht : -2147483648 ≤ t ∧ t < 2147483648) : Con l yX7_worth wsX7_worth 3 D (mw D a Z K U R C) [.ref (a 0), .int (iI c), .int (iI t)] (some (.int (iI ((s_worth (Z, K, R, C) c t).1)))) (fun ww => ∃ U2, ww = mwT D a (s_worth (Z, K, R, C) c t).2 U2) := by
  refine con_start (own := RX7) (by decide) rfl rfl (Nat.le_of_ble_eq_true rfl) ?_
  intro G hG hE hl hD
  subst hl
  subst hD
  have hI : Inv Z := hT.1.1
  have hN := hI.1
  have hr0 := hI.2.1
  have hu5 := hI.2.2.1
  have hrd : Z 5 0 ≤ 99999 := hT.1.2.2
  refine r_aload_n (i := 0) hG dX7_worth_0 rfl rfl ?_
  refine r_iload_n (i := 1) hG dX7_worth_1 rfl rfl ?_
  refine r_callVi hG (c_X7_isChild (g_l G) (g_D G) a Z K U R C hI _ (by omega))  gX7_worth_X7_isChild rfl hyX7_isChild rfl (by decide) (by decide) 0 rfl rfl rfl (Nat.le_of_ble_eq_true rfl) ⟨Nat.zero_le _, Nat.zero_le _⟩ dX7_worth_2 (fun w hw => ?_)
  subst hw
  refine rb_if_eq (tgt := 24) hG dX7_worth_5 (by decide) (fun c5 => ?_) (fun c5 => ?_)
  · try simp only [decide_eq_true_eq, decide_eq_false_iff_not] at c5
    refine r_aload_n (i := 0) hG dX7_worth_24 rfl rfl ?_
    refine r_ldc (n := -1000000001) hG (List.mem_of_getElem? (i := 1) rfl) rfl dX7_worth_25 ?_
    refine r_callVi hG (c_X7_finds (g_l G) (g_D G) a Z K U R C (-1000000001) 0 (by omega) (by omega))  gX7_worth_X7_finds rfl hyX7_finds rfl (by decide) (by decide) 0 rfl rfl rfl (Nat.le_of_ble_eq_true rfl) ⟨Nat.zero_le _, Nat.zero_le _⟩ dX7_worth_27 (fun w hw => ?_)
    subst hw
    exact r_iret hG hE dX7_worth_30 (by unfold s_worth; (try dsimp only); (repeat (first | rw [if_pos (by omega)] | rw [if_neg (by omega)])) <;> (first | rfl | skip)) ⟨U, (by unfold s_worth; (try dsimp only); (repeat (first | rw [if_pos (by omega)] | rw [if_neg (by omega)])) <;> (first | rfl | skip))⟩
  · try simp only [decide_eq_true_eq, decide_eq_false_iff_not] at c5
    refine r_iload_n (i := 2) hG dX7_worth_8 rfl rfl ?_
    refine r_call0i hG (c_X7_isThing (g_l G) (g_D G) _ (by omega))  gX7_worth_X7_isThing rfl hyX7_isThing rfl (by decide) (by decide) rfl (Nat.le_of_ble_eq_true rfl) ⟨Nat.zero_le _, Nat.zero_le _⟩ dX7_worth_9 ?_
    refine rb_if_eq (tgt := 24) hG dX7_worth_12 (by decide) (fun c12 => ?_) (fun c12 => ?_)
    · try simp only [decide_eq_true_eq, decide_eq_false_iff_not] at c12
      refine r_aload_n (i := 0) hG dX7_worth_24 rfl rfl ?_
      refine r_ldc (n := -1000000001) hG (List.mem_of_getElem? (i := 1) rfl) rfl dX7_worth_25 ?_
      refine r_callVi hG (c_X7_finds (g_l G) (g_D G) a Z K U R C (-1000000001) 0 (by omega) (by omega))  gX7_worth_X7_finds rfl hyX7_finds rfl (by decide) (by decide) 0 rfl rfl rfl (Nat.le_of_ble_eq_true rfl) ⟨Nat.zero_le _, Nat.zero_le _⟩ dX7_worth_27 (fun w hw => ?_)
      subst hw
      exact r_iret hG hE dX7_worth_30 (by unfold s_worth; (try dsimp only); (repeat (first | rw [if_pos (by omega)] | rw [if_neg (by omega)])) <;> (first | rfl | skip)) ⟨U, (by unfold s_worth; (try dsimp only); (repeat (first | rw [if_pos (by omega)] | rw [if_neg (by omega)])) <;> (first | rfl | skip))⟩
    · try simp only [decide_eq_true_eq, decide_eq_false_iff_not] at c12
      refine r_aload_n (i := 0) hG dX7_worth_15 rfl rfl ?_
      refine r_iload_n (i := 1) hG dX7_worth_16 rfl rfl ?_
      refine r_iload_n (i := 2) hG dX7_worth_17 rfl rfl ?_
      refine r_callVi hG (c_X7_worthTo (g_l G) (g_D G) a Z K U R C hI _ _ (by omega) (by omega))  gX7_worth_X7_worthTo rfl hyX7_worthTo rfl (by decide) (by decide) 0 rfl rfl rfl (Nat.le_of_ble_eq_true rfl) ⟨Nat.zero_le _, Nat.zero_le _⟩ dX7_worth_18 (fun w hw => ?_)
      subst hw
      refine r_goto (tgt := 30) hG dX7_worth_21 (by decide) ?_
      exact r_iret hG hE dX7_worth_30 (by unfold s_worth; (try dsimp only); (repeat (first | rw [if_pos (by omega)] | rw [if_neg (by omega)])) <;> (first | rfl | skip)) ⟨U, (by unfold s_worth; (try dsimp only); (repeat (first | rw [if_pos (by omega)] | rw [if_neg (by omega)])) <;> (first | rfl | skip))⟩
theorem hyX7_agrees : hyV yX7_agrees RX7 2 := by decide +kernel
set_option maxHeartbeats 4000000 in
set_option maxRecDepth 100000 in
theorem c_X7_agrees (l : Launch) (D : va_G) (a : Nat → Nat) (Z K U R : YS) (C : Int → Int64) (hT : TI (Z, K, R, C)) (c t : Int) (hc : -2147483648 ≤ c ∧ c < 2147483648) (ht : -2147483648 ≤ t ∧ t < 2147483648) : Con l yX7_agrees wsX7_agrees 5 D (mw D a Z K U R C) [.ref (a 0), .int (iI c), .int (iI t)] (some (.int (iI ((s_agrees (Z, K, R, C) c t).1)))) (fun ww => ∃ U2, ww = mwT D a (s_agrees (Z, K, R, C) c t).2 U2) := by
  refine con_start (own := RX7) (by decide) rfl rfl (Nat.le_of_ble_eq_true rfl) ?_
  intro G hG hE hl hD
  subst hl
  subst hD
  have hI : Inv Z := hT.1.1
  have hN := hI.1
  have hr0 := hI.2.1
  have hu5 := hI.2.2.1
  have hrd : Z 5 0 ≤ 99999 := hT.1.2.2
  refine r_aload_n (i := 0) hG dX7_agrees_0 rfl rfl ?_
  refine r_iload_n (i := 1) hG dX7_agrees_1 rfl rfl ?_
  refine r_callVi hG (c_X7_isChild (g_l G) (g_D G) a Z K U R C hI _ (by omega))  gX7_agrees_X7_isChild rfl hyX7_isChild rfl (by decide) (by decide) 0 rfl rfl rfl (Nat.le_of_ble_eq_true rfl) ⟨Nat.zero_le _, Nat.zero_le _⟩ dX7_agrees_2 (fun w hw => ?_)
  subst hw
  refine rb_if_eq (tgt := 32) hG dX7_agrees_5 (by decide) (fun c5 => ?_) (fun c5 => ?_)
  · try simp only [decide_eq_true_eq, decide_eq_false_iff_not] at c5
    refine r_aload_n (i := 0) hG dX7_agrees_32 rfl rfl ?_
    refine r_ldc (n := -1000000001) hG (List.mem_of_getElem? (i := 1) rfl) rfl dX7_agrees_33 ?_
    refine r_callVi hG (c_X7_finds (g_l G) (g_D G) a Z K U R C (-1000000001) 0 (by omega) (by omega))  gX7_agrees_X7_finds rfl hyX7_finds rfl (by decide) (by decide) 0 rfl rfl rfl (Nat.le_of_ble_eq_true rfl) ⟨Nat.zero_le _, Nat.zero_le _⟩ dX7_agrees_35 (fun w hw => ?_)
    subst hw
    first
      | exact r_iret hG hE dX7_agrees_38 (by unfold s_agrees; dsimp only; rw [if_pos (by omega), c21]; rfl) ⟨U, (by unfold s_agrees; (try dsimp only); (repeat (first | rw [if_pos (by omega)] | rw [if_neg (by omega)])) <;> (first | rfl | skip))⟩
      | exact r_iret hG hE dX7_agrees_38 (by unfold s_agrees; (try dsimp only); (repeat (first | rw [if_pos (by omega)] | rw [if_neg (by omega)])) <;> (first | rfl | skip)) ⟨U, (by unfold s_agrees; (try dsimp only); (repeat (first | rw [if_pos (by omega)] | rw [if_neg (by omega)])) <;> (first | rfl | skip))⟩
  · try simp only [decide_eq_true_eq, decide_eq_false_iff_not] at c5
    refine r_iload_n (i := 2) hG dX7_agrees_8 rfl rfl ?_
    refine r_call0i hG (c_X7_isThing (g_l G) (g_D G) _ (by omega))  gX7_agrees_X7_isThing rfl hyX7_isThing rfl (by decide) (by decide) rfl (Nat.le_of_ble_eq_true rfl) ⟨Nat.zero_le _, Nat.zero_le _⟩ dX7_agrees_9 ?_
    refine rb_if_eq (tgt := 32) hG dX7_agrees_12 (by decide) (fun c12 => ?_) (fun c12 => ?_)
    · try simp only [decide_eq_true_eq, decide_eq_false_iff_not] at c12
      refine r_aload_n (i := 0) hG dX7_agrees_32 rfl rfl ?_
      refine r_ldc (n := -1000000001) hG (List.mem_of_getElem? (i := 1) rfl) rfl dX7_agrees_33 ?_
      refine r_callVi hG (c_X7_finds (g_l G) (g_D G) a Z K U R C (-1000000001) 0 (by omega) (by omega))  gX7_agrees_X7_finds rfl hyX7_finds rfl (by decide) (by decide) 0 rfl rfl rfl (Nat.le_of_ble_eq_true rfl) ⟨Nat.zero_le _, Nat.zero_le _⟩ dX7_agrees_35 (fun w hw => ?_)
      subst hw
      first
        | exact r_iret hG hE dX7_agrees_38 (by unfold s_agrees; dsimp only; rw [if_pos (by omega), c21]; rfl) ⟨U, (by unfold s_agrees; (try dsimp only); (repeat (first | rw [if_pos (by omega)] | rw [if_neg (by omega)])) <;> (first | rfl | skip))⟩
        | exact r_iret hG hE dX7_agrees_38 (by unfold s_agrees; (try dsimp only); (repeat (first | rw [if_pos (by omega)] | rw [if_neg (by omega)])) <;> (first | rfl | skip)) ⟨U, (by unfold s_agrees; (try dsimp only); (repeat (first | rw [if_pos (by omega)] | rw [if_neg (by omega)])) <;> (first | rfl | skip))⟩
    · try simp only [decide_eq_true_eq, decide_eq_false_iff_not] at c12
      refine r_aload_n (i := 0) hG dX7_agrees_15 rfl rfl ?_
      refine r_iload_n (i := 1) hG dX7_agrees_16 rfl rfl ?_
      refine r_iload_n (i := 2) hG dX7_agrees_17 rfl rfl ?_
      refine r_callVi hG (c_X7_doesAgree (g_l G) (g_D G) a Z K U R C hI _ _ (by omega) (by omega))  gX7_agrees_X7_doesAgree rfl hyX7_doesAgree rfl (by decide) (by decide) 0 rfl rfl rfl (Nat.le_of_ble_eq_true rfl) ⟨Nat.zero_le _, Nat.zero_le _⟩ dX7_agrees_18 (fun w hw => ?_)
      subst hw
      refine rb_if_eq (tgt := 28) hG dX7_agrees_21 (by decide) (fun c21 => ?_) (fun c21 => ?_)
      · try simp only [decide_eq_true_eq, decide_eq_false_iff_not] at c21
        refine r_iconst hG dX7_agrees_28 ?_
        refine r_goto (tgt := 38) hG dX7_agrees_29 (by decide) ?_
        first
          | exact r_iret hG hE dX7_agrees_38 (by unfold s_agrees; dsimp only; rw [if_pos (by omega), c21]; rfl) ⟨U, (by unfold s_agrees; (try dsimp only); (repeat (first | rw [if_pos (by omega)] | rw [if_neg (by omega)])) <;> (first | rfl | skip))⟩
          | exact r_iret hG hE dX7_agrees_38 (by unfold s_agrees; (try dsimp only); (repeat (first | rw [if_pos (by omega)] | rw [if_neg (by omega)])) <;> (first | rfl | skip)) ⟨U, (by unfold s_agrees; (try dsimp only); (repeat (first | rw [if_pos (by omega)] | rw [if_neg (by omega)])) <;> (first | rfl | skip))⟩
      · try simp only [decide_eq_true_eq, decide_eq_false_iff_not] at c21
        refine r_iconst hG dX7_agrees_24 ?_
        refine r_goto (tgt := 38) hG dX7_agrees_25 (by decide) ?_
        first
          | exact r_iret hG hE dX7_agrees_38 (by unfold s_agrees; dsimp only; rw [if_pos (by omega), c21]; rfl) ⟨U, (by unfold s_agrees; (try dsimp only); (repeat (first | rw [if_pos (by omega)] | rw [if_neg (by omega)])) <;> (first | rfl | skip))⟩
          | exact r_iret hG hE dX7_agrees_38 (by unfold s_agrees; (try dsimp only); (repeat (first | rw [if_pos (by omega)] | rw [if_neg (by omega)])) <;> (first | rfl | skip)) ⟨U, (by unfold s_agrees; (try dsimp only); (repeat (first | rw [if_pos (by omega)] | rw [if_neg (by omega)])) <;> (first | rfl | skip))⟩
theorem hyX7_turn : hyV yX7_turn RX7 2 := by decide +kernel
set_option maxHeartbeats 4000000 in
set_option maxRecDepth 100000 in
theorem c_X7_turn (l : Launch) (D : va_G) (a : Nat → Nat) (Z K U R : YS) (C : Int → Int64) (hT : TI (Z, K, R, C)) (c k : Int) (hc : -2147483648 ≤ c ∧ c < 2147483648) (hk : -2147483648 ≤ k ∧ k < 2147483648) : Con l yX7_turn wsX7_turn 2 D (mw D a Z K U R C) [.ref (a 0), .int (iI c), .int (iI k)] (some (.int (iI ((s_turn (Z, K, R, C) c k).1)))) (fun ww => ∃ U2, ww = mwT D a (s_turn (Z, K, R, C) c k).2 U2) := by
  refine con_start (own := RX7) (by decide) rfl rfl (Nat.le_of_ble_eq_true rfl) ?_
  intro G hG hE hl hD
  subst hl
  subst hD
  have hI : Inv Z := hT.1.1
  have hN := hI.1
  have hr0 := hI.2.1
  have hu5 := hI.2.2.1
  have hrd : Z 5 0 ≤ 99999 := hT.1.2.2
  refine r_aload_n (i := 0) hG dX7_turn_0 rfl rfl ?_
  refine r_iload_n (i := 1) hG dX7_turn_1 rfl rfl ?_
  refine r_callVi hG (c_X7_isChild (g_l G) (g_D G) a Z K U R C hI _ (by omega))  gX7_turn_X7_isChild rfl hyX7_isChild rfl (by decide) (by decide) 0 rfl rfl rfl (Nat.le_of_ble_eq_true rfl) ⟨Nat.zero_le _, Nat.zero_le _⟩ dX7_turn_2 (fun w hw => ?_)
  subst hw
  refine rb_if_eq (tgt := 32) hG dX7_turn_5 (by decide) (fun c5 => ?_) (fun c5 => ?_)
  · try simp only [decide_eq_true_eq, decide_eq_false_iff_not] at c5
    refine r_aload_n (i := 0) hG dX7_turn_32 rfl rfl ?_
    refine r_ldc (n := -1000000001) hG (List.mem_of_getElem? (i := 1) rfl) rfl dX7_turn_33 ?_
    refine r_callVi hG (c_X7_finds (g_l G) (g_D G) a Z K U R C (-1000000001) 0 (by omega) (by omega))  gX7_turn_X7_finds rfl hyX7_finds rfl (by decide) (by decide) 0 rfl rfl rfl (Nat.le_of_ble_eq_true rfl) ⟨Nat.zero_le _, Nat.zero_le _⟩ dX7_turn_35 (fun w hw => ?_)
    subst hw
    exact r_iret hG hE dX7_turn_38 (by unfold s_turn; (try dsimp only); (repeat (first | rw [if_pos (by omega)] | rw [if_neg (by omega)])) <;> (first | rfl | skip)) ⟨U, (by unfold s_turn; (try dsimp only); (repeat (first | rw [if_pos (by omega)] | rw [if_neg (by omega)])) <;> (first | rfl | skip))⟩
  · try simp only [decide_eq_true_eq, decide_eq_false_iff_not] at c5
    refine r_iload_n (i := 2) hG dX7_turn_8 rfl rfl ?_
    refine r_i2l hG dX7_turn_9 ?_
    refine r_iconst hG dX7_turn_10 ?_
    refine r_iconst hG dX7_turn_11 ?_
    refine r_call0i hG (c_X7_inI (g_l G) (g_D G) _ _ _ (by omega) (by omega) (by omega))  gX7_turn_X7_in rfl hyX7_in rfl (by decide) (by decide) rfl (Nat.le_of_ble_eq_true rfl) ⟨Nat.zero_le _, Nat.zero_le _⟩ dX7_turn_12 ?_
    refine rb_if_eq (tgt := 32) hG dX7_turn_15 (by decide) (fun c15 => ?_) (fun c15 => ?_)
    · try simp only [decide_eq_true_eq, decide_eq_false_iff_not] at c15
      refine r_aload_n (i := 0) hG dX7_turn_32 rfl rfl ?_
      refine r_ldc (n := -1000000001) hG (List.mem_of_getElem? (i := 1) rfl) rfl dX7_turn_33 ?_
      refine r_callVi hG (c_X7_finds (g_l G) (g_D G) a Z K U R C (-1000000001) 0 (by omega) (by omega))  gX7_turn_X7_finds rfl hyX7_finds rfl (by decide) (by decide) 0 rfl rfl rfl (Nat.le_of_ble_eq_true rfl) ⟨Nat.zero_le _, Nat.zero_le _⟩ dX7_turn_35 (fun w hw => ?_)
      subst hw
      exact r_iret hG hE dX7_turn_38 (by unfold s_turn; (try dsimp only); (repeat (first | rw [if_pos (by omega)] | rw [if_neg (by omega)])) <;> (first | rfl | skip)) ⟨U, (by unfold s_turn; (try dsimp only); (repeat (first | rw [if_pos (by omega)] | rw [if_neg (by omega)])) <;> (first | rfl | skip))⟩
    · try simp only [decide_eq_true_eq, decide_eq_false_iff_not] at c15
      refine r_aload_n (i := 0) hG dX7_turn_18 rfl rfl ?_
      refine r_iconst hG dX7_turn_19 ?_
      refine r_bipush hG dX7_turn_20 rfl ?_
      refine r_iload_n (i := 1) hG dX7_turn_22 rfl rfl ?_
      refine r_imul hG dX7_turn_23 ?_
      refine r_iadd hG dX7_turn_24 ?_
      refine r_iload_n (i := 2) hG dX7_turn_25 rfl rfl ?_
      refine r_callVi hG (c_X7_becomes (g_l G) (g_D G) a Z K U R C _ _ (Z 0 c) (by omega) (by rw [← mro_f Z 0 (c := c) (by omega) (by omega)]; congr 1; omega) (upY Z 0 c k) (fun j hj => by rw [← mro_upf Z 0 (c := c) (by omega) (by omega) j hj]; congr 1; omega))  gX7_turn_X7_becomes rfl hyX7_becomes rfl (by decide) (by decide) 0 rfl rfl rfl (Nat.le_of_ble_eq_true rfl) ⟨Nat.zero_le _, Nat.zero_le _⟩ dX7_turn_26 (fun w hw => ?_)
      subst hw
      refine r_goto (tgt := 38) hG dX7_turn_29 (by decide) ?_
      exact r_iret hG hE dX7_turn_38 (by unfold s_turn; (try dsimp only); (repeat (first | rw [if_pos (by omega)] | rw [if_neg (by omega)])) <;> (first | rfl | skip)) ⟨U, (by unfold s_turn; (try dsimp only); (repeat (first | rw [if_pos (by omega)] | rw [if_neg (by omega)])) <;> (first | rfl | skip))⟩
theorem hyX7_swap : hyV yX7_swap RX7 2 := by decide +kernel
set_option maxHeartbeats 4000000 in
set_option maxRecDepth 100000 in
theorem c_X7_swap (l : Launch) (D : va_G) (a : Nat → Nat) (Z K U R : YS) (C : Int → Int64) (hT : TI (Z, K, R, C)) (c o : Int) (hc : -2147483648 ≤ c ∧ c < 2147483648) (ho : -2147483648 ≤ o ∧ o < 2147483648) : Con l yX7_swap wsX7_swap 4 D (mw D a Z K U R C) [.ref (a 0), .int (iI c), .int (iI o)] (some (.int (iI ((s_swap (Z, K, R, C) c o).1)))) (fun ww => ∃ U2, ww = mwT D a (s_swap (Z, K, R, C) c o).2 U2) := by
  refine con_start (own := RX7) (by decide) rfl rfl (Nat.le_of_ble_eq_true rfl) ?_
  intro G hG hE hl hD
  subst hl
  subst hD
  have hI : Inv Z := hT.1.1
  have hN := hI.1
  have hr0 := hI.2.1
  have hu5 := hI.2.2.1
  have hrd : Z 5 0 ≤ 99999 := hT.1.2.2
  have hsw : (0 ≤ c ∧ c ≤ Z 5 2 - 1 ∧ 0 ≤ o ∧ o ≤ Z 5 2 - 1 ∧ c ≠ o) → Inv (swapZ Z c o) := fun h => Inv_swap hI (by omega) (by omega)
  refine r_aload_n (i := 0) hG dX7_swap_0 rfl rfl ?_
  refine r_iload_n (i := 1) hG dX7_swap_1 rfl rfl ?_
  refine r_iload_n (i := 2) hG dX7_swap_2 rfl rfl ?_
  refine r_callVi hG (c_X7_areTwo (g_l G) (g_D G) a Z K U R C hI _ _ (by omega) (by omega))  gX7_swap_X7_areTwo rfl hyX7_areTwo rfl (by decide) (by decide) 0 rfl rfl rfl (Nat.le_of_ble_eq_true rfl) ⟨Nat.zero_le _, Nat.zero_le _⟩ dX7_swap_3 (fun w hw => ?_)
  subst hw
  refine rb_if_ne (tgt := 16) hG dX7_swap_6 (by decide) (fun c6 => ?_) (fun c6 => ?_)
  · try simp only [decide_eq_true_eq, decide_eq_false_iff_not] at c6
    refine r_aload_n (i := 0) hG dX7_swap_16 rfl rfl ?_
    refine r_iload_n (i := 1) hG dX7_swap_17 rfl rfl ?_
    refine r_iload_n (i := 2) hG dX7_swap_18 rfl rfl ?_
    refine r_callVv hG (c_X7_swaps (g_l G) (g_D G) a Z K U R C hI _ _ (by omega) (by omega))  gX7_swap_X7_swaps rfl hyX7_swaps rfl (by decide) (by decide) 0 rfl rfl rfl (Nat.le_of_ble_eq_true rfl) ⟨Nat.zero_le _, Nat.zero_le _⟩ dX7_swap_19 (fun w hw => ?_)
    subst hw
    refine r_aload_n (i := 0) hG dX7_swap_22 rfl rfl ?_
    refine r_iload_n (i := 1) hG dX7_swap_23 rfl rfl ?_
    refine r_callVi hG (c_X7_gladness (g_l G) (g_D G) a (swapZ Z c o) K U R C (hsw (by omega)) _ (by omega))  gX7_swap_X7_gladness rfl hyX7_gladness rfl (by decide) (by decide) 0 rfl rfl rfl (Nat.le_of_ble_eq_true rfl) ⟨Nat.zero_le _, Nat.zero_le _⟩ dX7_swap_24 (fun w hw => ?_)
    subst hw
    exact r_iret hG hE dX7_swap_27 (by unfold s_swap; (try dsimp only); (repeat (first | rw [if_pos (by omega)] | rw [if_neg (by omega)])) <;> (first | rfl | skip)) ⟨U, (by unfold s_swap; (try dsimp only); (repeat (first | rw [if_pos (by omega)] | rw [if_neg (by omega)])) <;> (first | rfl | skip))⟩
  · try simp only [decide_eq_true_eq, decide_eq_false_iff_not] at c6
    refine r_aload_n (i := 0) hG dX7_swap_9 rfl rfl ?_
    refine r_ldc (n := -1000000001) hG (List.mem_of_getElem? (i := 1) rfl) rfl dX7_swap_10 ?_
    refine r_callVi hG (c_X7_finds (g_l G) (g_D G) a Z K U R C (-1000000001) 0 (by omega) (by omega))  gX7_swap_X7_finds rfl hyX7_finds rfl (by decide) (by decide) 0 rfl rfl rfl (Nat.le_of_ble_eq_true rfl) ⟨Nat.zero_le _, Nat.zero_le _⟩ dX7_swap_12 (fun w hw => ?_)
    subst hw
    exact r_iret hG hE dX7_swap_15 (by unfold s_swap; (try dsimp only); (repeat (first | rw [if_pos (by omega)] | rw [if_neg (by omega)])) <;> (first | rfl | skip)) ⟨U, (by unfold s_swap; (try dsimp only); (repeat (first | rw [if_pos (by omega)] | rw [if_neg (by omega)])) <;> (first | rfl | skip))⟩
theorem hyX7_mates : hyV yX7_mates RX7 1 := by decide +kernel
set_option maxHeartbeats 4000000 in
set_option maxRecDepth 100000 in
theorem c_X7_mates (l : Launch) (D : va_G) (a : Nat → Nat) (Z K U R : YS) (C : Int → Int64) (hT : TI (Z, K, R, C)) (c : Int) (hc : -2147483648 ≤ c ∧ c < 2147483648) : Con l yX7_mates wsX7_mates 7 D (mw D a Z K U R C) [.ref (a 0), .int (iI c)] (some (.int (iI ((s_mates (Z, K, R, C) c).1)))) (fun ww => ∃ U2, ww = mwT D a (s_mates (Z, K, R, C) c).2 U2) := by
  refine con_start (own := RX7) (by decide) rfl rfl (Nat.le_of_ble_eq_true rfl) ?_
  intro G hG hE hl hD
  subst hl
  subst hD
  have hI : Inv Z := hT.1.1
  have hN := hI.1
  have hr0 := hI.2.1
  have hu5 := hI.2.2.1
  have hrd : Z 5 0 ≤ 99999 := hT.1.2.2
  refine r_aload_n (i := 0) hG dX7_mates_0 rfl rfl ?_
  refine r_iload_n (i := 1) hG dX7_mates_1 rfl rfl ?_
  refine r_callVi hG (c_X7_isChild (g_l G) (g_D G) a Z K U R C hI _ (by omega))  gX7_mates_X7_isChild rfl hyX7_isChild rfl (by decide) (by decide) 0 rfl rfl rfl (Nat.le_of_ble_eq_true rfl) ⟨Nat.zero_le _, Nat.zero_le _⟩ dX7_mates_2 (fun w hw => ?_)
  subst hw
  refine rb_if_eq (tgt := 16) hG dX7_mates_5 (by decide) (fun c5 => ?_) (fun c5 => ?_)
  · try simp only [decide_eq_true_eq, decide_eq_false_iff_not] at c5
    refine r_aload_n (i := 0) hG dX7_mates_16 rfl rfl ?_
    refine r_ldc (n := -1000000001) hG (List.mem_of_getElem? (i := 1) rfl) rfl dX7_mates_17 ?_
    refine r_callVi hG (c_X7_finds (g_l G) (g_D G) a Z K U R C (-1000000001) 0 (by omega) (by omega))  gX7_mates_X7_finds rfl hyX7_finds rfl (by decide) (by decide) 0 rfl rfl rfl (Nat.le_of_ble_eq_true rfl) ⟨Nat.zero_le _, Nat.zero_le _⟩ dX7_mates_19 (fun w hw => ?_)
    subst hw
    exact r_iret hG hE dX7_mates_22 (by unfold s_mates; (try dsimp only); (repeat (first | rw [if_pos (by omega)] | rw [if_neg (by omega)])) <;> (first | rfl | skip)) ⟨U, (by unfold s_mates; (try dsimp only); (repeat (first | rw [if_pos (by omega)] | rw [if_neg (by omega)])) <;> (first | rfl | skip))⟩
  · try simp only [decide_eq_true_eq, decide_eq_false_iff_not] at c5
    refine r_aload_n (i := 0) hG dX7_mates_8 rfl rfl ?_
    refine r_iload_n (i := 1) hG dX7_mates_9 rfl rfl ?_
    refine r_callVi hG (c_X7_matesOf (g_l G) (g_D G) a Z K U R C hI _ (by omega))  gX7_mates_X7_matesOf rfl hyX7_matesOf rfl (by decide) (by decide) 0 rfl rfl rfl (Nat.le_of_ble_eq_true rfl) ⟨Nat.zero_le _, Nat.zero_le _⟩ dX7_mates_10 (fun w hw => ?_)
    subst hw
    refine r_goto (tgt := 22) hG dX7_mates_13 (by decide) ?_
    exact r_iret hG hE dX7_mates_22 (by unfold s_mates; (try dsimp only); (repeat (first | rw [if_pos (by omega)] | rw [if_neg (by omega)])) <;> (first | rfl | skip)) ⟨U, (by unfold s_mates; (try dsimp only); (repeat (first | rw [if_pos (by omega)] | rw [if_neg (by omega)])) <;> (first | rfl | skip))⟩
