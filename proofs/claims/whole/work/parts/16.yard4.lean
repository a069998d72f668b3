theorem kX4_nextToAsk_43 : Cond.fieldLink RX4 43 "BreakSwaps$Yard" "toAsk" "LBreakSwaps$Best;" ∈ wsX4_nextToAsk := List.mem_of_getElem? (i := 1) rfl
theorem kX4_nextToAsk_18 : Cond.fieldLink RX4 18 "BreakSwaps$Yard" "size" "I" ∈ wsX4_nextToAsk := List.mem_of_getElem? (i := 2) rfl
theorem kX4_nextToAsk_31 : Cond.fieldLink RX4 31 "BreakSwaps$Yard" "trusts" "[I" ∈ wsX4_nextToAsk := List.mem_of_getElem? (i := 3) rfl
theorem kX4_nextToAsk_25 : Cond.fieldLink RX4 25 "BreakSwaps$Yard" "has" "[I" ∈ wsX4_nextToAsk := List.mem_of_getElem? (i := 4) rfl
theorem kX4_nextToAsk_129 : Cond.fieldLink RX4 129 "BreakSwaps$Best" "which" "I" ∈ wsX4_nextToAsk := List.mem_of_getElem? (i := 5) rfl
theorem cX4_nextToAsk_X0 : ∀ w ∈ wsX00, w ∈ wsX4_nextToAsk := fun _ h => List.mem_cons_of_mem _ (List.mem_append_right _ h)
theorem cX4_nextToAsk_X4 : ∀ w ∈ wsX40, w ∈ wsX4_nextToAsk := fun _ h => List.mem_cons_of_mem _ (List.mem_append_left _ (List.mem_append_right _ h))
theorem hyX4_nextToAsk : hyV yX4_nextToAsk RX4 2 := by decide +kernel
set_option maxHeartbeats 4000000 in
set_option maxRecDepth 100000 in
theorem c_X4_nextToAsk (l : Launch) (D : va_G) (a : Nat → Nat) (Y : YS) (x z q : Int) (hI : Inv Y) (hH : Hol Y) (c : Int) (asked : Int32) (hc : 0 ≤ c ∧ c < 8) : Con l yX4_nextToAsk wsX4_nextToAsk 2 D (yw D a Y x z q) [.ref (a 0), .int (iI c), .int asked] (some (.int (iI (nextZ Y c asked)))) (fun w => ∃ m, w = yw D a Y (nextZ Y c asked) m q) := by
  refine con_start (own := RX4) (by decide) rfl rfl (Nat.le_of_ble_eq_true rfl) ?_
  intro G hG hE hl hD
  subst hl
  subst hD
  have hN := hI.1
  have hc1 := Inv_c hI hc
  have L : ∀ i, i ≤ (Y 5 2).toNat → ∀ m, (0 ≤ nextN Y c asked i → m = worth Y c (Y 1 (nextN Y c asked i))) → V G 0 0 (yw (g_D G) a Y (nextN Y c asked i) m q) 9 [(0, .ref (a 0)), (1, .int (iI c)), (2, .int asked), (3, .int (iI (i : Int)))] [] := by
    refine down (fun i hi ih m hm => ?_)
    have hr := nextN_rng Y c asked i
    have J82 : i < (Y 5 2).toNat → ∀ x2 m2, x2 = nextN Y c asked (i + 1) → (0 ≤ x2 → m2 = worth Y c (Y 1 x2)) → V G 0 0 (yw (g_D G) a Y x2 m2 q) 82 [(0, .ref (a 0)), (1, .int (iI c)), (2, .int asked), (3, .int (iI (i : Int)))] [] := by
      intro hiN x2 m2 e1 e2
      subst e1
      refine r_iinc hG dX4_nextToAsk_82 rfl (by decide) rfl ?_
      refine r_goto (tgt := 9) hG dX4_nextToAsk_85 (by decide) ?_
      exact V_lv (ih hiN m2 e2) ⟨rfl, rfl, rfl, rfl, trivial⟩
    have K48 : i < (Y 5 2).toNat → (asked >>> (iI (i : Int) &&& 31)) &&& iI 1 = 0 → 10 ≤ Y 3 i → V G 0 0 (yw (g_D G) a Y (nextN Y c asked i) m q) 48 [(0, .ref (a 0)), (1, .int (iI c)), (2, .int asked), (3, .int (iI (i : Int)))] [] := by
      intro hiN hb ht
      have hi1 := Inv_c hI (c := (i : Int)) (by omega)
      have hw1 := worth_rng hI hc (t := Y 1 (i : Int)) (by omega)
      have hmr : 0 ≤ nextN Y c asked i → -20 ≤ m ∧ m ≤ 28 := fun h => by
        rw [hm h]
        exact worth_rng hI hc (by have := Inv_c hI (c := nextN Y c asked i) (by omega); omega)
      refine r_aload_n (i := 0) hG dX4_nextToAsk_48 rfl rfl ?_
      refine r_get hG cX4_nextToAsk_X4 0 4 rfl rfl (by decide) kX4_nextToAsk_25 rfl dX4_nextToAsk_49 ?_
      refine r_iload_n (i := 3) hG dX4_nextToAsk_52 rfl rfl ?_
      refine r_iald hG 2 rfl (by omega) (by decide) dX4_nextToAsk_53 ?_
      refine r_aload_n (i := 0) hG dX4_nextToAsk_54 rfl rfl ?_
      refine r_get hG cX4_nextToAsk_X4 0 4 rfl rfl (by decide) kX4_nextToAsk_25 rfl dX4_nextToAsk_55 ?_
      refine r_iload_n (i := 1) hG dX4_nextToAsk_58 rfl rfl ?_
      refine r_iald hG 2 rfl (by omega) (by decide) dX4_nextToAsk_59 ?_
      refine r_icmp_eq (tgt := 82) hG (by omega) (by omega) dX4_nextToAsk_60 (by decide) (fun c60 => ?_) (fun c60 => ?_)
      · exact V_lv (J82 hiN _ _ (nextN_skip (by first | (simp_all [opn]; done) | (simp_all [opn]; omega))) hm) ⟨rfl, rfl, rfl, rfl, trivial⟩
      · refine r_aload_n (i := 0) hG dX4_nextToAsk_63 rfl rfl ?_
        refine r_get hG cX4_nextToAsk_X4 0 9 rfl rfl (by decide) kX4_nextToAsk_43 rfl dX4_nextToAsk_64 ?_
        refine r_iload_n (i := 3) hG dX4_nextToAsk_67 rfl rfl ?_
        refine r_aload_n (i := 0) hG dX4_nextToAsk_68 rfl rfl ?_
        refine r_iload_n (i := 1) hG dX4_nextToAsk_69 rfl rfl ?_
        refine r_aload_n (i := 0) hG dX4_nextToAsk_70 rfl rfl ?_
        refine r_get hG cX4_nextToAsk_X4 0 4 rfl rfl (by decide) kX4_nextToAsk_25 rfl dX4_nextToAsk_71 ?_
        refine r_iload_n (i := 3) hG dX4_nextToAsk_74 rfl rfl ?_
        refine r_iald hG 2 rfl (by omega) (by decide) dX4_nextToAsk_75 ?_
        refine r_callVi hG (c_X4_worthTo (g_l G) (g_D G) a Y (nextN Y c asked i) m q hI hH _ _ (by omega) (by omega))  gX4_nextToAsk_X4_worthTo rfl hyX4_worthTo rfl (by decide) (by decide) 0 rfl rfl rfl (Nat.le_of_ble_eq_true rfl) ⟨Nat.zero_le _, Nat.zero_le _⟩ dX4_nextToAsk_76 (fun w hw => ?_)
        subst hw
        refine r_callVvF hG (c_X0_offer (g_l G) (g_D G) (a 7) (nextN Y c asked i) m _ _ (by omega) (fun h => by have := hmr h; omega) (by omega)) [7] [0, 1, 2, 3, 4, 5, 6] ((yw (g_D G) a Y (nextN Y c asked i) m q).take 7) rfl rfl rfl rfl (by decide) gX4_nextToAsk_X0_offer rfl hyX0_offer rfl (by decide) (by decide) 7 rfl rfl rfl (Nat.le_of_ble_eq_true rfl) ⟨Nat.zero_le _, Nat.zero_le _⟩ dX4_nextToAsk_79 ?_
        intro w hw
        subst hw
        by_cases hbb : nextN Y c asked i < 0 ∨ m < worth Y c (Y 1 (i : Int))
        · rw [if_pos hbb]
          exact V_ws (ws' := yw (g_D G) a Y (i : Int) (worth Y c (Y 1 (i : Int))) q) rfl (V_lv (J82 hiN _ _ (nextN_take (by simp_all [opn]) (by
            rcases hbb with h | h
            · exact Or.inl h
            · by_cases h0 : nextN Y c asked i < 0
              · exact Or.inl h0
              · exact Or.inr (by rw [← hm (by omega)]; exact h))) (fun _ => rfl)) ⟨rfl, rfl, rfl, rfl, trivial⟩)
        · rw [if_neg hbb]
          exact V_ws (ws' := yw (g_D G) a Y (nextN Y c asked i) m q) rfl (V_lv (J82 hiN _ _ (nextN_keep (fun h => hbb (by
            rcases h with h | h
            · exact Or.inl h
            · by_cases h0 : nextN Y c asked i < 0
              · exact Or.inl h0
              · exact Or.inr (by rw [hm (by omega)]; exact h)))) hm) ⟨rfl, rfl, rfl, rfl, trivial⟩)
    refine r_iload_n (i := 3) hG dX4_nextToAsk_9 rfl rfl ?_
    refine r_aload_n (i := 0) hG dX4_nextToAsk_10 rfl rfl ?_
    refine r_get hG cX4_nextToAsk_X4 0 2 rfl rfl (by decide) kX4_nextToAsk_18 rfl dX4_nextToAsk_11 ?_
    refine r_icmp_ge (tgt := 88) hG (by omega) (by omega) dX4_nextToAsk_14 (by decide) (fun c14 => ?_) (fun c14 => ?_)
    · refine r_aload_n (i := 0) hG dX4_nextToAsk_88 rfl rfl ?_
      refine r_get hG cX4_nextToAsk_X4 0 9 rfl rfl (by decide) kX4_nextToAsk_43 rfl dX4_nextToAsk_89 ?_
      refine r_get hG cX4_nextToAsk_X0 7 0 rfl rfl (by decide) kX4_nextToAsk_129 rfl dX4_nextToAsk_92 ?_
      exact r_iret hG hE dX4_nextToAsk_95 (by rw [show i = (Y 5 2).toNat by omega]; rfl) ⟨m, by rw [show i = (Y 5 2).toNat by omega]; rfl⟩
    · refine r_iload_n (i := 2) hG dX4_nextToAsk_17 rfl rfl ?_
      refine r_iload_n (i := 3) hG dX4_nextToAsk_18 rfl rfl ?_
      refine rr_ishr hG dX4_nextToAsk_19 ?_
      refine r_iconst hG dX4_nextToAsk_20 ?_
      refine rr_iand hG dX4_nextToAsk_21 ?_
      refine rr_if_ne (tgt := 40) hG dX4_nextToAsk_22 (by decide) (fun c22 => ?_) (fun c22 => ?_)
      · refine r_iconst hG dX4_nextToAsk_40 ?_
        refine r_istore hG dX4_nextToAsk_41 (by decide) rfl ?_
        refine r_iload hG dX4_nextToAsk_43 rfl ?_
        refine r_if_eq (tgt := 82) hG (by omega) dX4_nextToAsk_45 (by decide) (fun c45 => ?_) (fun c45 => ?_)
        · first
            | exact absurd c45 (by decide)
            | exact V_lv (J82 (by omega) _ _ (nextN_skip (by first | (simp_all [opn]; done) | (simp_all [opn]; omega))) hm) ⟨rfl, rfl, rfl, rfl, trivial⟩
        · first
            | exact absurd rfl c45
            | exact V_lv (K48 (by omega) c22 (by omega)) ⟨rfl, rfl, rfl, rfl, trivial⟩
      · refine r_aload_n (i := 0) hG dX4_nextToAsk_25 rfl rfl ?_
        refine r_get hG cX4_nextToAsk_X4 0 6 rfl rfl (by decide) kX4_nextToAsk_31 rfl dX4_nextToAsk_26 ?_
        refine r_iload_n (i := 3) hG dX4_nextToAsk_29 rfl rfl ?_
        refine r_iald hG 4 rfl (by omega) (by decide) dX4_nextToAsk_30 ?_
        refine r_bipush hG dX4_nextToAsk_31 rfl ?_
        refine r_icmp_lt (tgt := 40) hG (by have := Inv_c hI (c := (i : Int)) (by omega); omega) (by have := Inv_c hI (c := (i : Int)) (by omega); omega) dX4_nextToAsk_33 (by decide) (fun c33 => ?_) (fun c33 => ?_)
        · refine r_iconst hG dX4_nextToAsk_40 ?_
          refine r_istore hG dX4_nextToAsk_41 (by decide) rfl ?_
          refine r_iload hG dX4_nextToAsk_43 rfl ?_
          refine r_if_eq (tgt := 82) hG (by omega) dX4_nextToAsk_45 (by decide) (fun c45 => ?_) (fun c45 => ?_)
          · first
              | exact absurd c45 (by decide)
              | exact V_lv (J82 (by omega) _ _ (nextN_skip (by first | (simp_all [opn]; done) | (simp_all [opn]; omega))) hm) ⟨rfl, rfl, rfl, rfl, trivial⟩
          · first
              | exact absurd rfl c45
              | exact V_lv (K48 (by omega) c22 (by omega)) ⟨rfl, rfl, rfl, rfl, trivial⟩
        · refine r_iconst hG dX4_nextToAsk_36 ?_
          refine r_goto (tgt := 41) hG dX4_nextToAsk_37 (by decide) ?_
          refine r_istore hG dX4_nextToAsk_41 (by decide) rfl ?_
          refine r_iload hG dX4_nextToAsk_43 rfl ?_
          refine r_if_eq (tgt := 82) hG (by omega) dX4_nextToAsk_45 (by decide) (fun c45 => ?_) (fun c45 => ?_)
          · first
              | exact absurd c45 (by decide)
              | exact V_lv (J82 (by omega) _ _ (nextN_skip (by first | (simp_all [opn]; done) | (simp_all [opn]; omega))) hm) ⟨rfl, rfl, rfl, rfl, trivial⟩
          · first
              | exact absurd rfl c45
              | exact V_lv (K48 (by omega) c22 (by omega)) ⟨rfl, rfl, rfl, rfl, trivial⟩
  refine r_aload_n (i := 0) hG dX4_nextToAsk_0 rfl rfl ?_
  refine r_get hG cX4_nextToAsk_X4 0 9 rfl rfl (by decide) kX4_nextToAsk_43 rfl dX4_nextToAsk_1 ?_
  refine r_callVvF hG (c_X0_begin (g_l G) (g_D G) (a 7) x z) [7] [0, 1, 2, 3, 4, 5, 6] ((yw (g_D G) a Y x z q).take 7) rfl rfl rfl rfl (by decide) gX4_nextToAsk_X0_begin rfl hyX0_begin rfl (by decide) (by decide) 7 rfl rfl rfl (Nat.le_of_ble_eq_true rfl) ⟨Nat.zero_le _, Nat.zero_le _⟩ dX4_nextToAsk_4 ?_
  intro w hw
  subst hw
  refine V_ws (ws' := yw (g_D G) a Y (nextN Y c asked 0) z q) rfl ?_
  refine r_iconst hG dX4_nextToAsk_7 ?_
  refine r_istore_n (i := 3) hG dX4_nextToAsk_8 rfl (by decide) rfl ?_
  exact V_lv (L 0 (by omega) _ (fun h => absurd h (by simp [nextN]))) ⟨rfl, rfl, rfl, rfl, trivial⟩
