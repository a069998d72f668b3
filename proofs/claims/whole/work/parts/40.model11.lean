theorem kX7_lays_28 : Cond.fieldLink RX7 28 "BreakSwapsModel" "sizeOf" "[I" ∈ wsX7_lays := List.mem_of_getElem? (i := 2) rfl
theorem kX7_lays_31 : Cond.fieldLink RX7 31 "BreakSwapsModel" "cells" "[J" ∈ wsX7_lays := List.mem_of_getElem? (i := 3) rfl
theorem cX7_lays_X7 : ∀ w ∈ wsX70, w ∈ wsX7_lays := fun _ h => List.mem_cons_of_mem _ (List.mem_append_right _ h)
theorem hyX7_lays : hyV yX7_lays RX7 2 := by decide +kernel
set_option maxHeartbeats 4000000 in
set_option maxRecDepth 100000 in
theorem c_X7_lays (l : Launch) (D : va_G) (a : Nat → Nat) (Z K U R : YS) (C : Int → Int64) (hT : TI (Z, K, R, C)) (s c : Int) (hs : -2147483648 ≤ s ∧ s < 2147483648) (hc : -2147483648 ≤ c ∧ c < 2147483648) : Con l yX7_lays wsX7_lays 3 D (mw D a Z K U R C) [.ref (a 0), .int (iI s), .int (iI c)] (some (.int (iI ((s_lays (Z, K, R, C) s c).1)))) (fun ww => ∃ U2, ww = mwT D a (s_lays (Z, K, R, C) s c).2 U2) := by
  refine con_start (own := RX7) (by decide) rfl rfl (Nat.le_of_ble_eq_true rfl) ?_
  intro G hG hE hl hD
  subst hl
  subst hD
  have hI : Inv Z := hT.1.1
  have hN := hI.1
  have hr0 := hI.2.1
  have hu5 := hI.2.2.1
  have hrd : Z 5 0 ≤ 99999 := hT.1.2.2
  have hS : ∀ s, 0 ≤ s → s < 4 → (R 3 s = 0 ∨ R 3 s = 8 ∨ R 3 s = 16 ∨ R 3 s = 64) ∧ 0 ≤ R 4 s ∧ R 4 s ≤ 40 := hT.2.2.2
  have hs3 : 0 ≤ s ∧ s ≤ 3 → _ := fun h => hS s h.1 (by omega)
  by_cases h1 : 0 ≤ s ∧ s ≤ 3
  · have hsz := hs3 h1
    by_cases h2 : R 3 s = 0
    · skip
      refine r_aload_n (i := 0) hG dX7_lays_0 rfl rfl ?_
      refine r_iload_n (i := 1) hG dX7_lays_1 rfl rfl ?_
      refine r_callVi hG (c_X7_notThere (g_l G) (g_D G) a Z K U R C hS s hs)  gX7_lays_X7_notThere rfl hyX7_notThere rfl (by decide) (by decide) 0 rfl rfl rfl (Nat.le_of_ble_eq_true rfl) ⟨Nat.zero_le _, Nat.zero_le _⟩ dX7_lays_2 (fun w hw => ?_)
      subst hw
      refine V_top (x' := iI (-1000000006)) (congrArg iI (by (repeat (first | rw [if_pos (by omega)] | rw [if_neg (by omega)])))) ?_
      refine r_istore_n (i := 3) hG dX7_lays_5 rfl (by decide) rfl ?_
      refine r_iload_n (i := 3) hG dX7_lays_6 rfl rfl ?_
      refine r_if_ne (tgt := 23) hG (by omega) dX7_lays_7 (by decide) (fun c7 => ?_) (fun c7 => ?_)
      · first
          | (exfalso; omega)
          | (refine r_iload_n (i := 3) hG dX7_lays_23 rfl rfl ?_
             refine r_istore_n (i := 3) hG dX7_lays_24 rfl (by decide) rfl ?_
             refine r_iload_n (i := 3) hG dX7_lays_25 rfl rfl ?_
             refine r_if_eq (tgt := 35) hG (by omega) dX7_lays_26 (by decide) (fun c26 => ?_) (fun c26 => ?_)
             · first
                 | (exfalso; omega)
                 | (skip)
             · first
                 | (exfalso; omega)
                 | (refine r_aload_n (i := 0) hG dX7_lays_29 rfl rfl ?_
                    refine r_iload_n (i := 3) hG dX7_lays_30 rfl rfl ?_
                    refine r_callVi hG (c_X7_finds (g_l G) (g_D G) a Z K U R C (-1000000006) 5 (by omega) (by omega))  gX7_lays_X7_finds rfl hyX7_finds rfl (by decide) (by decide) 0 rfl rfl rfl (Nat.le_of_ble_eq_true rfl) ⟨Nat.zero_le _, Nat.zero_le _⟩ dX7_lays_31 (fun w hw => ?_)
                    subst hw
                    exact r_iret hG hE dX7_lays_34 (by unfold s_lays onSheet; (try dsimp only); (repeat (first | rw [if_pos (by omega)] | rw [if_neg (by omega)])) <;> (first | rfl | skip)) ⟨U, by unfold s_lays onSheet; (try dsimp only); (repeat (first | rw [if_pos (by omega)] | rw [if_neg (by omega)])) <;> (first | rfl | skip)⟩))
      · first
          | (exfalso; omega)
          | (refine r_aload_n (i := 0) hG dX7_lays_10 rfl rfl ?_
             refine r_iload_n (i := 2) hG dX7_lays_11 rfl rfl ?_
             refine r_callVi hG (c_X7_isChild (g_l G) (g_D G) a Z K U R C hI _ (by omega))  gX7_lays_X7_isChild rfl hyX7_isChild rfl (by decide) (by decide) 0 rfl rfl rfl (Nat.le_of_ble_eq_true rfl) ⟨Nat.zero_le _, Nat.zero_le _⟩ dX7_lays_12 (fun w hw => ?_)
             subst hw
             refine rb_if_ne (tgt := 23) hG dX7_lays_15 (by decide) (fun c15 => ?_) (fun c15 => ?_)
             · try simp only [decide_eq_true_eq, decide_eq_false_iff_not] at c15
               refine r_iload_n (i := 3) hG dX7_lays_23 rfl rfl ?_
               refine r_istore_n (i := 3) hG dX7_lays_24 rfl (by decide) rfl ?_
               refine r_iload_n (i := 3) hG dX7_lays_25 rfl rfl ?_
               refine r_if_eq (tgt := 35) hG (by omega) dX7_lays_26 (by decide) (fun c26 => ?_) (fun c26 => ?_)
               · first
                   | (exfalso; omega)
                   | (skip)
               · first
                   | (exfalso; omega)
                   | (refine r_aload_n (i := 0) hG dX7_lays_29 rfl rfl ?_
                      refine r_iload_n (i := 3) hG dX7_lays_30 rfl rfl ?_
                      refine r_callVi hG (c_X7_finds (g_l G) (g_D G) a Z K U R C (-1000000006) 5 (by omega) (by omega))  gX7_lays_X7_finds rfl hyX7_finds rfl (by decide) (by decide) 0 rfl rfl rfl (Nat.le_of_ble_eq_true rfl) ⟨Nat.zero_le _, Nat.zero_le _⟩ dX7_lays_31 (fun w hw => ?_)
                      subst hw
                      exact r_iret hG hE dX7_lays_34 (by unfold s_lays onSheet; (try dsimp only); (repeat (first | rw [if_pos (by omega)] | rw [if_neg (by omega)])) <;> (first | rfl | skip)) ⟨U, by unfold s_lays onSheet; (try dsimp only); (repeat (first | rw [if_pos (by omega)] | rw [if_neg (by omega)])) <;> (first | rfl | skip)⟩)
             · try simp only [decide_eq_true_eq, decide_eq_false_iff_not] at c15
               refine r_ldc (n := -1000000001) hG (List.mem_of_getElem? (i := 1) rfl) rfl dX7_lays_18 ?_
               refine r_goto (tgt := 24) hG dX7_lays_20 (by decide) ?_
               refine r_istore_n (i := 3) hG dX7_lays_24 rfl (by decide) rfl ?_
               refine r_iload_n (i := 3) hG dX7_lays_25 rfl rfl ?_
               refine r_if_eq (tgt := 35) hG (by omega) dX7_lays_26 (by decide) (fun c26 => ?_) (fun c26 => ?_)
               · first
                   | (exfalso; omega)
                   | (skip)
               · first
                   | (exfalso; omega)
                   | (refine r_aload_n (i := 0) hG dX7_lays_29 rfl rfl ?_
                      refine r_iload_n (i := 3) hG dX7_lays_30 rfl rfl ?_
                      refine r_callVi hG (c_X7_finds (g_l G) (g_D G) a Z K U R C (-1000000006) 5 (by omega) (by omega))  gX7_lays_X7_finds rfl hyX7_finds rfl (by decide) (by decide) 0 rfl rfl rfl (Nat.le_of_ble_eq_true rfl) ⟨Nat.zero_le _, Nat.zero_le _⟩ dX7_lays_31 (fun w hw => ?_)
                      subst hw
                      exact r_iret hG hE dX7_lays_34 (by unfold s_lays onSheet; (try dsimp only); (repeat (first | rw [if_pos (by omega)] | rw [if_neg (by omega)])) <;> (first | rfl | skip)) ⟨U, by unfold s_lays onSheet; (try dsimp only); (repeat (first | rw [if_pos (by omega)] | rw [if_neg (by omega)])) <;> (first | rfl | skip)⟩))
    · by_cases h3 : 0 ≤ c ∧ c < Z 5 2
      · have hc1 := Inv_c hI (c := c) (by omega)
        have e0 : s_lays (Z, K, R, C) s c = (layK C s (layM (R 4 s)), sZ (Z, K, R, C) (layN Z C s c (layM (R 4 s)))) := by
          unfold s_lays onSheet; (try dsimp only); rw [if_pos h1, if_neg h2, if_pos h3]
        have hM : (layM (R 4 s) : Int) = if R 4 s < 10 then R 4 s else 10 := by unfold layM; split <;> omega
        have hM2 : (layM (R 4 s) : Int) ≤ R 4 s ∧ (layM (R 4 s) : Int) ≤ 10 ∧ ((layM (R 4 s) : Int) = R 4 s ∨ (layM (R 4 s) : Int) = 10) := by split at hM <;> omega
        have L : ∀ i : Nat, i ≤ layM (R 4 s) → V G 0 0 (mw (g_D G) a (layN Z C s c i) K U R C) 41 [(0, .ref (a 0)), (1, .int (iI s)), (2, .int (iI c)), (4, .int (iI (layK C s i))), (5, .int (iI (i : Int)))] [] := by
          refine down (fun i hi ih => ?_)
          have J105 : i < layM (R 4 s) → V G 0 0 (mw (g_D G) a (layN Z C s c (i + 1)) K U R C) 105 [(0, .ref (a 0)), (1, .int (iI s)), (2, .int (iI c)), (4, .int (iI (layK C s (i + 1)))), (5, .int (iI (i : Int)))] [] := by
            intro hiN
            refine r_iinc hG dX7_lays_105 rfl (by decide) rfl ?_
            refine r_goto (tgt := 41) hG dX7_lays_108 (by decide) ?_
            exact V_lv (ih hiN) ⟨rfl, rfl, rfl, rfl, rfl, trivial⟩
          refine r_iload hG dX7_lays_41 rfl ?_
          refine r_aload_n (i := 0) hG dX7_lays_43 rfl rfl ?_
          refine r_get hG cX7_lays_X7 0 13 rfl rfl (by decide) kX7_lays_28 rfl dX7_lays_44 ?_
          refine r_iload_n (i := 1) hG dX7_lays_47 rfl rfl ?_
          refine r_iald hG 7 rfl (by omega) (by decide) dX7_lays_48 ?_
          refine r_icmp_ge (tgt := 111) hG (by omega) (by omega) dX7_lays_49 (by decide) (fun c49 => ?_) (fun c49 => ?_)
          · refine r_iload hG dX7_lays_111 rfl ?_
            have ei : i = layM (R 4 s) := by omega
            subst ei
            exact r_iret hG hE dX7_lays_113 (by rw [e0]) ⟨U, by rw [e0]; rfl⟩
          · refine r_iload hG dX7_lays_52 rfl ?_
            refine r_bipush hG dX7_lays_54 rfl ?_
            refine r_icmp_ge (tgt := 111) hG (by omega) (by omega) dX7_lays_56 (by decide) (fun c56 => ?_) (fun c56 => ?_)
            · refine r_iload hG dX7_lays_111 rfl ?_
              have ei : i = layM (R 4 s) := by omega
              subst ei
              exact r_iret hG hE dX7_lays_113 (by rw [e0]) ⟨U, by rw [e0]; rfl⟩
            · refine r_aload_n (i := 0) hG dX7_lays_59 rfl rfl ?_
              refine r_get hG cX7_lays_X7 0 14 rfl rfl (by decide) kX7_lays_31 rfl dX7_lays_60 ?_
              refine r_bipush hG dX7_lays_63 rfl ?_
              refine r_iload_n (i := 1) hG dX7_lays_65 rfl rfl ?_
              refine r_imul hG dX7_lays_66 ?_
              refine r_iload hG dX7_lays_67 rfl ?_
              refine r_iadd hG dX7_lays_69 ?_
              refine r_lald hG 8 rfl (by omega) (by decide) dX7_lays_70 ?_
              refine r_iconst hG dX7_lays_71 ?_
              refine r_bipush hG dX7_lays_72 rfl ?_
              refine r_call0i hG (c_X7_in (g_l G) (g_D G) _ _ _ (by omega) (by omega))  gX7_lays_X7_in rfl hyX7_in rfl (by decide) (by decide) rfl (Nat.le_of_ble_eq_true rfl) ⟨Nat.zero_le _, Nat.zero_le _⟩ dX7_lays_74 ?_
              refine rb_if_eq (tgt := 105) hG dX7_lays_77 (by decide) (fun c77 => ?_) (fun c77 => ?_)
              · try simp only [decide_eq_true_eq, decide_eq_false_iff_not] at c77
                first
                  | (have e1 : okL C s i = true := decide_eq_true c77
                     exact V_ws (ws' := mw (g_D G) a (layN Z C s c (i + 1)) K U R C) (by rw [layN, if_pos e1]) (V_lv (J105 (by omega)) ⟨rfl, rfl, rfl, (congrArg (fun v => some (Value.int (iI v))) (by rw [layK, if_pos e1])), rfl, trivial⟩))
                  | (have e1 : okL C s i = false := decide_eq_false c77
                     exact V_ws (ws' := mw (g_D G) a (layN Z C s c (i + 1)) K U R C) (by rw [layN, e1]; rfl) (V_lv (J105 (by omega)) ⟨rfl, rfl, rfl, (congrArg (fun v => some (Value.int (iI v))) (by rw [layK, e1]; simp)), rfl, trivial⟩))
              · try simp only [decide_eq_true_eq, decide_eq_false_iff_not] at c77
                refine r_aload_n (i := 0) hG dX7_lays_80 rfl rfl ?_
                refine r_iload_n (i := 2) hG dX7_lays_81 rfl rfl ?_
                refine r_iconst hG dX7_lays_82 ?_
                refine r_iload hG dX7_lays_83 rfl ?_
                refine r_iadd hG dX7_lays_85 ?_
                refine r_aload_n (i := 0) hG dX7_lays_86 rfl rfl ?_
                refine r_get hG cX7_lays_X7 0 14 rfl rfl (by decide) kX7_lays_31 rfl dX7_lays_87 ?_
                refine r_bipush hG dX7_lays_90 rfl ?_
                refine r_iload_n (i := 1) hG dX7_lays_92 rfl rfl ?_
                refine r_imul hG dX7_lays_93 ?_
                refine r_iload hG dX7_lays_94 rfl ?_
                refine r_iadd hG dX7_lays_96 ?_
                refine r_lald hG 8 rfl (by omega) (by decide) dX7_lays_97 ?_
                refine r_l2i hG dX7_lays_98 ?_
                refine V_top (x' := iI ((C (40 * s + (i : Int))).toInt)) (Int32.ofInt_int64ToInt _).symm ?_
                refine r_callVv hG (c_putL (g_l G) (g_D G) a (layN Z C s c i) K U R C _ _ _ (by omega) (by omega))  gX7_lays_X7_put rfl hyX7_put rfl (by decide) (by decide) 0 rfl rfl rfl (Nat.le_of_ble_eq_true rfl) ⟨Nat.zero_le _, Nat.zero_le _⟩ dX7_lays_99 (fun w hw => ?_)
                subst hw
                refine r_iinc hG dX7_lays_102 rfl (by decide) rfl ?_
                first
                  | (have e1 : okL C s i = true := decide_eq_true c77
                     exact V_ws (ws' := mw (g_D G) a (layN Z C s c (i + 1)) K U R C) (by rw [layN, if_pos e1]) (V_lv (J105 (by omega)) ⟨rfl, rfl, rfl, (congrArg (fun v => some (Value.int (iI v))) (by rw [layK, if_pos e1])), rfl, trivial⟩))
                  | (have e1 : okL C s i = false := decide_eq_false c77
                     exact V_ws (ws' := mw (g_D G) a (layN Z C s c (i + 1)) K U R C) (by rw [layN, e1]; rfl) (V_lv (J105 (by omega)) ⟨rfl, rfl, rfl, (congrArg (fun v => some (Value.int (iI v))) (by rw [layK, e1]; simp)), rfl, trivial⟩))
        refine r_aload_n (i := 0) hG dX7_lays_0 rfl rfl ?_
        refine r_iload_n (i := 1) hG dX7_lays_1 rfl rfl ?_
        refine r_callVi hG (c_X7_notThere (g_l G) (g_D G) a Z K U R C hS s hs)  gX7_lays_X7_notThere rfl hyX7_notThere rfl (by decide) (by decide) 0 rfl rfl rfl (Nat.le_of_ble_eq_true rfl) ⟨Nat.zero_le _, Nat.zero_le _⟩ dX7_lays_2 (fun w hw => ?_)
        subst hw
        refine V_top (x' := iI (0)) (congrArg iI (by (repeat (first | rw [if_pos (by omega)] | rw [if_neg (by omega)])))) ?_
        refine r_istore_n (i := 3) hG dX7_lays_5 rfl (by decide) rfl ?_
        refine r_iload_n (i := 3) hG dX7_lays_6 rfl rfl ?_
        refine r_if_ne (tgt := 23) hG (by omega) dX7_lays_7 (by decide) (fun c7 => ?_) (fun c7 => ?_)
        · first
            | (exfalso; omega)
            | (refine r_iload_n (i := 3) hG dX7_lays_23 rfl rfl ?_
               refine r_istore_n (i := 3) hG dX7_lays_24 rfl (by decide) rfl ?_
               refine r_iload_n (i := 3) hG dX7_lays_25 rfl rfl ?_
               refine r_if_eq (tgt := 35) hG (by omega) dX7_lays_26 (by decide) (fun c26 => ?_) (fun c26 => ?_)
               · first
                   | (exfalso; omega)
                   | (refine r_iconst hG dX7_lays_35 ?_
                      refine r_istore hG dX7_lays_36 (by decide) rfl ?_
                      refine r_iconst hG dX7_lays_38 ?_
                      refine r_istore hG dX7_lays_39 (by decide) rfl ?_
                      exact V_lv (L 0 (by omega)) ⟨rfl, rfl, rfl, rfl, rfl, trivial⟩)
               · first
                   | (exfalso; omega)
                   | (skip))
        · first
            | (exfalso; omega)
            | (refine r_aload_n (i := 0) hG dX7_lays_10 rfl rfl ?_
               refine r_iload_n (i := 2) hG dX7_lays_11 rfl rfl ?_
               refine r_callVi hG (c_X7_isChild (g_l G) (g_D G) a Z K U R C hI _ (by omega))  gX7_lays_X7_isChild rfl hyX7_isChild rfl (by decide) (by decide) 0 rfl rfl rfl (Nat.le_of_ble_eq_true rfl) ⟨Nat.zero_le _, Nat.zero_le _⟩ dX7_lays_12 (fun w hw => ?_)
               subst hw
               refine rb_if_ne (tgt := 23) hG dX7_lays_15 (by decide) (fun c15 => ?_) (fun c15 => ?_)
               · try simp only [decide_eq_true_eq, decide_eq_false_iff_not] at c15
                 refine r_iload_n (i := 3) hG dX7_lays_23 rfl rfl ?_
                 refine r_istore_n (i := 3) hG dX7_lays_24 rfl (by decide) rfl ?_
                 refine r_iload_n (i := 3) hG dX7_lays_25 rfl rfl ?_
                 refine r_if_eq (tgt := 35) hG (by omega) dX7_lays_26 (by decide) (fun c26 => ?_) (fun c26 => ?_)
                 · first
                     | (exfalso; omega)
                     | (refine r_iconst hG dX7_lays_35 ?_
                        refine r_istore hG dX7_lays_36 (by decide) rfl ?_
                        refine r_iconst hG dX7_lays_38 ?_
                        refine r_istore hG dX7_lays_39 (by decide) rfl ?_
                        exact V_lv (L 0 (by omega)) ⟨rfl, rfl, rfl, rfl, rfl, trivial⟩)
                 · first
                     | (exfalso; omega)
                     | (skip)
               · try simp only [decide_eq_true_eq, decide_eq_false_iff_not] at c15
                 refine r_ldc (n := -1000000001) hG (List.mem_of_getElem? (i := 1) rfl) rfl dX7_lays_18 ?_
                 refine r_goto (tgt := 24) hG dX7_lays_20 (by decide) ?_
                 refine r_istore_n (i := 3) hG dX7_lays_24 rfl (by decide) rfl ?_
                 refine r_iload_n (i := 3) hG dX7_lays_25 rfl rfl ?_
                 refine r_if_eq (tgt := 35) hG (by omega) dX7_lays_26 (by decide) (fun c26 => ?_) (fun c26 => ?_)
                 · first
                     | (exfalso; omega)
                     | (refine r_iconst hG dX7_lays_35 ?_
                        refine r_istore hG dX7_lays_36 (by decide) rfl ?_
                        refine r_iconst hG dX7_lays_38 ?_
                        refine r_istore hG dX7_lays_39 (by decide) rfl ?_
                        exact V_lv (L 0 (by omega)) ⟨rfl, rfl, rfl, rfl, rfl, trivial⟩)
                 · first
                     | (exfalso; omega)
                     | (skip))
      · skip
        refine r_aload_n (i := 0) hG dX7_lays_0 rfl rfl ?_
        refine r_iload_n (i := 1) hG dX7_lays_1 rfl rfl ?_
        refine r_callVi hG (c_X7_notThere (g_l G) (g_D G) a Z K U R C hS s hs)  gX7_lays_X7_notThere rfl hyX7_notThere rfl (by decide) (by decide) 0 rfl rfl rfl (Nat.le_of_ble_eq_true rfl) ⟨Nat.zero_le _, Nat.zero_le _⟩ dX7_lays_2 (fun w hw => ?_)
        subst hw
        refine V_top (x' := iI (0)) (congrArg iI (by (repeat (first | rw [if_pos (by omega)] | rw [if_neg (by omega)])))) ?_
        refine r_istore_n (i := 3) hG dX7_lays_5 rfl (by decide) rfl ?_
        refine r_iload_n (i := 3) hG dX7_lays_6 rfl rfl ?_
        refine r_if_ne (tgt := 23) hG (by omega) dX7_lays_7 (by decide) (fun c7 => ?_) (fun c7 => ?_)
        · first
            | (exfalso; omega)
            | (refine r_iload_n (i := 3) hG dX7_lays_23 rfl rfl ?_
               refine r_istore_n (i := 3) hG dX7_lays_24 rfl (by decide) rfl ?_
               refine r_iload_n (i := 3) hG dX7_lays_25 rfl rfl ?_
               refine r_if_eq (tgt := 35) hG (by omega) dX7_lays_26 (by decide) (fun c26 => ?_) (fun c26 => ?_)
               · first
                   | (exfalso; omega)
                   | (skip)
               · first
                   | (exfalso; omega)
                   | (refine r_aload_n (i := 0) hG dX7_lays_29 rfl rfl ?_
                      refine r_iload_n (i := 3) hG dX7_lays_30 rfl rfl ?_
                      refine r_callVi hG (c_X7_finds (g_l G) (g_D G) a Z K U R C (-1000000001) 0 (by omega) (by omega))  gX7_lays_X7_finds rfl hyX7_finds rfl (by decide) (by decide) 0 rfl rfl rfl (Nat.le_of_ble_eq_true rfl) ⟨Nat.zero_le _, Nat.zero_le _⟩ dX7_lays_31 (fun w hw => ?_)
                      subst hw
                      exact r_iret hG hE dX7_lays_34 (by unfold s_lays onSheet; (try dsimp only); (repeat (first | rw [if_pos (by omega)] | rw [if_neg (by omega)])) <;> (first | rfl | skip)) ⟨U, by unfold s_lays onSheet; (try dsimp only); (repeat (first | rw [if_pos (by omega)] | rw [if_neg (by omega)])) <;> (first | rfl | skip)⟩))
        · first
            | (exfalso; omega)
            | (refine r_aload_n (i := 0) hG dX7_lays_10 rfl rfl ?_
               refine r_iload_n (i := 2) hG dX7_lays_11 rfl rfl ?_
               refine r_callVi hG (c_X7_isChild (g_l G) (g_D G) a Z K U R C hI _ (by omega))  gX7_lays_X7_isChild rfl hyX7_isChild rfl (by decide) (by decide) 0 rfl rfl rfl (Nat.le_of_ble_eq_true rfl) ⟨Nat.zero_le _, Nat.zero_le _⟩ dX7_lays_12 (fun w hw => ?_)
               subst hw
               refine rb_if_ne (tgt := 23) hG dX7_lays_15 (by decide) (fun c15 => ?_) (fun c15 => ?_)
               · try simp only [decide_eq_true_eq, decide_eq_false_iff_not] at c15
                 refine r_iload_n (i := 3) hG dX7_lays_23 rfl rfl ?_
                 refine r_istore_n (i := 3) hG dX7_lays_24 rfl (by decide) rfl ?_
                 refine r_iload_n (i := 3) hG dX7_lays_25 rfl rfl ?_
                 refine r_if_eq (tgt := 35) hG (by omega) dX7_lays_26 (by decide) (fun c26 => ?_) (fun c26 => ?_)
                 · first
                     | (exfalso; omega)
                     | (skip)
                 · first
                     | (exfalso; omega)
                     | (refine r_aload_n (i := 0) hG dX7_lays_29 rfl rfl ?_
                        refine r_iload_n (i := 3) hG dX7_lays_30 rfl rfl ?_
                        refine r_callVi hG (c_X7_finds (g_l G) (g_D G) a Z K U R C (-1000000001) 0 (by omega) (by omega))  gX7_lays_X7_finds rfl hyX7_finds rfl (by decide) (by decide) 0 rfl rfl rfl (Nat.le_of_ble_eq_true rfl) ⟨Nat.zero_le _, Nat.zero_le _⟩ dX7_lays_31 (fun w hw => ?_)
                        subst hw
                        exact r_iret hG hE dX7_lays_34 (by unfold s_lays onSheet; (try dsimp only); (repeat (first | rw [if_pos (by omega)] | rw [if_neg (by omega)])) <;> (first | rfl | skip)) ⟨U, by unfold s_lays onSheet; (try dsimp only); (repeat (first | rw [if_pos (by omega)] | rw [if_neg (by omega)])) <;> (first | rfl | skip)⟩)
               · try simp only [decide_eq_true_eq, decide_eq_false_iff_not] at c15
                 refine r_ldc (n := -1000000001) hG (List.mem_of_getElem? (i := 1) rfl) rfl dX7_lays_18 ?_
                 refine r_goto (tgt := 24) hG dX7_lays_20 (by decide) ?_
                 refine r_istore_n (i := 3) hG dX7_lays_24 rfl (by decide) rfl ?_
                 refine r_iload_n (i := 3) hG dX7_lays_25 rfl rfl ?_
                 refine r_if_eq (tgt := 35) hG (by omega) dX7_lays_26 (by decide) (fun c26 => ?_) (fun c26 => ?_)
                 · first
                     | (exfalso; omega)
                     | (skip)
                 · first
                     | (exfalso; omega)
                     | (refine r_aload_n (i := 0) hG dX7_lays_29 rfl rfl ?_
                        refine r_iload_n (i := 3) hG dX7_lays_30 rfl rfl ?_
                        refine r_callVi hG (c_X7_finds (g_l G) (g_D G) a Z K U R C (-1000000001) 0 (by omega) (by omega))  gX7_lays_X7_finds rfl hyX7_finds rfl (by decide) (by decide) 0 rfl rfl rfl (Nat.le_of_ble_eq_true rfl) ⟨Nat.zero_le _, Nat.zero_le _⟩ dX7_lays_31 (fun w hw => ?_)
                        subst hw
                        exact r_iret hG hE dX7_lays_34 (by unfold s_lays onSheet; (try dsimp only); (repeat (first | rw [if_pos (by omega)] | rw [if_neg (by omega)])) <;> (first | rfl | skip)) ⟨U, by unfold s_lays onSheet; (try dsimp only); (repeat (first | rw [if_pos (by omega)] | rw [if_neg (by omega)])) <;> (first | rfl | skip)⟩))
  · skip
    refine r_aload_n (i := 0) hG dX7_lays_0 rfl rfl ?_
    refine r_iload_n (i := 1) hG dX7_lays_1 rfl rfl ?_
    refine r_callVi hG (c_X7_notThere (g_l G) (g_D G) a Z K U R C hS s hs)  gX7_lays_X7_notThere rfl hyX7_notThere rfl (by decide) (by decide) 0 rfl rfl rfl (Nat.le_of_ble_eq_true rfl) ⟨Nat.zero_le _, Nat.zero_le _⟩ dX7_lays_2 (fun w hw => ?_)
    subst hw
    refine V_top (x' := iI (-1000000001)) (congrArg iI (by (repeat (first | rw [if_pos (by omega)] | rw [if_neg (by omega)])))) ?_
    refine r_istore_n (i := 3) hG dX7_lays_5 rfl (by decide) rfl ?_
    refine r_iload_n (i := 3) hG dX7_lays_6 rfl rfl ?_
    refine r_if_ne (tgt := 23) hG (by omega) dX7_lays_7 (by decide) (fun c7 => ?_) (fun c7 => ?_)
    · first
        | (exfalso; omega)
        | (refine r_iload_n (i := 3) hG dX7_lays_23 rfl rfl ?_
           refine r_istore_n (i := 3) hG dX7_lays_24 rfl (by decide) rfl ?_
           refine r_iload_n (i := 3) hG dX7_lays_25 rfl rfl ?_
           refine r_if_eq (tgt := 35) hG (by omega) dX7_lays_26 (by decide) (fun c26 => ?_) (fun c26 => ?_)
           · first
               | (exfalso; omega)
               | (skip)
           · first
               | (exfalso; omega)
               | (refine r_aload_n (i := 0) hG dX7_lays_29 rfl rfl ?_
                  refine r_iload_n (i := 3) hG dX7_lays_30 rfl rfl ?_
                  refine r_callVi hG (c_X7_finds (g_l G) (g_D G) a Z K U R C (-1000000001) 0 (by omega) (by omega))  gX7_lays_X7_finds rfl hyX7_finds rfl (by decide) (by decide) 0 rfl rfl rfl (Nat.le_of_ble_eq_true rfl) ⟨Nat.zero_le _, Nat.zero_le _⟩ dX7_lays_31 (fun w hw => ?_)
                  subst hw
                  exact r_iret hG hE dX7_lays_34 (by unfold s_lays onSheet; (try dsimp only); (repeat (first | rw [if_pos (by omega)] | rw [if_neg (by omega)])) <;> (first | rfl | skip)) ⟨U, by unfold s_lays onSheet; (try dsimp only); (repeat (first | rw [if_pos (by omega)] | rw [if_neg (by omega)])) <;> (first | rfl | skip)⟩))
    · first
        | (exfalso; omega)
        | (refine r_aload_n (i := 0) hG dX7_lays_10 rfl rfl ?_
           refine r_iload_n (i := 2) hG dX7_lays_11 rfl rfl ?_
           refine r_callVi hG (c_X7_isChild (g_l G) (g_D G) a Z K U R C hI _ (by omega))  gX7_lays_X7_isChild rfl hyX7_isChild rfl (by decide) (by decide) 0 rfl rfl rfl (Nat.le_of_ble_eq_true rfl) ⟨Nat.zero_le _, Nat.zero_le _⟩ dX7_lays_12 (fun w hw => ?_)
           subst hw
           refine rb_if_ne (tgt := 23) hG dX7_lays_15 (by decide) (fun c15 => ?_) (fun c15 => ?_)
           · try simp only [decide_eq_true_eq, decide_eq_false_iff_not] at c15
             refine r_iload_n (i := 3) hG dX7_lays_23 rfl rfl ?_
             refine r_istore_n (i := 3) hG dX7_lays_24 rfl (by decide) rfl ?_
             refine r_iload_n (i := 3) hG dX7_lays_25 rfl rfl ?_
             refine r_if_eq (tgt := 35) hG (by omega) dX7_lays_26 (by decide) (fun c26 => ?_) (fun c26 => ?_)
             · first
                 | (exfalso; omega)
                 | (skip)
             · first
                 | (exfalso; omega)
                 | (refine r_aload_n (i := 0) hG dX7_lays_29 rfl rfl ?_
                    refine r_iload_n (i := 3) hG dX7_lays_30 rfl rfl ?_
                    refine r_callVi hG (c_X7_finds (g_l G) (g_D G) a Z K U R C (-1000000001) 0 (by omega) (by omega))  gX7_lays_X7_finds rfl hyX7_finds rfl (by decide) (by decide) 0 rfl rfl rfl (Nat.le_of_ble_eq_true rfl) ⟨Nat.zero_le _, Nat.zero_le _⟩ dX7_lays_31 (fun w hw => ?_)
                    subst hw
                    exact r_iret hG hE dX7_lays_34 (by unfold s_lays onSheet; (try dsimp only); (repeat (first | rw [if_pos (by omega)] | rw [if_neg (by omega)])) <;> (first | rfl | skip)) ⟨U, by unfold s_lays onSheet; (try dsimp only); (repeat (first | rw [if_pos (by omega)] | rw [if_neg (by omega)])) <;> (first | rfl | skip)⟩)
           · try simp only [decide_eq_true_eq, decide_eq_false_iff_not] at c15
             refine r_ldc (n := -1000000001) hG (List.mem_of_getElem? (i := 1) rfl) rfl dX7_lays_18 ?_
             refine r_goto (tgt := 24) hG dX7_lays_20 (by decide) ?_
             refine r_istore_n (i := 3) hG dX7_lays_24 rfl (by decide) rfl ?_
             refine r_iload_n (i := 3) hG dX7_lays_25 rfl rfl ?_
             refine r_if_eq (tgt := 35) hG (by omega) dX7_lays_26 (by decide) (fun c26 => ?_) (fun c26 => ?_)
             · first
                 | (exfalso; omega)
                 | (skip)
             · first
                 | (exfalso; omega)
                 | (refine r_aload_n (i := 0) hG dX7_lays_29 rfl rfl ?_
                    refine r_iload_n (i := 3) hG dX7_lays_30 rfl rfl ?_
                    refine r_callVi hG (c_X7_finds (g_l G) (g_D G) a Z K U R C (-1000000001) 0 (by omega) (by omega))  gX7_lays_X7_finds rfl hyX7_finds rfl (by decide) (by decide) 0 rfl rfl rfl (Nat.le_of_ble_eq_true rfl) ⟨Nat.zero_le _, Nat.zero_le _⟩ dX7_lays_31 (fun w hw => ?_)
                    subst hw
                    exact r_iret hG hE dX7_lays_34 (by unfold s_lays onSheet; (try dsimp only); (repeat (first | rw [if_pos (by omega)] | rw [if_neg (by omega)])) <;> (first | rfl | skip)) ⟨U, by unfold s_lays onSheet; (try dsimp only); (repeat (first | rw [if_pos (by omega)] | rw [if_neg (by omega)])) <;> (first | rfl | skip)⟩))
theorem kX7_book_28 : Cond.fieldLink RX7 28 "BreakSwapsModel" "sizeOf" "[I" ∈ wsX7_book := List.mem_of_getElem? (i := 2) rfl
theorem kX7_book_31 : Cond.fieldLink RX7 31 "BreakSwapsModel" "cells" "[J" ∈ wsX7_book := List.mem_of_getElem? (i := 3) rfl
theorem kX7_book_25 : Cond.fieldLink RX7 25 "BreakSwapsModel" "bitsOf" "[I" ∈ wsX7_book := List.mem_of_getElem? (i := 4) rfl
theorem cX7_book_X7 : ∀ w ∈ wsX70, w ∈ wsX7_book := fun _ h => List.mem_cons_of_mem _ (List.mem_append_right _ h)
theorem hyX7_book : hyV yX7_book RX7 2 := by decide +kernel
set_option maxHeartbeats 4000000 in
set_option maxRecDepth 100000 in
theorem c_X7_book (l : Launch) (D : va_G) (a : Nat → Nat) (Z K U R : YS) (C : Int → Int64) (hT : TI (Z, K, R, C)) (s c : Int) (hs : -2147483648 ≤ s ∧ s < 2147483648) (hc : -2147483648 ≤ c ∧ c < 2147483648) : Con l yX7_book wsX7_book 9 D (mw D a Z K U R C) [.ref (a 0), .int (iI s), .int (iI c)] (some (.int (iI ((s_book (Z, K, R, C) s c).1)))) (fun ww => ∃ U2, ww = mwT D a (s_book (Z, K, R, C) s c).2 U2) := by
  refine con_start (own := RX7) (by decide) rfl rfl (Nat.le_of_ble_eq_true rfl) ?_
  intro G hG hE hl hD
  subst hl
  subst hD
  have hI : Inv Z := hT.1.1
  have hN := hI.1
  have hr0 := hI.2.1
  have hu5 := hI.2.2.1
  have hrd : Z 5 0 ≤ 99999 := hT.1.2.2
  have hS : ∀ s, 0 ≤ s → s < 4 → (R 3 s = 0 ∨ R 3 s = 8 ∨ R 3 s = 16 ∨ R 3 s = 64) ∧ 0 ≤ R 4 s ∧ R 4 s ≤ 40 := hT.2.2.2
  have hs3 : 0 ≤ s ∧ s ≤ 3 → _ := fun h => hS s h.1 (by omega)
  by_cases h1 : 0 ≤ s ∧ s ≤ 3
  · have hsz := hs3 h1
    by_cases h2 : R 3 s = 0
    · skip
      refine r_aload_n (i := 0) hG dX7_book_0 rfl rfl ?_
      refine r_iload_n (i := 1) hG dX7_book_1 rfl rfl ?_
      refine r_callVi hG (c_X7_notThere (g_l G) (g_D G) a Z K U R C hS s hs)  gX7_book_X7_notThere rfl hyX7_notThere rfl (by decide) (by decide) 0 rfl rfl rfl (Nat.le_of_ble_eq_true rfl) ⟨Nat.zero_le _, Nat.zero_le _⟩ dX7_book_2 (fun w hw => ?_)
      subst hw
      refine V_top (x' := iI (-1000000006)) (congrArg iI (by (repeat (first | rw [if_pos (by omega)] | rw [if_neg (by omega)])))) ?_
      refine r_istore_n (i := 3) hG dX7_book_5 rfl (by decide) rfl ?_
      refine r_iload_n (i := 3) hG dX7_book_6 rfl rfl ?_
      refine r_if_ne (tgt := 23) hG (by omega) dX7_book_7 (by decide) (fun c7 => ?_) (fun c7 => ?_)
      · first
          | (exfalso; omega)
          | (refine r_iload_n (i := 3) hG dX7_book_23 rfl rfl ?_
             refine r_istore_n (i := 3) hG dX7_book_24 rfl (by decide) rfl ?_
             refine r_iload_n (i := 3) hG dX7_book_25 rfl rfl ?_
             refine r_if_eq (tgt := 35) hG (by omega) dX7_book_26 (by decide) (fun c26 => ?_) (fun c26 => ?_)
             · first
                 | (exfalso; omega)
                 | (skip)
             · first
                 | (exfalso; omega)
                 | (refine r_aload_n (i := 0) hG dX7_book_29 rfl rfl ?_
                    refine r_iload_n (i := 3) hG dX7_book_30 rfl rfl ?_
                    refine r_callVi hG (c_X7_finds (g_l G) (g_D G) a Z K U R C (-1000000006) 5 (by omega) (by omega))  gX7_book_X7_finds rfl hyX7_finds rfl (by decide) (by decide) 0 rfl rfl rfl (Nat.le_of_ble_eq_true rfl) ⟨Nat.zero_le _, Nat.zero_le _⟩ dX7_book_31 (fun w hw => ?_)
                    subst hw
                    exact r_iret hG hE dX7_book_34 (by unfold s_book onSheet; (try dsimp only); (repeat (first | rw [if_pos (by omega)] | rw [if_neg (by omega)])) <;> (first | rfl | skip)) ⟨U, by unfold s_book onSheet; (try dsimp only); (repeat (first | rw [if_pos (by omega)] | rw [if_neg (by omega)])) <;> (first | rfl | skip)⟩))
      · first
          | (exfalso; omega)
          | (refine r_aload_n (i := 0) hG dX7_book_10 rfl rfl ?_
             refine r_iload_n (i := 2) hG dX7_book_11 rfl rfl ?_
             refine r_callVi hG (c_X7_isChild (g_l G) (g_D G) a Z K U R C hI _ (by omega))  gX7_book_X7_isChild rfl hyX7_isChild rfl (by decide) (by decide) 0 rfl rfl rfl (Nat.le_of_ble_eq_true rfl) ⟨Nat.zero_le _, Nat.zero_le _⟩ dX7_book_12 (fun w hw => ?_)
             subst hw
             refine rb_if_ne (tgt := 23) hG dX7_book_15 (by decide) (fun c15 => ?_) (fun c15 => ?_)
             · try simp only [decide_eq_true_eq, decide_eq_false_iff_not] at c15
               refine r_iload_n (i := 3) hG dX7_book_23 rfl rfl ?_
               refine r_istore_n (i := 3) hG dX7_book_24 rfl (by decide) rfl ?_
               refine r_iload_n (i := 3) hG dX7_book_25 rfl rfl ?_
               refine r_if_eq (tgt := 35) hG (by omega) dX7_book_26 (by decide) (fun c26 => ?_) (fun c26 => ?_)
               · first
                   | (exfalso; omega)
                   | (skip)
               · first
                   | (exfalso; omega)
                   | (refine r_aload_n (i := 0) hG dX7_book_29 rfl rfl ?_
                      refine r_iload_n (i := 3) hG dX7_book_30 rfl rfl ?_
                      refine r_callVi hG (c_X7_finds (g_l G) (g_D G) a Z K U R C (-1000000006) 5 (by omega) (by omega))  gX7_book_X7_finds rfl hyX7_finds rfl (by decide) (by decide) 0 rfl rfl rfl (Nat.le_of_ble_eq_true rfl) ⟨Nat.zero_le _, Nat.zero_le _⟩ dX7_book_31 (fun w hw => ?_)
                      subst hw
                      exact r_iret hG hE dX7_book_34 (by unfold s_book onSheet; (try dsimp only); (repeat (first | rw [if_pos (by omega)] | rw [if_neg (by omega)])) <;> (first | rfl | skip)) ⟨U, by unfold s_book onSheet; (try dsimp only); (repeat (first | rw [if_pos (by omega)] | rw [if_neg (by omega)])) <;> (first | rfl | skip)⟩)
             · try simp only [decide_eq_true_eq, decide_eq_false_iff_not] at c15
               refine r_ldc (n := -1000000001) hG (List.mem_of_getElem? (i := 1) rfl) rfl dX7_book_18 ?_
               refine r_goto (tgt := 24) hG dX7_book_20 (by decide) ?_
               refine r_istore_n (i := 3) hG dX7_book_24 rfl (by decide) rfl ?_
               refine r_iload_n (i := 3) hG dX7_book_25 rfl rfl ?_
               refine r_if_eq (tgt := 35) hG (by omega) dX7_book_26 (by decide) (fun c26 => ?_) (fun c26 => ?_)
               · first
                   | (exfalso; omega)
                   | (skip)
               · first
                   | (exfalso; omega)
                   | (refine r_aload_n (i := 0) hG dX7_book_29 rfl rfl ?_
                      refine r_iload_n (i := 3) hG dX7_book_30 rfl rfl ?_
                      refine r_callVi hG (c_X7_finds (g_l G) (g_D G) a Z K U R C (-1000000006) 5 (by omega) (by omega))  gX7_book_X7_finds rfl hyX7_finds rfl (by decide) (by decide) 0 rfl rfl rfl (Nat.le_of_ble_eq_true rfl) ⟨Nat.zero_le _, Nat.zero_le _⟩ dX7_book_31 (fun w hw => ?_)
                      subst hw
                      exact r_iret hG hE dX7_book_34 (by unfold s_book onSheet; (try dsimp only); (repeat (first | rw [if_pos (by omega)] | rw [if_neg (by omega)])) <;> (first | rfl | skip)) ⟨U, by unfold s_book onSheet; (try dsimp only); (repeat (first | rw [if_pos (by omega)] | rw [if_neg (by omega)])) <;> (first | rfl | skip)⟩))
    · by_cases h3 : 0 ≤ c ∧ c < Z 5 2
      · have hc1 := Inv_c hI (c := c) (by omega)
        have e0 : s_book (Z, K, R, C) s c = (R 4 s, (Z, K, R, bookC Z C (R 3 s) s c (R 4 s))) := by
          unfold s_book onSheet; (try dsimp only); rw [if_pos h1, if_neg h2, if_pos h3]
        have L : ∀ i : Nat, i ≤ (R 4 s).toNat → V G 0 0 (mw (g_D G) a (goZ Z i) K Z R (bookC Z C (R 3 s) s c (i : Int))) 42 [(0, .ref (a 0)), (1, .int (iI s)), (2, .int (iI c)), (4, .int (iI (i : Int)))] [] := by
          refine down (fun i hi ih => ?_)
          have hg := goZ_ok hI i
          have h50 := hg.2.2.2.1
          have hcg := Inv_c hg.1 (c := c) (by omega)
          refine r_iload hG dX7_book_42 rfl ?_
          refine r_aload_n (i := 0) hG dX7_book_44 rfl rfl ?_
          refine r_get hG cX7_book_X7 0 13 rfl rfl (by decide) kX7_book_28 rfl dX7_book_45 ?_
          refine r_iload_n (i := 1) hG dX7_book_48 rfl rfl ?_
          refine r_iald hG 7 rfl (by omega) (by decide) dX7_book_49 ?_
          refine r_icmp_ge (tgt := 91) hG (by omega) (by omega) dX7_book_50 (by decide) (fun c50 => ?_) (fun c50 => ?_)
          · refine r_aload_n (i := 0) hG dX7_book_91 rfl rfl ?_
            refine r_callVv hG (c_X7_putsBack (g_l G) (g_D G) a (goZ Z i) K Z R (bookC Z C (R 3 s) s c (i : Int)))  gX7_book_X7_putsBack rfl hyX7_putsBack rfl (by decide) (by decide) 0 rfl rfl rfl (Nat.le_of_ble_eq_true rfl) ⟨Nat.zero_le _, Nat.zero_le _⟩ dX7_book_92 (fun w hw => ?_)
            subst hw
            refine r_aload_n (i := 0) hG dX7_book_95 rfl rfl ?_
            refine r_get hG cX7_book_X7 0 13 rfl rfl (by decide) kX7_book_28 rfl dX7_book_96 ?_
            refine r_iload_n (i := 1) hG dX7_book_99 rfl rfl ?_
            refine r_iald hG 7 rfl (by omega) (by decide) dX7_book_100 ?_
            exact r_iret hG hE dX7_book_101 (by rw [e0]) ⟨Z, by rw [e0, show (i : Int) = R 4 s by omega]; rfl⟩
          · refine r_aload_n (i := 0) hG dX7_book_53 rfl rfl ?_
            refine r_get hG cX7_book_X7 0 14 rfl rfl (by decide) kX7_book_31 rfl dX7_book_54 ?_
            refine r_bipush hG dX7_book_57 rfl ?_
            refine r_iload_n (i := 1) hG dX7_book_59 rfl rfl ?_
            refine r_imul hG dX7_book_60 ?_
            refine r_iload hG dX7_book_61 rfl ?_
            refine r_iadd hG dX7_book_63 ?_
            refine r_aload_n (i := 0) hG dX7_book_64 rfl rfl ?_
            refine r_get hG cX7_book_X7 0 12 rfl rfl (by decide) kX7_book_25 rfl dX7_book_65 ?_
            refine r_iload_n (i := 1) hG dX7_book_68 rfl rfl ?_
            refine r_iald hG 6 rfl (by omega) (by decide) dX7_book_69 ?_
            refine r_aload_n (i := 0) hG dX7_book_70 rfl rfl ?_
            refine r_iload_n (i := 2) hG dX7_book_71 rfl rfl ?_
            refine r_iconst hG dX7_book_72 ?_
            refine r_callVi hG (c_it1 (g_l G) (g_D G) a (goZ Z i) K Z R (bookC Z C (R 3 s) s c (i : Int)) _ (by omega))  gX7_book_X7_it rfl hyX7_it rfl (by decide) (by decide) 0 rfl rfl rfl (Nat.le_of_ble_eq_true rfl) ⟨Nat.zero_le _, Nat.zero_le _⟩ dX7_book_73 (fun w hw => ?_)
            subst hw
            refine r_i2l hG dX7_book_76 ?_
            refine r_call0i hG (c_X7_cutTo (g_l G) (g_D G) _ _ (by omega))  gX7_book_X7_cutTo rfl hyX7_cutTo rfl (by decide) (by decide) rfl (Nat.le_of_ble_eq_true rfl) ⟨Nat.zero_le _, Nat.zero_le _⟩ dX7_book_77 ?_
            refine r_last hG 8 rfl (by omega) (by decide) dX7_book_80 rfl ?_
            refine V_la (g := bookC Z C (R 3 s) s c ((i : Int) + 1)) 8 rfl (fun j h0 h1' => by
              unfold up1 bookC
              by_cases e : j = 40 * s + (i : Int)
              · rw [if_pos e, if_pos (by omega), show (j - 40 * s).toNat = i by omega]
              · rw [if_neg e]
                by_cases e2 : 40 * s ≤ j ∧ j < 40 * s + (i : Int)
                · rw [if_pos e2, if_pos (by omega)]
                · rw [if_neg e2, if_neg (by omega)]) rfl ?_
            refine V_ws (ws' := mw (g_D G) a (goZ Z i) K Z R (bookC Z C (R 3 s) s c ((i : Int) + 1))) rfl ?_
            refine r_aload_n (i := 0) hG dX7_book_81 rfl rfl ?_
            refine r_callVv hG (c_X7_goes (g_l G) (g_D G) a (goZ Z i) K Z R (bookC Z C (R 3 s) s c ((i : Int) + 1)) hg.1 (by omega))  gX7_book_X7_goes rfl hyX7_goes rfl (by decide) (by decide) 0 rfl rfl rfl (Nat.le_of_ble_eq_true rfl) ⟨Nat.zero_le _, Nat.zero_le _⟩ dX7_book_82 (fun w hw => ?_)
            subst hw
            refine r_iinc hG dX7_book_85 rfl (by decide) rfl ?_
            refine r_goto (tgt := 42) hG dX7_book_88 (by decide) ?_
            exact V_lv (ih (by omega)) ⟨rfl, rfl, rfl, rfl, trivial⟩
        refine r_aload_n (i := 0) hG dX7_book_0 rfl rfl ?_
        refine r_iload_n (i := 1) hG dX7_book_1 rfl rfl ?_
        refine r_callVi hG (c_X7_notThere (g_l G) (g_D G) a Z K U R C hS s hs)  gX7_book_X7_notThere rfl hyX7_notThere rfl (by decide) (by decide) 0 rfl rfl rfl (Nat.le_of_ble_eq_true rfl) ⟨Nat.zero_le _, Nat.zero_le _⟩ dX7_book_2 (fun w hw => ?_)
        subst hw
        refine V_top (x' := iI (0)) (congrArg iI (by (repeat (first | rw [if_pos (by omega)] | rw [if_neg (by omega)])))) ?_
        refine r_istore_n (i := 3) hG dX7_book_5 rfl (by decide) rfl ?_
        refine r_iload_n (i := 3) hG dX7_book_6 rfl rfl ?_
        refine r_if_ne (tgt := 23) hG (by omega) dX7_book_7 (by decide) (fun c7 => ?_) (fun c7 => ?_)
        · first
            | (exfalso; omega)
            | (refine r_iload_n (i := 3) hG dX7_book_23 rfl rfl ?_
               refine r_istore_n (i := 3) hG dX7_book_24 rfl (by decide) rfl ?_
               refine r_iload_n (i := 3) hG dX7_book_25 rfl rfl ?_
               refine r_if_eq (tgt := 35) hG (by omega) dX7_book_26 (by decide) (fun c26 => ?_) (fun c26 => ?_)
               · first
                   | (exfalso; omega)
                   | (refine r_aload_n (i := 0) hG dX7_book_35 rfl rfl ?_
                      refine r_callVv hG (c_X7_thinks (g_l G) (g_D G) a Z K U R C)  gX7_book_X7_thinks rfl hyX7_thinks rfl (by decide) (by decide) 0 rfl rfl rfl (Nat.le_of_ble_eq_true rfl) ⟨Nat.zero_le _, Nat.zero_le _⟩ dX7_book_36 (fun w hw => ?_)
                      subst hw
                      refine r_iconst hG dX7_book_39 ?_
                      refine r_istore hG dX7_book_40 (by decide) rfl ?_
                      exact V_la (g := bookC Z C (R 3 s) s c ((0 : Nat) : Int)) 8 rfl (fun j h0 h1' => by unfold bookC; rw [if_neg (by omega)]) rfl (V_lv (L 0 (by omega)) ⟨rfl, rfl, rfl, rfl, trivial⟩))
               · first
                   | (exfalso; omega)
                   | (skip))
        · first
            | (exfalso; omega)
            | (refine r_aload_n (i := 0) hG dX7_book_10 rfl rfl ?_
               refine r_iload_n (i := 2) hG dX7_book_11 rfl rfl ?_
               refine r_callVi hG (c_X7_isChild (g_l G) (g_D G) a Z K U R C hI _ (by omega))  gX7_book_X7_isChild rfl hyX7_isChild rfl (by decide) (by decide) 0 rfl rfl rfl (Nat.le_of_ble_eq_true rfl) ⟨Nat.zero_le _, Nat.zero_le _⟩ dX7_book_12 (fun w hw => ?_)
               subst hw
               refine rb_if_ne (tgt := 23) hG dX7_book_15 (by decide) (fun c15 => ?_) (fun c15 => ?_)
               · try simp only [decide_eq_true_eq, decide_eq_false_iff_not] at c15
                 refine r_iload_n (i := 3) hG dX7_book_23 rfl rfl ?_
                 refine r_istore_n (i := 3) hG dX7_book_24 rfl (by decide) rfl ?_
                 refine r_iload_n (i := 3) hG dX7_book_25 rfl rfl ?_
                 refine r_if_eq (tgt := 35) hG (by omega) dX7_book_26 (by decide) (fun c26 => ?_) (fun c26 => ?_)
                 · first
                     | (exfalso; omega)
                     | (refine r_aload_n (i := 0) hG dX7_book_35 rfl rfl ?_
                        refine r_callVv hG (c_X7_thinks (g_l G) (g_D G) a Z K U R C)  gX7_book_X7_thinks rfl hyX7_thinks rfl (by decide) (by decide) 0 rfl rfl rfl (Nat.le_of_ble_eq_true rfl) ⟨Nat.zero_le _, Nat.zero_le _⟩ dX7_book_36 (fun w hw => ?_)
                        subst hw
                        refine r_iconst hG dX7_book_39 ?_
                        refine r_istore hG dX7_book_40 (by decide) rfl ?_
                        exact V_la (g := bookC Z C (R 3 s) s c ((0 : Nat) : Int)) 8 rfl (fun j h0 h1' => by unfold bookC; rw [if_neg (by omega)]) rfl (V_lv (L 0 (by omega)) ⟨rfl, rfl, rfl, rfl, trivial⟩))
                 · first
                     | (exfalso; omega)
                     | (skip)
               · try simp only [decide_eq_true_eq, decide_eq_false_iff_not] at c15
                 refine r_ldc (n := -1000000001) hG (List.mem_of_getElem? (i := 1) rfl) rfl dX7_book_18 ?_
                 refine r_goto (tgt := 24) hG dX7_book_20 (by decide) ?_
                 refine r_istore_n (i := 3) hG dX7_book_24 rfl (by decide) rfl ?_
                 refine r_iload_n (i := 3) hG dX7_book_25 rfl rfl ?_
                 refine r_if_eq (tgt := 35) hG (by omega) dX7_book_26 (by decide) (fun c26 => ?_) (fun c26 => ?_)
                 · first
                     | (exfalso; omega)
                     | (refine r_aload_n (i := 0) hG dX7_book_35 rfl rfl ?_
                        refine r_callVv hG (c_X7_thinks (g_l G) (g_D G) a Z K U R C)  gX7_book_X7_thinks rfl hyX7_thinks rfl (by decide) (by decide) 0 rfl rfl rfl (Nat.le_of_ble_eq_true rfl) ⟨Nat.zero_le _, Nat.zero_le _⟩ dX7_book_36 (fun w hw => ?_)
                        subst hw
                        refine r_iconst hG dX7_book_39 ?_
                        refine r_istore hG dX7_book_40 (by decide) rfl ?_
                        exact V_la (g := bookC Z C (R 3 s) s c ((0 : Nat) : Int)) 8 rfl (fun j h0 h1' => by unfold bookC; rw [if_neg (by omega)]) rfl (V_lv (L 0 (by omega)) ⟨rfl, rfl, rfl, rfl, trivial⟩))
                 · first
                     | (exfalso; omega)
                     | (skip))
      · skip
        refine r_aload_n (i := 0) hG dX7_book_0 rfl rfl ?_
        refine r_iload_n (i := 1) hG dX7_book_1 rfl rfl ?_
        refine r_callVi hG (c_X7_notThere (g_l G) (g_D G) a Z K U R C hS s hs)  gX7_book_X7_notThere rfl hyX7_notThere rfl (by decide) (by decide) 0 rfl rfl rfl (Nat.le_of_ble_eq_true rfl) ⟨Nat.zero_le _, Nat.zero_le _⟩ dX7_book_2 (fun w hw => ?_)
        subst hw
        refine V_top (x' := iI (0)) (congrArg iI (by (repeat (first | rw [if_pos (by omega)] | rw [if_neg (by omega)])))) ?_
        refine r_istore_n (i := 3) hG dX7_book_5 rfl (by decide) rfl ?_
        refine r_iload_n (i := 3) hG dX7_book_6 rfl rfl ?_
        refine r_if_ne (tgt := 23) hG (by omega) dX7_book_7 (by decide) (fun c7 => ?_) (fun c7 => ?_)
        · first
            | (exfalso; omega)
            | (refine r_iload_n (i := 3) hG dX7_book_23 rfl rfl ?_
               refine r_istore_n (i := 3) hG dX7_book_24 rfl (by decide) rfl ?_
               refine r_iload_n (i := 3) hG dX7_book_25 rfl rfl ?_
               refine r_if_eq (tgt := 35) hG (by omega) dX7_book_26 (by decide) (fun c26 => ?_) (fun c26 => ?_)
               · first
                   | (exfalso; omega)
                   | (skip)
               · first
                   | (exfalso; omega)
                   | (refine r_aload_n (i := 0) hG dX7_book_29 rfl rfl ?_
                      refine r_iload_n (i := 3) hG dX7_book_30 rfl rfl ?_
                      refine r_callVi hG (c_X7_finds (g_l G) (g_D G) a Z K U R C (-1000000001) 0 (by omega) (by omega))  gX7_book_X7_finds rfl hyX7_finds rfl (by decide) (by decide) 0 rfl rfl rfl (Nat.le_of_ble_eq_true rfl) ⟨Nat.zero_le _, Nat.zero_le _⟩ dX7_book_31 (fun w hw => ?_)
                      subst hw
                      exact r_iret hG hE dX7_book_34 (by unfold s_book onSheet; (try dsimp only); (repeat (first | rw [if_pos (by omega)] | rw [if_neg (by omega)])) <;> (first | rfl | skip)) ⟨U, by unfold s_book onSheet; (try dsimp only); (repeat (first | rw [if_pos (by omega)] | rw [if_neg (by omega)])) <;> (first | rfl | skip)⟩))
        · first
            | (exfalso; omega)
            | (refine r_aload_n (i := 0) hG dX7_book_10 rfl rfl ?_
               refine r_iload_n (i := 2) hG dX7_book_11 rfl rfl ?_
               refine r_callVi hG (c_X7_isChild (g_l G) (g_D G) a Z K U R C hI _ (by omega))  gX7_book_X7_isChild rfl hyX7_isChild rfl (by decide) (by decide) 0 rfl rfl rfl (Nat.le_of_ble_eq_true rfl) ⟨Nat.zero_le _, Nat.zero_le _⟩ dX7_book_12 (fun w hw => ?_)
               subst hw
               refine rb_if_ne (tgt := 23) hG dX7_book_15 (by decide) (fun c15 => ?_) (fun c15 => ?_)
               · try simp only [decide_eq_true_eq, decide_eq_false_iff_not] at c15
                 refine r_iload_n (i := 3) hG dX7_book_23 rfl rfl ?_
                 refine r_istore_n (i := 3) hG dX7_book_24 rfl (by decide) rfl ?_
                 refine r_iload_n (i := 3) hG dX7_book_25 rfl rfl ?_
                 refine r_if_eq (tgt := 35) hG (by omega) dX7_book_26 (by decide) (fun c26 => ?_) (fun c26 => ?_)
                 · first
                     | (exfalso; omega)
                     | (skip)
                 · first
                     | (exfalso; omega)
                     | (refine r_aload_n (i := 0) hG dX7_book_29 rfl rfl ?_
                        refine r_iload_n (i := 3) hG dX7_book_30 rfl rfl ?_
                        refine r_callVi hG (c_X7_finds (g_l G) (g_D G) a Z K U R C (-1000000001) 0 (by omega) (by omega))  gX7_book_X7_finds rfl hyX7_finds rfl (by decide) (by decide) 0 rfl rfl rfl (Nat.le_of_ble_eq_true rfl) ⟨Nat.zero_le _, Nat.zero_le _⟩ dX7_book_31 (fun w hw => ?_)
                        subst hw
                        exact r_iret hG hE dX7_book_34 (by unfold s_book onSheet; (try dsimp only); (repeat (first | rw [if_pos (by omega)] | rw [if_neg (by omega)])) <;> (first | rfl | skip)) ⟨U, by unfold s_book onSheet; (try dsimp only); (repeat (first | rw [if_pos (by omega)] | rw [if_neg (by omega)])) <;> (first | rfl | skip)⟩)
               · try simp only [decide_eq_true_eq, decide_eq_false_iff_not] at c15
                 refine r_ldc (n := -1000000001) hG (List.mem_of_getElem? (i := 1) rfl) rfl dX7_book_18 ?_
                 refine r_goto (tgt := 24) hG dX7_book_20 (by decide) ?_
                 refine r_istore_n (i := 3) hG dX7_book_24 rfl (by decide) rfl ?_
                 refine r_iload_n (i := 3) hG dX7_book_25 rfl rfl ?_
                 refine r_if_eq (tgt := 35) hG (by omega) dX7_book_26 (by decide) (fun c26 => ?_) (fun c26 => ?_)
                 · first
                     | (exfalso; omega)
                     | (skip)
                 · first
                     | (exfalso; omega)
                     | (refine r_aload_n (i := 0) hG dX7_book_29 rfl rfl ?_
                        refine r_iload_n (i := 3) hG dX7_book_30 rfl rfl ?_
                        refine r_callVi hG (c_X7_finds (g_l G) (g_D G) a Z K U R C (-1000000001) 0 (by omega) (by omega))  gX7_book_X7_finds rfl hyX7_finds rfl (by decide) (by decide) 0 rfl rfl rfl (Nat.le_of_ble_eq_true rfl) ⟨Nat.zero_le _, Nat.zero_le _⟩ dX7_book_31 (fun w hw => ?_)
                        subst hw
                        exact r_iret hG hE dX7_book_34 (by unfold s_book onSheet; (try dsimp only); (repeat (first | rw [if_pos (by omega)] | rw [if_neg (by omega)])) <;> (first | rfl | skip)) ⟨U, by unfold s_book onSheet; (try dsimp only); (repeat (first | rw [if_pos (by omega)] | rw [if_neg (by omega)])) <;> (first | rfl | skip)⟩))
  · skip
    refine r_aload_n (i := 0) hG dX7_book_0 rfl rfl ?_
    refine r_iload_n (i := 1) hG dX7_book_1 rfl rfl ?_
    refine r_callVi hG (c_X7_notThere (g_l G) (g_D G) a Z K U R C hS s hs)  gX7_book_X7_notThere rfl hyX7_notThere rfl (by decide) (by decide) 0 rfl rfl rfl (Nat.le_of_ble_eq_true rfl) ⟨Nat.zero_le _, Nat.zero_le _⟩ dX7_book_2 (fun w hw => ?_)
    subst hw
    refine V_top (x' := iI (-1000000001)) (congrArg iI (by (repeat (first | rw [if_pos (by omega)] | rw [if_neg (by omega)])))) ?_
    refine r_istore_n (i := 3) hG dX7_book_5 rfl (by decide) rfl ?_
    refine r_iload_n (i := 3) hG dX7_book_6 rfl rfl ?_
    refine r_if_ne (tgt := 23) hG (by omega) dX7_book_7 (by decide) (fun c7 => ?_) (fun c7 => ?_)
    · first
        | (exfalso; omega)
        | (refine r_iload_n (i := 3) hG dX7_book_23 rfl rfl ?_
           refine r_istore_n (i := 3) hG dX7_book_24 rfl (by decide) rfl ?_
           refine r_iload_n (i := 3) hG dX7_book_25 rfl rfl ?_
           refine r_if_eq (tgt := 35) hG (by omega) dX7_book_26 (by decide) (fun c26 => ?_) (fun c26 => ?_)
           · first
               | (exfalso; omega)
               | (skip)
           · first
               | (exfalso; omega)
               | (refine r_aload_n (i := 0) hG dX7_book_29 rfl rfl ?_
                  refine r_iload_n (i := 3) hG dX7_book_30 rfl rfl ?_
                  refine r_callVi hG (c_X7_finds (g_l G) (g_D G) a Z K U R C (-1000000001) 0 (by omega) (by omega))  gX7_book_X7_finds rfl hyX7_finds rfl (by decide) (by decide) 0 rfl rfl rfl (Nat.le_of_ble_eq_true rfl) ⟨Nat.zero_le _, Nat.zero_le _⟩ dX7_book_31 (fun w hw => ?_)
                  subst hw
                  exact r_iret hG hE dX7_book_34 (by unfold s_book onSheet; (try dsimp only); (repeat (first | rw [if_pos (by omega)] | rw [if_neg (by omega)])) <;> (first | rfl | skip)) ⟨U, by unfold s_book onSheet; (try dsimp only); (repeat (first | rw [if_pos (by omega)] | rw [if_neg (by omega)])) <;> (first | rfl | skip)⟩))
    · first
        | (exfalso; omega)
        | (refine r_aload_n (i := 0) hG dX7_book_10 rfl rfl ?_
           refine r_iload_n (i := 2) hG dX7_book_11 rfl rfl ?_
           refine r_callVi hG (c_X7_isChild (g_l G) (g_D G) a Z K U R C hI _ (by omega))  gX7_book_X7_isChild rfl hyX7_isChild rfl (by decide) (by decide) 0 rfl rfl rfl (Nat.le_of_ble_eq_true rfl) ⟨Nat.zero_le _, Nat.zero_le _⟩ dX7_book_12 (fun w hw => ?_)
           subst hw
           refine rb_if_ne (tgt := 23) hG dX7_book_15 (by decide) (fun c15 => ?_) (fun c15 => ?_)
           · try simp only [decide_eq_true_eq, decide_eq_false_iff_not] at c15
             refine r_iload_n (i := 3) hG dX7_book_23 rfl rfl ?_
             refine r_istore_n (i := 3) hG dX7_book_24 rfl (by decide) rfl ?_
             refine r_iload_n (i := 3) hG dX7_book_25 rfl rfl ?_
             refine r_if_eq (tgt := 35) hG (by omega) dX7_book_26 (by decide) (fun c26 => ?_) (fun c26 => ?_)
             · first
                 | (exfalso; omega)
                 | (skip)
             · first
                 | (exfalso; omega)
                 | (refine r_aload_n (i := 0) hG dX7_book_29 rfl rfl ?_
                    refine r_iload_n (i := 3) hG dX7_book_30 rfl rfl ?_
                    refine r_callVi hG (c_X7_finds (g_l G) (g_D G) a Z K U R C (-1000000001) 0 (by omega) (by omega))  gX7_book_X7_finds rfl hyX7_finds rfl (by decide) (by decide) 0 rfl rfl rfl (Nat.le_of_ble_eq_true rfl) ⟨Nat.zero_le _, Nat.zero_le _⟩ dX7_book_31 (fun w hw => ?_)
                    subst hw
                    exact r_iret hG hE dX7_book_34 (by unfold s_book onSheet; (try dsimp only); (repeat (first | rw [if_pos (by omega)] | rw [if_neg (by omega)])) <;> (first | rfl | skip)) ⟨U, by unfold s_book onSheet; (try dsimp only); (repeat (first | rw [if_pos (by omega)] | rw [if_neg (by omega)])) <;> (first | rfl | skip)⟩)
           · try simp only [decide_eq_true_eq, decide_eq_false_iff_not] at c15
             refine r_ldc (n := -1000000001) hG (List.mem_of_getElem? (i := 1) rfl) rfl dX7_book_18 ?_
             refine r_goto (tgt := 24) hG dX7_book_20 (by decide) ?_
             refine r_istore_n (i := 3) hG dX7_book_24 rfl (by decide) rfl ?_
             refine r_iload_n (i := 3) hG dX7_book_25 rfl rfl ?_
             refine r_if_eq (tgt := 35) hG (by omega) dX7_book_26 (by decide) (fun c26 => ?_) (fun c26 => ?_)
             · first
                 | (exfalso; omega)
                 | (skip)
             · first
                 | (exfalso; omega)
                 | (refine r_aload_n (i := 0) hG dX7_book_29 rfl rfl ?_
                    refine r_iload_n (i := 3) hG dX7_book_30 rfl rfl ?_
                    refine r_callVi hG (c_X7_finds (g_l G) (g_D G) a Z K U R C (-1000000001) 0 (by omega) (by omega))  gX7_book_X7_finds rfl hyX7_finds rfl (by decide) (by decide) 0 rfl rfl rfl (Nat.le_of_ble_eq_true rfl) ⟨Nat.zero_le _, Nat.zero_le _⟩ dX7_book_31 (fun w hw => ?_)
                    subst hw
                    exact r_iret hG hE dX7_book_34 (by unfold s_book onSheet; (try dsimp only); (repeat (first | rw [if_pos (by omega)] | rw [if_neg (by omega)])) <;> (first | rfl | skip)) ⟨U, by unfold s_book onSheet; (try dsimp only); (repeat (first | rw [if_pos (by omega)] | rw [if_neg (by omega)])) <;> (first | rfl | skip)⟩))
theorem asB_mono {Y : YS} {c : Int} {S : Int → Int64} {i : Nat} (h : asBooked Y c S i = false) : ∀ {n : Nat}, i ≤ n → asBooked Y c S n = false
  | 0, hn => by rw [show i = 0 by omega] at h; exact h
  | n + 1, hn => by
    by_cases e : i = n + 1
    · rw [← e]; exact h
    · unfold asBooked
      rw [asB_mono h (by omega)]
      rfl
theorem kX7_isBook_28 : Cond.fieldLink RX7 28 "BreakSwapsModel" "sizeOf" "[I" ∈ wsX7_isBook := List.mem_of_getElem? (i := 1) rfl
theorem kX7_isBook_31 : Cond.fieldLink RX7 31 "BreakSwapsModel" "cells" "[J" ∈ wsX7_isBook := List.mem_of_getElem? (i := 2) rfl
theorem cX7_isBook_X7 : ∀ w ∈ wsX70, w ∈ wsX7_isBook := fun _ h => List.mem_cons_of_mem _ (List.mem_append_right _ h)
theorem hyX7_isBook : hyV yX7_isBook RX7 2 := by decide +kernel
set_option maxHeartbeats 4000000 in
set_option maxRecDepth 100000 in
theorem c_X7_isBook (l : Launch) (D : va_G) (a : Nat → Nat) (Z K U R : YS) (C : Int → Int64) (hS : ∀ s, 0 ≤ s → s < 4 → (R 3 s = 0 ∨ R 3 s = 8 ∨ R 3 s = 16 ∨ R 3 s = 64) ∧ 0 ≤ R 4 s ∧ R 4 s ≤ 40) (hI : Inv Z) (s c : Int) (h1 : 0 ≤ s ∧ s ≤ 3) (hr : Z 5 0 < 1000000000) (hc : 0 ≤ c ∧ c < 8) : Con l yX7_isBook wsX7_isBook 8 D (mw D a Z K U R C) [.ref (a 0), .int (iI s), .int (iI c)] (some (.int (iI (b2 (asBooked Z c (fun j => C (40 * s + j)) (R 4 s).toNat))))) (fun w => w = mw D a U K U R C) := by
  refine con_start (own := RX7) (by decide) rfl rfl (Nat.le_of_ble_eq_true rfl) ?_
  intro G hG hE hl hD
  subst hl
  subst hD
  have hsz := hS s h1.1 (by omega)
  have L : ∀ i : Nat, i ≤ (R 4 s).toNat → ∀ b : Bool, b = asBooked Z c (fun j => C (40 * s + j)) i → V G 0 0 (mw (g_D G) a (goZ Z i) K U R C) 5 [(0, .ref (a 0)), (1, .int (iI s)), (2, .int (iI c)), (3, .int (iI (b2 b))), (4, .int (iI (i : Int)))] [] := by
    refine down (fun i hi ih b hb => ?_)
    have hg := goZ_ok hI i
    have h50 := hg.2.2.2.1
    have hcg := Inv_c hg.1 (c := c) (by omega)
    have J49 : i < (R 4 s).toNat → ∀ b2_ : Bool, b2_ = asBooked Z c (fun j => C (40 * s + j)) (i + 1) → V G 0 0 (mw (g_D G) a (goZ Z i) K U R C) 49 [(0, .ref (a 0)), (1, .int (iI s)), (2, .int (iI c)), (3, .int (iI (b2 b2_))), (4, .int (iI (i : Int)))] [] := by
      intro hiN b2_ hb2
      refine r_aload_n (i := 0) hG dX7_isBook_49 rfl rfl ?_
      refine r_callVv hG (c_X7_goes (g_l G) (g_D G) a (goZ Z i) K U R C hg.1 (by omega))  gX7_isBook_X7_goes rfl hyX7_goes rfl (by decide) (by decide) 0 rfl rfl rfl (Nat.le_of_ble_eq_true rfl) ⟨Nat.zero_le _, Nat.zero_le _⟩ dX7_isBook_50 (fun w hw => ?_)
      subst hw
      refine r_iinc hG dX7_isBook_53 rfl (by decide) rfl ?_
      refine r_goto (tgt := 5) hG dX7_isBook_56 (by decide) ?_
      exact V_lv (ih hiN b2_ hb2) ⟨rfl, rfl, rfl, rfl, rfl, trivial⟩
    have J59 : b = asBooked Z c (fun j => C (40 * s + j)) (R 4 s).toNat → V G 0 0 (mw (g_D G) a (goZ Z i) K U R C) 59 [(0, .ref (a 0)), (3, .int (iI (b2 b)))] [] := by
      intro hb2
      refine r_aload_n (i := 0) hG dX7_isBook_59 rfl rfl ?_
      refine r_callVv hG (c_X7_putsBack (g_l G) (g_D G) a (goZ Z i) K U R C)  gX7_isBook_X7_putsBack rfl hyX7_putsBack rfl (by decide) (by decide) 0 rfl rfl rfl (Nat.le_of_ble_eq_true rfl) ⟨Nat.zero_le _, Nat.zero_le _⟩ dX7_isBook_60 (fun w hw => ?_)
      subst hw
      refine r_iload_n (i := 3) hG dX7_isBook_63 rfl rfl ?_
      exact r_zret hG hE dX7_isBook_64 (by rw [hb2]) rfl
    refine r_iload hG dX7_isBook_5 rfl ?_
    refine r_aload_n (i := 0) hG dX7_isBook_7 rfl rfl ?_
    refine r_get hG cX7_isBook_X7 0 13 rfl rfl (by decide) kX7_isBook_28 rfl dX7_isBook_8 ?_
    refine r_iload_n (i := 1) hG dX7_isBook_11 rfl rfl ?_
    refine r_iald hG 7 rfl (by omega) (by decide) dX7_isBook_12 ?_
    refine r_icmp_ge (tgt := 59) hG (by omega) (by omega) dX7_isBook_13 (by decide) (fun c13 => ?_) (fun c13 => ?_)
    · first
        | exact V_lv (J59 (by rw [hb, show i = (R 4 s).toNat by omega])) ⟨rfl, rfl, trivial⟩
        | exact V_lv (J59 (by rw [c17, asB_mono (i := i) (by rw [← hb, c17]) hi])) ⟨rfl, rfl, trivial⟩
    · refine r_iload_n (i := 3) hG dX7_isBook_16 rfl rfl ?_
      refine rb_if_eq (tgt := 59) hG dX7_isBook_17 (by decide) (fun c17 => ?_) (fun c17 => ?_)
      · first
          | exact V_lv (J59 (by rw [hb, show i = (R 4 s).toNat by omega])) ⟨rfl, rfl, trivial⟩
          | exact V_lv (J59 (by rw [c17, asB_mono (i := i) (by rw [← hb, c17]) hi])) ⟨rfl, rfl, trivial⟩
      · refine r_aload_n (i := 0) hG dX7_isBook_20 rfl rfl ?_
        refine r_get hG cX7_isBook_X7 0 14 rfl rfl (by decide) kX7_isBook_31 rfl dX7_isBook_21 ?_
        refine r_bipush hG dX7_isBook_24 rfl ?_
        refine r_iload_n (i := 1) hG dX7_isBook_26 rfl rfl ?_
        refine r_imul hG dX7_isBook_27 ?_
        refine r_iload hG dX7_isBook_28 rfl ?_
        refine r_iadd hG dX7_isBook_30 ?_
        refine r_lald hG 8 rfl (by omega) (by decide) dX7_isBook_31 ?_
        refine r_aload_n (i := 0) hG dX7_isBook_32 rfl rfl ?_
        refine r_iload_n (i := 2) hG dX7_isBook_33 rfl rfl ?_
        refine r_iconst hG dX7_isBook_34 ?_
        refine r_callVi hG (c_it1 (g_l G) (g_D G) a (goZ Z i) K U R C _ (by omega))  gX7_isBook_X7_it rfl hyX7_it rfl (by decide) (by decide) 0 rfl rfl rfl (Nat.le_of_ble_eq_true rfl) ⟨Nat.zero_le _, Nat.zero_le _⟩ dX7_isBook_35 (fun w hw => ?_)
        subst hw
        refine r_i2l hG dX7_isBook_38 ?_
        refine r_lcmp hG dX7_isBook_39 ?_
        refine rr_if_ne (tgt := 47) hG dX7_isBook_40 (by decide) (fun c40 => ?_) (fun c40 => ?_)
        · refine r_iconst hG dX7_isBook_47 ?_
          refine r_istore_n (i := 3) hG dX7_isBook_48 rfl (by decide) rfl ?_
          first
            | exact V_lv (J49 (by omega) true (by rw [asBooked, ← hb, c17, decide_eq_true ((lg_cmp_eq _ _).mp c40)]; rfl)) ⟨rfl, rfl, rfl, rfl, rfl, trivial⟩
            | exact V_lv (J49 (by omega) false (by rw [asBooked, decide_eq_false (fun h => c40 ((lg_cmp_eq _ _).mpr h)), Bool.and_false])) ⟨rfl, rfl, rfl, rfl, rfl, trivial⟩
        · refine r_iconst hG dX7_isBook_43 ?_
          refine r_goto (tgt := 48) hG dX7_isBook_44 (by decide) ?_
          refine r_istore_n (i := 3) hG dX7_isBook_48 rfl (by decide) rfl ?_
          first
            | exact V_lv (J49 (by omega) true (by rw [asBooked, ← hb, c17, decide_eq_true ((lg_cmp_eq _ _).mp c40)]; rfl)) ⟨rfl, rfl, rfl, rfl, rfl, trivial⟩
            | exact V_lv (J49 (by omega) false (by rw [asBooked, decide_eq_false (fun h => c40 ((lg_cmp_eq _ _).mpr h)), Bool.and_false])) ⟨rfl, rfl, rfl, rfl, rfl, trivial⟩
  refine r_iconst hG dX7_isBook_0 ?_
  refine r_istore_n (i := 3) hG dX7_isBook_1 rfl (by decide) rfl ?_
  refine r_iconst hG dX7_isBook_2 ?_
  refine r_istore hG dX7_isBook_3 (by decide) rfl ?_
  exact V_lv (L 0 (by omega) true rfl) ⟨rfl, rfl, rfl, rfl, rfl, trivial⟩
theorem hyX7_read : hyV yX7_read RX7 3 := by decide +kernel
set_option maxHeartbeats 4000000 in
set_option maxRecDepth 100000 in
theorem c_X7_read (l : Launch) (D : va_G) (a : Nat → Nat) (Z K U R : YS) (C : Int → Int64) (hT : TI (Z, K, R, C)) (s c o : Int) (hs : -2147483648 ≤ s ∧ s < 2147483648) (hc : -2147483648 ≤ c ∧ c < 2147483648) (ho : -2147483648 ≤ o ∧ o < 2147483648) : Con l yX7_read wsX7_read 9 D (mw D a Z K U R C) [.ref (a 0), .int (iI s), .int (iI c), .int (iI o)] (some (.int (iI ((s_read (Z, K, R, C) s c o).1)))) (fun ww => ∃ U2, ww = mwT D a (s_read (Z, K, R, C) s c o).2 U2) := by
  refine con_start (own := RX7) (by decide) rfl rfl (Nat.le_of_ble_eq_true rfl) ?_
  intro G hG hE hl hD
  subst hl
  subst hD
  have hI : Inv Z := hT.1.1
  have hN := hI.1
  have hr0 := hI.2.1
  have hu5 := hI.2.2.1
  have hrd : Z 5 0 ≤ 99999 := hT.1.2.2
  have hS : ∀ s, 0 ≤ s → s < 4 → (R 3 s = 0 ∨ R 3 s = 8 ∨ R 3 s = 16 ∨ R 3 s = 64) ∧ 0 ≤ R 4 s ∧ R 4 s ≤ 40 := hT.2.2.2
  have hs3 : 0 ≤ s ∧ s ≤ 3 → _ := fun h => hS s h.1 (by omega)
  by_cases h1 : 0 ≤ s ∧ s ≤ 3
  · have hsz := hs3 h1
    by_cases h2 : R 3 s = 0
    · skip
      refine r_aload_n (i := 0) hG dX7_read_0 rfl rfl ?_
      refine r_iload_n (i := 1) hG dX7_read_1 rfl rfl ?_
      refine r_callVi hG (c_X7_notThere (g_l G) (g_D G) a Z K U R C hS s hs)  gX7_read_X7_notThere rfl hyX7_notThere rfl (by decide) (by decide) 0 rfl rfl rfl (Nat.le_of_ble_eq_true rfl) ⟨Nat.zero_le _, Nat.zero_le _⟩ dX7_read_2 (fun w hw => ?_)
      subst hw
      refine V_top (x' := iI (-1000000006)) (congrArg iI (by (repeat (first | rw [if_pos (by omega)] | rw [if_neg (by omega)])))) ?_
      refine r_istore hG dX7_read_5 (by decide) rfl ?_
      refine r_iload hG dX7_read_7 rfl ?_
      refine r_if_ne (tgt := 26) hG (by omega) dX7_read_9 (by decide) (fun c9 => ?_) (fun c9 => ?_)
      · first
          | (exfalso; omega)
          | (refine r_iload hG dX7_read_26 rfl ?_
             refine r_istore hG dX7_read_28 (by decide) rfl ?_
             refine r_iload hG dX7_read_30 rfl ?_
             refine r_if_eq (tgt := 42) hG (by omega) dX7_read_32 (by decide) (fun c32 => ?_) (fun c32 => ?_)
             · first
                 | (exfalso; omega)
                 | (skip)
             · first
                 | (exfalso; omega)
                 | (refine r_aload_n (i := 0) hG dX7_read_35 rfl rfl ?_
                    refine r_iload hG dX7_read_36 rfl ?_
                    refine r_callVi hG (c_X7_finds (g_l G) (g_D G) a Z K U R C (-1000000006) 5 (by omega) (by omega))  gX7_read_X7_finds rfl hyX7_finds rfl (by decide) (by decide) 0 rfl rfl rfl (Nat.le_of_ble_eq_true rfl) ⟨Nat.zero_le _, Nat.zero_le _⟩ dX7_read_38 (fun w hw => ?_)
                    subst hw
                    exact r_iret hG hE dX7_read_41 (by unfold s_read onSheet; (try dsimp only); (repeat (first | rw [if_pos (by omega)] | rw [if_neg (by omega)])) <;> rfl) ⟨U, by unfold s_read onSheet; (try dsimp only); (repeat (first | rw [if_pos (by omega)] | rw [if_neg (by omega)])) <;> rfl⟩))
      · first
          | (exfalso; omega)
          | (refine r_aload_n (i := 0) hG dX7_read_12 rfl rfl ?_
             refine r_iload_n (i := 2) hG dX7_read_13 rfl rfl ?_
             refine r_iload_n (i := 3) hG dX7_read_14 rfl rfl ?_
             refine r_callVi hG (c_X7_areTwo (g_l G) (g_D G) a Z K U R C hI _ _ (by omega) (by omega))  gX7_read_X7_areTwo rfl hyX7_areTwo rfl (by decide) (by decide) 0 rfl rfl rfl (Nat.le_of_ble_eq_true rfl) ⟨Nat.zero_le _, Nat.zero_le _⟩ dX7_read_15 (fun w hw => ?_)
             subst hw
             refine rb_if_ne (tgt := 26) hG dX7_read_18 (by decide) (fun c18 => ?_) (fun c18 => ?_)
             · try simp only [decide_eq_true_eq, decide_eq_false_iff_not] at c18
               refine r_iload hG dX7_read_26 rfl ?_
               refine r_istore hG dX7_read_28 (by decide) rfl ?_
               refine r_iload hG dX7_read_30 rfl ?_
               refine r_if_eq (tgt := 42) hG (by omega) dX7_read_32 (by decide) (fun c32 => ?_) (fun c32 => ?_)
               · first
                   | (exfalso; omega)
                   | (skip)
               · first
                   | (exfalso; omega)
                   | (refine r_aload_n (i := 0) hG dX7_read_35 rfl rfl ?_
                      refine r_iload hG dX7_read_36 rfl ?_
                      refine r_callVi hG (c_X7_finds (g_l G) (g_D G) a Z K U R C (-1000000006) 5 (by omega) (by omega))  gX7_read_X7_finds rfl hyX7_finds rfl (by decide) (by decide) 0 rfl rfl rfl (Nat.le_of_ble_eq_true rfl) ⟨Nat.zero_le _, Nat.zero_le _⟩ dX7_read_38 (fun w hw => ?_)
                      subst hw
                      exact r_iret hG hE dX7_read_41 (by unfold s_read onSheet; (try dsimp only); (repeat (first | rw [if_pos (by omega)] | rw [if_neg (by omega)])) <;> rfl) ⟨U, by unfold s_read onSheet; (try dsimp only); (repeat (first | rw [if_pos (by omega)] | rw [if_neg (by omega)])) <;> rfl⟩)
             · try simp only [decide_eq_true_eq, decide_eq_false_iff_not] at c18
               refine r_ldc (n := -1000000001) hG (List.mem_of_getElem? (i := 1) rfl) rfl dX7_read_21 ?_
               refine r_goto (tgt := 28) hG dX7_read_23 (by decide) ?_
               refine r_istore hG dX7_read_28 (by decide) rfl ?_
               refine r_iload hG dX7_read_30 rfl ?_
               refine r_if_eq (tgt := 42) hG (by omega) dX7_read_32 (by decide) (fun c32 => ?_) (fun c32 => ?_)
               · first
                   | (exfalso; omega)
                   | (skip)
               · first
                   | (exfalso; omega)
                   | (refine r_aload_n (i := 0) hG dX7_read_35 rfl rfl ?_
                      refine r_iload hG dX7_read_36 rfl ?_
                      refine r_callVi hG (c_X7_finds (g_l G) (g_D G) a Z K U R C (-1000000006) 5 (by omega) (by omega))  gX7_read_X7_finds rfl hyX7_finds rfl (by decide) (by decide) 0 rfl rfl rfl (Nat.le_of_ble_eq_true rfl) ⟨Nat.zero_le _, Nat.zero_le _⟩ dX7_read_38 (fun w hw => ?_)
                      subst hw
                      exact r_iret hG hE dX7_read_41 (by unfold s_read onSheet; (try dsimp only); (repeat (first | rw [if_pos (by omega)] | rw [if_neg (by omega)])) <;> rfl) ⟨U, by unfold s_read onSheet; (try dsimp only); (repeat (first | rw [if_pos (by omega)] | rw [if_neg (by omega)])) <;> rfl⟩))
    · by_cases h3 : (0 ≤ c ∧ c ≤ Z 5 2 - 1 ∧ 0 ≤ o ∧ o ≤ Z 5 2 - 1 ∧ c ≠ o)
      · have hc1 := Inv_c hI (c := c) (by omega)
        have e0 : s_read (Z, K, R, C) s c o = (cntB (readF Z (fun j => C (40 * s + j)) (R 4 s) c o) 36, (Z, K, R, C)) := by
          unfold s_read onSheet; (try dsimp only); rw [if_pos h1, if_neg h2, if_pos (by omega), if_pos (by omega)]
        have L : ∀ i : Nat, i ≤ 36 → V G 0 0 (mw (g_D G) a Z K Z R C) 52 [(0, .ref (a 0)), (1, .int (iI s)), (2, .int (iI c)), (3, .int (iI o)), (5, .int (iI (cntB (readF Z (fun j => C (40 * s + j)) (R 4 s) c o) i))), (6, .int (iI (i : Int)))] [] := by
          refine down (fun i hi ih => ?_)
          have hI2 : i < 36 → Inv (upY (upY Z 0 c ((i : Int) / 6)) 0 o ((i : Int) % 6)) := fun h => Inv_up0 (Inv_up0 hI (by omega)) (by omega)
          refine r_iload hG dX7_read_52 rfl ?_
          refine r_bipush hG dX7_read_54 rfl ?_
          refine r_icmp_ge (tgt := 106) hG (by omega) (by omega) dX7_read_56 (by decide) (fun c56 => ?_) (fun c56 => ?_)
          · refine r_iload hG dX7_read_106 rfl ?_
            have ei : i = 36 := by omega
            subst ei
            exact r_iret hG hE dX7_read_108 (by rw [e0]) ⟨Z, by rw [e0]; rfl⟩
          · refine r_aload_n (i := 0) hG dX7_read_59 rfl rfl ?_
            refine r_iload_n (i := 2) hG dX7_read_60 rfl rfl ?_
            refine r_iconst hG dX7_read_61 ?_
            refine r_iload hG dX7_read_62 rfl ?_
            refine r_bipush hG dX7_read_64 rfl ?_
            refine r_idiv hG (by omega) (by omega) dX7_read_66 ?_
            refine r_callVv hG (c_put0 (g_l G) (g_D G) a Z K Z R C _ _ (by omega))  gX7_read_X7_put rfl hyX7_put rfl (by decide) (by decide) 0 rfl rfl rfl (Nat.le_of_ble_eq_true rfl) ⟨Nat.zero_le _, Nat.zero_le _⟩ dX7_read_67 (fun w hw => ?_)
            subst hw
            refine r_aload_n (i := 0) hG dX7_read_70 rfl rfl ?_
            refine r_iload_n (i := 3) hG dX7_read_71 rfl rfl ?_
            refine r_iconst hG dX7_read_72 ?_
            refine r_iload hG dX7_read_73 rfl ?_
            refine r_bipush hG dX7_read_75 rfl ?_
            refine r_irem hG (by omega) (by omega) dX7_read_77 ?_
            refine r_callVv hG (c_put0 (g_l G) (g_D G) a (upY Z 0 c ((i : Int) / 6)) K Z R C _ _ (by omega))  gX7_read_X7_put rfl hyX7_put rfl (by decide) (by decide) 0 rfl rfl rfl (Nat.le_of_ble_eq_true rfl) ⟨Nat.zero_le _, Nat.zero_le _⟩ dX7_read_78 (fun w hw => ?_)
            subst hw
            refine r_iload hG dX7_read_81 rfl ?_
            refine r_aload_n (i := 0) hG dX7_read_83 rfl rfl ?_
            refine r_iload_n (i := 1) hG dX7_read_84 rfl rfl ?_
            refine r_iload_n (i := 2) hG dX7_read_85 rfl rfl ?_
            refine r_callVi hG (c_X7_isBook (g_l G) (g_D G) a (upY (upY Z 0 c ((i : Int) / 6)) 0 o ((i : Int) % 6)) K Z R C hS (hI2 (by omega)) _ _ (by omega) (by show Z 5 0 < 1000000000; omega) (by omega))  gX7_read_X7_isBook rfl hyX7_isBook rfl (by decide) (by decide) 0 rfl rfl rfl (Nat.le_of_ble_eq_true rfl) ⟨Nat.zero_le _, Nat.zero_le _⟩ dX7_read_86 (fun w hw => ?_)
            subst hw
            refine rb_if_eq (tgt := 96) hG dX7_read_89 (by decide) (fun c89 => ?_) (fun c89 => ?_)
            · try simp only [decide_eq_true_eq, decide_eq_false_iff_not] at c89
              refine r_iconst hG dX7_read_96 ?_
              refine r_iadd hG dX7_read_97 ?_
              refine r_istore hG dX7_read_98 (by decide) rfl ?_
              refine r_iinc hG dX7_read_100 rfl (by decide) rfl ?_
              refine r_goto (tgt := 52) hG dX7_read_103 (by decide) ?_
              first
                | exact V_lv (ih (by omega)) ⟨rfl, rfl, rfl, rfl, (congrArg (fun v => some (Value.int (iI v))) (by rw [cntB, show readF Z (fun j => C (40 * s + j)) (R 4 s) c o i = true from c89]; rfl)), rfl, trivial⟩
                | exact V_lv (ih (by omega)) ⟨rfl, rfl, rfl, rfl, (congrArg (fun v => some (Value.int (iI v))) (by rw [cntB, show readF Z (fun j => C (40 * s + j)) (R 4 s) c o i = false from c89]; rfl)), rfl, trivial⟩
            · try simp only [decide_eq_true_eq, decide_eq_false_iff_not] at c89
              refine r_iconst hG dX7_read_92 ?_
              refine r_goto (tgt := 97) hG dX7_read_93 (by decide) ?_
              refine r_iadd hG dX7_read_97 ?_
              refine r_istore hG dX7_read_98 (by decide) rfl ?_
              refine r_iinc hG dX7_read_100 rfl (by decide) rfl ?_
              refine r_goto (tgt := 52) hG dX7_read_103 (by decide) ?_
              first
                | exact V_lv (ih (by omega)) ⟨rfl, rfl, rfl, rfl, (congrArg (fun v => some (Value.int (iI v))) (by rw [cntB, show readF Z (fun j => C (40 * s + j)) (R 4 s) c o i = true from c89]; rfl)), rfl, trivial⟩
                | exact V_lv (ih (by omega)) ⟨rfl, rfl, rfl, rfl, (congrArg (fun v => some (Value.int (iI v))) (by rw [cntB, show readF Z (fun j => C (40 * s + j)) (R 4 s) c o i = false from c89]; rfl)), rfl, trivial⟩
        refine r_aload_n (i := 0) hG dX7_read_0 rfl rfl ?_
        refine r_iload_n (i := 1) hG dX7_read_1 rfl rfl ?_
        refine r_callVi hG (c_X7_notThere (g_l G) (g_D G) a Z K U R C hS s hs)  gX7_read_X7_notThere rfl hyX7_notThere rfl (by decide) (by decide) 0 rfl rfl rfl (Nat.le_of_ble_eq_true rfl) ⟨Nat.zero_le _, Nat.zero_le _⟩ dX7_read_2 (fun w hw => ?_)
        subst hw
        refine V_top (x' := iI (0)) (congrArg iI (by (repeat (first | rw [if_pos (by omega)] | rw [if_neg (by omega)])))) ?_
        refine r_istore hG dX7_read_5 (by decide) rfl ?_
        refine r_iload hG dX7_read_7 rfl ?_
        refine r_if_ne (tgt := 26) hG (by omega) dX7_read_9 (by decide) (fun c9 => ?_) (fun c9 => ?_)
        · first
            | (exfalso; omega)
            | (refine r_iload hG dX7_read_26 rfl ?_
               refine r_istore hG dX7_read_28 (by decide) rfl ?_
               refine r_iload hG dX7_read_30 rfl ?_
               refine r_if_eq (tgt := 42) hG (by omega) dX7_read_32 (by decide) (fun c32 => ?_) (fun c32 => ?_)
               · first
                   | (exfalso; omega)
                   | (refine r_aload_n (i := 0) hG dX7_read_42 rfl rfl ?_
                      refine r_callVv hG (c_X7_thinks (g_l G) (g_D G) a Z K U R C)  gX7_read_X7_thinks rfl hyX7_thinks rfl (by decide) (by decide) 0 rfl rfl rfl (Nat.le_of_ble_eq_true rfl) ⟨Nat.zero_le _, Nat.zero_le _⟩ dX7_read_43 (fun w hw => ?_)
                      subst hw
                      refine r_iconst hG dX7_read_46 ?_
                      refine r_istore hG dX7_read_47 (by decide) rfl ?_
                      refine r_iconst hG dX7_read_49 ?_
                      refine r_istore hG dX7_read_50 (by decide) rfl ?_
                      exact V_lv (L 0 (by omega)) ⟨rfl, rfl, rfl, rfl, rfl, rfl, trivial⟩)
               · first
                   | (exfalso; omega)
                   | (skip))
        · first
            | (exfalso; omega)
            | (refine r_aload_n (i := 0) hG dX7_read_12 rfl rfl ?_
               refine r_iload_n (i := 2) hG dX7_read_13 rfl rfl ?_
               refine r_iload_n (i := 3) hG dX7_read_14 rfl rfl ?_
               refine r_callVi hG (c_X7_areTwo (g_l G) (g_D G) a Z K U R C hI _ _ (by omega) (by omega))  gX7_read_X7_areTwo rfl hyX7_areTwo rfl (by decide) (by decide) 0 rfl rfl rfl (Nat.le_of_ble_eq_true rfl) ⟨Nat.zero_le _, Nat.zero_le _⟩ dX7_read_15 (fun w hw => ?_)
               subst hw
               refine rb_if_ne (tgt := 26) hG dX7_read_18 (by decide) (fun c18 => ?_) (fun c18 => ?_)
               · try simp only [decide_eq_true_eq, decide_eq_false_iff_not] at c18
                 refine r_iload hG dX7_read_26 rfl ?_
                 refine r_istore hG dX7_read_28 (by decide) rfl ?_
                 refine r_iload hG dX7_read_30 rfl ?_
                 refine r_if_eq (tgt := 42) hG (by omega) dX7_read_32 (by decide) (fun c32 => ?_) (fun c32 => ?_)
                 · first
                     | (exfalso; omega)
                     | (refine r_aload_n (i := 0) hG dX7_read_42 rfl rfl ?_
                        refine r_callVv hG (c_X7_thinks (g_l G) (g_D G) a Z K U R C)  gX7_read_X7_thinks rfl hyX7_thinks rfl (by decide) (by decide) 0 rfl rfl rfl (Nat.le_of_ble_eq_true rfl) ⟨Nat.zero_le _, Nat.zero_le _⟩ dX7_read_43 (fun w hw => ?_)
                        subst hw
                        refine r_iconst hG dX7_read_46 ?_
                        refine r_istore hG dX7_read_47 (by decide) rfl ?_
                        refine r_iconst hG dX7_read_49 ?_
                        refine r_istore hG dX7_read_50 (by decide) rfl ?_
                        exact V_lv (L 0 (by omega)) ⟨rfl, rfl, rfl, rfl, rfl, rfl, trivial⟩)
                 · first
                     | (exfalso; omega)
                     | (skip)
               · try simp only [decide_eq_true_eq, decide_eq_false_iff_not] at c18
                 refine r_ldc (n := -1000000001) hG (List.mem_of_getElem? (i := 1) rfl) rfl dX7_read_21 ?_
                 refine r_goto (tgt := 28) hG dX7_read_23 (by decide) ?_
                 refine r_istore hG dX7_read_28 (by decide) rfl ?_
                 refine r_iload hG dX7_read_30 rfl ?_
                 refine r_if_eq (tgt := 42) hG (by omega) dX7_read_32 (by decide) (fun c32 => ?_) (fun c32 => ?_)
                 · first
                     | (exfalso; omega)
                     | (refine r_aload_n (i := 0) hG dX7_read_42 rfl rfl ?_
                        refine r_callVv hG (c_X7_thinks (g_l G) (g_D G) a Z K U R C)  gX7_read_X7_thinks rfl hyX7_thinks rfl (by decide) (by decide) 0 rfl rfl rfl (Nat.le_of_ble_eq_true rfl) ⟨Nat.zero_le _, Nat.zero_le _⟩ dX7_read_43 (fun w hw => ?_)
                        subst hw
                        refine r_iconst hG dX7_read_46 ?_
                        refine r_istore hG dX7_read_47 (by decide) rfl ?_
                        refine r_iconst hG dX7_read_49 ?_
                        refine r_istore hG dX7_read_50 (by decide) rfl ?_
                        exact V_lv (L 0 (by omega)) ⟨rfl, rfl, rfl, rfl, rfl, rfl, trivial⟩)
                 · first
                     | (exfalso; omega)
                     | (skip))
      · by_cases h5 : 0 ≤ c ∧ c < Z 5 2
        · skip
          refine r_aload_n (i := 0) hG dX7_read_0 rfl rfl ?_
          refine r_iload_n (i := 1) hG dX7_read_1 rfl rfl ?_
          refine r_callVi hG (c_X7_notThere (g_l G) (g_D G) a Z K U R C hS s hs)  gX7_read_X7_notThere rfl hyX7_notThere rfl (by decide) (by decide) 0 rfl rfl rfl (Nat.le_of_ble_eq_true rfl) ⟨Nat.zero_le _, Nat.zero_le _⟩ dX7_read_2 (fun w hw => ?_)
          subst hw
          refine V_top (x' := iI (0)) (congrArg iI (by (repeat (first | rw [if_pos (by omega)] | rw [if_neg (by omega)])))) ?_
          refine r_istore hG dX7_read_5 (by decide) rfl ?_
          refine r_iload hG dX7_read_7 rfl ?_
          refine r_if_ne (tgt := 26) hG (by omega) dX7_read_9 (by decide) (fun c9 => ?_) (fun c9 => ?_)
          · first
              | (exfalso; omega)
              | (refine r_iload hG dX7_read_26 rfl ?_
                 refine r_istore hG dX7_read_28 (by decide) rfl ?_
                 refine r_iload hG dX7_read_30 rfl ?_
                 refine r_if_eq (tgt := 42) hG (by omega) dX7_read_32 (by decide) (fun c32 => ?_) (fun c32 => ?_)
                 · first
                     | (exfalso; omega)
                     | (skip)
                 · first
                     | (exfalso; omega)
                     | (refine r_aload_n (i := 0) hG dX7_read_35 rfl rfl ?_
                        refine r_iload hG dX7_read_36 rfl ?_
                        refine r_callVi hG (c_X7_finds (g_l G) (g_D G) a Z K U R C (-1000000001) 0 (by omega) (by omega))  gX7_read_X7_finds rfl hyX7_finds rfl (by decide) (by decide) 0 rfl rfl rfl (Nat.le_of_ble_eq_true rfl) ⟨Nat.zero_le _, Nat.zero_le _⟩ dX7_read_38 (fun w hw => ?_)
                        subst hw
                        exact r_iret hG hE dX7_read_41 (by unfold s_read onSheet; (try dsimp only); (repeat (first | rw [if_pos (by omega)] | rw [if_neg (by omega)])) <;> rfl) ⟨U, by unfold s_read onSheet; (try dsimp only); (repeat (first | rw [if_pos (by omega)] | rw [if_neg (by omega)])) <;> rfl⟩))
          · first
              | (exfalso; omega)
              | (refine r_aload_n (i := 0) hG dX7_read_12 rfl rfl ?_
                 refine r_iload_n (i := 2) hG dX7_read_13 rfl rfl ?_
                 refine r_iload_n (i := 3) hG dX7_read_14 rfl rfl ?_
                 refine r_callVi hG (c_X7_areTwo (g_l G) (g_D G) a Z K U R C hI _ _ (by omega) (by omega))  gX7_read_X7_areTwo rfl hyX7_areTwo rfl (by decide) (by decide) 0 rfl rfl rfl (Nat.le_of_ble_eq_true rfl) ⟨Nat.zero_le _, Nat.zero_le _⟩ dX7_read_15 (fun w hw => ?_)
                 subst hw
                 refine rb_if_ne (tgt := 26) hG dX7_read_18 (by decide) (fun c18 => ?_) (fun c18 => ?_)
                 · try simp only [decide_eq_true_eq, decide_eq_false_iff_not] at c18
                   refine r_iload hG dX7_read_26 rfl ?_
                   refine r_istore hG dX7_read_28 (by decide) rfl ?_
                   refine r_iload hG dX7_read_30 rfl ?_
                   refine r_if_eq (tgt := 42) hG (by omega) dX7_read_32 (by decide) (fun c32 => ?_) (fun c32 => ?_)
                   · first
                       | (exfalso; omega)
                       | (skip)
                   · first
                       | (exfalso; omega)
                       | (refine r_aload_n (i := 0) hG dX7_read_35 rfl rfl ?_
                          refine r_iload hG dX7_read_36 rfl ?_
                          refine r_callVi hG (c_X7_finds (g_l G) (g_D G) a Z K U R C (-1000000001) 0 (by omega) (by omega))  gX7_read_X7_finds rfl hyX7_finds rfl (by decide) (by decide) 0 rfl rfl rfl (Nat.le_of_ble_eq_true rfl) ⟨Nat.zero_le _, Nat.zero_le _⟩ dX7_read_38 (fun w hw => ?_)
                          subst hw
                          exact r_iret hG hE dX7_read_41 (by unfold s_read onSheet; (try dsimp only); (repeat (first | rw [if_pos (by omega)] | rw [if_neg (by omega)])) <;> rfl) ⟨U, by unfold s_read onSheet; (try dsimp only); (repeat (first | rw [if_pos (by omega)] | rw [if_neg (by omega)])) <;> rfl⟩)
                 · try simp only [decide_eq_true_eq, decide_eq_false_iff_not] at c18
                   refine r_ldc (n := -1000000001) hG (List.mem_of_getElem? (i := 1) rfl) rfl dX7_read_21 ?_
                   refine r_goto (tgt := 28) hG dX7_read_23 (by decide) ?_
                   refine r_istore hG dX7_read_28 (by decide) rfl ?_
                   refine r_iload hG dX7_read_30 rfl ?_
                   refine r_if_eq (tgt := 42) hG (by omega) dX7_read_32 (by decide) (fun c32 => ?_) (fun c32 => ?_)
                   · first
                       | (exfalso; omega)
                       | (skip)
                   · first
                       | (exfalso; omega)
                       | (refine r_aload_n (i := 0) hG dX7_read_35 rfl rfl ?_
                          refine r_iload hG dX7_read_36 rfl ?_
                          refine r_callVi hG (c_X7_finds (g_l G) (g_D G) a Z K U R C (-1000000001) 0 (by omega) (by omega))  gX7_read_X7_finds rfl hyX7_finds rfl (by decide) (by decide) 0 rfl rfl rfl (Nat.le_of_ble_eq_true rfl) ⟨Nat.zero_le _, Nat.zero_le _⟩ dX7_read_38 (fun w hw => ?_)
                          subst hw
                          exact r_iret hG hE dX7_read_41 (by unfold s_read onSheet; (try dsimp only); (repeat (first | rw [if_pos (by omega)] | rw [if_neg (by omega)])) <;> rfl) ⟨U, by unfold s_read onSheet; (try dsimp only); (repeat (first | rw [if_pos (by omega)] | rw [if_neg (by omega)])) <;> rfl⟩))
        · skip
          refine r_aload_n (i := 0) hG dX7_read_0 rfl rfl ?_
          refine r_iload_n (i := 1) hG dX7_read_1 rfl rfl ?_
          refine r_callVi hG (c_X7_notThere (g_l G) (g_D G) a Z K U R C hS s hs)  gX7_read_X7_notThere rfl hyX7_notThere rfl (by decide) (by decide) 0 rfl rfl rfl (Nat.le_of_ble_eq_true rfl) ⟨Nat.zero_le _, Nat.zero_le _⟩ dX7_read_2 (fun w hw => ?_)
          subst hw
          refine V_top (x' := iI (0)) (congrArg iI (by (repeat (first | rw [if_pos (by omega)] | rw [if_neg (by omega)])))) ?_
          refine r_istore hG dX7_read_5 (by decide) rfl ?_
          refine r_iload hG dX7_read_7 rfl ?_
          refine r_if_ne (tgt := 26) hG (by omega) dX7_read_9 (by decide) (fun c9 => ?_) (fun c9 => ?_)
          · first
              | (exfalso; omega)
              | (refine r_iload hG dX7_read_26 rfl ?_
                 refine r_istore hG dX7_read_28 (by decide) rfl ?_
                 refine r_iload hG dX7_read_30 rfl ?_
                 refine r_if_eq (tgt := 42) hG (by omega) dX7_read_32 (by decide) (fun c32 => ?_) (fun c32 => ?_)
                 · first
                     | (exfalso; omega)
                     | (skip)
                 · first
                     | (exfalso; omega)
                     | (refine r_aload_n (i := 0) hG dX7_read_35 rfl rfl ?_
                        refine r_iload hG dX7_read_36 rfl ?_
                        refine r_callVi hG (c_X7_finds (g_l G) (g_D G) a Z K U R C (-1000000001) 0 (by omega) (by omega))  gX7_read_X7_finds rfl hyX7_finds rfl (by decide) (by decide) 0 rfl rfl rfl (Nat.le_of_ble_eq_true rfl) ⟨Nat.zero_le _, Nat.zero_le _⟩ dX7_read_38 (fun w hw => ?_)
                        subst hw
                        exact r_iret hG hE dX7_read_41 (by unfold s_read onSheet; (try dsimp only); (repeat (first | rw [if_pos (by omega)] | rw [if_neg (by omega)])) <;> rfl) ⟨U, by unfold s_read onSheet; (try dsimp only); (repeat (first | rw [if_pos (by omega)] | rw [if_neg (by omega)])) <;> rfl⟩))
          · first
              | (exfalso; omega)
              | (refine r_aload_n (i := 0) hG dX7_read_12 rfl rfl ?_
                 refine r_iload_n (i := 2) hG dX7_read_13 rfl rfl ?_
                 refine r_iload_n (i := 3) hG dX7_read_14 rfl rfl ?_
                 refine r_callVi hG (c_X7_areTwo (g_l G) (g_D G) a Z K U R C hI _ _ (by omega) (by omega))  gX7_read_X7_areTwo rfl hyX7_areTwo rfl (by decide) (by decide) 0 rfl rfl rfl (Nat.le_of_ble_eq_true rfl) ⟨Nat.zero_le _, Nat.zero_le _⟩ dX7_read_15 (fun w hw => ?_)
                 subst hw
                 refine rb_if_ne (tgt := 26) hG dX7_read_18 (by decide) (fun c18 => ?_) (fun c18 => ?_)
                 · try simp only [decide_eq_true_eq, decide_eq_false_iff_not] at c18
                   refine r_iload hG dX7_read_26 rfl ?_
                   refine r_istore hG dX7_read_28 (by decide) rfl ?_
                   refine r_iload hG dX7_read_30 rfl ?_
                   refine r_if_eq (tgt := 42) hG (by omega) dX7_read_32 (by decide) (fun c32 => ?_) (fun c32 => ?_)
                   · first
                       | (exfalso; omega)
                       | (skip)
                   · first
                       | (exfalso; omega)
                       | (refine r_aload_n (i := 0) hG dX7_read_35 rfl rfl ?_
                          refine r_iload hG dX7_read_36 rfl ?_
                          refine r_callVi hG (c_X7_finds (g_l G) (g_D G) a Z K U R C (-1000000001) 0 (by omega) (by omega))  gX7_read_X7_finds rfl hyX7_finds rfl (by decide) (by decide) 0 rfl rfl rfl (Nat.le_of_ble_eq_true rfl) ⟨Nat.zero_le _, Nat.zero_le _⟩ dX7_read_38 (fun w hw => ?_)
                          subst hw
                          exact r_iret hG hE dX7_read_41 (by unfold s_read onSheet; (try dsimp only); (repeat (first | rw [if_pos (by omega)] | rw [if_neg (by omega)])) <;> rfl) ⟨U, by unfold s_read onSheet; (try dsimp only); (repeat (first | rw [if_pos (by omega)] | rw [if_neg (by omega)])) <;> rfl⟩)
                 · try simp only [decide_eq_true_eq, decide_eq_false_iff_not] at c18
                   refine r_ldc (n := -1000000001) hG (List.mem_of_getElem? (i := 1) rfl) rfl dX7_read_21 ?_
                   refine r_goto (tgt := 28) hG dX7_read_23 (by decide) ?_
                   refine r_istore hG dX7_read_28 (by decide) rfl ?_
                   refine r_iload hG dX7_read_30 rfl ?_
                   refine r_if_eq (tgt := 42) hG (by omega) dX7_read_32 (by decide) (fun c32 => ?_) (fun c32 => ?_)
                   · first
                       | (exfalso; omega)
                       | (skip)
                   · first
                       | (exfalso; omega)
                       | (refine r_aload_n (i := 0) hG dX7_read_35 rfl rfl ?_
                          refine r_iload hG dX7_read_36 rfl ?_
                          refine r_callVi hG (c_X7_finds (g_l G) (g_D G) a Z K U R C (-1000000001) 0 (by omega) (by omega))  gX7_read_X7_finds rfl hyX7_finds rfl (by decide) (by decide) 0 rfl rfl rfl (Nat.le_of_ble_eq_true rfl) ⟨Nat.zero_le _, Nat.zero_le _⟩ dX7_read_38 (fun w hw => ?_)
                          subst hw
                          exact r_iret hG hE dX7_read_41 (by unfold s_read onSheet; (try dsimp only); (repeat (first | rw [if_pos (by omega)] | rw [if_neg (by omega)])) <;> rfl) ⟨U, by unfold s_read onSheet; (try dsimp only); (repeat (first | rw [if_pos (by omega)] | rw [if_neg (by omega)])) <;> rfl⟩))
  · skip
    refine r_aload_n (i := 0) hG dX7_read_0 rfl rfl ?_
    refine r_iload_n (i := 1) hG dX7_read_1 rfl rfl ?_
    refine r_callVi hG (c_X7_notThere (g_l G) (g_D G) a Z K U R C hS s hs)  gX7_read_X7_notThere rfl hyX7_notThere rfl (by decide) (by decide) 0 rfl rfl rfl (Nat.le_of_ble_eq_true rfl) ⟨Nat.zero_le _, Nat.zero_le _⟩ dX7_read_2 (fun w hw => ?_)
    subst hw
    refine V_top (x' := iI (-1000000001)) (congrArg iI (by (repeat (first | rw [if_pos (by omega)] | rw [if_neg (by omega)])))) ?_
    refine r_istore hG dX7_read_5 (by decide) rfl ?_
    refine r_iload hG dX7_read_7 rfl ?_
    refine r_if_ne (tgt := 26) hG (by omega) dX7_read_9 (by decide) (fun c9 => ?_) (fun c9 => ?_)
    · first
        | (exfalso; omega)
        | (refine r_iload hG dX7_read_26 rfl ?_
           refine r_istore hG dX7_read_28 (by decide) rfl ?_
           refine r_iload hG dX7_read_30 rfl ?_
           refine r_if_eq (tgt := 42) hG (by omega) dX7_read_32 (by decide) (fun c32 => ?_) (fun c32 => ?_)
           · first
               | (exfalso; omega)
               | (skip)
           · first
               | (exfalso; omega)
               | (refine r_aload_n (i := 0) hG dX7_read_35 rfl rfl ?_
                  refine r_iload hG dX7_read_36 rfl ?_
                  refine r_callVi hG (c_X7_finds (g_l G) (g_D G) a Z K U R C (-1000000001) 0 (by omega) (by omega))  gX7_read_X7_finds rfl hyX7_finds rfl (by decide) (by decide) 0 rfl rfl rfl (Nat.le_of_ble_eq_true rfl) ⟨Nat.zero_le _, Nat.zero_le _⟩ dX7_read_38 (fun w hw => ?_)
                  subst hw
                  exact r_iret hG hE dX7_read_41 (by unfold s_read onSheet; (try dsimp only); (repeat (first | rw [if_pos (by omega)] | rw [if_neg (by omega)])) <;> rfl) ⟨U, by unfold s_read onSheet; (try dsimp only); (repeat (first | rw [if_pos (by omega)] | rw [if_neg (by omega)])) <;> rfl⟩))
    · first
        | (exfalso; omega)
        | (refine r_aload_n (i := 0) hG dX7_read_12 rfl rfl ?_
           refine r_iload_n (i := 2) hG dX7_read_13 rfl rfl ?_
           refine r_iload_n (i := 3) hG dX7_read_14 rfl rfl ?_
           refine r_callVi hG (c_X7_areTwo (g_l G) (g_D G) a Z K U R C hI _ _ (by omega) (by omega))  gX7_read_X7_areTwo rfl hyX7_areTwo rfl (by decide) (by decide) 0 rfl rfl rfl (Nat.le_of_ble_eq_true rfl) ⟨Nat.zero_le _, Nat.zero_le _⟩ dX7_read_15 (fun w hw => ?_)
           subst hw
           refine rb_if_ne (tgt := 26) hG dX7_read_18 (by decide) (fun c18 => ?_) (fun c18 => ?_)
           · try simp only [decide_eq_true_eq, decide_eq_false_iff_not] at c18
             refine r_iload hG dX7_read_26 rfl ?_
             refine r_istore hG dX7_read_28 (by decide) rfl ?_
             refine r_iload hG dX7_read_30 rfl ?_
             refine r_if_eq (tgt := 42) hG (by omega) dX7_read_32 (by decide) (fun c32 => ?_) (fun c32 => ?_)
             · first
                 | (exfalso; omega)
                 | (skip)
             · first
                 | (exfalso; omega)
                 | (refine r_aload_n (i := 0) hG dX7_read_35 rfl rfl ?_
                    refine r_iload hG dX7_read_36 rfl ?_
                    refine r_callVi hG (c_X7_finds (g_l G) (g_D G) a Z K U R C (-1000000001) 0 (by omega) (by omega))  gX7_read_X7_finds rfl hyX7_finds rfl (by decide) (by decide) 0 rfl rfl rfl (Nat.le_of_ble_eq_true rfl) ⟨Nat.zero_le _, Nat.zero_le _⟩ dX7_read_38 (fun w hw => ?_)
                    subst hw
                    exact r_iret hG hE dX7_read_41 (by unfold s_read onSheet; (try dsimp only); (repeat (first | rw [if_pos (by omega)] | rw [if_neg (by omega)])) <;> rfl) ⟨U, by unfold s_read onSheet; (try dsimp only); (repeat (first | rw [if_pos (by omega)] | rw [if_neg (by omega)])) <;> rfl⟩)
           · try simp only [decide_eq_true_eq, decide_eq_false_iff_not] at c18
             refine r_ldc (n := -1000000001) hG (List.mem_of_getElem? (i := 1) rfl) rfl dX7_read_21 ?_
             refine r_goto (tgt := 28) hG dX7_read_23 (by decide) ?_
             refine r_istore hG dX7_read_28 (by decide) rfl ?_
             refine r_iload hG dX7_read_30 rfl ?_
             refine r_if_eq (tgt := 42) hG (by omega) dX7_read_32 (by decide) (fun c32 => ?_) (fun c32 => ?_)
             · first
                 | (exfalso; omega)
                 | (skip)
             · first
                 | (exfalso; omega)
                 | (refine r_aload_n (i := 0) hG dX7_read_35 rfl rfl ?_
                    refine r_iload hG dX7_read_36 rfl ?_
                    refine r_callVi hG (c_X7_finds (g_l G) (g_D G) a Z K U R C (-1000000001) 0 (by omega) (by omega))  gX7_read_X7_finds rfl hyX7_finds rfl (by decide) (by decide) 0 rfl rfl rfl (Nat.le_of_ble_eq_true rfl) ⟨Nat.zero_le _, Nat.zero_le _⟩ dX7_read_38 (fun w hw => ?_)
                    subst hw
                    exact r_iret hG hE dX7_read_41 (by unfold s_read onSheet; (try dsimp only); (repeat (first | rw [if_pos (by omega)] | rw [if_neg (by omega)])) <;> rfl) ⟨U, by unfold s_read onSheet; (try dsimp only); (repeat (first | rw [if_pos (by omega)] | rw [if_neg (by omega)])) <;> rfl⟩))
