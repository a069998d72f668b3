theorem hyX7_isSheet : hyS yX7_isSheet 1 := by decide +kernel
set_option maxHeartbeats 4000000 in
set_option maxRecDepth 100000 in
theorem c_X7_isSheet (l : Launch) (D : va_G) (s : Int) (hs : -2147483648 ≤ s ∧ s < 2147483648) : Con l yX7_isSheet wsX7_isSheet 1 D [] [.int (iI s)] (some (.int (iI (b2 (decide (0 ≤ s ∧ s ≤ 3)))))) (fun w => w = []) := by
  refine con_start (own := RX7) (by decide) rfl rfl (Nat.le_of_ble_eq_true rfl) ?_
  intro G hG hE hl hD
  subst hl
  subst hD
  refine r_iload_n (i := 0) hG dX7_isSheet_0 rfl rfl ?_
  refine r_i2l hG dX7_isSheet_1 ?_
  refine r_iconst hG dX7_isSheet_2 ?_
  refine r_iconst hG dX7_isSheet_3 ?_
  refine r_call0i hG (c_X7_inI (g_l G) (g_D G) _ _ _ (by omega) (by omega) (by omega))  gX7_isSheet_X7_in rfl hyX7_in rfl (by decide) (by decide) rfl (Nat.le_of_ble_eq_true rfl) ⟨Nat.zero_le _, Nat.zero_le _⟩ dX7_isSheet_4 ?_
  exact r_zret hG hE dX7_isSheet_7 rfl rfl
theorem hyX7_cutTo : hyS yX7_cutTo 2 := by decide +kernel
set_option maxHeartbeats 4000000 in
set_option maxRecDepth 100000 in
theorem c_X7_cutTo (l : Launch) (D : va_G) (bi : Int) (v : Int64) (hb : 0 ≤ bi ∧ bi ≤ 64) : Con l yX7_cutTo wsX7_cutTo 0 D [] [.int (iI bi), .long v] (some (.long (cutL bi v))) (fun w => w = []) := by
  refine con_start (own := RX7) (by decide) rfl rfl (Nat.le_of_ble_eq_true rfl) ?_
  intro G hG hE hl hD
  subst hl
  subst hD
  refine r_iload_n (i := 0) hG dX7_cutTo_0 rfl rfl ?_
  refine r_bipush hG dX7_cutTo_1 rfl ?_
  refine r_icmp_ne (tgt := 13) hG (by omega) (by omega) dX7_cutTo_3 (by decide) (fun c3 => ?_) (fun c3 => ?_)
  · refine r_iload_n (i := 0) hG dX7_cutTo_13 rfl rfl ?_
    refine r_bipush hG dX7_cutTo_14 rfl ?_
    refine r_icmp_ne (tgt := 26) hG (by omega) (by omega) dX7_cutTo_16 (by decide) (fun c16 => ?_) (fun c16 => ?_)
    · refine r_lload_n (i := 1) hG dX7_cutTo_26 rfl rfl ?_
      exact r_lret hG hE dX7_cutTo_27 (by unfold cutL; first | rw [if_pos (by omega)] | rw [if_neg (by omega), if_pos (by omega)] | rw [if_neg (by omega), if_neg (by omega)]) rfl
    · refine r_lload_n (i := 1) hG dX7_cutTo_19 rfl rfl ?_
      refine r_l2i hG dX7_cutTo_20 ?_
      refine r_i2s hG dX7_cutTo_21 ?_
      refine r_i2l hG dX7_cutTo_22 ?_
      refine r_goto (tgt := 27) hG dX7_cutTo_23 (by decide) ?_
      exact r_lret hG hE dX7_cutTo_27 (by unfold cutL; first | rw [if_pos (by omega)] | rw [if_neg (by omega), if_pos (by omega)] | rw [if_neg (by omega), if_neg (by omega)]) rfl
  · refine r_lload_n (i := 1) hG dX7_cutTo_6 rfl rfl ?_
    refine r_l2i hG dX7_cutTo_7 ?_
    refine r_i2b hG dX7_cutTo_8 ?_
    refine r_i2l hG dX7_cutTo_9 ?_
    refine r_goto (tgt := 27) hG dX7_cutTo_10 (by decide) ?_
    exact r_lret hG hE dX7_cutTo_27 (by unfold cutL; first | rw [if_pos (by omega)] | rw [if_neg (by omega), if_pos (by omega)] | rw [if_neg (by omega), if_neg (by omega)]) rfl
theorem kX7_notThere_25 : Cond.fieldLink RX7 25 "BreakSwapsModel" "bitsOf" "[I" ∈ wsX7_notThere := List.mem_of_getElem? (i := 2) rfl
theorem cX7_notThere_X7 : ∀ w ∈ wsX70, w ∈ wsX7_notThere := fun _ h => List.mem_cons_of_mem _ (List.mem_append_right _ h)
theorem hyX7_notThere : hyV yX7_notThere RX7 1 := by decide +kernel
set_option maxHeartbeats 4000000 in
set_option maxRecDepth 100000 in
theorem c_X7_notThere (l : Launch) (D : va_G) (a : Nat → Nat) (Z K U R : YS) (C : Int → Int64) (hS : ∀ s, 0 ≤ s → s < 4 → (R 3 s = 0 ∨ R 3 s = 8 ∨ R 3 s = 16 ∨ R 3 s = 64) ∧ 0 ≤ R 4 s ∧ R 4 s ≤ 40) (s : Int) (hs : -2147483648 ≤ s ∧ s < 2147483648) : Con l yX7_notThere wsX7_notThere 2 D (mw D a Z K U R C) [.ref (a 0), .int (iI s)] (some (.int (iI (if 0 ≤ s ∧ s ≤ 3 then (if R 3 s = 0 then -1000000006 else 0) else -1000000001)))) (fun w => w = mw D a Z K U R C) := by
  refine con_start (own := RX7) (by decide) rfl rfl (Nat.le_of_ble_eq_true rfl) ?_
  intro G hG hE hl hD
  subst hl
  subst hD
  have hs3 : 0 ≤ s ∧ s ≤ 3 → _ := fun h => hS s h.1 (by omega)
  refine r_iload_n (i := 1) hG dX7_notThere_0 rfl rfl ?_
  refine r_call0i hG (c_X7_isSheet (g_l G) (g_D G) _ (by omega))  gX7_notThere_X7_isSheet rfl hyX7_isSheet rfl (by decide) (by decide) rfl (Nat.le_of_ble_eq_true rfl) ⟨Nat.zero_le _, Nat.zero_le _⟩ dX7_notThere_1 ?_
  refine rb_if_ne (tgt := 12) hG dX7_notThere_4 (by decide) (fun c4 => ?_) (fun c4 => ?_)
  · try simp only [decide_eq_true_eq, decide_eq_false_iff_not] at c4
    refine r_aload_n (i := 0) hG dX7_notThere_12 rfl rfl ?_
    refine r_get hG cX7_notThere_X7 0 12 rfl rfl (by decide) kX7_notThere_25 rfl dX7_notThere_13 ?_
    refine r_iload_n (i := 1) hG dX7_notThere_16 rfl rfl ?_
    refine r_iald hG 6 rfl (by omega) (by decide) dX7_notThere_17 ?_
    refine r_if_ne (tgt := 26) hG (by have := hs3 (by omega); omega) dX7_notThere_18 (by decide) (fun c18 => ?_) (fun c18 => ?_)
    · refine r_iconst hG dX7_notThere_26 ?_
      exact r_iret hG hE dX7_notThere_27 (by congr 1; (repeat (first | rw [if_pos (by omega)] | rw [if_neg (by omega)]))) rfl
    · refine r_ldc (n := -1000000006) hG (List.mem_of_getElem? (i := 3) rfl) rfl dX7_notThere_21 ?_
      refine r_goto (tgt := 27) hG dX7_notThere_23 (by decide) ?_
      exact r_iret hG hE dX7_notThere_27 (by congr 1; (repeat (first | rw [if_pos (by omega)] | rw [if_neg (by omega)]))) rfl
  · try simp only [decide_eq_true_eq, decide_eq_false_iff_not] at c4
    refine r_ldc (n := -1000000001) hG (List.mem_of_getElem? (i := 1) rfl) rfl dX7_notThere_7 ?_
    refine r_goto (tgt := 27) hG dX7_notThere_9 (by decide) ?_
    exact r_iret hG hE dX7_notThere_27 (by congr 1; (repeat (first | rw [if_pos (by omega)] | rw [if_neg (by omega)]))) rfl
theorem kX7_sheet_25 : Cond.fieldLink RX7 25 "BreakSwapsModel" "bitsOf" "[I" ∈ wsX7_sheet := List.mem_of_getElem? (i := 3) rfl
theorem kX7_sheet_28 : Cond.fieldLink RX7 28 "BreakSwapsModel" "sizeOf" "[I" ∈ wsX7_sheet := List.mem_of_getElem? (i := 4) rfl
theorem kX7_sheet_31 : Cond.fieldLink RX7 31 "BreakSwapsModel" "cells" "[J" ∈ wsX7_sheet := List.mem_of_getElem? (i := 5) rfl
theorem cX7_sheet_X7 : ∀ w ∈ wsX70, w ∈ wsX7_sheet := fun _ h => List.mem_cons_of_mem _ (List.mem_append_right _ h)
theorem hyX7_sheet : hyV yX7_sheet RX7 3 := by decide +kernel
set_option maxHeartbeats 4000000 in
set_option maxRecDepth 100000 in
theorem c_X7_sheet (l : Launch) (D : va_G) (a : Nat → Nat) (Z K U R : YS) (C : Int → Int64) (hT : TI (Z, K, R, C)) (s b n : Int) (hs : -2147483648 ≤ s ∧ s < 2147483648) (hb : -2147483648 ≤ b ∧ b < 2147483648) (hn : -2147483648 ≤ n ∧ n < 2147483648) : Con l yX7_sheet wsX7_sheet 2 D (mw D a Z K U R C) [.ref (a 0), .int (iI s), .int (iI b), .int (iI n)] (some (.int (iI ((s_sheet (Z, K, R, C) s b n).1)))) (fun ww => ∃ U2, ww = mwT D a (s_sheet (Z, K, R, C) s b n).2 U2) := by
  refine con_start (own := RX7) (by decide) rfl rfl (Nat.le_of_ble_eq_true rfl) ?_
  intro G hG hE hl hD
  subst hl
  subst hD
  have hI : Inv Z := hT.1.1
  have hN := hI.1
  have hr0 := hI.2.1
  have hu5 := hI.2.2.1
  have hrd : Z 5 0 ≤ 99999 := hT.1.2.2
  have hS : ∀ s, 0 ≤ s → s < 4 → (R 3 s = 0 ∨ R 3 s = 8 ∨ R 3 s = 16 ∨ R 3 s = 64) ∧ 0 ≤ R 4 s ∧ R 4 s ≤ 40 := hT.2.2.2
  have hs3 : 0 ≤ s ∧ s ≤ 3 → _ := fun h => hS s h.1 (by omega)
  have L : (0 ≤ s ∧ s ≤ 3) → (b = 0 ∨ b = 8 ∨ b = 16 ∨ b = 64) → (0 ≤ n ∧ n ≤ 40) → ∀ sz : Int, (if b = 0 then 0 else n) = sz → ∀ i : Nat, i ≤ 40 → V G 0 0 (mw (g_D G) a Z K U (upY (upY R 3 s b) 4 s sz) (fun j => if 40 * s ≤ j ∧ j < 40 * s + (i : Int) then 0 else C j)) 85 [(0, .ref (a 0)), (1, .int (iI s)), (4, .int (iI (i : Int)))] [] := by
    intro h1 h2 h3 sz hsz
    have e0 : s_sheet (Z, K, R, C) s b n = (sz, (Z, K, upY (upY R 3 s b) 4 s sz, zeroC C s)) := by
      unfold s_sheet; (try dsimp only); rw [if_pos (by omega), if_neg (by omega), if_neg (by omega), hsz]
    refine down (fun i hi ih => ?_)
    refine r_iload hG dX7_sheet_85 rfl ?_
    refine r_bipush hG dX7_sheet_87 rfl ?_
    refine r_icmp_ge (tgt := 111) hG (by omega) (by omega) dX7_sheet_89 (by decide) (fun c89 => ?_) (fun c89 => ?_)
    · refine V_la (g := zeroC C s) 8 rfl (fun j h0 h1 => by
        unfold zeroC
        by_cases e2 : 40 * s ≤ j ∧ j < 40 * s + (i : Int)
        · rw [if_pos e2, if_pos (by omega)]
        · rw [if_neg e2, if_neg (by omega)]) rfl ?_
      refine r_aload_n (i := 0) hG dX7_sheet_111 rfl rfl ?_
      refine r_get hG cX7_sheet_X7 0 13 rfl rfl (by decide) kX7_sheet_28 rfl dX7_sheet_112 ?_
      refine r_iload_n (i := 1) hG dX7_sheet_115 rfl rfl ?_
      refine r_iald hG 7 rfl (by omega) (by decide) dX7_sheet_116 ?_
      exact r_iret hG hE dX7_sheet_117 (by rw [e0]; exact congrArg iI (if_pos rfl)) ⟨U, by rw [e0]; rfl⟩
    · refine r_aload_n (i := 0) hG dX7_sheet_92 rfl rfl ?_
      refine r_get hG cX7_sheet_X7 0 14 rfl rfl (by decide) kX7_sheet_31 rfl dX7_sheet_93 ?_
      refine r_bipush hG dX7_sheet_96 rfl ?_
      refine r_iload_n (i := 1) hG dX7_sheet_98 rfl rfl ?_
      refine r_imul hG dX7_sheet_99 ?_
      refine r_iload hG dX7_sheet_100 rfl ?_
      refine r_iadd hG dX7_sheet_102 ?_
      refine r_lconst (v := 0) hG dX7_sheet_103 rfl ?_
      refine r_last hG 8 rfl (by omega) (by decide) dX7_sheet_104 rfl ?_
      refine V_la (g := fun j => if 40 * s ≤ j ∧ j < 40 * s + ((i + 1 : Nat) : Int) then 0 else C j) 8 rfl (fun j h0 h1 => by
        unfold up1
        by_cases e : j = 40 * s + (i : Int)
        · rw [if_pos e, if_pos (by omega)]
        · rw [if_neg e]
          dsimp only
          by_cases e2 : 40 * s ≤ j ∧ j < 40 * s + (i : Int)
          · rw [if_pos e2, if_pos (by omega)]
          · rw [if_neg e2, if_neg (by omega)]) rfl ?_
      refine r_iinc hG dX7_sheet_105 rfl (by decide) rfl ?_
      refine r_goto (tgt := 85) hG dX7_sheet_108 (by decide) ?_
      exact V_lv (ih (by omega)) ⟨rfl, rfl, rfl, trivial⟩
  refine r_iload_n (i := 1) hG dX7_sheet_0 rfl rfl ?_
  refine r_call0i hG (c_X7_isSheet (g_l G) (g_D G) _ (by omega))  gX7_sheet_X7_isSheet rfl hyX7_isSheet rfl (by decide) (by decide) rfl (Nat.le_of_ble_eq_true rfl) ⟨Nat.zero_le _, Nat.zero_le _⟩ dX7_sheet_1 ?_
  refine rb_if_eq (tgt := 29) hG dX7_sheet_4 (by decide) (fun c4 => ?_) (fun c4 => ?_)
  · try simp only [decide_eq_true_eq, decide_eq_false_iff_not] at c4
    refine r_aload_n (i := 0) hG dX7_sheet_29 rfl rfl ?_
    refine r_ldc (n := -1000000001) hG (List.mem_of_getElem? (i := 1) rfl) rfl dX7_sheet_30 ?_
    refine r_callVi hG (c_X7_finds (g_l G) (g_D G) a Z K U R C (-1000000001) 0 (by omega) (by omega))  gX7_sheet_X7_finds rfl hyX7_finds rfl (by decide) (by decide) 0 rfl rfl rfl (Nat.le_of_ble_eq_true rfl) ⟨Nat.zero_le _, Nat.zero_le _⟩ dX7_sheet_32 (fun w hw => ?_)
    subst hw
    exact r_iret hG hE dX7_sheet_35 (by unfold s_sheet; (try dsimp only); (repeat (first | rw [if_pos (by omega)] | rw [if_neg (by omega)])) <;> (first | rfl | skip)) ⟨U, (by unfold s_sheet; (try dsimp only); (repeat (first | rw [if_pos (by omega)] | rw [if_neg (by omega)])) <;> (first | rfl | skip))⟩
  · try simp only [decide_eq_true_eq, decide_eq_false_iff_not] at c4
    refine r_iload_n (i := 2) hG dX7_sheet_7 rfl rfl ?_
    refine r_if_eq (tgt := 36) hG (by omega) dX7_sheet_8 (by decide) (fun c8 => ?_) (fun c8 => ?_)
    · refine r_iload_n (i := 3) hG dX7_sheet_36 rfl rfl ?_
      refine r_if_ge (tgt := 47) hG (by omega) dX7_sheet_37 (by decide) (fun c37 => ?_) (fun c37 => ?_)
      · refine r_iload_n (i := 3) hG dX7_sheet_47 rfl rfl ?_
        refine r_bipush hG dX7_sheet_48 rfl ?_
        refine r_icmp_le (tgt := 60) hG (by omega) (by omega) dX7_sheet_50 (by decide) (fun c50 => ?_) (fun c50 => ?_)
        · refine r_aload_n (i := 0) hG dX7_sheet_60 rfl rfl ?_
          refine r_get hG cX7_sheet_X7 0 12 rfl rfl (by decide) kX7_sheet_25 rfl dX7_sheet_61 ?_
          refine r_iload_n (i := 1) hG dX7_sheet_64 rfl rfl ?_
          refine r_iload_n (i := 2) hG dX7_sheet_65 rfl rfl ?_
          refine r_iast hG 6 rfl (by omega) (by decide) dX7_sheet_66 rfl ?_
          refine r_aload_n (i := 0) hG dX7_sheet_67 rfl rfl ?_
          refine r_get hG cX7_sheet_X7 0 13 rfl rfl (by decide) kX7_sheet_28 rfl dX7_sheet_68 ?_
          refine r_iload_n (i := 1) hG dX7_sheet_71 rfl rfl ?_
          refine r_iload_n (i := 2) hG dX7_sheet_72 rfl rfl ?_
          refine r_if_ne (tgt := 80) hG (by omega) dX7_sheet_73 (by decide) (fun c73 => ?_) (fun c73 => ?_)
          · refine r_iload_n (i := 3) hG dX7_sheet_80 rfl rfl ?_
            refine r_iast hG 7 rfl (by omega) (by decide) dX7_sheet_81 rfl ?_
            refine r_iconst hG dX7_sheet_82 ?_
            refine r_istore hG dX7_sheet_83 (by decide) rfl ?_
            first
              | exact V_ws (ws' := mw (g_D G) a Z K U (upY (upY R 3 s b) 4 s 0) C) rfl (V_la (g := fun j => if 40 * s ≤ j ∧ j < 40 * s + ((0 : Nat) : Int) then 0 else C j) 8 rfl (fun j h0 h1 => by rw [if_neg (by omega)]) rfl (V_lv (L (by omega) (by omega) (by omega) 0 (by first | rw [if_pos c73] | rw [if_neg c73]) 0 (by omega)) ⟨rfl, rfl, rfl, trivial⟩))
              | exact V_ws (ws' := mw (g_D G) a Z K U (upY (upY R 3 s b) 4 s n) C) rfl (V_la (g := fun j => if 40 * s ≤ j ∧ j < 40 * s + ((0 : Nat) : Int) then 0 else C j) 8 rfl (fun j h0 h1 => by rw [if_neg (by omega)]) rfl (V_lv (L (by omega) (by omega) (by omega) n (by first | rw [if_pos c73] | rw [if_neg c73]) 0 (by omega)) ⟨rfl, rfl, rfl, trivial⟩))
          · refine r_iconst hG dX7_sheet_76 ?_
            refine r_goto (tgt := 81) hG dX7_sheet_77 (by decide) ?_
            refine r_iast hG 7 rfl (by omega) (by decide) dX7_sheet_81 rfl ?_
            refine r_iconst hG dX7_sheet_82 ?_
            refine r_istore hG dX7_sheet_83 (by decide) rfl ?_
            first
              | exact V_ws (ws' := mw (g_D G) a Z K U (upY (upY R 3 s b) 4 s 0) C) rfl (V_la (g := fun j => if 40 * s ≤ j ∧ j < 40 * s + ((0 : Nat) : Int) then 0 else C j) 8 rfl (fun j h0 h1 => by rw [if_neg (by omega)]) rfl (V_lv (L (by omega) (by omega) (by omega) 0 (by first | rw [if_pos c73] | rw [if_neg c73]) 0 (by omega)) ⟨rfl, rfl, rfl, trivial⟩))
              | exact V_ws (ws' := mw (g_D G) a Z K U (upY (upY R 3 s b) 4 s n) C) rfl (V_la (g := fun j => if 40 * s ≤ j ∧ j < 40 * s + ((0 : Nat) : Int) then 0 else C j) 8 rfl (fun j h0 h1 => by rw [if_neg (by omega)]) rfl (V_lv (L (by omega) (by omega) (by omega) n (by first | rw [if_pos c73] | rw [if_neg c73]) 0 (by omega)) ⟨rfl, rfl, rfl, trivial⟩))
        · refine r_aload_n (i := 0) hG dX7_sheet_53 rfl rfl ?_
          refine r_ldc (n := -1000000001) hG (List.mem_of_getElem? (i := 1) rfl) rfl dX7_sheet_54 ?_
          refine r_callVi hG (c_X7_finds (g_l G) (g_D G) a Z K U R C (-1000000001) 0 (by omega) (by omega))  gX7_sheet_X7_finds rfl hyX7_finds rfl (by decide) (by decide) 0 rfl rfl rfl (Nat.le_of_ble_eq_true rfl) ⟨Nat.zero_le _, Nat.zero_le _⟩ dX7_sheet_56 (fun w hw => ?_)
          subst hw
          exact r_iret hG hE dX7_sheet_59 (by unfold s_sheet; (try dsimp only); (repeat (first | rw [if_pos (by omega)] | rw [if_neg (by omega)])) <;> (first | rfl | skip)) ⟨U, (by unfold s_sheet; (try dsimp only); (repeat (first | rw [if_pos (by omega)] | rw [if_neg (by omega)])) <;> (first | rfl | skip))⟩
      · refine r_aload_n (i := 0) hG dX7_sheet_40 rfl rfl ?_
        refine r_ldc (n := -1000000007) hG (List.mem_of_getElem? (i := 2) rfl) rfl dX7_sheet_41 ?_
        refine r_callVi hG (c_X7_finds (g_l G) (g_D G) a Z K U R C (-1000000007) 6 (by omega) (by omega))  gX7_sheet_X7_finds rfl hyX7_finds rfl (by decide) (by decide) 0 rfl rfl rfl (Nat.le_of_ble_eq_true rfl) ⟨Nat.zero_le _, Nat.zero_le _⟩ dX7_sheet_43 (fun w hw => ?_)
        subst hw
        exact r_iret hG hE dX7_sheet_46 (by unfold s_sheet; (try dsimp only); (repeat (first | rw [if_pos (by omega)] | rw [if_neg (by omega)])) <;> (first | rfl | skip)) ⟨U, (by unfold s_sheet; (try dsimp only); (repeat (first | rw [if_pos (by omega)] | rw [if_neg (by omega)])) <;> (first | rfl | skip))⟩
    · refine r_iload_n (i := 2) hG dX7_sheet_11 rfl rfl ?_
      refine r_bipush hG dX7_sheet_12 rfl ?_
      refine r_icmp_eq (tgt := 36) hG (by omega) (by omega) dX7_sheet_14 (by decide) (fun c14 => ?_) (fun c14 => ?_)
      · refine r_iload_n (i := 3) hG dX7_sheet_36 rfl rfl ?_
        refine r_if_ge (tgt := 47) hG (by omega) dX7_sheet_37 (by decide) (fun c37 => ?_) (fun c37 => ?_)
        · refine r_iload_n (i := 3) hG dX7_sheet_47 rfl rfl ?_
          refine r_bipush hG dX7_sheet_48 rfl ?_
          refine r_icmp_le (tgt := 60) hG (by omega) (by omega) dX7_sheet_50 (by decide) (fun c50 => ?_) (fun c50 => ?_)
          · refine r_aload_n (i := 0) hG dX7_sheet_60 rfl rfl ?_
            refine r_get hG cX7_sheet_X7 0 12 rfl rfl (by decide) kX7_sheet_25 rfl dX7_sheet_61 ?_
            refine r_iload_n (i := 1) hG dX7_sheet_64 rfl rfl ?_
            refine r_iload_n (i := 2) hG dX7_sheet_65 rfl rfl ?_
            refine r_iast hG 6 rfl (by omega) (by decide) dX7_sheet_66 rfl ?_
            refine r_aload_n (i := 0) hG dX7_sheet_67 rfl rfl ?_
            refine r_get hG cX7_sheet_X7 0 13 rfl rfl (by decide) kX7_sheet_28 rfl dX7_sheet_68 ?_
            refine r_iload_n (i := 1) hG dX7_sheet_71 rfl rfl ?_
            refine r_iload_n (i := 2) hG dX7_sheet_72 rfl rfl ?_
            refine r_if_ne (tgt := 80) hG (by omega) dX7_sheet_73 (by decide) (fun c73 => ?_) (fun c73 => ?_)
            · refine r_iload_n (i := 3) hG dX7_sheet_80 rfl rfl ?_
              refine r_iast hG 7 rfl (by omega) (by decide) dX7_sheet_81 rfl ?_
              refine r_iconst hG dX7_sheet_82 ?_
              refine r_istore hG dX7_sheet_83 (by decide) rfl ?_
              first
                | exact V_ws (ws' := mw (g_D G) a Z K U (upY (upY R 3 s b) 4 s 0) C) rfl (V_la (g := fun j => if 40 * s ≤ j ∧ j < 40 * s + ((0 : Nat) : Int) then 0 else C j) 8 rfl (fun j h0 h1 => by rw [if_neg (by omega)]) rfl (V_lv (L (by omega) (by omega) (by omega) 0 (by first | rw [if_pos c73] | rw [if_neg c73]) 0 (by omega)) ⟨rfl, rfl, rfl, trivial⟩))
                | exact V_ws (ws' := mw (g_D G) a Z K U (upY (upY R 3 s b) 4 s n) C) rfl (V_la (g := fun j => if 40 * s ≤ j ∧ j < 40 * s + ((0 : Nat) : Int) then 0 else C j) 8 rfl (fun j h0 h1 => by rw [if_neg (by omega)]) rfl (V_lv (L (by omega) (by omega) (by omega) n (by first | rw [if_pos c73] | rw [if_neg c73]) 0 (by omega)) ⟨rfl, rfl, rfl, trivial⟩))
            · refine r_iconst hG dX7_sheet_76 ?_
              refine r_goto (tgt := 81) hG dX7_sheet_77 (by decide) ?_
              refine r_iast hG 7 rfl (by omega) (by decide) dX7_sheet_81 rfl ?_
              refine r_iconst hG dX7_sheet_82 ?_
              refine r_istore hG dX7_sheet_83 (by decide) rfl ?_
              first
                | exact V_ws (ws' := mw (g_D G) a Z K U (upY (upY R 3 s b) 4 s 0) C) rfl (V_la (g := fun j => if 40 * s ≤ j ∧ j < 40 * s + ((0 : Nat) : Int) then 0 else C j) 8 rfl (fun j h0 h1 => by rw [if_neg (by omega)]) rfl (V_lv (L (by omega) (by omega) (by omega) 0 (by first | rw [if_pos c73] | rw [if_neg c73]) 0 (by omega)) ⟨rfl, rfl, rfl, trivial⟩))
                | exact V_ws (ws' := mw (g_D G) a Z K U (upY (upY R 3 s b) 4 s n) C) rfl (V_la (g := fun j => if 40 * s ≤ j ∧ j < 40 * s + ((0 : Nat) : Int) then 0 else C j) 8 rfl (fun j h0 h1 => by rw [if_neg (by omega)]) rfl (V_lv (L (by omega) (by omega) (by omega) n (by first | rw [if_pos c73] | rw [if_neg c73]) 0 (by omega)) ⟨rfl, rfl, rfl, trivial⟩))
          · refine r_aload_n (i := 0) hG dX7_sheet_53 rfl rfl ?_
            refine r_ldc (n := -1000000001) hG (List.mem_of_getElem? (i := 1) rfl) rfl dX7_sheet_54 ?_
            refine r_callVi hG (c_X7_finds (g_l G) (g_D G) a Z K U R C (-1000000001) 0 (by omega) (by omega))  gX7_sheet_X7_finds rfl hyX7_finds rfl (by decide) (by decide) 0 rfl rfl rfl (Nat.le_of_ble_eq_true rfl) ⟨Nat.zero_le _, Nat.zero_le _⟩ dX7_sheet_56 (fun w hw => ?_)
            subst hw
            exact r_iret hG hE dX7_sheet_59 (by unfold s_sheet; (try dsimp only); (repeat (first | rw [if_pos (by omega)] | rw [if_neg (by omega)])) <;> (first | rfl | skip)) ⟨U, (by unfold s_sheet; (try dsimp only); (repeat (first | rw [if_pos (by omega)] | rw [if_neg (by omega)])) <;> (first | rfl | skip))⟩
        · refine r_aload_n (i := 0) hG dX7_sheet_40 rfl rfl ?_
          refine r_ldc (n := -1000000007) hG (List.mem_of_getElem? (i := 2) rfl) rfl dX7_sheet_41 ?_
          refine r_callVi hG (c_X7_finds (g_l G) (g_D G) a Z K U R C (-1000000007) 6 (by omega) (by omega))  gX7_sheet_X7_finds rfl hyX7_finds rfl (by decide) (by decide) 0 rfl rfl rfl (Nat.le_of_ble_eq_true rfl) ⟨Nat.zero_le _, Nat.zero_le _⟩ dX7_sheet_43 (fun w hw => ?_)
          subst hw
          exact r_iret hG hE dX7_sheet_46 (by unfold s_sheet; (try dsimp only); (repeat (first | rw [if_pos (by omega)] | rw [if_neg (by omega)])) <;> (first | rfl | skip)) ⟨U, (by unfold s_sheet; (try dsimp only); (repeat (first | rw [if_pos (by omega)] | rw [if_neg (by omega)])) <;> (first | rfl | skip))⟩
      · refine r_iload_n (i := 2) hG dX7_sheet_17 rfl rfl ?_
        refine r_bipush hG dX7_sheet_18 rfl ?_
        refine r_icmp_eq (tgt := 36) hG (by omega) (by omega) dX7_sheet_20 (by decide) (fun c20 => ?_) (fun c20 => ?_)
        · refine r_iload_n (i := 3) hG dX7_sheet_36 rfl rfl ?_
          refine r_if_ge (tgt := 47) hG (by omega) dX7_sheet_37 (by decide) (fun c37 => ?_) (fun c37 => ?_)
          · refine r_iload_n (i := 3) hG dX7_sheet_47 rfl rfl ?_
            refine r_bipush hG dX7_sheet_48 rfl ?_
            refine r_icmp_le (tgt := 60) hG (by omega) (by omega) dX7_sheet_50 (by decide) (fun c50 => ?_) (fun c50 => ?_)
            · refine r_aload_n (i := 0) hG dX7_sheet_60 rfl rfl ?_
              refine r_get hG cX7_sheet_X7 0 12 rfl rfl (by decide) kX7_sheet_25 rfl dX7_sheet_61 ?_
              refine r_iload_n (i := 1) hG dX7_sheet_64 rfl rfl ?_
              refine r_iload_n (i := 2) hG dX7_sheet_65 rfl rfl ?_
              refine r_iast hG 6 rfl (by omega) (by decide) dX7_sheet_66 rfl ?_
              refine r_aload_n (i := 0) hG dX7_sheet_67 rfl rfl ?_
              refine r_get hG cX7_sheet_X7 0 13 rfl rfl (by decide) kX7_sheet_28 rfl dX7_sheet_68 ?_
              refine r_iload_n (i := 1) hG dX7_sheet_71 rfl rfl ?_
              refine r_iload_n (i := 2) hG dX7_sheet_72 rfl rfl ?_
              refine r_if_ne (tgt := 80) hG (by omega) dX7_sheet_73 (by decide) (fun c73 => ?_) (fun c73 => ?_)
              · refine r_iload_n (i := 3) hG dX7_sheet_80 rfl rfl ?_
                refine r_iast hG 7 rfl (by omega) (by decide) dX7_sheet_81 rfl ?_
                refine r_iconst hG dX7_sheet_82 ?_
                refine r_istore hG dX7_sheet_83 (by decide) rfl ?_
                first
                  | exact V_ws (ws' := mw (g_D G) a Z K U (upY (upY R 3 s b) 4 s 0) C) rfl (V_la (g := fun j => if 40 * s ≤ j ∧ j < 40 * s + ((0 : Nat) : Int) then 0 else C j) 8 rfl (fun j h0 h1 => by rw [if_neg (by omega)]) rfl (V_lv (L (by omega) (by omega) (by omega) 0 (by first | rw [if_pos c73] | rw [if_neg c73]) 0 (by omega)) ⟨rfl, rfl, rfl, trivial⟩))
                  | exact V_ws (ws' := mw (g_D G) a Z K U (upY (upY R 3 s b) 4 s n) C) rfl (V_la (g := fun j => if 40 * s ≤ j ∧ j < 40 * s + ((0 : Nat) : Int) then 0 else C j) 8 rfl (fun j h0 h1 => by rw [if_neg (by omega)]) rfl (V_lv (L (by omega) (by omega) (by omega) n (by first | rw [if_pos c73] | rw [if_neg c73]) 0 (by omega)) ⟨rfl, rfl, rfl, trivial⟩))
              · refine r_iconst hG dX7_sheet_76 ?_
                refine r_goto (tgt := 81) hG dX7_sheet_77 (by decide) ?_
                refine r_iast hG 7 rfl (by omega) (by decide) dX7_sheet_81 rfl ?_
                refine r_iconst hG dX7_sheet_82 ?_
                refine r_istore hG dX7_sheet_83 (by decide) rfl ?_
                first
                  | exact V_ws (ws' := mw (g_D G) a Z K U (upY (upY R 3 s b) 4 s 0) C) rfl (V_la (g := fun j => if 40 * s ≤ j ∧ j < 40 * s + ((0 : Nat) : Int) then 0 else C j) 8 rfl (fun j h0 h1 => by rw [if_neg (by omega)]) rfl (V_lv (L (by omega) (by omega) (by omega) 0 (by first | rw [if_pos c73] | rw [if_neg c73]) 0 (by omega)) ⟨rfl, rfl, rfl, trivial⟩))
                  | exact V_ws (ws' := mw (g_D G) a Z K U (upY (upY R 3 s b) 4 s n) C) rfl (V_la (g := fun j => if 40 * s ≤ j ∧ j < 40 * s + ((0 : Nat) : Int) then 0 else C j) 8 rfl (fun j h0 h1 => by rw [if_neg (by omega)]) rfl (V_lv (L (by omega) (by omega) (by omega) n (by first | rw [if_pos c73] | rw [if_neg c73]) 0 (by omega)) ⟨rfl, rfl, rfl, trivial⟩))
            · refine r_aload_n (i := 0) hG dX7_sheet_53 rfl rfl ?_
              refine r_ldc (n := -1000000001) hG (List.mem_of_getElem? (i := 1) rfl) rfl dX7_sheet_54 ?_
              refine r_callVi hG (c_X7_finds (g_l G) (g_D G) a Z K U R C (-1000000001) 0 (by omega) (by omega))  gX7_sheet_X7_finds rfl hyX7_finds rfl (by decide) (by decide) 0 rfl rfl rfl (Nat.le_of_ble_eq_true rfl) ⟨Nat.zero_le _, Nat.zero_le _⟩ dX7_sheet_56 (fun w hw => ?_)
              subst hw
              exact r_iret hG hE dX7_sheet_59 (by unfold s_sheet; (try dsimp only); (repeat (first | rw [if_pos (by omega)] | rw [if_neg (by omega)])) <;> (first | rfl | skip)) ⟨U, (by unfold s_sheet; (try dsimp only); (repeat (first | rw [if_pos (by omega)] | rw [if_neg (by omega)])) <;> (first | rfl | skip))⟩
          · refine r_aload_n (i := 0) hG dX7_sheet_40 rfl rfl ?_
            refine r_ldc (n := -1000000007) hG (List.mem_of_getElem? (i := 2) rfl) rfl dX7_sheet_41 ?_
            refine r_callVi hG (c_X7_finds (g_l G) (g_D G) a Z K U R C (-1000000007) 6 (by omega) (by omega))  gX7_sheet_X7_finds rfl hyX7_finds rfl (by decide) (by decide) 0 rfl rfl rfl (Nat.le_of_ble_eq_true rfl) ⟨Nat.zero_le _, Nat.zero_le _⟩ dX7_sheet_43 (fun w hw => ?_)
            subst hw
            exact r_iret hG hE dX7_sheet_46 (by unfold s_sheet; (try dsimp only); (repeat (first | rw [if_pos (by omega)] | rw [if_neg (by omega)])) <;> (first | rfl | skip)) ⟨U, (by unfold s_sheet; (try dsimp only); (repeat (first | rw [if_pos (by omega)] | rw [if_neg (by omega)])) <;> (first | rfl | skip))⟩
        · refine r_iload_n (i := 2) hG dX7_sheet_23 rfl rfl ?_
          refine r_bipush hG dX7_sheet_24 rfl ?_
          refine r_icmp_eq (tgt := 36) hG (by omega) (by omega) dX7_sheet_26 (by decide) (fun c26 => ?_) (fun c26 => ?_)
          · refine r_iload_n (i := 3) hG dX7_sheet_36 rfl rfl ?_
            refine r_if_ge (tgt := 47) hG (by omega) dX7_sheet_37 (by decide) (fun c37 => ?_) (fun c37 => ?_)
            · refine r_iload_n (i := 3) hG dX7_sheet_47 rfl rfl ?_
              refine r_bipush hG dX7_sheet_48 rfl ?_
              refine r_icmp_le (tgt := 60) hG (by omega) (by omega) dX7_sheet_50 (by decide) (fun c50 => ?_) (fun c50 => ?_)
              · refine r_aload_n (i := 0) hG dX7_sheet_60 rfl rfl ?_
                refine r_get hG cX7_sheet_X7 0 12 rfl rfl (by decide) kX7_sheet_25 rfl dX7_sheet_61 ?_
                refine r_iload_n (i := 1) hG dX7_sheet_64 rfl rfl ?_
                refine r_iload_n (i := 2) hG dX7_sheet_65 rfl rfl ?_
                refine r_iast hG 6 rfl (by omega) (by decide) dX7_sheet_66 rfl ?_
                refine r_aload_n (i := 0) hG dX7_sheet_67 rfl rfl ?_
                refine r_get hG cX7_sheet_X7 0 13 rfl rfl (by decide) kX7_sheet_28 rfl dX7_sheet_68 ?_
                refine r_iload_n (i := 1) hG dX7_sheet_71 rfl rfl ?_
                refine r_iload_n (i := 2) hG dX7_sheet_72 rfl rfl ?_
                refine r_if_ne (tgt := 80) hG (by omega) dX7_sheet_73 (by decide) (fun c73 => ?_) (fun c73 => ?_)
                · refine r_iload_n (i := 3) hG dX7_sheet_80 rfl rfl ?_
                  refine r_iast hG 7 rfl (by omega) (by decide) dX7_sheet_81 rfl ?_
                  refine r_iconst hG dX7_sheet_82 ?_
                  refine r_istore hG dX7_sheet_83 (by decide) rfl ?_
                  first
                    | exact V_ws (ws' := mw (g_D G) a Z K U (upY (upY R 3 s b) 4 s 0) C) rfl (V_la (g := fun j => if 40 * s ≤ j ∧ j < 40 * s + ((0 : Nat) : Int) then 0 else C j) 8 rfl (fun j h0 h1 => by rw [if_neg (by omega)]) rfl (V_lv (L (by omega) (by omega) (by omega) 0 (by first | rw [if_pos c73] | rw [if_neg c73]) 0 (by omega)) ⟨rfl, rfl, rfl, trivial⟩))
                    | exact V_ws (ws' := mw (g_D G) a Z K U (upY (upY R 3 s b) 4 s n) C) rfl (V_la (g := fun j => if 40 * s ≤ j ∧ j < 40 * s + ((0 : Nat) : Int) then 0 else C j) 8 rfl (fun j h0 h1 => by rw [if_neg (by omega)]) rfl (V_lv (L (by omega) (by omega) (by omega) n (by first | rw [if_pos c73] | rw [if_neg c73]) 0 (by omega)) ⟨rfl, rfl, rfl, trivial⟩))
                · refine r_iconst hG dX7_sheet_76 ?_
                  refine r_goto (tgt := 81) hG dX7_sheet_77 (by decide) ?_
                  refine r_iast hG 7 rfl (by omega) (by decide) dX7_sheet_81 rfl ?_
                  refine r_iconst hG dX7_sheet_82 ?_
                  refine r_istore hG dX7_sheet_83 (by decide) rfl ?_
                  first
                    | exact V_ws (ws' := mw (g_D G) a Z K U (upY (upY R 3 s b) 4 s 0) C) rfl (V_la (g := fun j => if 40 * s ≤ j ∧ j < 40 * s + ((0 : Nat) : Int) then 0 else C j) 8 rfl (fun j h0 h1 => by rw [if_neg (by omega)]) rfl (V_lv (L (by omega) (by omega) (by omega) 0 (by first | rw [if_pos c73] | rw [if_neg c73]) 0 (by omega)) ⟨rfl, rfl, rfl, trivial⟩))
                    | exact V_ws (ws' := mw (g_D G) a Z K U (upY (upY R 3 s b) 4 s n) C) rfl (V_la (g := fun j => if 40 * s ≤ j ∧ j < 40 * s + ((0 : Nat) : Int) then 0 else C j) 8 rfl (fun j h0 h1 => by rw [if_neg (by omega)]) rfl (V_lv (L (by omega) (by omega) (by omega) n (by first | rw [if_pos c73] | rw [if_neg c73]) 0 (by omega)) ⟨rfl, rfl, rfl, trivial⟩))
              · refine r_aload_n (i := 0) hG dX7_sheet_53 rfl rfl ?_
                refine r_ldc (n := -1000000001) hG (List.mem_of_getElem? (i := 1) rfl) rfl dX7_sheet_54 ?_
                refine r_callVi hG (c_X7_finds (g_l G) (g_D G) a Z K U R C (-1000000001) 0 (by omega) (by omega))  gX7_sheet_X7_finds rfl hyX7_finds rfl (by decide) (by decide) 0 rfl rfl rfl (Nat.le_of_ble_eq_true rfl) ⟨Nat.zero_le _, Nat.zero_le _⟩ dX7_sheet_56 (fun w hw => ?_)
                subst hw
                exact r_iret hG hE dX7_sheet_59 (by unfold s_sheet; (try dsimp only); (repeat (first | rw [if_pos (by omega)] | rw [if_neg (by omega)])) <;> (first | rfl | skip)) ⟨U, (by unfold s_sheet; (try dsimp only); (repeat (first | rw [if_pos (by omega)] | rw [if_neg (by omega)])) <;> (first | rfl | skip))⟩
            · refine r_aload_n (i := 0) hG dX7_sheet_40 rfl rfl ?_
              refine r_ldc (n := -1000000007) hG (List.mem_of_getElem? (i := 2) rfl) rfl dX7_sheet_41 ?_
              refine r_callVi hG (c_X7_finds (g_l G) (g_D G) a Z K U R C (-1000000007) 6 (by omega) (by omega))  gX7_sheet_X7_finds rfl hyX7_finds rfl (by decide) (by decide) 0 rfl rfl rfl (Nat.le_of_ble_eq_true rfl) ⟨Nat.zero_le _, Nat.zero_le _⟩ dX7_sheet_43 (fun w hw => ?_)
              subst hw
              exact r_iret hG hE dX7_sheet_46 (by unfold s_sheet; (try dsimp only); (repeat (first | rw [if_pos (by omega)] | rw [if_neg (by omega)])) <;> (first | rfl | skip)) ⟨U, (by unfold s_sheet; (try dsimp only); (repeat (first | rw [if_pos (by omega)] | rw [if_neg (by omega)])) <;> (first | rfl | skip))⟩
          · refine r_aload_n (i := 0) hG dX7_sheet_29 rfl rfl ?_
            refine r_ldc (n := -1000000001) hG (List.mem_of_getElem? (i := 1) rfl) rfl dX7_sheet_30 ?_
            refine r_callVi hG (c_X7_finds (g_l G) (g_D G) a Z K U R C (-1000000001) 0 (by omega) (by omega))  gX7_sheet_X7_finds rfl hyX7_finds rfl (by decide) (by decide) 0 rfl rfl rfl (Nat.le_of_ble_eq_true rfl) ⟨Nat.zero_le _, Nat.zero_le _⟩ dX7_sheet_32 (fun w hw => ?_)
            subst hw
            exact r_iret hG hE dX7_sheet_35 (by unfold s_sheet; (try dsimp only); (repeat (first | rw [if_pos (by omega)] | rw [if_neg (by omega)])) <;> (first | rfl | skip)) ⟨U, (by unfold s_sheet; (try dsimp only); (repeat (first | rw [if_pos (by omega)] | rw [if_neg (by omega)])) <;> (first | rfl | skip))⟩
theorem kX7_write_28 : Cond.fieldLink RX7 28 "BreakSwapsModel" "sizeOf" "[I" ∈ wsX7_write := List.mem_of_getElem? (i := 1) rfl
theorem kX7_write_31 : Cond.fieldLink RX7 31 "BreakSwapsModel" "cells" "[J" ∈ wsX7_write := List.mem_of_getElem? (i := 3) rfl
theorem kX7_write_25 : Cond.fieldLink RX7 25 "BreakSwapsModel" "bitsOf" "[I" ∈ wsX7_write := List.mem_of_getElem? (i := 4) rfl
theorem cX7_write_X7 : ∀ w ∈ wsX70, w ∈ wsX7_write := fun _ h => List.mem_cons_of_mem _ (List.mem_append_right _ h)
theorem hyX7_write : hyV yX7_write RX7 3 := by decide +kernel
set_option maxHeartbeats 4000000 in
set_option maxRecDepth 100000 in
theorem c_X7_write (l : Launch) (D : va_G) (a : Nat → Nat) (Z K U R : YS) (C : Int → Int64) (hT : TI (Z, K, R, C)) (s i : Int) (v : Int64) (hs : -2147483648 ≤ s ∧ s < 2147483648) (hi : -2147483648 ≤ i ∧ i < 2147483648) : Con l yX7_write wsX7_write 3 D (mw D a Z K U R C) [.ref (a 0), .int (iI s), .int (iI i), .long v] (some (.long (s_write (Z, K, R, C) s i v).1)) (fun ww => ∃ U2, ww = mwT D a (s_write (Z, K, R, C) s i v).2 U2) := by
  refine con_start (own := RX7) (by decide) rfl rfl (Nat.le_of_ble_eq_true rfl) ?_
  intro G hG hE hl hD
  subst hl
  subst hD
  have hS : ∀ s, 0 ≤ s → s < 4 → (R 3 s = 0 ∨ R 3 s = 8 ∨ R 3 s = 16 ∨ R 3 s = 64) ∧ 0 ≤ R 4 s ∧ R 4 s ≤ 40 := hT.2.2.2
  have hs3 : 0 ≤ s ∧ s ≤ 3 → _ := fun h => hS s h.1 (by omega)
  by_cases h1 : 0 ≤ s ∧ s ≤ 3
  · have hsz := hs3 h1
    by_cases h2 : R 3 s = 0
    · skip
      refine r_aload_n (i := 0) hG dX7_write_0 rfl rfl ?_
      refine r_iload_n (i := 1) hG dX7_write_1 rfl rfl ?_
      refine r_callVi hG (c_X7_notThere (g_l G) (g_D G) a Z K U R C hS s hs)  gX7_write_X7_notThere rfl hyX7_notThere rfl (by decide) (by decide) 0 rfl rfl rfl (Nat.le_of_ble_eq_true rfl) ⟨Nat.zero_le _, Nat.zero_le _⟩ dX7_write_2 (fun w hw => ?_)
      subst hw
      refine V_top (x' := iI (-1000000006)) (congrArg iI (by (repeat (first | rw [if_pos (by omega)] | rw [if_neg (by omega)])))) ?_
      refine r_istore hG dX7_write_5 (by decide) rfl ?_
      refine r_iload hG dX7_write_7 rfl ?_
      refine r_if_ne (tgt := 33) hG (by omega) dX7_write_9 (by decide) (fun c9 => ?_) (fun c9 => ?_)
      · refine r_iload hG dX7_write_33 rfl ?_
        refine r_if_eq (tgt := 46) hG (by omega) dX7_write_35 (by decide) (fun c35 => ?_) (fun c35 => ?_)
        · (exfalso; omega)
        · refine r_aload_n (i := 0) hG dX7_write_38 rfl rfl ?_
          refine r_iload hG dX7_write_39 rfl ?_
          refine r_callVi hG (c_X7_finds (g_l G) (g_D G) a Z K U R C (-1000000006) 5 (by omega) (by omega))  gX7_write_X7_finds rfl hyX7_finds rfl (by decide) (by decide) 0 rfl rfl rfl (Nat.le_of_ble_eq_true rfl) ⟨Nat.zero_le _, Nat.zero_le _⟩ dX7_write_41 (fun w hw => ?_)
          subst hw
          refine r_i2l hG dX7_write_44 ?_
          exact r_lret hG hE dX7_write_45 (by unfold s_write; (try dsimp only); rw [if_pos h1, if_pos h2]; rfl) ⟨U, by unfold s_write; (try dsimp only); rw [if_pos h1, if_pos h2]; rfl⟩
      · (exfalso; omega)
    · skip
      have J33b : ¬ (0 ≤ i ∧ i < R 4 s) → V G 0 0 (mw (g_D G) a Z K U R C) 33 [(0, .ref (a 0)), (5, .int (iI (-1000000001)))] [] := by
        intro h3
        refine r_iload hG dX7_write_33 rfl ?_
        refine r_if_eq (tgt := 46) hG (by omega) dX7_write_35 (by decide) (fun c35 => ?_) (fun c35 => ?_)
        · (exfalso; omega)
        · refine r_aload_n (i := 0) hG dX7_write_38 rfl rfl ?_
          refine r_iload hG dX7_write_39 rfl ?_
          refine r_callVi hG (c_X7_finds (g_l G) (g_D G) a Z K U R C (-1000000001) 0 (by omega) (by omega))  gX7_write_X7_finds rfl hyX7_finds rfl (by decide) (by decide) 0 rfl rfl rfl (Nat.le_of_ble_eq_true rfl) ⟨Nat.zero_le _, Nat.zero_le _⟩ dX7_write_41 (fun w hw => ?_)
          subst hw
          refine r_i2l hG dX7_write_44 ?_
          exact r_lret hG hE dX7_write_45 (by unfold s_write; (try dsimp only); rw [if_pos h1, if_neg h2, if_neg h3]; rfl) ⟨U, by unfold s_write; (try dsimp only); rw [if_pos h1, if_neg h2, if_neg h3]; rfl⟩
      have J33a : (0 ≤ i ∧ i < R 4 s) → V G 0 0 (mw (g_D G) a Z K U R C) 33 [(0, .ref (a 0)), (1, .int (iI s)), (2, .int (iI i)), (3, .long v), (5, .int (iI 0))] [] := by
        intro h3
        refine r_iload hG dX7_write_33 rfl ?_
        refine r_if_eq (tgt := 46) hG (by omega) dX7_write_35 (by decide) (fun c35 => ?_) (fun c35 => ?_)
        · refine r_aload_n (i := 0) hG dX7_write_46 rfl rfl ?_
          refine r_get hG cX7_write_X7 0 14 rfl rfl (by decide) kX7_write_31 rfl dX7_write_47 ?_
          refine r_bipush hG dX7_write_50 rfl ?_
          refine r_iload_n (i := 1) hG dX7_write_52 rfl rfl ?_
          refine r_imul hG dX7_write_53 ?_
          refine r_iload_n (i := 2) hG dX7_write_54 rfl rfl ?_
          refine r_iadd hG dX7_write_55 ?_
          refine r_lald hG 8 rfl (by omega) (by decide) dX7_write_56 ?_
          refine r_lstore hG dX7_write_57 (by decide) rfl ?_
          refine r_aload_n (i := 0) hG dX7_write_59 rfl rfl ?_
          refine r_get hG cX7_write_X7 0 14 rfl rfl (by decide) kX7_write_31 rfl dX7_write_60 ?_
          refine r_bipush hG dX7_write_63 rfl ?_
          refine r_iload_n (i := 1) hG dX7_write_65 rfl rfl ?_
          refine r_imul hG dX7_write_66 ?_
          refine r_iload_n (i := 2) hG dX7_write_67 rfl rfl ?_
          refine r_iadd hG dX7_write_68 ?_
          refine r_aload_n (i := 0) hG dX7_write_69 rfl rfl ?_
          refine r_get hG cX7_write_X7 0 12 rfl rfl (by decide) kX7_write_25 rfl dX7_write_70 ?_
          refine r_iload_n (i := 1) hG dX7_write_73 rfl rfl ?_
          refine r_iald hG 6 rfl (by omega) (by decide) dX7_write_74 ?_
          refine r_lload_n (i := 3) hG dX7_write_75 rfl rfl ?_
          refine r_call0i hG (c_X7_cutTo (g_l G) (g_D G) _ _ (by omega))  gX7_write_X7_cutTo rfl hyX7_cutTo rfl (by decide) (by decide) rfl (Nat.le_of_ble_eq_true rfl) ⟨Nat.zero_le _, Nat.zero_le _⟩ dX7_write_76 ?_
          refine r_last hG 8 rfl (by omega) (by decide) dX7_write_79 rfl ?_
          refine r_lload hG dX7_write_80 rfl ?_
          exact r_lret hG hE dX7_write_82 (by unfold s_write; (try dsimp only); rw [if_pos h1, if_neg h2, if_pos h3]) ⟨U, by unfold s_write; (try dsimp only); rw [if_pos h1, if_neg h2, if_pos h3]; rfl⟩
        · exact absurd rfl c35
      refine r_aload_n (i := 0) hG dX7_write_0 rfl rfl ?_
      refine r_iload_n (i := 1) hG dX7_write_1 rfl rfl ?_
      refine r_callVi hG (c_X7_notThere (g_l G) (g_D G) a Z K U R C hS s hs)  gX7_write_X7_notThere rfl hyX7_notThere rfl (by decide) (by decide) 0 rfl rfl rfl (Nat.le_of_ble_eq_true rfl) ⟨Nat.zero_le _, Nat.zero_le _⟩ dX7_write_2 (fun w hw => ?_)
      subst hw
      refine V_top (x' := iI (0)) (congrArg iI (by (repeat (first | rw [if_pos (by omega)] | rw [if_neg (by omega)])))) ?_
      refine r_istore hG dX7_write_5 (by decide) rfl ?_
      refine r_iload hG dX7_write_7 rfl ?_
      refine r_if_ne (tgt := 33) hG (by omega) dX7_write_9 (by decide) (fun c9 => ?_) (fun c9 => ?_)
      · first
          | (exfalso; omega)
          | exact V_lv (J33a (by omega)) ⟨rfl, rfl, rfl, rfl, rfl, trivial⟩
          | exact V_lv (J33b (by omega)) ⟨rfl, rfl, trivial⟩
      · refine r_iload_n (i := 2) hG dX7_write_12 rfl rfl ?_
        refine r_i2l hG dX7_write_13 ?_
        refine r_iconst hG dX7_write_14 ?_
        refine r_aload_n (i := 0) hG dX7_write_15 rfl rfl ?_
        refine r_get hG cX7_write_X7 0 13 rfl rfl (by decide) kX7_write_28 rfl dX7_write_16 ?_
        refine r_iload_n (i := 1) hG dX7_write_19 rfl rfl ?_
        refine r_iald hG 7 rfl (by omega) (by decide) dX7_write_20 ?_
        refine r_iconst hG dX7_write_21 ?_
        refine r_isub hG dX7_write_22 ?_
        refine r_call0i hG (c_X7_inI (g_l G) (g_D G) _ _ _ (by omega) (by omega) (by omega))  gX7_write_X7_in rfl hyX7_in rfl (by decide) (by decide) rfl (Nat.le_of_ble_eq_true rfl) ⟨Nat.zero_le _, Nat.zero_le _⟩ dX7_write_23 ?_
        refine rb_if_ne (tgt := 33) hG dX7_write_26 (by decide) (fun c26 => ?_) (fun c26 => ?_)
        · try simp only [decide_eq_true_eq, decide_eq_false_iff_not] at c26
          first
            | (exfalso; omega)
            | exact V_lv (J33a (by omega)) ⟨rfl, rfl, rfl, rfl, rfl, trivial⟩
            | exact V_lv (J33b (by omega)) ⟨rfl, rfl, trivial⟩
        · try simp only [decide_eq_true_eq, decide_eq_false_iff_not] at c26
          refine r_ldc (n := -1000000001) hG (List.mem_of_getElem? (i := 2) rfl) rfl dX7_write_29 ?_
          refine r_istore hG dX7_write_31 (by decide) rfl ?_
          first
            | (exfalso; omega)
            | exact V_lv (J33a (by omega)) ⟨rfl, rfl, rfl, rfl, rfl, trivial⟩
            | exact V_lv (J33b (by omega)) ⟨rfl, rfl, trivial⟩
  · skip
    refine r_aload_n (i := 0) hG dX7_write_0 rfl rfl ?_
    refine r_iload_n (i := 1) hG dX7_write_1 rfl rfl ?_
    refine r_callVi hG (c_X7_notThere (g_l G) (g_D G) a Z K U R C hS s hs)  gX7_write_X7_notThere rfl hyX7_notThere rfl (by decide) (by decide) 0 rfl rfl rfl (Nat.le_of_ble_eq_true rfl) ⟨Nat.zero_le _, Nat.zero_le _⟩ dX7_write_2 (fun w hw => ?_)
    subst hw
    refine V_top (x' := iI (-1000000001)) (congrArg iI (by (repeat (first | rw [if_pos (by omega)] | rw [if_neg (by omega)])))) ?_
    refine r_istore hG dX7_write_5 (by decide) rfl ?_
    refine r_iload hG dX7_write_7 rfl ?_
    refine r_if_ne (tgt := 33) hG (by omega) dX7_write_9 (by decide) (fun c9 => ?_) (fun c9 => ?_)
    · refine r_iload hG dX7_write_33 rfl ?_
      refine r_if_eq (tgt := 46) hG (by omega) dX7_write_35 (by decide) (fun c35 => ?_) (fun c35 => ?_)
      · (exfalso; omega)
      · refine r_aload_n (i := 0) hG dX7_write_38 rfl rfl ?_
        refine r_iload hG dX7_write_39 rfl ?_
        refine r_callVi hG (c_X7_finds (g_l G) (g_D G) a Z K U R C (-1000000001) 0 (by omega) (by omega))  gX7_write_X7_finds rfl hyX7_finds rfl (by decide) (by decide) 0 rfl rfl rfl (Nat.le_of_ble_eq_true rfl) ⟨Nat.zero_le _, Nat.zero_le _⟩ dX7_write_41 (fun w hw => ?_)
        subst hw
        refine r_i2l hG dX7_write_44 ?_
        exact r_lret hG hE dX7_write_45 (by unfold s_write; (try dsimp only); rw [if_neg h1]; rfl) ⟨U, by unfold s_write; (try dsimp only); rw [if_neg h1]; rfl⟩
    · (exfalso; omega)
