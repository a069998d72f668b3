theorem kX6_sheetFinding_43 : Cond.fieldLink RX6 43 "BreakSwaps" "sheets" "[LBreakSwaps$Sheet;" ∈ wsX6_sheetFinding := List.mem_of_getElem? (i := 1) rfl
theorem cX6_sheetFinding_X6 : ∀ w ∈ wsX60, w ∈ wsX6_sheetFinding := fun _ h => List.mem_cons_of_mem _ (List.mem_append_left _ (List.mem_append_left _ (List.mem_append_right _ h)))
theorem hyX6_sheetFinding : hyV yX6_sheetFinding RX6 2 := by decide +kernel
set_option maxHeartbeats 4000000 in
set_option maxRecDepth 100000 in
theorem c_X6_sheetFinding (l : Launch) (D : va_G) (a : Nat → Nat) (Z K R : YS) (C : Int → Int64) (YT : YS) (J : Nat → Int) (hI : Inv Z) (hS : ∀ s, 0 ≤ s → s < 4 → (R 3 s = 0 ∨ R 3 s = 8 ∨ R 3 s = 16 ∨ R 3 s = 64) ∧ 0 ≤ R 4 s ∧ R 4 s ≤ 40) (s c : Int) (hs : -2147483648 ≤ s ∧ s < 2147483648) (hc : -2147483648 ≤ c ∧ c < 2147483648) : Con l yX6_sheetFinding wsX6_sheetFinding 2 D (bw D a Z K R C YT J) [.ref (a 0), .int (iI s), .int (iI c)] (some (.int (iI (sfK Z R s c)))) (fun ww => ww = bw D a Z K R C YT J) := by
  refine con_start (own := RX6) (by decide) rfl rfl (Nat.le_of_ble_eq_true rfl) ?_
  intro G hG hE hl hD
  subst hl
  subst hD
  have hN := hI.1
  by_cases hs4 : 0 ≤ s ∧ s ≤ 3
  · have hsz := hS s (by omega) (by omega)
    rcases (show s = 0 ∨ s = 1 ∨ s = 2 ∨ s = 3 by omega) with hv4 | hv4 | hv4 | hv4
    · subst hv4
      refine r_iload_n (i := 1) hG dX6_sheetFinding_0 rfl rfl ?_
      refine r_call0i hG (c_X6_isSheet (g_l G) (g_D G) _ (by omega))  gX6_sheetFinding_X6_isSheet rfl hyX6_isSheet rfl (by decide) (by decide) rfl (Nat.le_of_ble_eq_true rfl) ⟨Nat.zero_le _, Nat.zero_le _⟩ dX6_sheetFinding_1 ?_
      refine rb_if_ne (tgt := 9) hG dX6_sheetFinding_4 (by decide) (fun c4 => ?_) (fun c4 => ?_)
      · first
          | (exfalso; (try simp only [decide_eq_true_eq, decide_eq_false_iff_not] at c4); omega)
          | (try simp only [decide_eq_true_eq, decide_eq_false_iff_not] at c4
             refine r_aload_n (i := 0) hG dX6_sheetFinding_9 rfl rfl ?_
             refine r_get hG cX6_sheetFinding_X6 0 6 rfl rfl (by decide) kX6_sheetFinding_43 rfl dX6_sheetFinding_10 ?_
             refine r_iload_n (i := 1) hG dX6_sheetFinding_13 rfl rfl ?_
             refine r_aldq hG 30 rfl (by omega) (by decide) dX6_sheetFinding_14 (v := .ref (a 31)) rfl ?_
             refine r_midi hG (c_X2_isMissing (g_l G) (g_D G) (fun i => a (31 + i)) (fun jz => (C) (40 * 0 + jz)) ((R) 3 0) ((R) 4 0) (by omega)) (bobj (g_D G) a (R) ++ (yw (g_D G) (fun i => a (2 + i)) (Z) ((J) 0) ((J) 1) ((J) 2) ++ (yw (g_D G) (fun i => a (10 + i)) (K) ((J) 3) ((J) 4) ((J) 5) ++ (yw (g_D G) (fun i => a (18 + i)) (YT) ((J) 6) ((J) 7) ((J) 8) ++ (bestw (a 26) ((J) 9) ((J) 10) ++ (btxt (g_D G) a (R) (J) ++ ([(a 30, .inl ((g_D G).1 102, 4, .inr (.inr (.inr (.inr (fun k => some (a (31 + 2 * k))))))))]))))))) (sheetw (g_D G) (fun i => a (33 + i)) (fun jz => (C) (40 * 1 + jz)) ((R) 3 1) ((R) 4 1) ++ (sheetw (g_D G) (fun i => a (35 + i)) (fun jz => (C) (40 * 2 + jz)) ((R) 3 2) ((R) 4 2) ++ (sheetw (g_D G) (fun i => a (37 + i)) (fun jz => (C) (40 * 3 + jz)) ((R) 3 3) ((R) 4 3)))) rfl gX6_sheetFinding_X2_isMissing rfl hyX2_isMissing rfl (by decide) (by decide) 0 rfl rfl rfl (Nat.le_of_ble_eq_true rfl) ⟨Nat.zero_le _, Nat.zero_le _⟩ dX6_sheetFinding_15 ?_
             intro w hw
             subst hw
             refine V_ws (ws' := bw (g_D G) a (Z) (K) (R) (C) (YT) (J)) rfl ?_
             refine rb_if_eq (tgt := 23) hG dX6_sheetFinding_18 (by decide) (fun c18 => ?_) (fun c18 => ?_)
             · try simp only [decide_eq_true_eq, decide_eq_false_iff_not] at c18
               refine r_aload_n (i := 0) hG dX6_sheetFinding_23 rfl rfl ?_
               refine r_iload_n (i := 2) hG dX6_sheetFinding_24 rfl rfl ?_
               refine r_callVi hG (c_X6_isThere (g_l G) (g_D G) a Z K R C YT J hI _ (by omega))  gX6_sheetFinding_X6_isThere rfl hyX6_isThere rfl (by decide) (by decide) 0 rfl rfl rfl (Nat.le_of_ble_eq_true rfl) ⟨Nat.zero_le _, Nat.zero_le _⟩ dX6_sheetFinding_25 (fun w hw => ?_)
               subst hw
               refine rb_if_eq (tgt := 35) hG dX6_sheetFinding_28 (by decide) (fun c28 => ?_) (fun c28 => ?_)
               · try simp only [decide_eq_true_eq, decide_eq_false_iff_not] at c28
                 refine r_iconst hG dX6_sheetFinding_35 ?_
                 exact r_iret hG hE dX6_sheetFinding_36 (congrArg iI (by unfold sfK; (repeat (first | rw [if_pos (by omega)] | rw [if_neg (by omega)])))) rfl
               · try simp only [decide_eq_true_eq, decide_eq_false_iff_not] at c28
                 refine r_iconst hG dX6_sheetFinding_31 ?_
                 refine r_goto (tgt := 36) hG dX6_sheetFinding_32 (by decide) ?_
                 exact r_iret hG hE dX6_sheetFinding_36 (congrArg iI (by unfold sfK; (repeat (first | rw [if_pos (by omega)] | rw [if_neg (by omega)])))) rfl
             · try simp only [decide_eq_true_eq, decide_eq_false_iff_not] at c18
               refine r_iconst hG dX6_sheetFinding_21 ?_
               exact r_iret hG hE dX6_sheetFinding_22 (congrArg iI (by unfold sfK; (repeat (first | rw [if_pos (by omega)] | rw [if_neg (by omega)])))) rfl)
      · first
          | (exfalso; (try simp only [decide_eq_true_eq, decide_eq_false_iff_not] at c4); omega)
          | (try simp only [decide_eq_true_eq, decide_eq_false_iff_not] at c4
             refine r_iconst hG dX6_sheetFinding_7 ?_
             exact r_iret hG hE dX6_sheetFinding_8 (congrArg iI (by unfold sfK; (repeat (first | rw [if_pos (by omega)] | rw [if_neg (by omega)])))) rfl)
    · subst hv4
      refine r_iload_n (i := 1) hG dX6_sheetFinding_0 rfl rfl ?_
      refine r_call0i hG (c_X6_isSheet (g_l G) (g_D G) _ (by omega))  gX6_sheetFinding_X6_isSheet rfl hyX6_isSheet rfl (by decide) (by decide) rfl (Nat.le_of_ble_eq_true rfl) ⟨Nat.zero_le _, Nat.zero_le _⟩ dX6_sheetFinding_1 ?_
      refine rb_if_ne (tgt := 9) hG dX6_sheetFinding_4 (by decide) (fun c4 => ?_) (fun c4 => ?_)
      · first
          | (exfalso; (try simp only [decide_eq_true_eq, decide_eq_false_iff_not] at c4); omega)
          | (try simp only [decide_eq_true_eq, decide_eq_false_iff_not] at c4
             refine r_aload_n (i := 0) hG dX6_sheetFinding_9 rfl rfl ?_
             refine r_get hG cX6_sheetFinding_X6 0 6 rfl rfl (by decide) kX6_sheetFinding_43 rfl dX6_sheetFinding_10 ?_
             refine r_iload_n (i := 1) hG dX6_sheetFinding_13 rfl rfl ?_
             refine r_aldq hG 30 rfl (by omega) (by decide) dX6_sheetFinding_14 (v := .ref (a 33)) rfl ?_
             refine r_midi hG (c_X2_isMissing (g_l G) (g_D G) (fun i => a (33 + i)) (fun jz => (C) (40 * 1 + jz)) ((R) 3 1) ((R) 4 1) (by omega)) (bobj (g_D G) a (R) ++ (yw (g_D G) (fun i => a (2 + i)) (Z) ((J) 0) ((J) 1) ((J) 2) ++ (yw (g_D G) (fun i => a (10 + i)) (K) ((J) 3) ((J) 4) ((J) 5) ++ (yw (g_D G) (fun i => a (18 + i)) (YT) ((J) 6) ((J) 7) ((J) 8) ++ (bestw (a 26) ((J) 9) ((J) 10) ++ (btxt (g_D G) a (R) (J) ++ ([(a 30, .inl ((g_D G).1 102, 4, .inr (.inr (.inr (.inr (fun k => some (a (31 + 2 * k))))))))] ++ (sheetw (g_D G) (fun i => a (31 + i)) (fun jz => (C) (40 * 0 + jz)) ((R) 3 0) ((R) 4 0))))))))) (sheetw (g_D G) (fun i => a (35 + i)) (fun jz => (C) (40 * 2 + jz)) ((R) 3 2) ((R) 4 2) ++ (sheetw (g_D G) (fun i => a (37 + i)) (fun jz => (C) (40 * 3 + jz)) ((R) 3 3) ((R) 4 3))) rfl gX6_sheetFinding_X2_isMissing rfl hyX2_isMissing rfl (by decide) (by decide) 0 rfl rfl rfl (Nat.le_of_ble_eq_true rfl) ⟨Nat.zero_le _, Nat.zero_le _⟩ dX6_sheetFinding_15 ?_
             intro w hw
             subst hw
             refine V_ws (ws' := bw (g_D G) a (Z) (K) (R) (C) (YT) (J)) rfl ?_
             refine rb_if_eq (tgt := 23) hG dX6_sheetFinding_18 (by decide) (fun c18 => ?_) (fun c18 => ?_)
             · try simp only [decide_eq_true_eq, decide_eq_false_iff_not] at c18
               refine r_aload_n (i := 0) hG dX6_sheetFinding_23 rfl rfl ?_
               refine r_iload_n (i := 2) hG dX6_sheetFinding_24 rfl rfl ?_
               refine r_callVi hG (c_X6_isThere (g_l G) (g_D G) a Z K R C YT J hI _ (by omega))  gX6_sheetFinding_X6_isThere rfl hyX6_isThere rfl (by decide) (by decide) 0 rfl rfl rfl (Nat.le_of_ble_eq_true rfl) ⟨Nat.zero_le _, Nat.zero_le _⟩ dX6_sheetFinding_25 (fun w hw => ?_)
               subst hw
               refine rb_if_eq (tgt := 35) hG dX6_sheetFinding_28 (by decide) (fun c28 => ?_) (fun c28 => ?_)
               · try simp only [decide_eq_true_eq, decide_eq_false_iff_not] at c28
                 refine r_iconst hG dX6_sheetFinding_35 ?_
                 exact r_iret hG hE dX6_sheetFinding_36 (congrArg iI (by unfold sfK; (repeat (first | rw [if_pos (by omega)] | rw [if_neg (by omega)])))) rfl
               · try simp only [decide_eq_true_eq, decide_eq_false_iff_not] at c28
                 refine r_iconst hG dX6_sheetFinding_31 ?_
                 refine r_goto (tgt := 36) hG dX6_sheetFinding_32 (by decide) ?_
                 exact r_iret hG hE dX6_sheetFinding_36 (congrArg iI (by unfold sfK; (repeat (first | rw [if_pos (by omega)] | rw [if_neg (by omega)])))) rfl
             · try simp only [decide_eq_true_eq, decide_eq_false_iff_not] at c18
               refine r_iconst hG dX6_sheetFinding_21 ?_
               exact r_iret hG hE dX6_sheetFinding_22 (congrArg iI (by unfold sfK; (repeat (first | rw [if_pos (by omega)] | rw [if_neg (by omega)])))) rfl)
      · first
          | (exfalso; (try simp only [decide_eq_true_eq, decide_eq_false_iff_not] at c4); omega)
          | (try simp only [decide_eq_true_eq, decide_eq_false_iff_not] at c4
             refine r_iconst hG dX6_sheetFinding_7 ?_
             exact r_iret hG hE dX6_sheetFinding_8 (congrArg iI (by unfold sfK; (repeat (first | rw [if_pos (by omega)] | rw [if_neg (by omega)])))) rfl)
    · subst hv4
      refine r_iload_n (i := 1) hG dX6_sheetFinding_0 rfl rfl ?_
      refine r_call0i hG (c_X6_isSheet (g_l G) (g_D G) _ (by omega))  gX6_sheetFinding_X6_isSheet rfl hyX6_isSheet rfl (by decide) (by decide) rfl (Nat.le_of_ble_eq_true rfl) ⟨Nat.zero_le _, Nat.zero_le _⟩ dX6_sheetFinding_1 ?_
      refine rb_if_ne (tgt := 9) hG dX6_sheetFinding_4 (by decide) (fun c4 => ?_) (fun c4 => ?_)
      · first
          | (exfalso; (try simp only [decide_eq_true_eq, decide_eq_false_iff_not] at c4); omega)
          | (try simp only [decide_eq_true_eq, decide_eq_false_iff_not] at c4
             refine r_aload_n (i := 0) hG dX6_sheetFinding_9 rfl rfl ?_
             refine r_get hG cX6_sheetFinding_X6 0 6 rfl rfl (by decide) kX6_sheetFinding_43 rfl dX6_sheetFinding_10 ?_
             refine r_iload_n (i := 1) hG dX6_sheetFinding_13 rfl rfl ?_
             refine r_aldq hG 30 rfl (by omega) (by decide) dX6_sheetFinding_14 (v := .ref (a 35)) rfl ?_
             refine r_midi hG (c_X2_isMissing (g_l G) (g_D G) (fun i => a (35 + i)) (fun jz => (C) (40 * 2 + jz)) ((R) 3 2) ((R) 4 2) (by omega)) (bobj (g_D G) a (R) ++ (yw (g_D G) (fun i => a (2 + i)) (Z) ((J) 0) ((J) 1) ((J) 2) ++ (yw (g_D G) (fun i => a (10 + i)) (K) ((J) 3) ((J) 4) ((J) 5) ++ (yw (g_D G) (fun i => a (18 + i)) (YT) ((J) 6) ((J) 7) ((J) 8) ++ (bestw (a 26) ((J) 9) ((J) 10) ++ (btxt (g_D G) a (R) (J) ++ ([(a 30, .inl ((g_D G).1 102, 4, .inr (.inr (.inr (.inr (fun k => some (a (31 + 2 * k))))))))] ++ (sheetw (g_D G) (fun i => a (31 + i)) (fun jz => (C) (40 * 0 + jz)) ((R) 3 0) ((R) 4 0) ++ (sheetw (g_D G) (fun i => a (33 + i)) (fun jz => (C) (40 * 1 + jz)) ((R) 3 1) ((R) 4 1)))))))))) (sheetw (g_D G) (fun i => a (37 + i)) (fun jz => (C) (40 * 3 + jz)) ((R) 3 3) ((R) 4 3)) rfl gX6_sheetFinding_X2_isMissing rfl hyX2_isMissing rfl (by decide) (by decide) 0 rfl rfl rfl (Nat.le_of_ble_eq_true rfl) ⟨Nat.zero_le _, Nat.zero_le _⟩ dX6_sheetFinding_15 ?_
             intro w hw
             subst hw
             refine V_ws (ws' := bw (g_D G) a (Z) (K) (R) (C) (YT) (J)) rfl ?_
             refine rb_if_eq (tgt := 23) hG dX6_sheetFinding_18 (by decide) (fun c18 => ?_) (fun c18 => ?_)
             · try simp only [decide_eq_true_eq, decide_eq_false_iff_not] at c18
               refine r_aload_n (i := 0) hG dX6_sheetFinding_23 rfl rfl ?_
               refine r_iload_n (i := 2) hG dX6_sheetFinding_24 rfl rfl ?_
               refine r_callVi hG (c_X6_isThere (g_l G) (g_D G) a Z K R C YT J hI _ (by omega))  gX6_sheetFinding_X6_isThere rfl hyX6_isThere rfl (by decide) (by decide) 0 rfl rfl rfl (Nat.le_of_ble_eq_true rfl) ⟨Nat.zero_le _, Nat.zero_le _⟩ dX6_sheetFinding_25 (fun w hw => ?_)
               subst hw
               refine rb_if_eq (tgt := 35) hG dX6_sheetFinding_28 (by decide) (fun c28 => ?_) (fun c28 => ?_)
               · try simp only [decide_eq_true_eq, decide_eq_false_iff_not] at c28
                 refine r_iconst hG dX6_sheetFinding_35 ?_
                 exact r_iret hG hE dX6_sheetFinding_36 (congrArg iI (by unfold sfK; (repeat (first | rw [if_pos (by omega)] | rw [if_neg (by omega)])))) rfl
               · try simp only [decide_eq_true_eq, decide_eq_false_iff_not] at c28
                 refine r_iconst hG dX6_sheetFinding_31 ?_
                 refine r_goto (tgt := 36) hG dX6_sheetFinding_32 (by decide) ?_
                 exact r_iret hG hE dX6_sheetFinding_36 (congrArg iI (by unfold sfK; (repeat (first | rw [if_pos (by omega)] | rw [if_neg (by omega)])))) rfl
             · try simp only [decide_eq_true_eq, decide_eq_false_iff_not] at c18
               refine r_iconst hG dX6_sheetFinding_21 ?_
               exact r_iret hG hE dX6_sheetFinding_22 (congrArg iI (by unfold sfK; (repeat (first | rw [if_pos (by omega)] | rw [if_neg (by omega)])))) rfl)
      · first
          | (exfalso; (try simp only [decide_eq_true_eq, decide_eq_false_iff_not] at c4); omega)
          | (try simp only [decide_eq_true_eq, decide_eq_false_iff_not] at c4
             refine r_iconst hG dX6_sheetFinding_7 ?_
             exact r_iret hG hE dX6_sheetFinding_8 (congrArg iI (by unfold sfK; (repeat (first | rw [if_pos (by omega)] | rw [if_neg (by omega)])))) rfl)
    · subst hv4
      refine r_iload_n (i := 1) hG dX6_sheetFinding_0 rfl rfl ?_
      refine r_call0i hG (c_X6_isSheet (g_l G) (g_D G) _ (by omega))  gX6_sheetFinding_X6_isSheet rfl hyX6_isSheet rfl (by decide) (by decide) rfl (Nat.le_of_ble_eq_true rfl) ⟨Nat.zero_le _, Nat.zero_le _⟩ dX6_sheetFinding_1 ?_
      refine rb_if_ne (tgt := 9) hG dX6_sheetFinding_4 (by decide) (fun c4 => ?_) (fun c4 => ?_)
      · first
          | (exfalso; (try simp only [decide_eq_true_eq, decide_eq_false_iff_not] at c4); omega)
          | (try simp only [decide_eq_true_eq, decide_eq_false_iff_not] at c4
             refine r_aload_n (i := 0) hG dX6_sheetFinding_9 rfl rfl ?_
             refine r_get hG cX6_sheetFinding_X6 0 6 rfl rfl (by decide) kX6_sheetFinding_43 rfl dX6_sheetFinding_10 ?_
             refine r_iload_n (i := 1) hG dX6_sheetFinding_13 rfl rfl ?_
             refine r_aldq hG 30 rfl (by omega) (by decide) dX6_sheetFinding_14 (v := .ref (a 37)) rfl ?_
             refine r_midi hG (c_X2_isMissing (g_l G) (g_D G) (fun i => a (37 + i)) (fun jz => (C) (40 * 3 + jz)) ((R) 3 3) ((R) 4 3) (by omega)) (bobj (g_D G) a (R) ++ (yw (g_D G) (fun i => a (2 + i)) (Z) ((J) 0) ((J) 1) ((J) 2) ++ (yw (g_D G) (fun i => a (10 + i)) (K) ((J) 3) ((J) 4) ((J) 5) ++ (yw (g_D G) (fun i => a (18 + i)) (YT) ((J) 6) ((J) 7) ((J) 8) ++ (bestw (a 26) ((J) 9) ((J) 10) ++ (btxt (g_D G) a (R) (J) ++ ([(a 30, .inl ((g_D G).1 102, 4, .inr (.inr (.inr (.inr (fun k => some (a (31 + 2 * k))))))))] ++ (sheetw (g_D G) (fun i => a (31 + i)) (fun jz => (C) (40 * 0 + jz)) ((R) 3 0) ((R) 4 0) ++ (sheetw (g_D G) (fun i => a (33 + i)) (fun jz => (C) (40 * 1 + jz)) ((R) 3 1) ((R) 4 1) ++ (sheetw (g_D G) (fun i => a (35 + i)) (fun jz => (C) (40 * 2 + jz)) ((R) 3 2) ((R) 4 2))))))))))) ([]) rfl gX6_sheetFinding_X2_isMissing rfl hyX2_isMissing rfl (by decide) (by decide) 0 rfl rfl rfl (Nat.le_of_ble_eq_true rfl) ⟨Nat.zero_le _, Nat.zero_le _⟩ dX6_sheetFinding_15 ?_
             intro w hw
             subst hw
             refine V_ws (ws' := bw (g_D G) a (Z) (K) (R) (C) (YT) (J)) rfl ?_
             refine rb_if_eq (tgt := 23) hG dX6_sheetFinding_18 (by decide) (fun c18 => ?_) (fun c18 => ?_)
             · try simp only [decide_eq_true_eq, decide_eq_false_iff_not] at c18
               refine r_aload_n (i := 0) hG dX6_sheetFinding_23 rfl rfl ?_
               refine r_iload_n (i := 2) hG dX6_sheetFinding_24 rfl rfl ?_
               refine r_callVi hG (c_X6_isThere (g_l G) (g_D G) a Z K R C YT J hI _ (by omega))  gX6_sheetFinding_X6_isThere rfl hyX6_isThere rfl (by decide) (by decide) 0 rfl rfl rfl (Nat.le_of_ble_eq_true rfl) ⟨Nat.zero_le _, Nat.zero_le _⟩ dX6_sheetFinding_25 (fun w hw => ?_)
               subst hw
               refine rb_if_eq (tgt := 35) hG dX6_sheetFinding_28 (by decide) (fun c28 => ?_) (fun c28 => ?_)
               · try simp only [decide_eq_true_eq, decide_eq_false_iff_not] at c28
                 refine r_iconst hG dX6_sheetFinding_35 ?_
                 exact r_iret hG hE dX6_sheetFinding_36 (congrArg iI (by unfold sfK; (repeat (first | rw [if_pos (by omega)] | rw [if_neg (by omega)])))) rfl
               · try simp only [decide_eq_true_eq, decide_eq_false_iff_not] at c28
                 refine r_iconst hG dX6_sheetFinding_31 ?_
                 refine r_goto (tgt := 36) hG dX6_sheetFinding_32 (by decide) ?_
                 exact r_iret hG hE dX6_sheetFinding_36 (congrArg iI (by unfold sfK; (repeat (first | rw [if_pos (by omega)] | rw [if_neg (by omega)])))) rfl
             · try simp only [decide_eq_true_eq, decide_eq_false_iff_not] at c18
               refine r_iconst hG dX6_sheetFinding_21 ?_
               exact r_iret hG hE dX6_sheetFinding_22 (congrArg iI (by unfold sfK; (repeat (first | rw [if_pos (by omega)] | rw [if_neg (by omega)])))) rfl)
      · first
          | (exfalso; (try simp only [decide_eq_true_eq, decide_eq_false_iff_not] at c4); omega)
          | (try simp only [decide_eq_true_eq, decide_eq_false_iff_not] at c4
             refine r_iconst hG dX6_sheetFinding_7 ?_
             exact r_iret hG hE dX6_sheetFinding_8 (congrArg iI (by unfold sfK; (repeat (first | rw [if_pos (by omega)] | rw [if_neg (by omega)])))) rfl)
  · skip
    refine r_iload_n (i := 1) hG dX6_sheetFinding_0 rfl rfl ?_
    refine r_call0i hG (c_X6_isSheet (g_l G) (g_D G) _ (by omega))  gX6_sheetFinding_X6_isSheet rfl hyX6_isSheet rfl (by decide) (by decide) rfl (Nat.le_of_ble_eq_true rfl) ⟨Nat.zero_le _, Nat.zero_le _⟩ dX6_sheetFinding_1 ?_
    refine rb_if_ne (tgt := 9) hG dX6_sheetFinding_4 (by decide) (fun c4 => ?_) (fun c4 => ?_)
    · first
        | (exfalso; (try simp only [decide_eq_true_eq, decide_eq_false_iff_not] at c4); omega)
        | (try simp only [decide_eq_true_eq, decide_eq_false_iff_not] at c4
           refine r_aload_n (i := 0) hG dX6_sheetFinding_9 rfl rfl ?_
           refine r_get hG cX6_sheetFinding_X6 0 6 rfl rfl (by decide) kX6_sheetFinding_43 rfl dX6_sheetFinding_10 ?_
           refine r_iload_n (i := 1) hG dX6_sheetFinding_13 rfl rfl ?_
           refine r_aldq hG 30 rfl (by omega) (by decide) dX6_sheetFinding_14 (v := .ref (a 31)) rfl ?_
           refine r_midi hG (c_X2_isMissing (g_l G) (g_D G) (fun i => a (31 + i)) (fun jz => (C) (40 * 0 + jz)) ((R) 3 0) ((R) 4 0) (by omega)) (bobj (g_D G) a (R) ++ (yw (g_D G) (fun i => a (2 + i)) (Z) ((J) 0) ((J) 1) ((J) 2) ++ (yw (g_D G) (fun i => a (10 + i)) (K) ((J) 3) ((J) 4) ((J) 5) ++ (yw (g_D G) (fun i => a (18 + i)) (YT) ((J) 6) ((J) 7) ((J) 8) ++ (bestw (a 26) ((J) 9) ((J) 10) ++ (btxt (g_D G) a (R) (J) ++ ([(a 30, .inl ((g_D G).1 102, 4, .inr (.inr (.inr (.inr (fun k => some (a (31 + 2 * k))))))))]))))))) (sheetw (g_D G) (fun i => a (33 + i)) (fun jz => (C) (40 * 1 + jz)) ((R) 3 1) ((R) 4 1) ++ (sheetw (g_D G) (fun i => a (35 + i)) (fun jz => (C) (40 * 2 + jz)) ((R) 3 2) ((R) 4 2) ++ (sheetw (g_D G) (fun i => a (37 + i)) (fun jz => (C) (40 * 3 + jz)) ((R) 3 3) ((R) 4 3)))) rfl gX6_sheetFinding_X2_isMissing rfl hyX2_isMissing rfl (by decide) (by decide) 0 rfl rfl rfl (Nat.le_of_ble_eq_true rfl) ⟨Nat.zero_le _, Nat.zero_le _⟩ dX6_sheetFinding_15 ?_
           intro w hw
           subst hw
           refine V_ws (ws' := bw (g_D G) a (Z) (K) (R) (C) (YT) (J)) rfl ?_
           refine rb_if_eq (tgt := 23) hG dX6_sheetFinding_18 (by decide) (fun c18 => ?_) (fun c18 => ?_)
           · try simp only [decide_eq_true_eq, decide_eq_false_iff_not] at c18
             refine r_aload_n (i := 0) hG dX6_sheetFinding_23 rfl rfl ?_
             refine r_iload_n (i := 2) hG dX6_sheetFinding_24 rfl rfl ?_
             refine r_callVi hG (c_X6_isThere (g_l G) (g_D G) a Z K R C YT J hI _ (by omega))  gX6_sheetFinding_X6_isThere rfl hyX6_isThere rfl (by decide) (by decide) 0 rfl rfl rfl (Nat.le_of_ble_eq_true rfl) ⟨Nat.zero_le _, Nat.zero_le _⟩ dX6_sheetFinding_25 (fun w hw => ?_)
             subst hw
             refine rb_if_eq (tgt := 35) hG dX6_sheetFinding_28 (by decide) (fun c28 => ?_) (fun c28 => ?_)
             · try simp only [decide_eq_true_eq, decide_eq_false_iff_not] at c28
               refine r_iconst hG dX6_sheetFinding_35 ?_
               exact r_iret hG hE dX6_sheetFinding_36 (congrArg iI (by unfold sfK; (repeat (first | rw [if_pos (by omega)] | rw [if_neg (by omega)])))) rfl
             · try simp only [decide_eq_true_eq, decide_eq_false_iff_not] at c28
               refine r_iconst hG dX6_sheetFinding_31 ?_
               refine r_goto (tgt := 36) hG dX6_sheetFinding_32 (by decide) ?_
               exact r_iret hG hE dX6_sheetFinding_36 (congrArg iI (by unfold sfK; (repeat (first | rw [if_pos (by omega)] | rw [if_neg (by omega)])))) rfl
           · try simp only [decide_eq_true_eq, decide_eq_false_iff_not] at c18
             refine r_iconst hG dX6_sheetFinding_21 ?_
             exact r_iret hG hE dX6_sheetFinding_22 (congrArg iI (by unfold sfK; (repeat (first | rw [if_pos (by omega)] | rw [if_neg (by omega)])))) rfl)
    · first
        | (exfalso; (try simp only [decide_eq_true_eq, decide_eq_false_iff_not] at c4); omega)
        | (try simp only [decide_eq_true_eq, decide_eq_false_iff_not] at c4
           refine r_iconst hG dX6_sheetFinding_7 ?_
           exact r_iret hG hE dX6_sheetFinding_8 (congrArg iI (by unfold sfK; (repeat (first | rw [if_pos (by omega)] | rw [if_neg (by omega)])))) rfl)
theorem kX6_sheet_43 : Cond.fieldLink RX6 43 "BreakSwaps" "sheets" "[LBreakSwaps$Sheet;" ∈ wsX6_sheet := List.mem_of_getElem? (i := 1) rfl
theorem kX6_sheet_212 : Cond.fieldLink RX6 212 "BreakSwaps$Sheet" "length" "I" ∈ wsX6_sheet := List.mem_of_getElem? (i := 2) rfl
theorem cX6_sheet_X2 : ∀ w ∈ wsX20, w ∈ wsX6_sheet := fun _ h => List.mem_cons_of_mem _ (List.mem_append_right _ h)
theorem cX6_sheet_X6 : ∀ w ∈ wsX60, w ∈ wsX6_sheet := fun _ h => List.mem_cons_of_mem _ (List.mem_append_left _ (List.mem_append_right _ h))
theorem hyX6_sheet : hyV yX6_sheet RX6 3 := by decide +kernel
set_option maxHeartbeats 4000000 in
set_option maxRecDepth 100000 in
theorem c_X6_sheet (l : Launch) (D : va_G) (a : Nat → Nat) (Z K R : YS) (C : Int → Int64) (YT : YS) (J : Nat → Int) (hT : TI (Z, K, R, C)) (s b n : Int) (hs : -2147483648 ≤ s ∧ s < 2147483648) (hb : -2147483648 ≤ b ∧ b < 2147483648) (hn : -2147483648 ≤ n ∧ n < 2147483648) : Con l yX6_sheet wsX6_sheet 3 D (bw D a Z K R C YT J) [.ref (a 0), .int (iI s), .int (iI b), .int (iI n)] (some (.int (iI ((s_sheet (Z, K, R, C) s b n).1)))) (fun ww => ∃ Y2 J2, ww = bwT D a (s_sheet (Z, K, R, C) s b n).2 Y2 J2) := by
  refine con_start (own := RX6) (by decide) rfl rfl (Nat.le_of_ble_eq_true rfl) ?_
  intro G hG hE hl hD
  subst hl
  subst hD
  have hI : Inv Z := hT.1.1
  have hH : Hol Z := hT.1.2.1
  have hN := hI.1
  have hr0 := hI.2.1
  have hu5 := hI.2.2.1
  have hrd : Z 5 0 ≤ 99999 := hT.1.2.2
  have hS : ∀ s, 0 ≤ s → s < 4 → (R 3 s = 0 ∨ R 3 s = 8 ∨ R 3 s = 16 ∨ R 3 s = 64) ∧ 0 ≤ R 4 s ∧ R 4 s ≤ 40 := hT.2.2.2
  have M : (0 ≤ s ∧ s ≤ 3) → (b = 0 ∨ b = 8 ∨ b = 16 ∨ b = 64) → (0 ≤ n ∧ n ≤ 40) → V G 0 0 (bw (g_D G) a Z K R C YT J) 43 [(0, .ref (a 0)), (1, .int (iI s)), (2, .int (iI b)), (3, .int (iI n))] [] := by
    intro h1 h2 h3
    rcases (show s = 0 ∨ s = 1 ∨ s = 2 ∨ s = 3 by omega) with hv4 | hv4 | hv4 | hv4
    · subst hv4
      obtain ⟨sz, hsz⟩ : ∃ sz : Int, sz = if b = 0 then 0 else n := ⟨_, rfl⟩
      have e0 : s_sheet (Z, K, R, C) 0 b n = (sz, (Z, K, upY (upY R 3 0 b) 4 0 sz, zeroC C 0)) := by
        unfold s_sheet; (try dsimp only); rw [if_pos (by omega), if_neg (by omega), if_neg (by omega), ← hsz]
      refine r_aload_n (i := 0) hG dX6_sheet_43 rfl rfl ?_
      refine r_get hG cX6_sheet_X6 0 6 rfl rfl (by decide) kX6_sheet_43 rfl dX6_sheet_44 ?_
      refine r_iload_n (i := 1) hG dX6_sheet_47 rfl rfl ?_
      refine r_aldq hG 30 rfl (by omega) (by decide) dX6_sheet_48 (v := .ref (a 31)) rfl ?_
      refine r_iload_n (i := 2) hG dX6_sheet_49 rfl rfl ?_
      refine r_iload_n (i := 3) hG dX6_sheet_50 rfl rfl ?_
      refine r_midv hG (c_X2_layOut (g_l G) (g_D G) (fun i => a (31 + i)) (fun jz => (C) (40 * 0 + jz)) ((R) 3 0) ((R) 4 0) b n (by omega)) (bobj (g_D G) a (R) ++ (yw (g_D G) (fun i => a (2 + i)) (Z) ((J) 0) ((J) 1) ((J) 2) ++ (yw (g_D G) (fun i => a (10 + i)) (K) ((J) 3) ((J) 4) ((J) 5) ++ (yw (g_D G) (fun i => a (18 + i)) (YT) ((J) 6) ((J) 7) ((J) 8) ++ (bestw (a 26) ((J) 9) ((J) 10) ++ (btxt (g_D G) a (R) (J) ++ ([(a 30, .inl ((g_D G).1 102, 4, .inr (.inr (.inr (.inr (fun k => some (a (31 + 2 * k))))))))]))))))) (sheetw (g_D G) (fun i => a (33 + i)) (fun jz => (C) (40 * 1 + jz)) ((R) 3 1) ((R) 4 1) ++ (sheetw (g_D G) (fun i => a (35 + i)) (fun jz => (C) (40 * 2 + jz)) ((R) 3 2) ((R) 4 2) ++ (sheetw (g_D G) (fun i => a (37 + i)) (fun jz => (C) (40 * 3 + jz)) ((R) 3 3) ((R) 4 3)))) rfl gX6_sheet_X2_layOut rfl hyX2_layOut rfl (by decide) (by decide) 0 rfl rfl rfl (Nat.le_of_ble_eq_true rfl) ⟨Nat.zero_le _, Nat.zero_le _⟩ dX6_sheet_51 ?_
      intro w hw
      subst hw
      refine V_ws (ws' := bwX (g_D G) a (Z) (K) (upY (upY R 3 0 b) 4 0 sz) (fun _ => 0) (fun jz => (C) (40 * 1 + jz)) (fun jz => (C) (40 * 2 + jz)) (fun jz => (C) (40 * 3 + jz)) (YT) (J)) (by rw [hsz]; rfl) ?_
      refine V_shC (C := zeroC C 0) (fun j h0 h1 => zero_same (by omega)) (fun j h0 h1 => zero_other (by omega)) (fun j h0 h1 => zero_other (by omega)) (fun j h0 h1 => zero_other (by omega)) ?_
      refine r_aload_n (i := 0) hG dX6_sheet_54 rfl rfl ?_
      refine r_get hG cX6_sheet_X6 0 6 rfl rfl (by decide) kX6_sheet_43 rfl dX6_sheet_55 ?_
      refine r_iload_n (i := 1) hG dX6_sheet_58 rfl rfl ?_
      refine r_aldq hG 30 rfl (by omega) (by decide) dX6_sheet_59 (v := .ref (a 31)) rfl ?_
      refine r_get hG cX6_sheet_X2 31 2 rfl rfl (by decide) kX6_sheet_212 rfl dX6_sheet_60 ?_
      exact r_iret hG hE dX6_sheet_63 (by rw [e0]; rfl) ⟨YT, J, by rw [e0]; rfl⟩
    · subst hv4
      obtain ⟨sz, hsz⟩ : ∃ sz : Int, sz = if b = 0 then 0 else n := ⟨_, rfl⟩
      have e0 : s_sheet (Z, K, R, C) 1 b n = (sz, (Z, K, upY (upY R 3 1 b) 4 1 sz, zeroC C 1)) := by
        unfold s_sheet; (try dsimp only); rw [if_pos (by omega), if_neg (by omega), if_neg (by omega), ← hsz]
      refine r_aload_n (i := 0) hG dX6_sheet_43 rfl rfl ?_
      refine r_get hG cX6_sheet_X6 0 6 rfl rfl (by decide) kX6_sheet_43 rfl dX6_sheet_44 ?_
      refine r_iload_n (i := 1) hG dX6_sheet_47 rfl rfl ?_
      refine r_aldq hG 30 rfl (by omega) (by decide) dX6_sheet_48 (v := .ref (a 33)) rfl ?_
      refine r_iload_n (i := 2) hG dX6_sheet_49 rfl rfl ?_
      refine r_iload_n (i := 3) hG dX6_sheet_50 rfl rfl ?_
      refine r_midv hG (c_X2_layOut (g_l G) (g_D G) (fun i => a (33 + i)) (fun jz => (C) (40 * 1 + jz)) ((R) 3 1) ((R) 4 1) b n (by omega)) (bobj (g_D G) a (R) ++ (yw (g_D G) (fun i => a (2 + i)) (Z) ((J) 0) ((J) 1) ((J) 2) ++ (yw (g_D G) (fun i => a (10 + i)) (K) ((J) 3) ((J) 4) ((J) 5) ++ (yw (g_D G) (fun i => a (18 + i)) (YT) ((J) 6) ((J) 7) ((J) 8) ++ (bestw (a 26) ((J) 9) ((J) 10) ++ (btxt (g_D G) a (R) (J) ++ ([(a 30, .inl ((g_D G).1 102, 4, .inr (.inr (.inr (.inr (fun k => some (a (31 + 2 * k))))))))] ++ (sheetw (g_D G) (fun i => a (31 + i)) (fun jz => (C) (40 * 0 + jz)) ((R) 3 0) ((R) 4 0))))))))) (sheetw (g_D G) (fun i => a (35 + i)) (fun jz => (C) (40 * 2 + jz)) ((R) 3 2) ((R) 4 2) ++ (sheetw (g_D G) (fun i => a (37 + i)) (fun jz => (C) (40 * 3 + jz)) ((R) 3 3) ((R) 4 3))) rfl gX6_sheet_X2_layOut rfl hyX2_layOut rfl (by decide) (by decide) 0 rfl rfl rfl (Nat.le_of_ble_eq_true rfl) ⟨Nat.zero_le _, Nat.zero_le _⟩ dX6_sheet_51 ?_
      intro w hw
      subst hw
      refine V_ws (ws' := bwX (g_D G) a (Z) (K) (upY (upY R 3 1 b) 4 1 sz) (fun jz => (C) (40 * 0 + jz)) (fun _ => 0) (fun jz => (C) (40 * 2 + jz)) (fun jz => (C) (40 * 3 + jz)) (YT) (J)) (by rw [hsz]; rfl) ?_
      refine V_shC (C := zeroC C 1) (fun j h0 h1 => zero_other (by omega)) (fun j h0 h1 => zero_same (by omega)) (fun j h0 h1 => zero_other (by omega)) (fun j h0 h1 => zero_other (by omega)) ?_
      refine r_aload_n (i := 0) hG dX6_sheet_54 rfl rfl ?_
      refine r_get hG cX6_sheet_X6 0 6 rfl rfl (by decide) kX6_sheet_43 rfl dX6_sheet_55 ?_
      refine r_iload_n (i := 1) hG dX6_sheet_58 rfl rfl ?_
      refine r_aldq hG 30 rfl (by omega) (by decide) dX6_sheet_59 (v := .ref (a 33)) rfl ?_
      refine r_get hG cX6_sheet_X2 33 2 rfl rfl (by decide) kX6_sheet_212 rfl dX6_sheet_60 ?_
      exact r_iret hG hE dX6_sheet_63 (by rw [e0]; rfl) ⟨YT, J, by rw [e0]; rfl⟩
    · subst hv4
      obtain ⟨sz, hsz⟩ : ∃ sz : Int, sz = if b = 0 then 0 else n := ⟨_, rfl⟩
      have e0 : s_sheet (Z, K, R, C) 2 b n = (sz, (Z, K, upY (upY R 3 2 b) 4 2 sz, zeroC C 2)) := by
        unfold s_sheet; (try dsimp only); rw [if_pos (by omega), if_neg (by omega), if_neg (by omega), ← hsz]
      refine r_aload_n (i := 0) hG dX6_sheet_43 rfl rfl ?_
      refine r_get hG cX6_sheet_X6 0 6 rfl rfl (by decide) kX6_sheet_43 rfl dX6_sheet_44 ?_
      refine r_iload_n (i := 1) hG dX6_sheet_47 rfl rfl ?_
      refine r_aldq hG 30 rfl (by omega) (by decide) dX6_sheet_48 (v := .ref (a 35)) rfl ?_
      refine r_iload_n (i := 2) hG dX6_sheet_49 rfl rfl ?_
      refine r_iload_n (i := 3) hG dX6_sheet_50 rfl rfl ?_
      refine r_midv hG (c_X2_layOut (g_l G) (g_D G) (fun i => a (35 + i)) (fun jz => (C) (40 * 2 + jz)) ((R) 3 2) ((R) 4 2) b n (by omega)) (bobj (g_D G) a (R) ++ (yw (g_D G) (fun i => a (2 + i)) (Z) ((J) 0) ((J) 1) ((J) 2) ++ (yw (g_D G) (fun i => a (10 + i)) (K) ((J) 3) ((J) 4) ((J) 5) ++ (yw (g_D G) (fun i => a (18 + i)) (YT) ((J) 6) ((J) 7) ((J) 8) ++ (bestw (a 26) ((J) 9) ((J) 10) ++ (btxt (g_D G) a (R) (J) ++ ([(a 30, .inl ((g_D G).1 102, 4, .inr (.inr (.inr (.inr (fun k => some (a (31 + 2 * k))))))))] ++ (sheetw (g_D G) (fun i => a (31 + i)) (fun jz => (C) (40 * 0 + jz)) ((R) 3 0) ((R) 4 0) ++ (sheetw (g_D G) (fun i => a (33 + i)) (fun jz => (C) (40 * 1 + jz)) ((R) 3 1) ((R) 4 1)))))))))) (sheetw (g_D G) (fun i => a (37 + i)) (fun jz => (C) (40 * 3 + jz)) ((R) 3 3) ((R) 4 3)) rfl gX6_sheet_X2_layOut rfl hyX2_layOut rfl (by decide) (by decide) 0 rfl rfl rfl (Nat.le_of_ble_eq_true rfl) ⟨Nat.zero_le _, Nat.zero_le _⟩ dX6_sheet_51 ?_
      intro w hw
      subst hw
      refine V_ws (ws' := bwX (g_D G) a (Z) (K) (upY (upY R 3 2 b) 4 2 sz) (fun jz => (C) (40 * 0 + jz)) (fun jz => (C) (40 * 1 + jz)) (fun _ => 0) (fun jz => (C) (40 * 3 + jz)) (YT) (J)) (by rw [hsz]; rfl) ?_
      refine V_shC (C := zeroC C 2) (fun j h0 h1 => zero_other (by omega)) (fun j h0 h1 => zero_other (by omega)) (fun j h0 h1 => zero_same (by omega)) (fun j h0 h1 => zero_other (by omega)) ?_
      refine r_aload_n (i := 0) hG dX6_sheet_54 rfl rfl ?_
      refine r_get hG cX6_sheet_X6 0 6 rfl rfl (by decide) kX6_sheet_43 rfl dX6_sheet_55 ?_
      refine r_iload_n (i := 1) hG dX6_sheet_58 rfl rfl ?_
      refine r_aldq hG 30 rfl (by omega) (by decide) dX6_sheet_59 (v := .ref (a 35)) rfl ?_
      refine r_get hG cX6_sheet_X2 35 2 rfl rfl (by decide) kX6_sheet_212 rfl dX6_sheet_60 ?_
      exact r_iret hG hE dX6_sheet_63 (by rw [e0]; rfl) ⟨YT, J, by rw [e0]; rfl⟩
    · subst hv4
      obtain ⟨sz, hsz⟩ : ∃ sz : Int, sz = if b = 0 then 0 else n := ⟨_, rfl⟩
      have e0 : s_sheet (Z, K, R, C) 3 b n = (sz, (Z, K, upY (upY R 3 3 b) 4 3 sz, zeroC C 3)) := by
        unfold s_sheet; (try dsimp only); rw [if_pos (by omega), if_neg (by omega), if_neg (by omega), ← hsz]
      refine r_aload_n (i := 0) hG dX6_sheet_43 rfl rfl ?_
      refine r_get hG cX6_sheet_X6 0 6 rfl rfl (by decide) kX6_sheet_43 rfl dX6_sheet_44 ?_
      refine r_iload_n (i := 1) hG dX6_sheet_47 rfl rfl ?_
      refine r_aldq hG 30 rfl (by omega) (by decide) dX6_sheet_48 (v := .ref (a 37)) rfl ?_
      refine r_iload_n (i := 2) hG dX6_sheet_49 rfl rfl ?_
      refine r_iload_n (i := 3) hG dX6_sheet_50 rfl rfl ?_
      refine r_midv hG (c_X2_layOut (g_l G) (g_D G) (fun i => a (37 + i)) (fun jz => (C) (40 * 3 + jz)) ((R) 3 3) ((R) 4 3) b n (by omega)) (bobj (g_D G) a (R) ++ (yw (g_D G) (fun i => a (2 + i)) (Z) ((J) 0) ((J) 1) ((J) 2) ++ (yw (g_D G) (fun i => a (10 + i)) (K) ((J) 3) ((J) 4) ((J) 5) ++ (yw (g_D G) (fun i => a (18 + i)) (YT) ((J) 6) ((J) 7) ((J) 8) ++ (bestw (a 26) ((J) 9) ((J) 10) ++ (btxt (g_D G) a (R) (J) ++ ([(a 30, .inl ((g_D G).1 102, 4, .inr (.inr (.inr (.inr (fun k => some (a (31 + 2 * k))))))))] ++ (sheetw (g_D G) (fun i => a (31 + i)) (fun jz => (C) (40 * 0 + jz)) ((R) 3 0) ((R) 4 0) ++ (sheetw (g_D G) (fun i => a (33 + i)) (fun jz => (C) (40 * 1 + jz)) ((R) 3 1) ((R) 4 1) ++ (sheetw (g_D G) (fun i => a (35 + i)) (fun jz => (C) (40 * 2 + jz)) ((R) 3 2) ((R) 4 2))))))))))) ([]) rfl gX6_sheet_X2_layOut rfl hyX2_layOut rfl (by decide) (by decide) 0 rfl rfl rfl (Nat.le_of_ble_eq_true rfl) ⟨Nat.zero_le _, Nat.zero_le _⟩ dX6_sheet_51 ?_
      intro w hw
      subst hw
      refine V_ws (ws' := bwX (g_D G) a (Z) (K) (upY (upY R 3 3 b) 4 3 sz) (fun jz => (C) (40 * 0 + jz)) (fun jz => (C) (40 * 1 + jz)) (fun jz => (C) (40 * 2 + jz)) (fun _ => 0) (YT) (J)) (by rw [hsz]; rfl) ?_
      refine V_shC (C := zeroC C 3) (fun j h0 h1 => zero_other (by omega)) (fun j h0 h1 => zero_other (by omega)) (fun j h0 h1 => zero_other (by omega)) (fun j h0 h1 => zero_same (by omega)) ?_
      refine r_aload_n (i := 0) hG dX6_sheet_54 rfl rfl ?_
      refine r_get hG cX6_sheet_X6 0 6 rfl rfl (by decide) kX6_sheet_43 rfl dX6_sheet_55 ?_
      refine r_iload_n (i := 1) hG dX6_sheet_58 rfl rfl ?_
      refine r_aldq hG 30 rfl (by omega) (by decide) dX6_sheet_59 (v := .ref (a 37)) rfl ?_
      refine r_get hG cX6_sheet_X2 37 2 rfl rfl (by decide) kX6_sheet_212 rfl dX6_sheet_60 ?_
      exact r_iret hG hE dX6_sheet_63 (by rw [e0]; rfl) ⟨YT, J, by rw [e0]; rfl⟩
  refine r_iload_n (i := 1) hG dX6_sheet_0 rfl rfl ?_
  refine r_call0i hG (c_X6_isSheet (g_l G) (g_D G) _ (by omega))  gX6_sheet_X6_isSheet rfl hyX6_isSheet rfl (by decide) (by decide) rfl (Nat.le_of_ble_eq_true rfl) ⟨Nat.zero_le _, Nat.zero_le _⟩ dX6_sheet_1 ?_
  refine rb_if_eq (tgt := 14) hG dX6_sheet_4 (by decide) (fun c4 => ?_) (fun c4 => ?_)
  · try simp only [decide_eq_true_eq, decide_eq_false_iff_not] at c4
    refine r_aload_n (i := 0) hG dX6_sheet_14 rfl rfl ?_
    refine r_iconst hG dX6_sheet_15 ?_
    refine r_callVi hG (c_X6_finding (g_l G) (g_D G) a (Z) (K) (R) (C) (YT) (J) 0 (by omega))  gX6_sheet_X6_finding rfl hyX6_finding rfl (by decide) (by decide) 0 rfl rfl rfl (Nat.le_of_ble_eq_true rfl) ⟨Nat.zero_le _, Nat.zero_le _⟩ dX6_sheet_16 (fun w hw => ?_)
    subst hw
    exact r_iret hG hE dX6_sheet_19 (by unfold s_sheet; (try dsimp only); (repeat (first | rw [if_pos (by omega)] | rw [if_neg (by omega)])) <;> (first | rfl | skip)) ⟨YT, J, (by unfold s_sheet; (try dsimp only); (repeat (first | rw [if_pos (by omega)] | rw [if_neg (by omega)])) <;> (first | rfl | skip))⟩
  · try simp only [decide_eq_true_eq, decide_eq_false_iff_not] at c4
    refine r_iload_n (i := 2) hG dX6_sheet_7 rfl rfl ?_
    refine r_call0i hG (c_X2_isWidth (g_l G) (g_D G) _ (by omega))  gX6_sheet_X2_isWidth rfl hyX2_isWidth rfl (by decide) (by decide) rfl (Nat.le_of_ble_eq_true rfl) ⟨Nat.zero_le _, Nat.zero_le _⟩ dX6_sheet_8 ?_
    refine rb_if_ne (tgt := 20) hG dX6_sheet_11 (by decide) (fun c11 => ?_) (fun c11 => ?_)
    · try simp only [decide_eq_true_eq, decide_eq_false_iff_not] at c11
      refine r_iload_n (i := 3) hG dX6_sheet_20 rfl rfl ?_
      refine r_if_ge (tgt := 31) hG (by omega) dX6_sheet_21 (by decide) (fun c21 => ?_) (fun c21 => ?_)
      · refine r_iload_n (i := 3) hG dX6_sheet_31 rfl rfl ?_
        refine r_bipush hG dX6_sheet_32 rfl ?_
        refine r_icmp_le (tgt := 43) hG (by omega) (by omega) dX6_sheet_34 (by decide) (fun c34 => ?_) (fun c34 => ?_)
        · exact V_lv (M (by omega) (by omega) (by omega)) ⟨rfl, rfl, rfl, rfl, trivial⟩
        · refine r_aload_n (i := 0) hG dX6_sheet_37 rfl rfl ?_
          refine r_iconst hG dX6_sheet_38 ?_
          refine r_callVi hG (c_X6_finding (g_l G) (g_D G) a (Z) (K) (R) (C) (YT) (J) 0 (by omega))  gX6_sheet_X6_finding rfl hyX6_finding rfl (by decide) (by decide) 0 rfl rfl rfl (Nat.le_of_ble_eq_true rfl) ⟨Nat.zero_le _, Nat.zero_le _⟩ dX6_sheet_39 (fun w hw => ?_)
          subst hw
          exact r_iret hG hE dX6_sheet_42 (by unfold s_sheet; (try dsimp only); (repeat (first | rw [if_pos (by omega)] | rw [if_neg (by omega)])) <;> (first | rfl | skip)) ⟨YT, J, (by unfold s_sheet; (try dsimp only); (repeat (first | rw [if_pos (by omega)] | rw [if_neg (by omega)])) <;> (first | rfl | skip))⟩
      · refine r_aload_n (i := 0) hG dX6_sheet_24 rfl rfl ?_
        refine r_bipush hG dX6_sheet_25 rfl ?_
        refine r_callVi hG (c_X6_finding (g_l G) (g_D G) a (Z) (K) (R) (C) (YT) (J) 6 (by omega))  gX6_sheet_X6_finding rfl hyX6_finding rfl (by decide) (by decide) 0 rfl rfl rfl (Nat.le_of_ble_eq_true rfl) ⟨Nat.zero_le _, Nat.zero_le _⟩ dX6_sheet_27 (fun w hw => ?_)
        subst hw
        exact r_iret hG hE dX6_sheet_30 (by unfold s_sheet; (try dsimp only); (repeat (first | rw [if_pos (by omega)] | rw [if_neg (by omega)])) <;> (first | rfl | skip)) ⟨YT, J, (by unfold s_sheet; (try dsimp only); (repeat (first | rw [if_pos (by omega)] | rw [if_neg (by omega)])) <;> (first | rfl | skip))⟩
    · try simp only [decide_eq_true_eq, decide_eq_false_iff_not] at c11
      refine r_aload_n (i := 0) hG dX6_sheet_14 rfl rfl ?_
      refine r_iconst hG dX6_sheet_15 ?_
      refine r_callVi hG (c_X6_finding (g_l G) (g_D G) a (Z) (K) (R) (C) (YT) (J) 0 (by omega))  gX6_sheet_X6_finding rfl hyX6_finding rfl (by decide) (by decide) 0 rfl rfl rfl (Nat.le_of_ble_eq_true rfl) ⟨Nat.zero_le _, Nat.zero_le _⟩ dX6_sheet_16 (fun w hw => ?_)
      subst hw
      exact r_iret hG hE dX6_sheet_19 (by unfold s_sheet; (try dsimp only); (repeat (first | rw [if_pos (by omega)] | rw [if_neg (by omega)])) <;> (first | rfl | skip)) ⟨YT, J, (by unfold s_sheet; (try dsimp only); (repeat (first | rw [if_pos (by omega)] | rw [if_neg (by omega)])) <;> (first | rfl | skip))⟩
theorem kX6_write_43 : Cond.fieldLink RX6 43 "BreakSwaps" "sheets" "[LBreakSwaps$Sheet;" ∈ wsX6_write := List.mem_of_getElem? (i := 1) rfl
theorem kX6_write_212 : Cond.fieldLink RX6 212 "BreakSwaps$Sheet" "length" "I" ∈ wsX6_write := List.mem_of_getElem? (i := 2) rfl
theorem kX6_write_216 : Cond.fieldLink RX6 216 "BreakSwaps$Sheet" "row" "[J" ∈ wsX6_write := List.mem_of_getElem? (i := 3) rfl
theorem cX6_write_X2 : ∀ w ∈ wsX20, w ∈ wsX6_write := fun _ h => List.mem_cons_of_mem _ (List.mem_append_right _ h)
theorem cX6_write_X6 : ∀ w ∈ wsX60, w ∈ wsX6_write := fun _ h => List.mem_cons_of_mem _ (List.mem_append_left _ (List.mem_append_right _ h))
theorem hyX6_write : hyV yX6_write RX6 3 := by decide +kernel
set_option maxHeartbeats 4000000 in
set_option maxRecDepth 100000 in
theorem c_X6_write (l : Launch) (D : va_G) (a : Nat → Nat) (Z K R : YS) (C : Int → Int64) (YT : YS) (J : Nat → Int) (hT : TI (Z, K, R, C)) (s i : Int) (v : Int64) (hs : -2147483648 ≤ s ∧ s < 2147483648) (hi : -2147483648 ≤ i ∧ i < 2147483648) : Con l yX6_write wsX6_write 2 D (bw D a Z K R C YT J) [.ref (a 0), .int (iI s), .int (iI i), .long v] (some (.long (s_write (Z, K, R, C) s i v).1)) (fun ww => ∃ Y2 J2, ww = bwT D a (s_write (Z, K, R, C) s i v).2 Y2 J2) := by
  refine con_start (own := RX6) (by decide) rfl rfl (Nat.le_of_ble_eq_true rfl) ?_
  intro G hG hE hl hD
  subst hl
  subst hD
  have hS : ∀ s, 0 ≤ s → s < 4 → (R 3 s = 0 ∨ R 3 s = 8 ∨ R 3 s = 16 ∨ R 3 s = 64) ∧ 0 ≤ R 4 s ∧ R 4 s ≤ 40 := hT.2.2.2
  have M : (0 ≤ s ∧ s ≤ 3) → V G 0 0 (bw (g_D G) a Z K R C YT J) 14 [(0, .ref (a 0)), (1, .int (iI s)), (2, .int (iI i)), (3, .long v)] [] := by
    intro h1
    have hsz := hS s (by omega) (by omega)
    rcases (show s = 0 ∨ s = 1 ∨ s = 2 ∨ s = 3 by omega) with hv4 | hv4 | hv4 | hv4
    · subst hv4
      refine r_aload_n (i := 0) hG dX6_write_14 rfl rfl ?_
      refine r_get hG cX6_write_X6 0 6 rfl rfl (by decide) kX6_write_43 rfl dX6_write_15 ?_
      refine r_iload_n (i := 1) hG dX6_write_18 rfl rfl ?_
      refine r_aldq hG 30 rfl (by omega) (by decide) dX6_write_19 (v := .ref (a 31)) rfl ?_
      refine r_astore hG dX6_write_20 (by decide) rfl ?_
      refine r_aload hG dX6_write_22 rfl ?_
      refine r_midi hG (c_X2_isMissing (g_l G) (g_D G) (fun i => a (31 + i)) (fun jz => (C) (40 * 0 + jz)) ((R) 3 0) ((R) 4 0) (by omega)) (bobj (g_D G) a (R) ++ (yw (g_D G) (fun i => a (2 + i)) (Z) ((J) 0) ((J) 1) ((J) 2) ++ (yw (g_D G) (fun i => a (10 + i)) (K) ((J) 3) ((J) 4) ((J) 5) ++ (yw (g_D G) (fun i => a (18 + i)) (YT) ((J) 6) ((J) 7) ((J) 8) ++ (bestw (a 26) ((J) 9) ((J) 10) ++ (btxt (g_D G) a (R) (J) ++ ([(a 30, .inl ((g_D G).1 102, 4, .inr (.inr (.inr (.inr (fun k => some (a (31 + 2 * k))))))))]))))))) (sheetw (g_D G) (fun i => a (33 + i)) (fun jz => (C) (40 * 1 + jz)) ((R) 3 1) ((R) 4 1) ++ (sheetw (g_D G) (fun i => a (35 + i)) (fun jz => (C) (40 * 2 + jz)) ((R) 3 2) ((R) 4 2) ++ (sheetw (g_D G) (fun i => a (37 + i)) (fun jz => (C) (40 * 3 + jz)) ((R) 3 3) ((R) 4 3)))) rfl gX6_write_X2_isMissing rfl hyX2_isMissing rfl (by decide) (by decide) 0 rfl rfl rfl (Nat.le_of_ble_eq_true rfl) ⟨Nat.zero_le _, Nat.zero_le _⟩ dX6_write_24 ?_
      intro w hw
      subst hw
      refine V_ws (ws' := bw (g_D G) a (Z) (K) (R) (C) (YT) (J)) rfl ?_
      refine rb_if_eq (tgt := 37) hG dX6_write_27 (by decide) (fun c27 => ?_) (fun c27 => ?_)
      · try simp only [decide_eq_true_eq, decide_eq_false_iff_not] at c27
        refine r_iload_n (i := 2) hG dX6_write_37 rfl rfl ?_
        refine r_iconst hG dX6_write_38 ?_
        refine r_aload hG dX6_write_39 rfl ?_
        refine r_get hG cX6_write_X2 31 2 rfl rfl (by decide) kX6_write_212 rfl dX6_write_41 ?_
        refine r_iconst hG dX6_write_44 ?_
        refine r_isub hG dX6_write_45 ?_
        refine r_call0i hG (c_X6_isWithin (g_l G) (g_D G) _ _ _ (by omega) (by omega) (by omega))  gX6_write_X6_isWithin rfl hyX6_isWithin rfl (by decide) (by decide) rfl (Nat.le_of_ble_eq_true rfl) ⟨Nat.zero_le _, Nat.zero_le _⟩ dX6_write_46 ?_
        refine rb_if_ne (tgt := 59) hG dX6_write_49 (by decide) (fun c49 => ?_) (fun c49 => ?_)
        · try simp only [decide_eq_true_eq, decide_eq_false_iff_not] at c49
          refine r_aload hG dX6_write_59 rfl ?_
          refine r_get hG cX6_write_X2 31 0 rfl rfl (by decide) kX6_write_216 rfl dX6_write_61 ?_
          refine r_iload_n (i := 2) hG dX6_write_64 rfl rfl ?_
          refine r_lald hG 32 rfl (by omega) (by decide) dX6_write_65 ?_
          refine r_lstore hG dX6_write_66 (by decide) rfl ?_
          refine r_aload hG dX6_write_68 rfl ?_
          refine r_iload_n (i := 2) hG dX6_write_70 rfl rfl ?_
          refine r_lload_n (i := 3) hG dX6_write_71 rfl rfl ?_
          refine r_midv hG (c_X2_put (g_l G) (g_D G) (fun i => a (31 + i)) (fun jz => (C) (40 * 0 + jz)) ((R) 3 0) ((R) 4 0) (by omega) i v (by omega)) (bobj (g_D G) a (R) ++ (yw (g_D G) (fun i => a (2 + i)) (Z) ((J) 0) ((J) 1) ((J) 2) ++ (yw (g_D G) (fun i => a (10 + i)) (K) ((J) 3) ((J) 4) ((J) 5) ++ (yw (g_D G) (fun i => a (18 + i)) (YT) ((J) 6) ((J) 7) ((J) 8) ++ (bestw (a 26) ((J) 9) ((J) 10) ++ (btxt (g_D G) a (R) (J) ++ ([(a 30, .inl ((g_D G).1 102, 4, .inr (.inr (.inr (.inr (fun k => some (a (31 + 2 * k))))))))]))))))) (sheetw (g_D G) (fun i => a (33 + i)) (fun jz => (C) (40 * 1 + jz)) ((R) 3 1) ((R) 4 1) ++ (sheetw (g_D G) (fun i => a (35 + i)) (fun jz => (C) (40 * 2 + jz)) ((R) 3 2) ((R) 4 2) ++ (sheetw (g_D G) (fun i => a (37 + i)) (fun jz => (C) (40 * 3 + jz)) ((R) 3 3) ((R) 4 3)))) rfl gX6_write_X2_put rfl hyX2_put rfl (by decide) (by decide) 0 rfl rfl rfl (Nat.le_of_ble_eq_true rfl) ⟨Nat.zero_le _, Nat.zero_le _⟩ dX6_write_72 ?_
          intro w hw
          subst hw
          refine V_ws (ws' := bwX (g_D G) a (Z) (K) (R) (up1 (fun jz => (C) (40 * 0 + jz)) i (cutL (R 3 0) v)) (fun jz => (C) (40 * 1 + jz)) (fun jz => (C) (40 * 2 + jz)) (fun jz => (C) (40 * 3 + jz)) (YT) (J)) rfl ?_
          refine V_shC (C := up1 C (40 * 0 + i) (cutL (R 3 0) v)) (fun j h0 h1 => up_same j) (fun j h0 h1 => up_other (by omega)) (fun j h0 h1 => up_other (by omega)) (fun j h0 h1 => up_other (by omega)) ?_
          refine r_lload hG dX6_write_75 rfl ?_
          exact r_lret hG hE dX6_write_77 (by unfold s_write; (try dsimp only); (repeat (first | rw [if_pos (by omega)] | rw [if_neg (by omega)])) <;> (first | rfl | skip)) ⟨YT, J, by unfold s_write; (try dsimp only); (repeat (first | rw [if_pos (by omega)] | rw [if_neg (by omega)])) <;> (first | rfl | skip)⟩
        · try simp only [decide_eq_true_eq, decide_eq_false_iff_not] at c49
          refine r_aload_n (i := 0) hG dX6_write_52 rfl rfl ?_
          refine r_iconst hG dX6_write_53 ?_
          refine r_callVi hG (c_X6_finding (g_l G) (g_D G) a (Z) (K) (R) (C) (YT) (J) 0 (by omega))  gX6_write_X6_finding rfl hyX6_finding rfl (by decide) (by decide) 0 rfl rfl rfl (Nat.le_of_ble_eq_true rfl) ⟨Nat.zero_le _, Nat.zero_le _⟩ dX6_write_54 (fun w hw => ?_)
          subst hw
          refine r_i2l hG dX6_write_57 ?_
          exact r_lret hG hE dX6_write_58 (by unfold s_write; (try dsimp only); (repeat (first | rw [if_pos (by omega)] | rw [if_neg (by omega)])) <;> (first | rfl | skip)) ⟨YT, J, by unfold s_write; (try dsimp only); (repeat (first | rw [if_pos (by omega)] | rw [if_neg (by omega)])) <;> (first | rfl | skip)⟩
      · try simp only [decide_eq_true_eq, decide_eq_false_iff_not] at c27
        refine r_aload_n (i := 0) hG dX6_write_30 rfl rfl ?_
        refine r_iconst hG dX6_write_31 ?_
        refine r_callVi hG (c_X6_finding (g_l G) (g_D G) a (Z) (K) (R) (C) (YT) (J) 5 (by omega))  gX6_write_X6_finding rfl hyX6_finding rfl (by decide) (by decide) 0 rfl rfl rfl (Nat.le_of_ble_eq_true rfl) ⟨Nat.zero_le _, Nat.zero_le _⟩ dX6_write_32 (fun w hw => ?_)
        subst hw
        refine r_i2l hG dX6_write_35 ?_
        exact r_lret hG hE dX6_write_36 (by unfold s_write; (try dsimp only); (repeat (first | rw [if_pos (by omega)] | rw [if_neg (by omega)])) <;> (first | rfl | skip)) ⟨YT, J, by unfold s_write; (try dsimp only); (repeat (first | rw [if_pos (by omega)] | rw [if_neg (by omega)])) <;> (first | rfl | skip)⟩
    · subst hv4
      refine r_aload_n (i := 0) hG dX6_write_14 rfl rfl ?_
      refine r_get hG cX6_write_X6 0 6 rfl rfl (by decide) kX6_write_43 rfl dX6_write_15 ?_
      refine r_iload_n (i := 1) hG dX6_write_18 rfl rfl ?_
      refine r_aldq hG 30 rfl (by omega) (by decide) dX6_write_19 (v := .ref (a 33)) rfl ?_
      refine r_astore hG dX6_write_20 (by decide) rfl ?_
      refine r_aload hG dX6_write_22 rfl ?_
      refine r_midi hG (c_X2_isMissing (g_l G) (g_D G) (fun i => a (33 + i)) (fun jz => (C) (40 * 1 + jz)) ((R) 3 1) ((R) 4 1) (by omega)) (bobj (g_D G) a (R) ++ (yw (g_D G) (fun i => a (2 + i)) (Z) ((J) 0) ((J) 1) ((J) 2) ++ (yw (g_D G) (fun i => a (10 + i)) (K) ((J) 3) ((J) 4) ((J) 5) ++ (yw (g_D G) (fun i => a (18 + i)) (YT) ((J) 6) ((J) 7) ((J) 8) ++ (bestw (a 26) ((J) 9) ((J) 10) ++ (btxt (g_D G) a (R) (J) ++ ([(a 30, .inl ((g_D G).1 102, 4, .inr (.inr (.inr (.inr (fun k => some (a (31 + 2 * k))))))))] ++ (sheetw (g_D G) (fun i => a (31 + i)) (fun jz => (C) (40 * 0 + jz)) ((R) 3 0) ((R) 4 0))))))))) (sheetw (g_D G) (fun i => a (35 + i)) (fun jz => (C) (40 * 2 + jz)) ((R) 3 2) ((R) 4 2) ++ (sheetw (g_D G) (fun i => a (37 + i)) (fun jz => (C) (40 * 3 + jz)) ((R) 3 3) ((R) 4 3))) rfl gX6_write_X2_isMissing rfl hyX2_isMissing rfl (by decide) (by decide) 0 rfl rfl rfl (Nat.le_of_ble_eq_true rfl) ⟨Nat.zero_le _, Nat.zero_le _⟩ dX6_write_24 ?_
      intro w hw
      subst hw
      refine V_ws (ws' := bw (g_D G) a (Z) (K) (R) (C) (YT) (J)) rfl ?_
      refine rb_if_eq (tgt := 37) hG dX6_write_27 (by decide) (fun c27 => ?_) (fun c27 => ?_)
      · try simp only [decide_eq_true_eq, decide_eq_false_iff_not] at c27
        refine r_iload_n (i := 2) hG dX6_write_37 rfl rfl ?_
        refine r_iconst hG dX6_write_38 ?_
        refine r_aload hG dX6_write_39 rfl ?_
        refine r_get hG cX6_write_X2 33 2 rfl rfl (by decide) kX6_write_212 rfl dX6_write_41 ?_
        refine r_iconst hG dX6_write_44 ?_
        refine r_isub hG dX6_write_45 ?_
        refine r_call0i hG (c_X6_isWithin (g_l G) (g_D G) _ _ _ (by omega) (by omega) (by omega))  gX6_write_X6_isWithin rfl hyX6_isWithin rfl (by decide) (by decide) rfl (Nat.le_of_ble_eq_true rfl) ⟨Nat.zero_le _, Nat.zero_le _⟩ dX6_write_46 ?_
        refine rb_if_ne (tgt := 59) hG dX6_write_49 (by decide) (fun c49 => ?_) (fun c49 => ?_)
        · try simp only [decide_eq_true_eq, decide_eq_false_iff_not] at c49
          refine r_aload hG dX6_write_59 rfl ?_
          refine r_get hG cX6_write_X2 33 0 rfl rfl (by decide) kX6_write_216 rfl dX6_write_61 ?_
          refine r_iload_n (i := 2) hG dX6_write_64 rfl rfl ?_
          refine r_lald hG 34 rfl (by omega) (by decide) dX6_write_65 ?_
          refine r_lstore hG dX6_write_66 (by decide) rfl ?_
          refine r_aload hG dX6_write_68 rfl ?_
          refine r_iload_n (i := 2) hG dX6_write_70 rfl rfl ?_
          refine r_lload_n (i := 3) hG dX6_write_71 rfl rfl ?_
          refine r_midv hG (c_X2_put (g_l G) (g_D G) (fun i => a (33 + i)) (fun jz => (C) (40 * 1 + jz)) ((R) 3 1) ((R) 4 1) (by omega) i v (by omega)) (bobj (g_D G) a (R) ++ (yw (g_D G) (fun i => a (2 + i)) (Z) ((J) 0) ((J) 1) ((J) 2) ++ (yw (g_D G) (fun i => a (10 + i)) (K) ((J) 3) ((J) 4) ((J) 5) ++ (yw (g_D G) (fun i => a (18 + i)) (YT) ((J) 6) ((J) 7) ((J) 8) ++ (bestw (a 26) ((J) 9) ((J) 10) ++ (btxt (g_D G) a (R) (J) ++ ([(a 30, .inl ((g_D G).1 102, 4, .inr (.inr (.inr (.inr (fun k => some (a (31 + 2 * k))))))))] ++ (sheetw (g_D G) (fun i => a (31 + i)) (fun jz => (C) (40 * 0 + jz)) ((R) 3 0) ((R) 4 0))))))))) (sheetw (g_D G) (fun i => a (35 + i)) (fun jz => (C) (40 * 2 + jz)) ((R) 3 2) ((R) 4 2) ++ (sheetw (g_D G) (fun i => a (37 + i)) (fun jz => (C) (40 * 3 + jz)) ((R) 3 3) ((R) 4 3))) rfl gX6_write_X2_put rfl hyX2_put rfl (by decide) (by decide) 0 rfl rfl rfl (Nat.le_of_ble_eq_true rfl) ⟨Nat.zero_le _, Nat.zero_le _⟩ dX6_write_72 ?_
          intro w hw
          subst hw
          refine V_ws (ws' := bwX (g_D G) a (Z) (K) (R) (fun jz => (C) (40 * 0 + jz)) (up1 (fun jz => (C) (40 * 1 + jz)) i (cutL (R 3 1) v)) (fun jz => (C) (40 * 2 + jz)) (fun jz => (C) (40 * 3 + jz)) (YT) (J)) rfl ?_
          refine V_shC (C := up1 C (40 * 1 + i) (cutL (R 3 1) v)) (fun j h0 h1 => up_other (by omega)) (fun j h0 h1 => up_same j) (fun j h0 h1 => up_other (by omega)) (fun j h0 h1 => up_other (by omega)) ?_
          refine r_lload hG dX6_write_75 rfl ?_
          exact r_lret hG hE dX6_write_77 (by unfold s_write; (try dsimp only); (repeat (first | rw [if_pos (by omega)] | rw [if_neg (by omega)])) <;> (first | rfl | skip)) ⟨YT, J, by unfold s_write; (try dsimp only); (repeat (first | rw [if_pos (by omega)] | rw [if_neg (by omega)])) <;> (first | rfl | skip)⟩
        · try simp only [decide_eq_true_eq, decide_eq_false_iff_not] at c49
          refine r_aload_n (i := 0) hG dX6_write_52 rfl rfl ?_
          refine r_iconst hG dX6_write_53 ?_
          refine r_callVi hG (c_X6_finding (g_l G) (g_D G) a (Z) (K) (R) (C) (YT) (J) 0 (by omega))  gX6_write_X6_finding rfl hyX6_finding rfl (by decide) (by decide) 0 rfl rfl rfl (Nat.le_of_ble_eq_true rfl) ⟨Nat.zero_le _, Nat.zero_le _⟩ dX6_write_54 (fun w hw => ?_)
          subst hw
          refine r_i2l hG dX6_write_57 ?_
          exact r_lret hG hE dX6_write_58 (by unfold s_write; (try dsimp only); (repeat (first | rw [if_pos (by omega)] | rw [if_neg (by omega)])) <;> (first | rfl | skip)) ⟨YT, J, by unfold s_write; (try dsimp only); (repeat (first | rw [if_pos (by omega)] | rw [if_neg (by omega)])) <;> (first | rfl | skip)⟩
      · try simp only [decide_eq_true_eq, decide_eq_false_iff_not] at c27
        refine r_aload_n (i := 0) hG dX6_write_30 rfl rfl ?_
        refine r_iconst hG dX6_write_31 ?_
        refine r_callVi hG (c_X6_finding (g_l G) (g_D G) a (Z) (K) (R) (C) (YT) (J) 5 (by omega))  gX6_write_X6_finding rfl hyX6_finding rfl (by decide) (by decide) 0 rfl rfl rfl (Nat.le_of_ble_eq_true rfl) ⟨Nat.zero_le _, Nat.zero_le _⟩ dX6_write_32 (fun w hw => ?_)
        subst hw
        refine r_i2l hG dX6_write_35 ?_
        exact r_lret hG hE dX6_write_36 (by unfold s_write; (try dsimp only); (repeat (first | rw [if_pos (by omega)] | rw [if_neg (by omega)])) <;> (first | rfl | skip)) ⟨YT, J, by unfold s_write; (try dsimp only); (repeat (first | rw [if_pos (by omega)] | rw [if_neg (by omega)])) <;> (first | rfl | skip)⟩
    · subst hv4
      refine r_aload_n (i := 0) hG dX6_write_14 rfl rfl ?_
      refine r_get hG cX6_write_X6 0 6 rfl rfl (by decide) kX6_write_43 rfl dX6_write_15 ?_
      refine r_iload_n (i := 1) hG dX6_write_18 rfl rfl ?_
      refine r_aldq hG 30 rfl (by omega) (by decide) dX6_write_19 (v := .ref (a 35)) rfl ?_
      refine r_astore hG dX6_write_20 (by decide) rfl ?_
      refine r_aload hG dX6_write_22 rfl ?_
      refine r_midi hG (c_X2_isMissing (g_l G) (g_D G) (fun i => a (35 + i)) (fun jz => (C) (40 * 2 + jz)) ((R) 3 2) ((R) 4 2) (by omega)) (bobj (g_D G) a (R) ++ (yw (g_D G) (fun i => a (2 + i)) (Z) ((J) 0) ((J) 1) ((J) 2) ++ (yw (g_D G) (fun i => a (10 + i)) (K) ((J) 3) ((J) 4) ((J) 5) ++ (yw (g_D G) (fun i => a (18 + i)) (YT) ((J) 6) ((J) 7) ((J) 8) ++ (bestw (a 26) ((J) 9) ((J) 10) ++ (btxt (g_D G) a (R) (J) ++ ([(a 30, .inl ((g_D G).1 102, 4, .inr (.inr (.inr (.inr (fun k => some (a (31 + 2 * k))))))))] ++ (sheetw (g_D G) (fun i => a (31 + i)) (fun jz => (C) (40 * 0 + jz)) ((R) 3 0) ((R) 4 0) ++ (sheetw (g_D G) (fun i => a (33 + i)) (fun jz => (C) (40 * 1 + jz)) ((R) 3 1) ((R) 4 1)))))))))) (sheetw (g_D G) (fun i => a (37 + i)) (fun jz => (C) (40 * 3 + jz)) ((R) 3 3) ((R) 4 3)) rfl gX6_write_X2_isMissing rfl hyX2_isMissing rfl (by decide) (by decide) 0 rfl rfl rfl (Nat.le_of_ble_eq_true rfl) ⟨Nat.zero_le _, Nat.zero_le _⟩ dX6_write_24 ?_
      intro w hw
      subst hw
      refine V_ws (ws' := bw (g_D G) a (Z) (K) (R) (C) (YT) (J)) rfl ?_
      refine rb_if_eq (tgt := 37) hG dX6_write_27 (by decide) (fun c27 => ?_) (fun c27 => ?_)
      · try simp only [decide_eq_true_eq, decide_eq_false_iff_not] at c27
        refine r_iload_n (i := 2) hG dX6_write_37 rfl rfl ?_
        refine r_iconst hG dX6_write_38 ?_
        refine r_aload hG dX6_write_39 rfl ?_
        refine r_get hG cX6_write_X2 35 2 rfl rfl (by decide) kX6_write_212 rfl dX6_write_41 ?_
        refine r_iconst hG dX6_write_44 ?_
        refine r_isub hG dX6_write_45 ?_
        refine r_call0i hG (c_X6_isWithin (g_l G) (g_D G) _ _ _ (by omega) (by omega) (by omega))  gX6_write_X6_isWithin rfl hyX6_isWithin rfl (by decide) (by decide) rfl (Nat.le_of_ble_eq_true rfl) ⟨Nat.zero_le _, Nat.zero_le _⟩ dX6_write_46 ?_
        refine rb_if_ne (tgt := 59) hG dX6_write_49 (by decide) (fun c49 => ?_) (fun c49 => ?_)
        · try simp only [decide_eq_true_eq, decide_eq_false_iff_not] at c49
          refine r_aload hG dX6_write_59 rfl ?_
          refine r_get hG cX6_write_X2 35 0 rfl rfl (by decide) kX6_write_216 rfl dX6_write_61 ?_
          refine r_iload_n (i := 2) hG dX6_write_64 rfl rfl ?_
          refine r_lald hG 36 rfl (by omega) (by decide) dX6_write_65 ?_
          refine r_lstore hG dX6_write_66 (by decide) rfl ?_
          refine r_aload hG dX6_write_68 rfl ?_
          refine r_iload_n (i := 2) hG dX6_write_70 rfl rfl ?_
          refine r_lload_n (i := 3) hG dX6_write_71 rfl rfl ?_
          refine r_midv hG (c_X2_put (g_l G) (g_D G) (fun i => a (35 + i)) (fun jz => (C) (40 * 2 + jz)) ((R) 3 2) ((R) 4 2) (by omega) i v (by omega)) (bobj (g_D G) a (R) ++ (yw (g_D G) (fun i => a (2 + i)) (Z) ((J) 0) ((J) 1) ((J) 2) ++ (yw (g_D G) (fun i => a (10 + i)) (K) ((J) 3) ((J) 4) ((J) 5) ++ (yw (g_D G) (fun i => a (18 + i)) (YT) ((J) 6) ((J) 7) ((J) 8) ++ (bestw (a 26) ((J) 9) ((J) 10) ++ (btxt (g_D G) a (R) (J) ++ ([(a 30, .inl ((g_D G).1 102, 4, .inr (.inr (.inr (.inr (fun k => some (a (31 + 2 * k))))))))] ++ (sheetw (g_D G) (fun i => a (31 + i)) (fun jz => (C) (40 * 0 + jz)) ((R) 3 0) ((R) 4 0) ++ (sheetw (g_D G) (fun i => a (33 + i)) (fun jz => (C) (40 * 1 + jz)) ((R) 3 1) ((R) 4 1)))))))))) (sheetw (g_D G) (fun i => a (37 + i)) (fun jz => (C) (40 * 3 + jz)) ((R) 3 3) ((R) 4 3)) rfl gX6_write_X2_put rfl hyX2_put rfl (by decide) (by decide) 0 rfl rfl rfl (Nat.le_of_ble_eq_true rfl) ⟨Nat.zero_le _, Nat.zero_le _⟩ dX6_write_72 ?_
          intro w hw
          subst hw
          refine V_ws (ws' := bwX (g_D G) a (Z) (K) (R) (fun jz => (C) (40 * 0 + jz)) (fun jz => (C) (40 * 1 + jz)) (up1 (fun jz => (C) (40 * 2 + jz)) i (cutL (R 3 2) v)) (fun jz => (C) (40 * 3 + jz)) (YT) (J)) rfl ?_
          refine V_shC (C := up1 C (40 * 2 + i) (cutL (R 3 2) v)) (fun j h0 h1 => up_other (by omega)) (fun j h0 h1 => up_other (by omega)) (fun j h0 h1 => up_same j) (fun j h0 h1 => up_other (by omega)) ?_
          refine r_lload hG dX6_write_75 rfl ?_
          exact r_lret hG hE dX6_write_77 (by unfold s_write; (try dsimp only); (repeat (first | rw [if_pos (by omega)] | rw [if_neg (by omega)])) <;> (first | rfl | skip)) ⟨YT, J, by unfold s_write; (try dsimp only); (repeat (first | rw [if_pos (by omega)] | rw [if_neg (by omega)])) <;> (first | rfl | skip)⟩
        · try simp only [decide_eq_true_eq, decide_eq_false_iff_not] at c49
          refine r_aload_n (i := 0) hG dX6_write_52 rfl rfl ?_
          refine r_iconst hG dX6_write_53 ?_
          refine r_callVi hG (c_X6_finding (g_l G) (g_D G) a (Z) (K) (R) (C) (YT) (J) 0 (by omega))  gX6_write_X6_finding rfl hyX6_finding rfl (by decide) (by decide) 0 rfl rfl rfl (Nat.le_of_ble_eq_true rfl) ⟨Nat.zero_le _, Nat.zero_le _⟩ dX6_write_54 (fun w hw => ?_)
          subst hw
          refine r_i2l hG dX6_write_57 ?_
          exact r_lret hG hE dX6_write_58 (by unfold s_write; (try dsimp only); (repeat (first | rw [if_pos (by omega)] | rw [if_neg (by omega)])) <;> (first | rfl | skip)) ⟨YT, J, by unfold s_write; (try dsimp only); (repeat (first | rw [if_pos (by omega)] | rw [if_neg (by omega)])) <;> (first | rfl | skip)⟩
      · try simp only [decide_eq_true_eq, decide_eq_false_iff_not] at c27
        refine r_aload_n (i := 0) hG dX6_write_30 rfl rfl ?_
        refine r_iconst hG dX6_write_31 ?_
        refine r_callVi hG (c_X6_finding (g_l G) (g_D G) a (Z) (K) (R) (C) (YT) (J) 5 (by omega))  gX6_write_X6_finding rfl hyX6_finding rfl (by decide) (by decide) 0 rfl rfl rfl (Nat.le_of_ble_eq_true rfl) ⟨Nat.zero_le _, Nat.zero_le _⟩ dX6_write_32 (fun w hw => ?_)
        subst hw
        refine r_i2l hG dX6_write_35 ?_
        exact r_lret hG hE dX6_write_36 (by unfold s_write; (try dsimp only); (repeat (first | rw [if_pos (by omega)] | rw [if_neg (by omega)])) <;> (first | rfl | skip)) ⟨YT, J, by unfold s_write; (try dsimp only); (repeat (first | rw [if_pos (by omega)] | rw [if_neg (by omega)])) <;> (first | rfl | skip)⟩
    · subst hv4
      refine r_aload_n (i := 0) hG dX6_write_14 rfl rfl ?_
      refine r_get hG cX6_write_X6 0 6 rfl rfl (by decide) kX6_write_43 rfl dX6_write_15 ?_
      refine r_iload_n (i := 1) hG dX6_write_18 rfl rfl ?_
      refine r_aldq hG 30 rfl (by omega) (by decide) dX6_write_19 (v := .ref (a 37)) rfl ?_
      refine r_astore hG dX6_write_20 (by decide) rfl ?_
      refine r_aload hG dX6_write_22 rfl ?_
      refine r_midi hG (c_X2_isMissing (g_l G) (g_D G) (fun i => a (37 + i)) (fun jz => (C) (40 * 3 + jz)) ((R) 3 3) ((R) 4 3) (by omega)) (bobj (g_D G) a (R) ++ (yw (g_D G) (fun i => a (2 + i)) (Z) ((J) 0) ((J) 1) ((J) 2) ++ (yw (g_D G) (fun i => a (10 + i)) (K) ((J) 3) ((J) 4) ((J) 5) ++ (yw (g_D G) (fun i => a (18 + i)) (YT) ((J) 6) ((J) 7) ((J) 8) ++ (bestw (a 26) ((J) 9) ((J) 10) ++ (btxt (g_D G) a (R) (J) ++ ([(a 30, .inl ((g_D G).1 102, 4, .inr (.inr (.inr (.inr (fun k => some (a (31 + 2 * k))))))))] ++ (sheetw (g_D G) (fun i => a (31 + i)) (fun jz => (C) (40 * 0 + jz)) ((R) 3 0) ((R) 4 0) ++ (sheetw (g_D G) (fun i => a (33 + i)) (fun jz => (C) (40 * 1 + jz)) ((R) 3 1) ((R) 4 1) ++ (sheetw (g_D G) (fun i => a (35 + i)) (fun jz => (C) (40 * 2 + jz)) ((R) 3 2) ((R) 4 2))))))))))) ([]) rfl gX6_write_X2_isMissing rfl hyX2_isMissing rfl (by decide) (by decide) 0 rfl rfl rfl (Nat.le_of_ble_eq_true rfl) ⟨Nat.zero_le _, Nat.zero_le _⟩ dX6_write_24 ?_
      intro w hw
      subst hw
      refine V_ws (ws' := bw (g_D G) a (Z) (K) (R) (C) (YT) (J)) rfl ?_
      refine rb_if_eq (tgt := 37) hG dX6_write_27 (by decide) (fun c27 => ?_) (fun c27 => ?_)
      · try simp only [decide_eq_true_eq, decide_eq_false_iff_not] at c27
        refine r_iload_n (i := 2) hG dX6_write_37 rfl rfl ?_
        refine r_iconst hG dX6_write_38 ?_
        refine r_aload hG dX6_write_39 rfl ?_
        refine r_get hG cX6_write_X2 37 2 rfl rfl (by decide) kX6_write_212 rfl dX6_write_41 ?_
        refine r_iconst hG dX6_write_44 ?_
        refine r_isub hG dX6_write_45 ?_
        refine r_call0i hG (c_X6_isWithin (g_l G) (g_D G) _ _ _ (by omega) (by omega) (by omega))  gX6_write_X6_isWithin rfl hyX6_isWithin rfl (by decide) (by decide) rfl (Nat.le_of_ble_eq_true rfl) ⟨Nat.zero_le _, Nat.zero_le _⟩ dX6_write_46 ?_
        refine rb_if_ne (tgt := 59) hG dX6_write_49 (by decide) (fun c49 => ?_) (fun c49 => ?_)
        · try simp only [decide_eq_true_eq, decide_eq_false_iff_not] at c49
          refine r_aload hG dX6_write_59 rfl ?_
          refine r_get hG cX6_write_X2 37 0 rfl rfl (by decide) kX6_write_216 rfl dX6_write_61 ?_
          refine r_iload_n (i := 2) hG dX6_write_64 rfl rfl ?_
          refine r_lald hG 38 rfl (by omega) (by decide) dX6_write_65 ?_
          refine r_lstore hG dX6_write_66 (by decide) rfl ?_
          refine r_aload hG dX6_write_68 rfl ?_
          refine r_iload_n (i := 2) hG dX6_write_70 rfl rfl ?_
          refine r_lload_n (i := 3) hG dX6_write_71 rfl rfl ?_
          refine r_midv hG (c_X2_put (g_l G) (g_D G) (fun i => a (37 + i)) (fun jz => (C) (40 * 3 + jz)) ((R) 3 3) ((R) 4 3) (by omega) i v (by omega)) (bobj (g_D G) a (R) ++ (yw (g_D G) (fun i => a (2 + i)) (Z) ((J) 0) ((J) 1) ((J) 2) ++ (yw (g_D G) (fun i => a (10 + i)) (K) ((J) 3) ((J) 4) ((J) 5) ++ (yw (g_D G) (fun i => a (18 + i)) (YT) ((J) 6) ((J) 7) ((J) 8) ++ (bestw (a 26) ((J) 9) ((J) 10) ++ (btxt (g_D G) a (R) (J) ++ ([(a 30, .inl ((g_D G).1 102, 4, .inr (.inr (.inr (.inr (fun k => some (a (31 + 2 * k))))))))] ++ (sheetw (g_D G) (fun i => a (31 + i)) (fun jz => (C) (40 * 0 + jz)) ((R) 3 0) ((R) 4 0) ++ (sheetw (g_D G) (fun i => a (33 + i)) (fun jz => (C) (40 * 1 + jz)) ((R) 3 1) ((R) 4 1) ++ (sheetw (g_D G) (fun i => a (35 + i)) (fun jz => (C) (40 * 2 + jz)) ((R) 3 2) ((R) 4 2))))))))))) ([]) rfl gX6_write_X2_put rfl hyX2_put rfl (by decide) (by decide) 0 rfl rfl rfl (Nat.le_of_ble_eq_true rfl) ⟨Nat.zero_le _, Nat.zero_le _⟩ dX6_write_72 ?_
          intro w hw
          subst hw
          refine V_ws (ws' := bwX (g_D G) a (Z) (K) (R) (fun jz => (C) (40 * 0 + jz)) (fun jz => (C) (40 * 1 + jz)) (fun jz => (C) (40 * 2 + jz)) (up1 (fun jz => (C) (40 * 3 + jz)) i (cutL (R 3 3) v)) (YT) (J)) rfl ?_
          refine V_shC (C := up1 C (40 * 3 + i) (cutL (R 3 3) v)) (fun j h0 h1 => up_other (by omega)) (fun j h0 h1 => up_other (by omega)) (fun j h0 h1 => up_other (by omega)) (fun j h0 h1 => up_same j) ?_
          refine r_lload hG dX6_write_75 rfl ?_
          exact r_lret hG hE dX6_write_77 (by unfold s_write; (try dsimp only); (repeat (first | rw [if_pos (by omega)] | rw [if_neg (by omega)])) <;> (first | rfl | skip)) ⟨YT, J, by unfold s_write; (try dsimp only); (repeat (first | rw [if_pos (by omega)] | rw [if_neg (by omega)])) <;> (first | rfl | skip)⟩
        · try simp only [decide_eq_true_eq, decide_eq_false_iff_not] at c49
          refine r_aload_n (i := 0) hG dX6_write_52 rfl rfl ?_
          refine r_iconst hG dX6_write_53 ?_
          refine r_callVi hG (c_X6_finding (g_l G) (g_D G) a (Z) (K) (R) (C) (YT) (J) 0 (by omega))  gX6_write_X6_finding rfl hyX6_finding rfl (by decide) (by decide) 0 rfl rfl rfl (Nat.le_of_ble_eq_true rfl) ⟨Nat.zero_le _, Nat.zero_le _⟩ dX6_write_54 (fun w hw => ?_)
          subst hw
          refine r_i2l hG dX6_write_57 ?_
          exact r_lret hG hE dX6_write_58 (by unfold s_write; (try dsimp only); (repeat (first | rw [if_pos (by omega)] | rw [if_neg (by omega)])) <;> (first | rfl | skip)) ⟨YT, J, by unfold s_write; (try dsimp only); (repeat (first | rw [if_pos (by omega)] | rw [if_neg (by omega)])) <;> (first | rfl | skip)⟩
      · try simp only [decide_eq_true_eq, decide_eq_false_iff_not] at c27
        refine r_aload_n (i := 0) hG dX6_write_30 rfl rfl ?_
        refine r_iconst hG dX6_write_31 ?_
        refine r_callVi hG (c_X6_finding (g_l G) (g_D G) a (Z) (K) (R) (C) (YT) (J) 5 (by omega))  gX6_write_X6_finding rfl hyX6_finding rfl (by decide) (by decide) 0 rfl rfl rfl (Nat.le_of_ble_eq_true rfl) ⟨Nat.zero_le _, Nat.zero_le _⟩ dX6_write_32 (fun w hw => ?_)
        subst hw
        refine r_i2l hG dX6_write_35 ?_
        exact r_lret hG hE dX6_write_36 (by unfold s_write; (try dsimp only); (repeat (first | rw [if_pos (by omega)] | rw [if_neg (by omega)])) <;> (first | rfl | skip)) ⟨YT, J, by unfold s_write; (try dsimp only); (repeat (first | rw [if_pos (by omega)] | rw [if_neg (by omega)])) <;> (first | rfl | skip)⟩
  refine r_iload_n (i := 1) hG dX6_write_0 rfl rfl ?_
  refine r_call0i hG (c_X6_isSheet (g_l G) (g_D G) _ (by omega))  gX6_write_X6_isSheet rfl hyX6_isSheet rfl (by decide) (by decide) rfl (Nat.le_of_ble_eq_true rfl) ⟨Nat.zero_le _, Nat.zero_le _⟩ dX6_write_1 ?_
  refine rb_if_ne (tgt := 14) hG dX6_write_4 (by decide) (fun c4 => ?_) (fun c4 => ?_)
  · try simp only [decide_eq_true_eq, decide_eq_false_iff_not] at c4
    exact V_lv (M (by omega)) ⟨rfl, rfl, rfl, rfl, trivial⟩
  · try simp only [decide_eq_true_eq, decide_eq_false_iff_not] at c4
    refine r_aload_n (i := 0) hG dX6_write_7 rfl rfl ?_
    refine r_iconst hG dX6_write_8 ?_
    refine r_callVi hG (c_X6_finding (g_l G) (g_D G) a (Z) (K) (R) (C) (YT) (J) 0 (by omega))  gX6_write_X6_finding rfl hyX6_finding rfl (by decide) (by decide) 0 rfl rfl rfl (Nat.le_of_ble_eq_true rfl) ⟨Nat.zero_le _, Nat.zero_le _⟩ dX6_write_9 (fun w hw => ?_)
    subst hw
    refine r_i2l hG dX6_write_12 ?_
    exact r_lret hG hE dX6_write_13 (by unfold s_write; (try dsimp only); (repeat (first | rw [if_pos (by omega)] | rw [if_neg (by omega)])) <;> (first | rfl | skip)) ⟨YT, J, by unfold s_write; (try dsimp only); (repeat (first | rw [if_pos (by omega)] | rw [if_neg (by omega)])) <;> (first | rfl | skip)⟩
