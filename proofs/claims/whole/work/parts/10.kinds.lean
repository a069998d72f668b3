theorem kX0_begin_7 : Cond.fieldLink RX0 7 "BreakSwaps$Best" "which" "I" ∈ wsX0_begin := List.mem_of_getElem? (i := 1) rfl
theorem cX0_begin_X0 : ∀ w ∈ wsX00, w ∈ wsX0_begin := fun _ h => List.mem_cons_of_mem _ (List.mem_append_right _ h)
theorem hyX0_begin : hyV yX0_begin RX0 0 := by decide +kernel
theorem kX0_offer_7 : Cond.fieldLink RX0 7 "BreakSwaps$Best" "which" "I" ∈ wsX0_offer := List.mem_of_getElem? (i := 1) rfl
theorem kX0_offer_13 : Cond.fieldLink RX0 13 "BreakSwaps$Best" "most" "I" ∈ wsX0_offer := List.mem_of_getElem? (i := 2) rfl
theorem cX0_offer_X0 : ∀ w ∈ wsX00, w ∈ wsX0_offer := fun _ h => List.mem_cons_of_mem _ (List.mem_append_right _ h)
theorem hyX0_offer : hyV yX0_offer RX0 2 := by decide +kernel
set_option maxHeartbeats 4000000 in
set_option maxRecDepth 100000 in
theorem c_X0_begin (l : Launch) (D : va_G) (a : Nat) (x y : Int) : Con l yX0_begin wsX0_begin 0 D (bestw a x y) [.ref a] none (fun w => w = bestw a (-1) y) := by
  refine con_start (own := RX0) (by decide) rfl rfl (Nat.le_of_ble_eq_true rfl) ?_
  intro G hG hE hl hD
  subst hl
  subst hD
  refine r_aload_n (i := 0) hG dX0_begin_0 rfl rfl ?_
  refine r_iconst hG dX0_begin_1 ?_
  refine r_put hG cX0_begin_X0 0 0 tyX0 tyX0_ok nmX0 rfl rfl (by decide) kX0_begin_7 rfl rfl rfl (Nat.le_of_ble_eq_true rfl) dX0_begin_2 rfl ?_
  exact r_vret hG hE dX0_begin_5 rfl
set_option maxHeartbeats 4000000 in
set_option maxRecDepth 100000 in
theorem c_X0_offer (l : Launch) (D : va_G) (a : Nat) (x y o v : Int) (hx : -2147483648 ≤ x ∧ x < 2147483648) (hy : 0 ≤ x → -2147483648 ≤ y ∧ y < 2147483648) (hv : -2147483648 ≤ v ∧ v < 2147483648) : Con l yX0_offer wsX0_offer 0 D (bestw a x y) [.ref a, .int (iI o), .int (iI v)] none (fun w => w = if x < 0 ∨ y < v then bestw a o v else bestw a x y) := by
  refine con_start (own := RX0) (by decide) rfl rfl (Nat.le_of_ble_eq_true rfl) ?_
  intro G hG hE hl hD
  subst hl
  subst hD
  have J15 : x < 0 ∨ y < v → V G 0 0 (bestw a x y) 15 [(0, .ref a), (1, .int (iI o)), (2, .int (iI v))] [] := by
    intro h
    refine r_aload_n (i := 0) hG dX0_offer_15 rfl rfl ?_
    refine r_iload_n (i := 1) hG dX0_offer_16 rfl rfl ?_
    refine r_put hG cX0_offer_X0 0 0 tyX0 tyX0_ok nmX0 rfl rfl (by decide) kX0_offer_7 rfl rfl rfl (Nat.le_of_ble_eq_true rfl) dX0_offer_17 rfl ?_
    refine r_aload_n (i := 0) hG dX0_offer_20 rfl rfl ?_
    refine r_iload_n (i := 2) hG dX0_offer_21 rfl rfl ?_
    refine r_put hG cX0_offer_X0 0 1 tyX0 tyX0_ok nmX0 rfl rfl (by decide) kX0_offer_13 rfl rfl rfl (Nat.le_of_ble_eq_true rfl) dX0_offer_22 rfl ?_
    first
      | exact r_vret hG hE dX0_offer_25 (if_pos h).symm
      | exact r_vret hG hE dX0_offer_25 (if_neg (by omega)).symm
  refine r_aload_n (i := 0) hG dX0_offer_0 rfl rfl ?_
  refine r_get hG cX0_offer_X0 0 0 rfl rfl (by decide) kX0_offer_7 rfl dX0_offer_1 ?_
  refine r_if_lt (tgt := 15) hG (by omega) dX0_offer_4 (by decide) (fun c4 => ?_) (fun c4 => ?_)
  · exact V_lv (J15 (by omega)) ⟨rfl, rfl, rfl, trivial⟩
  · refine r_iload_n (i := 2) hG dX0_offer_7 rfl rfl ?_
    refine r_aload_n (i := 0) hG dX0_offer_8 rfl rfl ?_
    refine r_get hG cX0_offer_X0 0 1 rfl rfl (by decide) kX0_offer_13 rfl dX0_offer_9 ?_
    refine r_icmp_le (tgt := 25) hG (by omega) (hy (by omega)) dX0_offer_12 (by decide) (fun c12 => ?_) (fun c12 => ?_)
    · first
        | exact r_vret hG hE dX0_offer_25 (if_pos h).symm
        | exact r_vret hG hE dX0_offer_25 (if_neg (by omega)).symm
    · exact V_lv (J15 (by omega)) ⟨rfl, rfl, rfl, trivial⟩
theorem hyX1_isKind : hyS yX1_isKind 1 := by decide +kernel
theorem hyX1_worthOf : hyS yX1_worthOf 4 := by decide +kernel
theorem hyX1_agreesFor : hyS yX1_agreesFor 4 := by decide +kernel
theorem hyX1_asksOf : hyS yX1_asksOf 2 := by decide +kernel
theorem hyX1_losesOf : hyS yX1_losesOf 1 := by decide +kernel
set_option maxHeartbeats 4000000 in
set_option maxRecDepth 100000 in
theorem c_X1_isKind (l : Launch) (D : va_G) (k : Int) (hk : -2147483648 ≤ k ∧ k < 2147483648) : Con l yX1_isKind wsX1_isKind 0 D [] [.int (iI k)] (some (.int (iI (b2 (decide (0 ≤ k ∧ k < 6)))))) (fun w => w = []) := by
  refine con_start (own := RX1) (by decide) rfl rfl (Nat.le_of_ble_eq_true rfl) ?_
  intro G hG hE hl hD
  subst hl
  subst hD
  refine r_iload_n (i := 0) hG dX1_isKind_0 rfl rfl ?_
  refine r_if_lt (tgt := 14) hG (by omega) dX1_isKind_1 (by decide) (fun c1 => ?_) (fun c1 => ?_)
  · refine r_iconst hG dX1_isKind_14 ?_
    exact r_zret hG hE dX1_isKind_15 (by congr 1; unfold b2; (repeat' split) <;> (try simp_all) <;> (try omega)) rfl
  · refine r_iload_n (i := 0) hG dX1_isKind_4 rfl rfl ?_
    refine r_bipush hG dX1_isKind_5 rfl ?_
    refine r_icmp_ge (tgt := 14) hG (by omega) (by omega) dX1_isKind_7 (by decide) (fun c7 => ?_) (fun c7 => ?_)
    · refine r_iconst hG dX1_isKind_14 ?_
      exact r_zret hG hE dX1_isKind_15 (by congr 1; unfold b2; (repeat' split) <;> (try simp_all) <;> (try omega)) rfl
    · refine r_iconst hG dX1_isKind_10 ?_
      refine r_goto (tgt := 15) hG dX1_isKind_11 (by decide) ?_
      exact r_zret hG hE dX1_isKind_15 (by congr 1; unfold b2; (repeat' split) <;> (try simp_all) <;> (try omega)) rfl
set_option maxHeartbeats 4000000 in
set_option maxRecDepth 100000 in
theorem c_X1_worthOf (l : Launch) (D : va_G) (k t i h : Int) (hk : 0 ≤ k ∧ k ≤ 5) (ht : -2147483648 ≤ t ∧ t < 2147483648) (hi : -2147483648 ≤ i ∧ i < 2147483648) (hh : -2147483648 ≤ h ∧ h < 2147483648) : Con l yX1_worthOf wsX1_worthOf 0 D [] [.int (iI k), .int (iI t), .int (iI i), .int (iI h)] (some (.int (iI (worthK k t i h)))) (fun w => w = []) := by
  refine con_start (own := RX1) (by decide) rfl rfl (Nat.le_of_ble_eq_true rfl) ?_
  intro G hG hE hl hD
  subst hl
  subst hD
  refine r_iload_n (i := 0) hG dX1_worthOf_0 rfl rfl ?_
  rcases (show k = 1 ∨ k = 2 ∨ k = 3 ∨ k = 4 ∨ k = 5 ∨ (k < 1 ∨ 5 < k) by omega) with c1 | c1 | c1 | c1 | c1 | c1
  · refine r_tsIn (tgt := 36) hG 1 c1 dX1_worthOf_1 (by omega) rfl (by decide) ?_
    refine r_iload_n (i := 3) hG dX1_worthOf_36 rfl rfl ?_
    refine r_iconst hG dX1_worthOf_37 ?_
    refine r_icmp_ne (tgt := 47) hG (by omega) (by omega) dX1_worthOf_38 (by decide) (fun c38 => ?_) (fun c38 => ?_)
    · refine r_iload_n (i := 2) hG dX1_worthOf_47 rfl rfl ?_
      exact r_iret hG hE dX1_worthOf_48 (by unfold worthK; congr 1; repeat (first | rw [if_pos (by omega)] | rw [if_neg (by omega)])) rfl
    · refine r_iload_n (i := 2) hG dX1_worthOf_41 rfl rfl ?_
      refine r_iconst hG dX1_worthOf_42 ?_
      refine r_iadd hG dX1_worthOf_43 ?_
      refine r_goto (tgt := 48) hG dX1_worthOf_44 (by decide) ?_
      exact r_iret hG hE dX1_worthOf_48 (by unfold worthK; congr 1; repeat (first | rw [if_pos (by omega)] | rw [if_neg (by omega)])) rfl
  · refine r_tsIn (tgt := 66) hG 2 c1 dX1_worthOf_1 (by omega) rfl (by decide) ?_
    refine r_iload_n (i := 2) hG dX1_worthOf_66 rfl rfl ?_
    exact r_iret hG hE dX1_worthOf_67 (by unfold worthK; congr 1; repeat (first | rw [if_pos (by omega)] | rw [if_neg (by omega)])) rfl
  · refine r_tsIn (tgt := 49) hG 3 c1 dX1_worthOf_1 (by omega) rfl (by decide) ?_
    refine r_iload_n (i := 1) hG dX1_worthOf_49 rfl rfl ?_
    refine r_bipush hG dX1_worthOf_50 rfl ?_
    refine r_icmp_ne (tgt := 60) hG (by omega) (by omega) dX1_worthOf_52 (by decide) (fun c52 => ?_) (fun c52 => ?_)
    · refine r_iload_n (i := 2) hG dX1_worthOf_60 rfl rfl ?_
      exact r_iret hG hE dX1_worthOf_61 (by unfold worthK; congr 1; repeat (first | rw [if_pos (by omega)] | rw [if_neg (by omega)])) rfl
    · refine r_bipush hG dX1_worthOf_55 rfl ?_
      refine r_goto (tgt := 61) hG dX1_worthOf_57 (by decide) ?_
      exact r_iret hG hE dX1_worthOf_61 (by unfold worthK; congr 1; repeat (first | rw [if_pos (by omega)] | rw [if_neg (by omega)])) rfl
  · refine r_tsIn (tgt := 36) hG 4 c1 dX1_worthOf_1 (by omega) rfl (by decide) ?_
    refine r_iload_n (i := 3) hG dX1_worthOf_36 rfl rfl ?_
    refine r_iconst hG dX1_worthOf_37 ?_
    refine r_icmp_ne (tgt := 47) hG (by omega) (by omega) dX1_worthOf_38 (by decide) (fun c38 => ?_) (fun c38 => ?_)
    · refine r_iload_n (i := 2) hG dX1_worthOf_47 rfl rfl ?_
      exact r_iret hG hE dX1_worthOf_48 (by unfold worthK; congr 1; repeat (first | rw [if_pos (by omega)] | rw [if_neg (by omega)])) rfl
    · refine r_iload_n (i := 2) hG dX1_worthOf_41 rfl rfl ?_
      refine r_iconst hG dX1_worthOf_42 ?_
      refine r_iadd hG dX1_worthOf_43 ?_
      refine r_goto (tgt := 48) hG dX1_worthOf_44 (by decide) ?_
      exact r_iret hG hE dX1_worthOf_48 (by unfold worthK; congr 1; repeat (first | rw [if_pos (by omega)] | rw [if_neg (by omega)])) rfl
  · refine r_tsIn (tgt := 62) hG 5 c1 dX1_worthOf_1 (by omega) rfl (by decide) ?_
    refine r_iload_n (i := 2) hG dX1_worthOf_62 rfl rfl ?_
    refine r_iload_n (i := 3) hG dX1_worthOf_63 rfl rfl ?_
    refine r_iadd hG dX1_worthOf_64 ?_
    exact r_iret hG hE dX1_worthOf_65 (by unfold worthK; congr 1; repeat (first | rw [if_pos (by omega)] | rw [if_neg (by omega)])) rfl
  · refine r_tsOut (tgt := 66) hG (by omega) dX1_worthOf_1 c1 (by decide) ?_
    refine r_iload_n (i := 2) hG dX1_worthOf_66 rfl rfl ?_
    exact r_iret hG hE dX1_worthOf_67 (by unfold worthK; congr 1; repeat (first | rw [if_pos (by omega)] | rw [if_neg (by omega)])) rfl
set_option maxHeartbeats 4000000 in
set_option maxRecDepth 100000 in
theorem c_X1_agreesFor (l : Launch) (D : va_G) (k g s u : Int) (hk : 0 ≤ k ∧ k ≤ 5) (hg : -2147483648 ≤ g ∧ g < 2147483648) (hs : -2147483648 ≤ s ∧ s < 2147483648) (hu : -2147483648 ≤ u ∧ u < 2147483648) : Con l yX1_agreesFor wsX1_agreesFor 0 D [] [.int (iI k), .int (iI g), .int (iI s), .int (iI u)] (some (.int (iI (b2 (agK k g s u))))) (fun w => w = []) := by
  refine con_start (own := RX1) (by decide) rfl rfl (Nat.le_of_ble_eq_true rfl) ?_
  intro G hG hE hl hD
  subst hl
  subst hD
  refine r_iload_n (i := 0) hG dX1_agreesFor_0 rfl rfl ?_
  rcases (show k = 1 ∨ k = 2 ∨ k = 3 ∨ k = 4 ∨ k = 5 ∨ (k < 1 ∨ 5 < k) by omega) with c1 | c1 | c1 | c1 | c1 | c1
  · refine r_tsIn (tgt := 36) hG 1 c1 dX1_agreesFor_1 (by omega) rfl (by decide) ?_
    refine r_iload_n (i := 1) hG dX1_agreesFor_36 rfl rfl ?_
    refine r_iconst hG dX1_agreesFor_37 ?_
    refine r_icmp_lt (tgt := 45) hG (by omega) (by omega) dX1_agreesFor_38 (by decide) (fun c38 => ?_) (fun c38 => ?_)
    · refine r_iconst hG dX1_agreesFor_45 ?_
      exact r_zret hG hE dX1_agreesFor_46 (by congr 1; unfold b2 agK; (repeat' split) <;> (try simp_all) <;> (try omega)) rfl
    · refine r_iconst hG dX1_agreesFor_41 ?_
      refine r_goto (tgt := 46) hG dX1_agreesFor_42 (by decide) ?_
      exact r_zret hG hE dX1_agreesFor_46 (by congr 1; unfold b2 agK; (repeat' split) <;> (try simp_all) <;> (try omega)) rfl
  · refine r_tsIn (tgt := 47) hG 2 c1 dX1_agreesFor_1 (by omega) rfl (by decide) ?_
    refine r_iload_n (i := 1) hG dX1_agreesFor_47 rfl rfl ?_
    refine r_if_le (tgt := 59) hG (by omega) dX1_agreesFor_48 (by decide) (fun c48 => ?_) (fun c48 => ?_)
    · refine r_iconst hG dX1_agreesFor_59 ?_
      exact r_zret hG hE dX1_agreesFor_60 (by congr 1; unfold b2 agK; (repeat' split) <;> (try simp_all) <;> (try omega)) rfl
    · refine r_iload_n (i := 3) hG dX1_agreesFor_51 rfl rfl ?_
      refine r_if_ne (tgt := 59) hG (by omega) dX1_agreesFor_52 (by decide) (fun c52 => ?_) (fun c52 => ?_)
      · refine r_iconst hG dX1_agreesFor_59 ?_
        exact r_zret hG hE dX1_agreesFor_60 (by congr 1; unfold b2 agK; (repeat' split) <;> (try simp_all) <;> (try omega)) rfl
      · refine r_iconst hG dX1_agreesFor_55 ?_
        refine r_goto (tgt := 60) hG dX1_agreesFor_56 (by decide) ?_
        exact r_zret hG hE dX1_agreesFor_60 (by congr 1; unfold b2 agK; (repeat' split) <;> (try simp_all) <;> (try omega)) rfl
  · refine r_tsIn (tgt := 100) hG 3 c1 dX1_agreesFor_1 (by omega) rfl (by decide) ?_
    refine r_iload_n (i := 1) hG dX1_agreesFor_100 rfl rfl ?_
    refine r_if_le (tgt := 108) hG (by omega) dX1_agreesFor_101 (by decide) (fun c101 => ?_) (fun c101 => ?_)
    · refine r_iconst hG dX1_agreesFor_108 ?_
      exact r_zret hG hE dX1_agreesFor_109 (by congr 1; unfold b2 agK; (repeat' split) <;> (try simp_all) <;> (try omega)) rfl
    · refine r_iconst hG dX1_agreesFor_104 ?_
      refine r_goto (tgt := 109) hG dX1_agreesFor_105 (by decide) ?_
      exact r_zret hG hE dX1_agreesFor_109 (by congr 1; unfold b2 agK; (repeat' split) <;> (try simp_all) <;> (try omega)) rfl
  · refine r_tsIn (tgt := 61) hG 4 c1 dX1_agreesFor_1 (by omega) rfl (by decide) ?_
    refine r_iload_n (i := 1) hG dX1_agreesFor_61 rfl rfl ?_
    refine r_if_lt (tgt := 75) hG (by omega) dX1_agreesFor_62 (by decide) (fun c62 => ?_) (fun c62 => ?_)
    · refine r_iconst hG dX1_agreesFor_75 ?_
      exact r_zret hG hE dX1_agreesFor_76 (by congr 1; unfold b2 agK; (repeat' split) <;> (try simp_all) <;> (try omega)) rfl
    · refine r_iload_n (i := 2) hG dX1_agreesFor_65 rfl rfl ?_
      refine r_bipush hG dX1_agreesFor_66 rfl ?_
      refine r_icmp_ge (tgt := 75) hG (by omega) (by omega) dX1_agreesFor_68 (by decide) (fun c68 => ?_) (fun c68 => ?_)
      · refine r_iconst hG dX1_agreesFor_75 ?_
        exact r_zret hG hE dX1_agreesFor_76 (by congr 1; unfold b2 agK; (repeat' split) <;> (try simp_all) <;> (try omega)) rfl
      · refine r_iconst hG dX1_agreesFor_71 ?_
        refine r_goto (tgt := 76) hG dX1_agreesFor_72 (by decide) ?_
        exact r_zret hG hE dX1_agreesFor_76 (by congr 1; unfold b2 agK; (repeat' split) <;> (try simp_all) <;> (try omega)) rfl
  · refine r_tsIn (tgt := 77) hG 5 c1 dX1_agreesFor_1 (by omega) rfl (by decide) ?_
    refine r_iload_n (i := 1) hG dX1_agreesFor_77 rfl rfl ?_
    refine r_iload_n (i := 2) hG dX1_agreesFor_78 rfl rfl ?_
    refine r_if_ne (tgt := 86) hG (by omega) dX1_agreesFor_79 (by decide) (fun c79 => ?_) (fun c79 => ?_)
    · refine r_iconst hG dX1_agreesFor_86 ?_
      refine r_icmp_le (tgt := 98) hG (by omega) (by omega) dX1_agreesFor_87 (by decide) (fun c87 => ?_) (fun c87 => ?_)
      · refine r_iconst hG dX1_agreesFor_98 ?_
        exact r_zret hG hE dX1_agreesFor_99 (by congr 1; unfold b2 agK; (repeat' split) <;> (try simp_all) <;> (try omega)) rfl
      · refine r_iload_n (i := 3) hG dX1_agreesFor_90 rfl rfl ?_
        refine r_if_ne (tgt := 98) hG (by omega) dX1_agreesFor_91 (by decide) (fun c91 => ?_) (fun c91 => ?_)
        · refine r_iconst hG dX1_agreesFor_98 ?_
          exact r_zret hG hE dX1_agreesFor_99 (by congr 1; unfold b2 agK; (repeat' split) <;> (try simp_all) <;> (try omega)) rfl
        · refine r_iconst hG dX1_agreesFor_94 ?_
          refine r_goto (tgt := 99) hG dX1_agreesFor_95 (by decide) ?_
          exact r_zret hG hE dX1_agreesFor_99 (by congr 1; unfold b2 agK; (repeat' split) <;> (try simp_all) <;> (try omega)) rfl
    · refine r_iconst hG dX1_agreesFor_82 ?_
      refine r_goto (tgt := 87) hG dX1_agreesFor_83 (by decide) ?_
      refine r_icmp_le (tgt := 98) hG (by omega) (by omega) dX1_agreesFor_87 (by decide) (fun c87 => ?_) (fun c87 => ?_)
      · refine r_iconst hG dX1_agreesFor_98 ?_
        exact r_zret hG hE dX1_agreesFor_99 (by congr 1; unfold b2 agK; (repeat' split) <;> (try simp_all) <;> (try omega)) rfl
      · refine r_iload_n (i := 3) hG dX1_agreesFor_90 rfl rfl ?_
        refine r_if_ne (tgt := 98) hG (by omega) dX1_agreesFor_91 (by decide) (fun c91 => ?_) (fun c91 => ?_)
        · refine r_iconst hG dX1_agreesFor_98 ?_
          exact r_zret hG hE dX1_agreesFor_99 (by congr 1; unfold b2 agK; (repeat' split) <;> (try simp_all) <;> (try omega)) rfl
        · refine r_iconst hG dX1_agreesFor_94 ?_
          refine r_goto (tgt := 99) hG dX1_agreesFor_95 (by decide) ?_
          exact r_zret hG hE dX1_agreesFor_99 (by congr 1; unfold b2 agK; (repeat' split) <;> (try simp_all) <;> (try omega)) rfl
  · refine r_tsOut (tgt := 100) hG (by omega) dX1_agreesFor_1 c1 (by decide) ?_
    refine r_iload_n (i := 1) hG dX1_agreesFor_100 rfl rfl ?_
    refine r_if_le (tgt := 108) hG (by omega) dX1_agreesFor_101 (by decide) (fun c101 => ?_) (fun c101 => ?_)
    · refine r_iconst hG dX1_agreesFor_108 ?_
      exact r_zret hG hE dX1_agreesFor_109 (by congr 1; unfold b2 agK; (repeat' split) <;> (try simp_all) <;> (try omega)) rfl
    · refine r_iconst hG dX1_agreesFor_104 ?_
      refine r_goto (tgt := 109) hG dX1_agreesFor_105 (by decide) ?_
      exact r_zret hG hE dX1_agreesFor_109 (by congr 1; unfold b2 agK; (repeat' split) <;> (try simp_all) <;> (try omega)) rfl
set_option maxHeartbeats 4000000 in
set_option maxRecDepth 100000 in
theorem c_X1_asksOf (l : Launch) (D : va_G) (k r : Int) (hk : 0 ≤ k ∧ k ≤ 5) (hr : 0 ≤ r ∧ r < 2147483648) : Con l yX1_asksOf wsX1_asksOf 0 D [] [.int (iI k), .int (iI r)] (some (.int (iI (asksK k r)))) (fun w => w = []) := by
  refine con_start (own := RX1) (by decide) rfl rfl (Nat.le_of_ble_eq_true rfl) ?_
  intro G hG hE hl hD
  subst hl
  subst hD
  refine r_iload_n (i := 1) hG dX1_asksOf_0 rfl rfl ?_
  refine r_iconst hG dX1_asksOf_1 ?_
  refine r_irem hG (by omega) (by omega) dX1_asksOf_2 ?_
  refine r_if_ne (tgt := 10) hG (by omega) dX1_asksOf_3 (by decide) (fun c3 => ?_) (fun c3 => ?_)
  · refine r_iconst hG dX1_asksOf_10 ?_
    refine r_istore_n (i := 2) hG dX1_asksOf_11 rfl (by decide) rfl ?_
    refine r_iload_n (i := 0) hG dX1_asksOf_12 rfl rfl ?_
    rcases (show k = 1 ∨ k = 2 ∨ k = 3 ∨ k = 4 ∨ k = 5 ∨ (k < 1 ∨ 5 < k) by omega) with c13 | c13 | c13 | c13 | c13 | c13
    · refine r_tsIn (tgt := 48) hG 1 c13 dX1_asksOf_13 (by omega) rfl (by decide) ?_
      refine r_bipush hG dX1_asksOf_48 rfl ?_
      exact r_iret hG hE dX1_asksOf_50 (by unfold asksK; congr 1; repeat (first | rw [if_pos (by omega)] | rw [if_neg (by omega)])) rfl
    · refine r_tsIn (tgt := 51) hG 2 c13 dX1_asksOf_13 (by omega) rfl (by decide) ?_
      refine r_iload_n (i := 2) hG dX1_asksOf_51 rfl rfl ?_
      exact r_iret hG hE dX1_asksOf_52 (by unfold asksK; congr 1; repeat (first | rw [if_pos (by omega)] | rw [if_neg (by omega)])) rfl
    · refine r_tsIn (tgt := 57) hG 3 c13 dX1_asksOf_13 (by omega) rfl (by decide) ?_
      refine r_iconst hG dX1_asksOf_57 ?_
      exact r_iret hG hE dX1_asksOf_58 (by unfold asksK; congr 1; repeat (first | rw [if_pos (by omega)] | rw [if_neg (by omega)])) rfl
    · refine r_tsIn (tgt := 48) hG 4 c13 dX1_asksOf_13 (by omega) rfl (by decide) ?_
      refine r_bipush hG dX1_asksOf_48 rfl ?_
      exact r_iret hG hE dX1_asksOf_50 (by unfold asksK; congr 1; repeat (first | rw [if_pos (by omega)] | rw [if_neg (by omega)])) rfl
    · refine r_tsIn (tgt := 53) hG 5 c13 dX1_asksOf_13 (by omega) rfl (by decide) ?_
      refine r_iload_n (i := 2) hG dX1_asksOf_53 rfl rfl ?_
      refine r_iconst hG dX1_asksOf_54 ?_
      refine r_iadd hG dX1_asksOf_55 ?_
      exact r_iret hG hE dX1_asksOf_56 (by unfold asksK; congr 1; repeat (first | rw [if_pos (by omega)] | rw [if_neg (by omega)])) rfl
    · refine r_tsOut (tgt := 57) hG (by omega) dX1_asksOf_13 c13 (by decide) ?_
      refine r_iconst hG dX1_asksOf_57 ?_
      exact r_iret hG hE dX1_asksOf_58 (by unfold asksK; congr 1; repeat (first | rw [if_pos (by omega)] | rw [if_neg (by omega)])) rfl
  · refine r_iconst hG dX1_asksOf_6 ?_
    refine r_goto (tgt := 11) hG dX1_asksOf_7 (by decide) ?_
    refine r_istore_n (i := 2) hG dX1_asksOf_11 rfl (by decide) rfl ?_
    refine r_iload_n (i := 0) hG dX1_asksOf_12 rfl rfl ?_
    rcases (show k = 1 ∨ k = 2 ∨ k = 3 ∨ k = 4 ∨ k = 5 ∨ (k < 1 ∨ 5 < k) by omega) with c13 | c13 | c13 | c13 | c13 | c13
    · refine r_tsIn (tgt := 48) hG 1 c13 dX1_asksOf_13 (by omega) rfl (by decide) ?_
      refine r_bipush hG dX1_asksOf_48 rfl ?_
      exact r_iret hG hE dX1_asksOf_50 (by unfold asksK; congr 1; repeat (first | rw [if_pos (by omega)] | rw [if_neg (by omega)])) rfl
    · refine r_tsIn (tgt := 51) hG 2 c13 dX1_asksOf_13 (by omega) rfl (by decide) ?_
      refine r_iload_n (i := 2) hG dX1_asksOf_51 rfl rfl ?_
      exact r_iret hG hE dX1_asksOf_52 (by unfold asksK; congr 1; repeat (first | rw [if_pos (by omega)] | rw [if_neg (by omega)])) rfl
    · refine r_tsIn (tgt := 57) hG 3 c13 dX1_asksOf_13 (by omega) rfl (by decide) ?_
      refine r_iconst hG dX1_asksOf_57 ?_
      exact r_iret hG hE dX1_asksOf_58 (by unfold asksK; congr 1; repeat (first | rw [if_pos (by omega)] | rw [if_neg (by omega)])) rfl
    · refine r_tsIn (tgt := 48) hG 4 c13 dX1_asksOf_13 (by omega) rfl (by decide) ?_
      refine r_bipush hG dX1_asksOf_48 rfl ?_
      exact r_iret hG hE dX1_asksOf_50 (by unfold asksK; congr 1; repeat (first | rw [if_pos (by omega)] | rw [if_neg (by omega)])) rfl
    · refine r_tsIn (tgt := 53) hG 5 c13 dX1_asksOf_13 (by omega) rfl (by decide) ?_
      refine r_iload_n (i := 2) hG dX1_asksOf_53 rfl rfl ?_
      refine r_iconst hG dX1_asksOf_54 ?_
      refine r_iadd hG dX1_asksOf_55 ?_
      exact r_iret hG hE dX1_asksOf_56 (by unfold asksK; congr 1; repeat (first | rw [if_pos (by omega)] | rw [if_neg (by omega)])) rfl
    · refine r_tsOut (tgt := 57) hG (by omega) dX1_asksOf_13 c13 (by decide) ?_
      refine r_iconst hG dX1_asksOf_57 ?_
      exact r_iret hG hE dX1_asksOf_58 (by unfold asksK; congr 1; repeat (first | rw [if_pos (by omega)] | rw [if_neg (by omega)])) rfl
set_option maxHeartbeats 4000000 in
set_option maxRecDepth 100000 in
theorem c_X1_losesOf (l : Launch) (D : va_G) (k : Int) (hk : 0 ≤ k ∧ k ≤ 5) : Con l yX1_losesOf wsX1_losesOf 0 D [] [.int (iI k)] (some (.int (iI (losesK k)))) (fun w => w = []) := by
  refine con_start (own := RX1) (by decide) rfl rfl (Nat.le_of_ble_eq_true rfl) ?_
  intro G hG hE hl hD
  subst hl
  subst hD
  refine r_iload_n (i := 0) hG dX1_losesOf_0 rfl rfl ?_
  rcases (show k = 1 ∨ k = 4 ∨ (¬ k = 1 ∧ ¬ k = 4) by omega) with c1 | c1 | c1
  · refine r_lsw (tgt := 28) hG (by omega) dX1_losesOf_1 (by decide) (by rw [c1]) (by decide) ?_
    refine r_iconst hG dX1_losesOf_28 ?_
    exact r_iret hG hE dX1_losesOf_29 (by unfold losesK; congr 1; repeat (first | rw [if_pos (by omega)] | rw [if_neg (by omega)])) rfl
  · refine r_lsw (tgt := 30) hG (by omega) dX1_losesOf_1 (by decide) (by rw [c1]) (by decide) ?_
    refine r_bipush hG dX1_losesOf_30 rfl ?_
    exact r_iret hG hE dX1_losesOf_32 (by unfold losesK; congr 1; repeat (first | rw [if_pos (by omega)] | rw [if_neg (by omega)])) rfl
  · refine r_lsw (tgt := 33) (off := 32) hG (by omega) dX1_losesOf_1 (by decide) (by simp [Op.lookupswitch.offset]; repeat (first | rw [if_pos (by omega)] | rw [if_neg (by omega)])) (by decide) ?_
    refine r_iconst hG dX1_losesOf_33 ?_
    exact r_iret hG hE dX1_losesOf_34 (by unfold losesK; congr 1; repeat (first | rw [if_pos (by omega)] | rw [if_neg (by omega)])) rfl
