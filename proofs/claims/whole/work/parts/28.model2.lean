theorem kX7_whoHas_9 : Cond.fieldLink RX7 9 "BreakSwapsModel" "m" "[I" ∈ wsX7_whoHas := List.mem_of_getElem? (i := 1) rfl
theorem cX7_whoHas_X7 : ∀ w ∈ wsX70, w ∈ wsX7_whoHas := fun _ h => List.mem_cons_of_mem _ (List.mem_append_right _ h)
theorem hyX7_whoHas : hyV yX7_whoHas RX7 1 := by decide +kernel
set_option maxHeartbeats 4000000 in
set_option maxRecDepth 100000 in
theorem c_X7_whoHas (l : Launch) (D : va_G) (a : Nat → Nat) (Z K U R : YS) (C : Int → Int64) (hI : Inv Z) (t : Int) (ht : 0 ≤ t ∧ t < 10) : Con l yX7_whoHas wsX7_whoHas 1 D (mw D a Z K U R C) [.ref (a 0), .int (iI t)] (some (.int (iI (maskN (fun c => decide (Z 1 c = t)) (Z 5 2).toNat)))) (fun w => w = mw D a Z K U R C) := by
  refine con_start (own := RX7) (by decide) rfl rfl (Nat.le_of_ble_eq_true rfl) ?_
  intro G hG hE hl hD
  subst hl
  subst hD
  have hN := hI.1
  have L : ∀ i : Nat, i ≤ (Z 5 2).toNat → V G 0 0 (mw (g_D G) a Z K U R C) 4 [(0, .ref (a 0)), (1, .int (iI t)), (2, .int (iI (maskN (fun c => decide (Z 1 c = t)) i))), (3, .int (iI (i : Int)))] [] := by
    refine down (fun i hi ih => ?_)
    refine r_iload_n (i := 3) hG dX7_whoHas_4 rfl rfl ?_
    refine r_aload_n (i := 0) hG dX7_whoHas_5 rfl rfl ?_
    refine r_get hG cX7_whoHas_X7 0 0 rfl rfl (by decide) kX7_whoHas_9 rfl dX7_whoHas_6 ?_
    refine r_iconst hG dX7_whoHas_9 ?_
    refine r_iald hG 1 rfl (by omega) (by decide) dX7_whoHas_10 ?_
    refine V_top (x' := iI ((Z) 5 2)) (congrArg iI (mro_2 (Z))) ?_
    refine r_icmp_ge (tgt := 40) hG (by omega) (by omega) dX7_whoHas_11 (by decide) (fun c11 => ?_) (fun c11 => ?_)
    · refine r_iload_n (i := 2) hG dX7_whoHas_40 rfl rfl ?_
      exact r_iret hG hE dX7_whoHas_41 (by rw [show i = (Z 5 2).toNat by omega]) rfl
    · refine r_iload_n (i := 2) hG dX7_whoHas_14 rfl rfl ?_
      refine r_aload_n (i := 0) hG dX7_whoHas_15 rfl rfl ?_
      refine r_iload_n (i := 3) hG dX7_whoHas_16 rfl rfl ?_
      refine r_iconst hG dX7_whoHas_17 ?_
      refine r_callVi hG (c_it1 (g_l G) (g_D G) a (Z) K U R C _ (by omega))  gX7_whoHas_X7_it rfl hyX7_it rfl (by decide) (by decide) 0 rfl rfl rfl (Nat.le_of_ble_eq_true rfl) ⟨Nat.zero_le _, Nat.zero_le _⟩ dX7_whoHas_18 (fun w hw => ?_)
      subst hw
      refine r_iload_n (i := 1) hG dX7_whoHas_21 rfl rfl ?_
      refine r_icmp_ne (tgt := 31) hG (by have := Inv_c hI (c := (i : Int)) (by omega); omega) (by omega) dX7_whoHas_22 (by decide) (fun c22 => ?_) (fun c22 => ?_)
      · refine r_iconst hG dX7_whoHas_31 ?_
        refine rr_ior hG dX7_whoHas_32 ?_
        refine r_istore_n (i := 2) hG dX7_whoHas_33 rfl (by decide) rfl ?_
        refine r_iinc hG dX7_whoHas_34 rfl (by decide) rfl ?_
        refine r_goto (tgt := 4) hG dX7_whoHas_37 (by decide) ?_
        first
          | exact V_lv (ih (by omega)) ⟨rfl, rfl, (congrArg (fun x => some (Value.int x)) (mask_step_t (f := fun c => decide (Z 1 c = t)) (by omega) (decide_eq_true c22))), rfl, trivial⟩
          | exact V_lv (ih (by omega)) ⟨rfl, rfl, (congrArg (fun x => some (Value.int x)) (mask_step_f (f := fun c => decide (Z 1 c = t)) (decide_eq_false c22))), rfl, trivial⟩
      · refine r_iconst hG dX7_whoHas_25 ?_
        refine r_iload_n (i := 3) hG dX7_whoHas_26 rfl rfl ?_
        refine rr_ishl hG dX7_whoHas_27 ?_
        refine r_goto (tgt := 32) hG dX7_whoHas_28 (by decide) ?_
        refine rr_ior hG dX7_whoHas_32 ?_
        refine r_istore_n (i := 2) hG dX7_whoHas_33 rfl (by decide) rfl ?_
        refine r_iinc hG dX7_whoHas_34 rfl (by decide) rfl ?_
        refine r_goto (tgt := 4) hG dX7_whoHas_37 (by decide) ?_
        first
          | exact V_lv (ih (by omega)) ⟨rfl, rfl, (congrArg (fun x => some (Value.int x)) (mask_step_t (f := fun c => decide (Z 1 c = t)) (by omega) (decide_eq_true c22))), rfl, trivial⟩
          | exact V_lv (ih (by omega)) ⟨rfl, rfl, (congrArg (fun x => some (Value.int x)) (mask_step_f (f := fun c => decide (Z 1 c = t)) (decide_eq_false c22))), rfl, trivial⟩
  refine r_iconst hG dX7_whoHas_0 ?_
  refine r_istore_n (i := 2) hG dX7_whoHas_1 rfl (by decide) rfl ?_
  refine r_iconst hG dX7_whoHas_2 ?_
  refine r_istore_n (i := 3) hG dX7_whoHas_3 rfl (by decide) rfl ?_
  exact V_lv (L 0 (by omega)) ⟨rfl, rfl, rfl, rfl, trivial⟩
theorem hyX7_worthTo : hyV yX7_worthTo RX7 2 := by decide +kernel
set_option maxHeartbeats 4000000 in
set_option maxRecDepth 100000 in
theorem c_X7_worthTo (l : Launch) (D : va_G) (a : Nat → Nat) (Z K U R : YS) (C : Int → Int64) (hI : Inv Z) (c t : Int) (hc : 0 ≤ c ∧ c < 8) (ht : 0 ≤ t ∧ t < 10) : Con l yX7_worthTo wsX7_worthTo 2 D (mw D a Z K U R C) [.ref (a 0), .int (iI c), .int (iI t)] (some (.int (iI (worth Z c t)))) (fun w => w = mw D a Z K U R C) := by
  refine con_start (own := RX7) (by decide) rfl rfl (Nat.le_of_ble_eq_true rfl) ?_
  intro G hG hE hl hD
  subst hl
  subst hD
  have hN := hI.1
  have hc1 := Inv_c hI hc
  have hn1 := cnt_rng hI t
  have hmk : (maskN (fun c => decide (Z 1 c = t)) (Z 5 2).toNat).toNat < 1024 := by
    have h := maskN_rng (fun c => decide (Z 1 c = t)) (Z 5 2).toNat
    have h8 : (2 : Int) ^ (Z 5 2).toNat ≤ 256 := by
      rcases (show (Z 5 2).toNat = 8 ∨ (Z 5 2).toNat < 8 by omega) with e | e
      · rw [e]; decide
      · have := two_pow_8 e; omega
    omega
  refine r_aload_n (i := 0) hG dX7_worthTo_0 rfl rfl ?_
  refine r_iload_n (i := 1) hG dX7_worthTo_1 rfl rfl ?_
  refine r_iconst hG dX7_worthTo_2 ?_
  refine r_iload_n (i := 2) hG dX7_worthTo_3 rfl rfl ?_
  refine r_iadd hG dX7_worthTo_4 ?_
  refine r_callVi hG (c_itL (g_l G) (g_D G) a Z K U R C _ _ (by omega) (by omega))  gX7_worthTo_X7_it rfl hyX7_it rfl (by decide) (by decide) 0 rfl rfl rfl (Nat.le_of_ble_eq_true rfl) ⟨Nat.zero_le _, Nat.zero_le _⟩ dX7_worthTo_5 (fun w hw => ?_)
  subst hw
  refine r_istore_n (i := 3) hG dX7_worthTo_8 rfl (by decide) rfl ?_
  refine r_aload_n (i := 0) hG dX7_worthTo_9 rfl rfl ?_
  refine r_iload_n (i := 1) hG dX7_worthTo_10 rfl rfl ?_
  refine r_iconst hG dX7_worthTo_11 ?_
  refine r_callVi hG (c_it0 (g_l G) (g_D G) a (Z) K U R C _ (by omega))  gX7_worthTo_X7_it rfl hyX7_it rfl (by decide) (by decide) 0 rfl rfl rfl (Nat.le_of_ble_eq_true rfl) ⟨Nat.zero_le _, Nat.zero_le _⟩ dX7_worthTo_12 (fun w hw => ?_)
  subst hw
  rcases (show Z 0 c = 1 ∨ Z 0 c = 2 ∨ Z 0 c = 3 ∨ Z 0 c = 4 ∨ Z 0 c = 5 ∨ (Z 0 c < 1 ∨ 5 < Z 0 c) by omega) with c15 | c15 | c15 | c15 | c15 | c15
  · refine r_tsIn (tgt := 48) hG 1 c15 dX7_worthTo_15 (by omega) rfl (by decide) ?_
    refine r_aload_n (i := 0) hG dX7_worthTo_48 rfl rfl ?_
    refine r_iload_n (i := 2) hG dX7_worthTo_49 rfl rfl ?_
    refine r_callVi hG (c_X7_whoHas (g_l G) (g_D G) a Z K U R C hI _ (by omega))  gX7_worthTo_X7_whoHas rfl hyX7_whoHas rfl (by decide) (by decide) 0 rfl rfl rfl (Nat.le_of_ble_eq_true rfl) ⟨Nat.zero_le _, Nat.zero_le _⟩ dX7_worthTo_50 (fun w hw => ?_)
    subst hw
    refine V_top (x' := iI (((maskN (fun c => decide (Z 1 c = t)) (Z 5 2).toNat).toNat : Int))) (congrArg iI (by have := maskN_rng (fun c => decide (Z 1 c = t)) (Z 5 2).toNat; omega)) ?_
    refine r_call0i hG (c_X7_bits (g_l G) (g_D G) _ hmk)  gX7_worthTo_X7_bits rfl hyX7_bits rfl (by decide) (by decide) rfl (Nat.le_of_ble_eq_true rfl) ⟨Nat.zero_le _, Nat.zero_le _⟩ dX7_worthTo_53 ?_
    refine V_top (x' := iI (cnt Z t)) (congrArg iI (pop_mask (Z 1) t _ (by omega))) ?_
    refine r_iconst hG dX7_worthTo_56 ?_
    refine r_icmp_ne (tgt := 66) hG (by omega) (by omega) dX7_worthTo_57 (by decide) (fun c57 => ?_) (fun c57 => ?_)
    · refine r_iload_n (i := 3) hG dX7_worthTo_66 rfl rfl ?_
      exact r_iret hG hE dX7_worthTo_67 (by unfold worth worthK; congr 1; (repeat (first | rw [if_pos (by omega)] | rw [if_neg (by omega)]))) rfl
    · refine r_iload_n (i := 3) hG dX7_worthTo_60 rfl rfl ?_
      refine r_iconst hG dX7_worthTo_61 ?_
      refine r_iadd hG dX7_worthTo_62 ?_
      refine r_goto (tgt := 67) hG dX7_worthTo_63 (by decide) ?_
      exact r_iret hG hE dX7_worthTo_67 (by unfold worth worthK; congr 1; (repeat (first | rw [if_pos (by omega)] | rw [if_neg (by omega)]))) rfl
  · refine r_tsIn (tgt := 92) hG 2 c15 dX7_worthTo_15 (by omega) rfl (by decide) ?_
    refine r_iload_n (i := 3) hG dX7_worthTo_92 rfl rfl ?_
    exact r_iret hG hE dX7_worthTo_93 (by unfold worth worthK; congr 1; (repeat (first | rw [if_pos (by omega)] | rw [if_neg (by omega)]))) rfl
  · refine r_tsIn (tgt := 68) hG 3 c15 dX7_worthTo_15 (by omega) rfl (by decide) ?_
    refine r_iload_n (i := 2) hG dX7_worthTo_68 rfl rfl ?_
    refine r_bipush hG dX7_worthTo_69 rfl ?_
    refine r_icmp_ne (tgt := 79) hG (by omega) (by omega) dX7_worthTo_71 (by decide) (fun c71 => ?_) (fun c71 => ?_)
    · refine r_iload_n (i := 3) hG dX7_worthTo_79 rfl rfl ?_
      exact r_iret hG hE dX7_worthTo_80 (by unfold worth worthK; congr 1; (repeat (first | rw [if_pos (by omega)] | rw [if_neg (by omega)]))) rfl
    · refine r_bipush hG dX7_worthTo_74 rfl ?_
      refine r_goto (tgt := 80) hG dX7_worthTo_76 (by decide) ?_
      exact r_iret hG hE dX7_worthTo_80 (by unfold worth worthK; congr 1; (repeat (first | rw [if_pos (by omega)] | rw [if_neg (by omega)]))) rfl
  · refine r_tsIn (tgt := 48) hG 4 c15 dX7_worthTo_15 (by omega) rfl (by decide) ?_
    refine r_aload_n (i := 0) hG dX7_worthTo_48 rfl rfl ?_
    refine r_iload_n (i := 2) hG dX7_worthTo_49 rfl rfl ?_
    refine r_callVi hG (c_X7_whoHas (g_l G) (g_D G) a Z K U R C hI _ (by omega))  gX7_worthTo_X7_whoHas rfl hyX7_whoHas rfl (by decide) (by decide) 0 rfl rfl rfl (Nat.le_of_ble_eq_true rfl) ⟨Nat.zero_le _, Nat.zero_le _⟩ dX7_worthTo_50 (fun w hw => ?_)
    subst hw
    refine V_top (x' := iI (((maskN (fun c => decide (Z 1 c = t)) (Z 5 2).toNat).toNat : Int))) (congrArg iI (by have := maskN_rng (fun c => decide (Z 1 c = t)) (Z 5 2).toNat; omega)) ?_
    refine r_call0i hG (c_X7_bits (g_l G) (g_D G) _ hmk)  gX7_worthTo_X7_bits rfl hyX7_bits rfl (by decide) (by decide) rfl (Nat.le_of_ble_eq_true rfl) ⟨Nat.zero_le _, Nat.zero_le _⟩ dX7_worthTo_53 ?_
    refine V_top (x' := iI (cnt Z t)) (congrArg iI (pop_mask (Z 1) t _ (by omega))) ?_
    refine r_iconst hG dX7_worthTo_56 ?_
    refine r_icmp_ne (tgt := 66) hG (by omega) (by omega) dX7_worthTo_57 (by decide) (fun c57 => ?_) (fun c57 => ?_)
    · refine r_iload_n (i := 3) hG dX7_worthTo_66 rfl rfl ?_
      exact r_iret hG hE dX7_worthTo_67 (by unfold worth worthK; congr 1; (repeat (first | rw [if_pos (by omega)] | rw [if_neg (by omega)]))) rfl
    · refine r_iload_n (i := 3) hG dX7_worthTo_60 rfl rfl ?_
      refine r_iconst hG dX7_worthTo_61 ?_
      refine r_iadd hG dX7_worthTo_62 ?_
      refine r_goto (tgt := 67) hG dX7_worthTo_63 (by decide) ?_
      exact r_iret hG hE dX7_worthTo_67 (by unfold worth worthK; congr 1; (repeat (first | rw [if_pos (by omega)] | rw [if_neg (by omega)]))) rfl
  · refine r_tsIn (tgt := 81) hG 5 c15 dX7_worthTo_15 (by omega) rfl (by decide) ?_
    refine r_iload_n (i := 3) hG dX7_worthTo_81 rfl rfl ?_
    refine r_aload_n (i := 0) hG dX7_worthTo_82 rfl rfl ?_
    refine r_iload_n (i := 2) hG dX7_worthTo_83 rfl rfl ?_
    refine r_callVi hG (c_X7_whoHas (g_l G) (g_D G) a Z K U R C hI _ (by omega))  gX7_worthTo_X7_whoHas rfl hyX7_whoHas rfl (by decide) (by decide) 0 rfl rfl rfl (Nat.le_of_ble_eq_true rfl) ⟨Nat.zero_le _, Nat.zero_le _⟩ dX7_worthTo_84 (fun w hw => ?_)
    subst hw
    refine V_top (x' := iI (((maskN (fun c => decide (Z 1 c = t)) (Z 5 2).toNat).toNat : Int))) (congrArg iI (by have := maskN_rng (fun c => decide (Z 1 c = t)) (Z 5 2).toNat; omega)) ?_
    refine r_call0i hG (c_X7_bits (g_l G) (g_D G) _ hmk)  gX7_worthTo_X7_bits rfl hyX7_bits rfl (by decide) (by decide) rfl (Nat.le_of_ble_eq_true rfl) ⟨Nat.zero_le _, Nat.zero_le _⟩ dX7_worthTo_87 ?_
    refine V_top (x' := iI (cnt Z t)) (congrArg iI (pop_mask (Z 1) t _ (by omega))) ?_
    refine r_iadd hG dX7_worthTo_90 ?_
    exact r_iret hG hE dX7_worthTo_91 (by unfold worth worthK; congr 1; (repeat (first | rw [if_pos (by omega)] | rw [if_neg (by omega)]))) rfl
  · refine r_tsOut (tgt := 92) hG (by omega) dX7_worthTo_15 c15 (by decide) ?_
    refine r_iload_n (i := 3) hG dX7_worthTo_92 rfl rfl ?_
    exact r_iret hG hE dX7_worthTo_93 (by unfold worth worthK; congr 1; (repeat (first | rw [if_pos (by omega)] | rw [if_neg (by omega)]))) rfl
theorem hyX7_gladness : hyV yX7_gladness RX7 1 := by decide +kernel
set_option maxHeartbeats 4000000 in
set_option maxRecDepth 100000 in
theorem c_X7_gladness (l : Launch) (D : va_G) (a : Nat → Nat) (Z K U R : YS) (C : Int → Int64) (hI : Inv Z) (c : Int) (hc : 0 ≤ c ∧ c < 8) : Con l yX7_gladness wsX7_gladness 3 D (mw D a Z K U R C) [.ref (a 0), .int (iI c)] (some (.int (iI (glad Z c)))) (fun w => w = mw D a Z K U R C) := by
  refine con_start (own := RX7) (by decide) rfl rfl (Nat.le_of_ble_eq_true rfl) ?_
  intro G hG hE hl hD
  subst hl
  subst hD
  have hc1 := Inv_c hI hc
  refine r_aload_n (i := 0) hG dX7_gladness_0 rfl rfl ?_
  refine r_iload_n (i := 1) hG dX7_gladness_1 rfl rfl ?_
  refine r_aload_n (i := 0) hG dX7_gladness_2 rfl rfl ?_
  refine r_iload_n (i := 1) hG dX7_gladness_3 rfl rfl ?_
  refine r_iconst hG dX7_gladness_4 ?_
  refine r_callVi hG (c_it1 (g_l G) (g_D G) a (Z) K U R C _ (by omega))  gX7_gladness_X7_it rfl hyX7_it rfl (by decide) (by decide) 0 rfl rfl rfl (Nat.le_of_ble_eq_true rfl) ⟨Nat.zero_le _, Nat.zero_le _⟩ dX7_gladness_5 (fun w hw => ?_)
  subst hw
  refine r_callVi hG (c_X7_worthTo (g_l G) (g_D G) a Z K U R C hI _ _ (by omega) (by omega))  gX7_gladness_X7_worthTo rfl hyX7_worthTo rfl (by decide) (by decide) 0 rfl rfl rfl (Nat.le_of_ble_eq_true rfl) ⟨Nat.zero_le _, Nat.zero_le _⟩ dX7_gladness_8 (fun w hw => ?_)
  subst hw
  exact r_iret hG hE dX7_gladness_11 rfl rfl
theorem kX7_doesAgree_9 : Cond.fieldLink RX7 9 "BreakSwapsModel" "m" "[I" ∈ wsX7_doesAgree := List.mem_of_getElem? (i := 1) rfl
theorem cX7_doesAgree_X7 : ∀ w ∈ wsX70, w ∈ wsX7_doesAgree := fun _ h => List.mem_cons_of_mem _ (List.mem_append_right _ h)
theorem hyX7_doesAgree : hyV yX7_doesAgree RX7 2 := by decide +kernel
set_option maxHeartbeats 4000000 in
set_option maxRecDepth 100000 in
theorem c_X7_doesAgree (l : Launch) (D : va_G) (a : Nat → Nat) (Z K U R : YS) (C : Int → Int64) (hI : Inv Z) (c t : Int) (hc : 0 ≤ c ∧ c < 8) (ht : 0 ≤ t ∧ t < 10) : Con l yX7_doesAgree wsX7_doesAgree 4 D (mw D a Z K U R C) [.ref (a 0), .int (iI c), .int (iI t)] (some (.int (iI (b2 (agree Z c t))))) (fun w => w = mw D a Z K U R C) := by
  refine con_start (own := RX7) (by decide) rfl rfl (Nat.le_of_ble_eq_true rfl) ?_
  intro G hG hE hl hD
  subst hl
  subst hD
  have hc1 := Inv_c hI hc
  have hu := hI.2.2.1
  have hw1 := worth_rng hI hc ht
  have hw2 := worth_rng hI hc (t := Z 1 c) (by omega)
  have J30 : V G 0 0 (mw (g_D G) a Z K U R C) 30 [(0, .ref (a 0)), (1, .int (iI c)), (3, .int (iI (worth Z c t - worth Z c (Z 1 c)))), (4, .int (iI (Z 5 1)))] [] := by
    refine r_aload_n (i := 0) hG dX7_doesAgree_30 rfl rfl ?_
    refine r_iload_n (i := 1) hG dX7_doesAgree_31 rfl rfl ?_
    refine r_iconst hG dX7_doesAgree_32 ?_
    refine r_callVi hG (c_it0 (g_l G) (g_D G) a (Z) K U R C _ (by omega))  gX7_doesAgree_X7_it rfl hyX7_it rfl (by decide) (by decide) 0 rfl rfl rfl (Nat.le_of_ble_eq_true rfl) ⟨Nat.zero_le _, Nat.zero_le _⟩ dX7_doesAgree_33 (fun w hw => ?_)
    subst hw
    rcases (show Z 0 c = 1 ∨ Z 0 c = 2 ∨ Z 0 c = 3 ∨ Z 0 c = 4 ∨ Z 0 c = 5 ∨ (Z 0 c < 1 ∨ 5 < Z 0 c) by omega) with c36 | c36 | c36 | c36 | c36 | c36
    · refine r_tsIn (tgt := 72) hG 1 c36 dX7_doesAgree_36 (by omega) rfl (by decide) ?_
      refine r_iload_n (i := 3) hG dX7_doesAgree_72 rfl rfl ?_
      refine r_iconst hG dX7_doesAgree_73 ?_
      refine r_icmp_lt (tgt := 81) hG (by omega) (by omega) dX7_doesAgree_74 (by decide) (fun c74 => ?_) (fun c74 => ?_)
      · refine r_iconst hG dX7_doesAgree_81 ?_
        exact r_zret hG hE dX7_doesAgree_82 (by congr 1; unfold b2 agree agK; (repeat' split) <;> (try simp_all) <;> (try omega)) rfl
      · refine r_iconst hG dX7_doesAgree_77 ?_
        refine r_goto (tgt := 82) hG dX7_doesAgree_78 (by decide) ?_
        exact r_zret hG hE dX7_doesAgree_82 (by congr 1; unfold b2 agree agK; (repeat' split) <;> (try simp_all) <;> (try omega)) rfl
    · refine r_tsIn (tgt := 83) hG 2 c36 dX7_doesAgree_36 (by omega) rfl (by decide) ?_
      refine r_iload_n (i := 3) hG dX7_doesAgree_83 rfl rfl ?_
      refine r_if_le (tgt := 96) hG (by omega) dX7_doesAgree_84 (by decide) (fun c84 => ?_) (fun c84 => ?_)
      · refine r_iconst hG dX7_doesAgree_96 ?_
        exact r_zret hG hE dX7_doesAgree_97 (by congr 1; unfold b2 agree agK; (repeat' split) <;> (try simp_all) <;> (try omega)) rfl
      · refine r_iload hG dX7_doesAgree_87 rfl ?_
        refine r_if_ne (tgt := 96) hG (by omega) dX7_doesAgree_89 (by decide) (fun c89 => ?_) (fun c89 => ?_)
        · refine r_iconst hG dX7_doesAgree_96 ?_
          exact r_zret hG hE dX7_doesAgree_97 (by congr 1; unfold b2 agree agK; (repeat' split) <;> (try simp_all) <;> (try omega)) rfl
        · refine r_iconst hG dX7_doesAgree_92 ?_
          refine r_goto (tgt := 97) hG dX7_doesAgree_93 (by decide) ?_
          exact r_zret hG hE dX7_doesAgree_97 (by congr 1; unfold b2 agree agK; (repeat' split) <;> (try simp_all) <;> (try omega)) rfl
    · refine r_tsIn (tgt := 148) hG 3 c36 dX7_doesAgree_36 (by omega) rfl (by decide) ?_
      refine r_iload_n (i := 3) hG dX7_doesAgree_148 rfl rfl ?_
      refine r_if_le (tgt := 156) hG (by omega) dX7_doesAgree_149 (by decide) (fun c149 => ?_) (fun c149 => ?_)
      · refine r_iconst hG dX7_doesAgree_156 ?_
        exact r_zret hG hE dX7_doesAgree_157 (by congr 1; unfold b2 agree agK; (repeat' split) <;> (try simp_all) <;> (try omega)) rfl
      · refine r_iconst hG dX7_doesAgree_152 ?_
        refine r_goto (tgt := 157) hG dX7_doesAgree_153 (by decide) ?_
        exact r_zret hG hE dX7_doesAgree_157 (by congr 1; unfold b2 agree agK; (repeat' split) <;> (try simp_all) <;> (try omega)) rfl
    · refine r_tsIn (tgt := 98) hG 4 c36 dX7_doesAgree_36 (by omega) rfl (by decide) ?_
      refine r_iload_n (i := 3) hG dX7_doesAgree_98 rfl rfl ?_
      refine r_if_lt (tgt := 117) hG (by omega) dX7_doesAgree_99 (by decide) (fun c99 => ?_) (fun c99 => ?_)
      · refine r_iconst hG dX7_doesAgree_117 ?_
        exact r_zret hG hE dX7_doesAgree_118 (by congr 1; unfold b2 agree agK; (repeat' split) <;> (try simp_all) <;> (try omega)) rfl
      · refine r_aload_n (i := 0) hG dX7_doesAgree_102 rfl rfl ?_
        refine r_iload_n (i := 1) hG dX7_doesAgree_103 rfl rfl ?_
        refine r_iconst hG dX7_doesAgree_104 ?_
        refine r_callVi hG (c_it2 (g_l G) (g_D G) a (Z) K U R C _ (by omega))  gX7_doesAgree_X7_it rfl hyX7_it rfl (by decide) (by decide) 0 rfl rfl rfl (Nat.le_of_ble_eq_true rfl) ⟨Nat.zero_le _, Nat.zero_le _⟩ dX7_doesAgree_105 (fun w hw => ?_)
        subst hw
        refine r_bipush hG dX7_doesAgree_108 rfl ?_
        refine r_icmp_ge (tgt := 117) hG (by omega) (by omega) dX7_doesAgree_110 (by decide) (fun c110 => ?_) (fun c110 => ?_)
        · refine r_iconst hG dX7_doesAgree_117 ?_
          exact r_zret hG hE dX7_doesAgree_118 (by congr 1; unfold b2 agree agK; (repeat' split) <;> (try simp_all) <;> (try omega)) rfl
        · refine r_iconst hG dX7_doesAgree_113 ?_
          refine r_goto (tgt := 118) hG dX7_doesAgree_114 (by decide) ?_
          exact r_zret hG hE dX7_doesAgree_118 (by congr 1; unfold b2 agree agK; (repeat' split) <;> (try simp_all) <;> (try omega)) rfl
    · refine r_tsIn (tgt := 119) hG 5 c36 dX7_doesAgree_36 (by omega) rfl (by decide) ?_
      refine r_iload_n (i := 3) hG dX7_doesAgree_119 rfl rfl ?_
      refine r_aload_n (i := 0) hG dX7_doesAgree_120 rfl rfl ?_
      refine r_iload_n (i := 1) hG dX7_doesAgree_121 rfl rfl ?_
      refine r_iconst hG dX7_doesAgree_122 ?_
      refine r_callVi hG (c_it2 (g_l G) (g_D G) a (Z) K U R C _ (by omega))  gX7_doesAgree_X7_it rfl hyX7_it rfl (by decide) (by decide) 0 rfl rfl rfl (Nat.le_of_ble_eq_true rfl) ⟨Nat.zero_le _, Nat.zero_le _⟩ dX7_doesAgree_123 (fun w hw => ?_)
      subst hw
      refine r_if_ne (tgt := 133) hG (by omega) dX7_doesAgree_126 (by decide) (fun c126 => ?_) (fun c126 => ?_)
      · refine r_iconst hG dX7_doesAgree_133 ?_
        refine r_icmp_lt (tgt := 146) hG (by omega) (by omega) dX7_doesAgree_134 (by decide) (fun c134 => ?_) (fun c134 => ?_)
        · refine r_iconst hG dX7_doesAgree_146 ?_
          exact r_zret hG hE dX7_doesAgree_147 (by congr 1; unfold b2 agree agK; (repeat' split) <;> (try simp_all) <;> (try omega)) rfl
        · refine r_iload hG dX7_doesAgree_137 rfl ?_
          refine r_if_ne (tgt := 146) hG (by omega) dX7_doesAgree_139 (by decide) (fun c139 => ?_) (fun c139 => ?_)
          · refine r_iconst hG dX7_doesAgree_146 ?_
            exact r_zret hG hE dX7_doesAgree_147 (by congr 1; unfold b2 agree agK; (repeat' split) <;> (try simp_all) <;> (try omega)) rfl
          · refine r_iconst hG dX7_doesAgree_142 ?_
            refine r_goto (tgt := 147) hG dX7_doesAgree_143 (by decide) ?_
            exact r_zret hG hE dX7_doesAgree_147 (by congr 1; unfold b2 agree agK; (repeat' split) <;> (try simp_all) <;> (try omega)) rfl
      · refine r_iconst hG dX7_doesAgree_129 ?_
        refine r_goto (tgt := 134) hG dX7_doesAgree_130 (by decide) ?_
        refine r_icmp_lt (tgt := 146) hG (by omega) (by omega) dX7_doesAgree_134 (by decide) (fun c134 => ?_) (fun c134 => ?_)
        · refine r_iconst hG dX7_doesAgree_146 ?_
          exact r_zret hG hE dX7_doesAgree_147 (by congr 1; unfold b2 agree agK; (repeat' split) <;> (try simp_all) <;> (try omega)) rfl
        · refine r_iload hG dX7_doesAgree_137 rfl ?_
          refine r_if_ne (tgt := 146) hG (by omega) dX7_doesAgree_139 (by decide) (fun c139 => ?_) (fun c139 => ?_)
          · refine r_iconst hG dX7_doesAgree_146 ?_
            exact r_zret hG hE dX7_doesAgree_147 (by congr 1; unfold b2 agree agK; (repeat' split) <;> (try simp_all) <;> (try omega)) rfl
          · refine r_iconst hG dX7_doesAgree_142 ?_
            refine r_goto (tgt := 147) hG dX7_doesAgree_143 (by decide) ?_
            exact r_zret hG hE dX7_doesAgree_147 (by congr 1; unfold b2 agree agK; (repeat' split) <;> (try simp_all) <;> (try omega)) rfl
    · refine r_tsOut (tgt := 148) hG (by omega) dX7_doesAgree_36 c36 (by decide) ?_
      refine r_iload_n (i := 3) hG dX7_doesAgree_148 rfl rfl ?_
      refine r_if_le (tgt := 156) hG (by omega) dX7_doesAgree_149 (by decide) (fun c149 => ?_) (fun c149 => ?_)
      · refine r_iconst hG dX7_doesAgree_156 ?_
        exact r_zret hG hE dX7_doesAgree_157 (by congr 1; unfold b2 agree agK; (repeat' split) <;> (try simp_all) <;> (try omega)) rfl
      · refine r_iconst hG dX7_doesAgree_152 ?_
        refine r_goto (tgt := 157) hG dX7_doesAgree_153 (by decide) ?_
        exact r_zret hG hE dX7_doesAgree_157 (by congr 1; unfold b2 agree agK; (repeat' split) <;> (try simp_all) <;> (try omega)) rfl
  refine r_aload_n (i := 0) hG dX7_doesAgree_0 rfl rfl ?_
  refine r_iload_n (i := 1) hG dX7_doesAgree_1 rfl rfl ?_
  refine r_iload_n (i := 2) hG dX7_doesAgree_2 rfl rfl ?_
  refine r_callVi hG (c_X7_worthTo (g_l G) (g_D G) a Z K U R C hI _ _ (by omega) (by omega))  gX7_doesAgree_X7_worthTo rfl hyX7_worthTo rfl (by decide) (by decide) 0 rfl rfl rfl (Nat.le_of_ble_eq_true rfl) ⟨Nat.zero_le _, Nat.zero_le _⟩ dX7_doesAgree_3 (fun w hw => ?_)
  subst hw
  refine r_aload_n (i := 0) hG dX7_doesAgree_6 rfl rfl ?_
  refine r_iload_n (i := 1) hG dX7_doesAgree_7 rfl rfl ?_
  refine r_callVi hG (c_X7_gladness (g_l G) (g_D G) a Z K U R C hI _ (by omega))  gX7_doesAgree_X7_gladness rfl hyX7_gladness rfl (by decide) (by decide) 0 rfl rfl rfl (Nat.le_of_ble_eq_true rfl) ⟨Nat.zero_le _, Nat.zero_le _⟩ dX7_doesAgree_8 (fun w hw => ?_)
  subst hw
  refine V_top (x' := iI (worth Z c (Z 1 c))) rfl ?_
  refine r_isub hG dX7_doesAgree_11 ?_
  refine r_istore_n (i := 3) hG dX7_doesAgree_12 rfl (by decide) rfl ?_
  refine r_aload_n (i := 0) hG dX7_doesAgree_13 rfl rfl ?_
  refine r_get hG cX7_doesAgree_X7 0 0 rfl rfl (by decide) kX7_doesAgree_9 rfl dX7_doesAgree_14 ?_
  refine r_iconst hG dX7_doesAgree_17 ?_
  refine r_iald hG 1 rfl (by omega) (by decide) dX7_doesAgree_18 ?_
  refine V_top (x' := iI ((Z) 5 1)) (congrArg iI (mro_1 (Z))) ?_
  refine r_iconst hG dX7_doesAgree_19 ?_
  refine r_icmp_ne (tgt := 27) hG (by omega) (by omega) dX7_doesAgree_20 (by decide) (fun c20 => ?_) (fun c20 => ?_)
  · refine r_iconst hG dX7_doesAgree_27 ?_
    refine r_istore hG dX7_doesAgree_28 (by decide) rfl ?_
    exact V_lv J30 ⟨rfl, rfl, rfl, (congrArg (fun v => some (Value.int (iI v))) (by omega)), trivial⟩
  · refine r_iconst hG dX7_doesAgree_23 ?_
    refine r_goto (tgt := 28) hG dX7_doesAgree_24 (by decide) ?_
    refine r_istore hG dX7_doesAgree_28 (by decide) rfl ?_
    exact V_lv J30 ⟨rfl, rfl, rfl, (congrArg (fun v => some (Value.int (iI v))) (by omega)), trivial⟩
theorem kX7_asksOf_9 : Cond.fieldLink RX7 9 "BreakSwapsModel" "m" "[I" ∈ wsX7_asksOf := List.mem_of_getElem? (i := 1) rfl
theorem cX7_asksOf_X7 : ∀ w ∈ wsX70, w ∈ wsX7_asksOf := fun _ h => List.mem_cons_of_mem _ (List.mem_append_right _ h)
theorem hyX7_asksOf : hyV yX7_asksOf RX7 1 := by decide +kernel
set_option maxHeartbeats 4000000 in
set_option maxRecDepth 100000 in
theorem c_X7_asksOf (l : Launch) (D : va_G) (a : Nat → Nat) (Z K U R : YS) (C : Int → Int64) (hI : Inv Z) (hr : Z 5 0 < 2000000000) (c : Int) (hc : 0 ≤ c ∧ c < 8) : Con l yX7_asksOf wsX7_asksOf 1 D (mw D a Z K U R C) [.ref (a 0), .int (iI c)] (some (.int (iI (asksK (Z 0 c) (Z 5 0))))) (fun w => w = mw D a Z K U R C) := by
  refine con_start (own := RX7) (by decide) rfl rfl (Nat.le_of_ble_eq_true rfl) ?_
  intro G hG hE hl hD
  subst hl
  subst hD
  have hc1 := Inv_c hI hc
  have hr0 := hI.2.1
  refine r_aload_n (i := 0) hG dX7_asksOf_0 rfl rfl ?_
  refine r_get hG cX7_asksOf_X7 0 0 rfl rfl (by decide) kX7_asksOf_9 rfl dX7_asksOf_1 ?_
  refine r_iconst hG dX7_asksOf_4 ?_
  refine r_iald hG 1 rfl (by omega) (by decide) dX7_asksOf_5 ?_
  refine V_top (x' := iI ((Z) 5 0)) (congrArg iI (mro_0 (Z))) ?_
  refine r_iconst hG dX7_asksOf_6 ?_
  refine r_irem hG (by omega) (by omega) dX7_asksOf_7 ?_
  refine r_if_ne (tgt := 15) hG (by omega) dX7_asksOf_8 (by decide) (fun c8 => ?_) (fun c8 => ?_)
  · refine r_iconst hG dX7_asksOf_15 ?_
    refine r_istore_n (i := 2) hG dX7_asksOf_16 rfl (by decide) rfl ?_
    refine r_aload_n (i := 0) hG dX7_asksOf_17 rfl rfl ?_
    refine r_iload_n (i := 1) hG dX7_asksOf_18 rfl rfl ?_
    refine r_iconst hG dX7_asksOf_19 ?_
    refine r_callVi hG (c_it0 (g_l G) (g_D G) a (Z) K U R C _ (by omega))  gX7_asksOf_X7_it rfl hyX7_it rfl (by decide) (by decide) 0 rfl rfl rfl (Nat.le_of_ble_eq_true rfl) ⟨Nat.zero_le _, Nat.zero_le _⟩ dX7_asksOf_20 (fun w hw => ?_)
    subst hw
    rcases (show Z 0 c = 1 ∨ Z 0 c = 2 ∨ Z 0 c = 3 ∨ Z 0 c = 4 ∨ Z 0 c = 5 ∨ (Z 0 c < 1 ∨ 5 < Z 0 c) by omega) with c23 | c23 | c23 | c23 | c23 | c23
    · refine r_tsIn (tgt := 56) hG 1 c23 dX7_asksOf_23 (by omega) rfl (by decide) ?_
      refine r_bipush hG dX7_asksOf_56 rfl ?_
      exact r_iret hG hE dX7_asksOf_58 (by unfold asksK; congr 1; (repeat (first | rw [if_pos (by omega)] | rw [if_neg (by omega)]))) rfl
    · refine r_tsIn (tgt := 59) hG 2 c23 dX7_asksOf_23 (by omega) rfl (by decide) ?_
      refine r_iload_n (i := 2) hG dX7_asksOf_59 rfl rfl ?_
      exact r_iret hG hE dX7_asksOf_60 (by unfold asksK; congr 1; (repeat (first | rw [if_pos (by omega)] | rw [if_neg (by omega)]))) rfl
    · refine r_tsIn (tgt := 65) hG 3 c23 dX7_asksOf_23 (by omega) rfl (by decide) ?_
      refine r_iconst hG dX7_asksOf_65 ?_
      exact r_iret hG hE dX7_asksOf_66 (by unfold asksK; congr 1; (repeat (first | rw [if_pos (by omega)] | rw [if_neg (by omega)]))) rfl
    · refine r_tsIn (tgt := 56) hG 4 c23 dX7_asksOf_23 (by omega) rfl (by decide) ?_
      refine r_bipush hG dX7_asksOf_56 rfl ?_
      exact r_iret hG hE dX7_asksOf_58 (by unfold asksK; congr 1; (repeat (first | rw [if_pos (by omega)] | rw [if_neg (by omega)]))) rfl
    · refine r_tsIn (tgt := 61) hG 5 c23 dX7_asksOf_23 (by omega) rfl (by decide) ?_
      refine r_iload_n (i := 2) hG dX7_asksOf_61 rfl rfl ?_
      refine r_iconst hG dX7_asksOf_62 ?_
      refine r_iadd hG dX7_asksOf_63 ?_
      exact r_iret hG hE dX7_asksOf_64 (by unfold asksK; congr 1; (repeat (first | rw [if_pos (by omega)] | rw [if_neg (by omega)]))) rfl
    · refine r_tsOut (tgt := 65) hG (by omega) dX7_asksOf_23 c23 (by decide) ?_
      refine r_iconst hG dX7_asksOf_65 ?_
      exact r_iret hG hE dX7_asksOf_66 (by unfold asksK; congr 1; (repeat (first | rw [if_pos (by omega)] | rw [if_neg (by omega)]))) rfl
  · refine r_iconst hG dX7_asksOf_11 ?_
    refine r_goto (tgt := 16) hG dX7_asksOf_12 (by decide) ?_
    refine r_istore_n (i := 2) hG dX7_asksOf_16 rfl (by decide) rfl ?_
    refine r_aload_n (i := 0) hG dX7_asksOf_17 rfl rfl ?_
    refine r_iload_n (i := 1) hG dX7_asksOf_18 rfl rfl ?_
    refine r_iconst hG dX7_asksOf_19 ?_
    refine r_callVi hG (c_it0 (g_l G) (g_D G) a (Z) K U R C _ (by omega))  gX7_asksOf_X7_it rfl hyX7_it rfl (by decide) (by decide) 0 rfl rfl rfl (Nat.le_of_ble_eq_true rfl) ⟨Nat.zero_le _, Nat.zero_le _⟩ dX7_asksOf_20 (fun w hw => ?_)
    subst hw
    rcases (show Z 0 c = 1 ∨ Z 0 c = 2 ∨ Z 0 c = 3 ∨ Z 0 c = 4 ∨ Z 0 c = 5 ∨ (Z 0 c < 1 ∨ 5 < Z 0 c) by omega) with c23 | c23 | c23 | c23 | c23 | c23
    · refine r_tsIn (tgt := 56) hG 1 c23 dX7_asksOf_23 (by omega) rfl (by decide) ?_
      refine r_bipush hG dX7_asksOf_56 rfl ?_
      exact r_iret hG hE dX7_asksOf_58 (by unfold asksK; congr 1; (repeat (first | rw [if_pos (by omega)] | rw [if_neg (by omega)]))) rfl
    · refine r_tsIn (tgt := 59) hG 2 c23 dX7_asksOf_23 (by omega) rfl (by decide) ?_
      refine r_iload_n (i := 2) hG dX7_asksOf_59 rfl rfl ?_
      exact r_iret hG hE dX7_asksOf_60 (by unfold asksK; congr 1; (repeat (first | rw [if_pos (by omega)] | rw [if_neg (by omega)]))) rfl
    · refine r_tsIn (tgt := 65) hG 3 c23 dX7_asksOf_23 (by omega) rfl (by decide) ?_
      refine r_iconst hG dX7_asksOf_65 ?_
      exact r_iret hG hE dX7_asksOf_66 (by unfold asksK; congr 1; (repeat (first | rw [if_pos (by omega)] | rw [if_neg (by omega)]))) rfl
    · refine r_tsIn (tgt := 56) hG 4 c23 dX7_asksOf_23 (by omega) rfl (by decide) ?_
      refine r_bipush hG dX7_asksOf_56 rfl ?_
      exact r_iret hG hE dX7_asksOf_58 (by unfold asksK; congr 1; (repeat (first | rw [if_pos (by omega)] | rw [if_neg (by omega)]))) rfl
    · refine r_tsIn (tgt := 61) hG 5 c23 dX7_asksOf_23 (by omega) rfl (by decide) ?_
      refine r_iload_n (i := 2) hG dX7_asksOf_61 rfl rfl ?_
      refine r_iconst hG dX7_asksOf_62 ?_
      refine r_iadd hG dX7_asksOf_63 ?_
      exact r_iret hG hE dX7_asksOf_64 (by unfold asksK; congr 1; (repeat (first | rw [if_pos (by omega)] | rw [if_neg (by omega)]))) rfl
    · refine r_tsOut (tgt := 65) hG (by omega) dX7_asksOf_23 c23 (by decide) ?_
      refine r_iconst hG dX7_asksOf_65 ?_
      exact r_iret hG hE dX7_asksOf_66 (by unfold asksK; congr 1; (repeat (first | rw [if_pos (by omega)] | rw [if_neg (by omega)]))) rfl
theorem hyX7_losesOf : hyV yX7_losesOf RX7 1 := by decide +kernel
set_option maxHeartbeats 4000000 in
set_option maxRecDepth 100000 in
theorem c_X7_losesOf (l : Launch) (D : va_G) (a : Nat → Nat) (Z K U R : YS) (C : Int → Int64) (hI : Inv Z) (c : Int) (hc : 0 ≤ c ∧ c < 8) : Con l yX7_losesOf wsX7_losesOf 1 D (mw D a Z K U R C) [.ref (a 0), .int (iI c)] (some (.int (iI (losesK (Z 0 c))))) (fun w => w = mw D a Z K U R C) := by
  refine con_start (own := RX7) (by decide) rfl rfl (Nat.le_of_ble_eq_true rfl) ?_
  intro G hG hE hl hD
  subst hl
  subst hD
  have hc1 := Inv_c hI hc
  refine r_aload_n (i := 0) hG dX7_losesOf_0 rfl rfl ?_
  refine r_iload_n (i := 1) hG dX7_losesOf_1 rfl rfl ?_
  refine r_iconst hG dX7_losesOf_2 ?_
  refine r_callVi hG (c_it0 (g_l G) (g_D G) a (Z) K U R C _ (by omega))  gX7_losesOf_X7_it rfl hyX7_it rfl (by decide) (by decide) 0 rfl rfl rfl (Nat.le_of_ble_eq_true rfl) ⟨Nat.zero_le _, Nat.zero_le _⟩ dX7_losesOf_3 (fun w hw => ?_)
  subst hw
  refine r_iconst hG dX7_losesOf_6 ?_
  refine r_icmp_ne (tgt := 14) hG (by omega) (by omega) dX7_losesOf_7 (by decide) (fun c7 => ?_) (fun c7 => ?_)
  · refine r_aload_n (i := 0) hG dX7_losesOf_14 rfl rfl ?_
    refine r_iload_n (i := 1) hG dX7_losesOf_15 rfl rfl ?_
    refine r_iconst hG dX7_losesOf_16 ?_
    refine r_callVi hG (c_it0 (g_l G) (g_D G) a (Z) K U R C _ (by omega))  gX7_losesOf_X7_it rfl hyX7_it rfl (by decide) (by decide) 0 rfl rfl rfl (Nat.le_of_ble_eq_true rfl) ⟨Nat.zero_le _, Nat.zero_le _⟩ dX7_losesOf_17 (fun w hw => ?_)
    subst hw
    refine r_iconst hG dX7_losesOf_20 ?_
    refine r_icmp_ne (tgt := 29) hG (by omega) (by omega) dX7_losesOf_21 (by decide) (fun c21 => ?_) (fun c21 => ?_)
    · refine r_iconst hG dX7_losesOf_29 ?_
      exact r_iret hG hE dX7_losesOf_30 (by unfold losesK; congr 1; (repeat (first | rw [if_pos (by omega)] | rw [if_neg (by omega)]))) rfl
    · refine r_bipush hG dX7_losesOf_24 rfl ?_
      refine r_goto (tgt := 30) hG dX7_losesOf_26 (by decide) ?_
      exact r_iret hG hE dX7_losesOf_30 (by unfold losesK; congr 1; (repeat (first | rw [if_pos (by omega)] | rw [if_neg (by omega)]))) rfl
  · refine r_iconst hG dX7_losesOf_10 ?_
    refine r_goto (tgt := 30) hG dX7_losesOf_11 (by decide) ?_
    exact r_iret hG hE dX7_losesOf_30 (by unfold losesK; congr 1; (repeat (first | rw [if_pos (by omega)] | rw [if_neg (by omega)]))) rfl
theorem hyX7_wouldSwap : hyV yX7_wouldSwap RX7 2 := by decide +kernel
set_option maxHeartbeats 4000000 in
set_option maxRecDepth 100000 in
theorem c_X7_wouldSwap (l : Launch) (D : va_G) (a : Nat → Nat) (Z K U R : YS) (C : Int → Int64) (hI : Inv Z) (c o : Int) (hc : 0 ≤ c ∧ c < 8) (ho : 0 ≤ o ∧ o < 8) : Con l yX7_wouldSwap wsX7_wouldSwap 5 D (mw D a Z K U R C) [.ref (a 0), .int (iI c), .int (iI o)] (some (.int (iI (b2 (wsw Z c o))))) (fun w => w = mw D a Z K U R C) := by
  refine con_start (own := RX7) (by decide) rfl rfl (Nat.le_of_ble_eq_true rfl) ?_
  intro G hG hE hl hD
  subst hl
  subst hD
  have hc1 := Inv_c hI hc
  have ho1 := Inv_c hI ho
  refine r_aload_n (i := 0) hG dX7_wouldSwap_0 rfl rfl ?_
  refine r_iload_n (i := 1) hG dX7_wouldSwap_1 rfl rfl ?_
  refine r_iconst hG dX7_wouldSwap_2 ?_
  refine r_callVi hG (c_it1 (g_l G) (g_D G) a (Z) K U R C _ (by omega))  gX7_wouldSwap_X7_it rfl hyX7_it rfl (by decide) (by decide) 0 rfl rfl rfl (Nat.le_of_ble_eq_true rfl) ⟨Nat.zero_le _, Nat.zero_le _⟩ dX7_wouldSwap_3 (fun w hw => ?_)
  subst hw
  refine r_aload_n (i := 0) hG dX7_wouldSwap_6 rfl rfl ?_
  refine r_iload_n (i := 2) hG dX7_wouldSwap_7 rfl rfl ?_
  refine r_iconst hG dX7_wouldSwap_8 ?_
  refine r_callVi hG (c_it1 (g_l G) (g_D G) a (Z) K U R C _ (by omega))  gX7_wouldSwap_X7_it rfl hyX7_it rfl (by decide) (by decide) 0 rfl rfl rfl (Nat.le_of_ble_eq_true rfl) ⟨Nat.zero_le _, Nat.zero_le _⟩ dX7_wouldSwap_9 (fun w hw => ?_)
  subst hw
  refine r_icmp_eq (tgt := 47) hG (by omega) (by omega) dX7_wouldSwap_12 (by decide) (fun c12 => ?_) (fun c12 => ?_)
  · refine r_iconst hG dX7_wouldSwap_47 ?_
    exact r_zret hG hE dX7_wouldSwap_48 (by congr 1; unfold b2 wsw wants; (repeat' split) <;> (try simp_all) <;> (try omega)) rfl
  · refine r_aload_n (i := 0) hG dX7_wouldSwap_15 rfl rfl ?_
    refine r_iload_n (i := 1) hG dX7_wouldSwap_16 rfl rfl ?_
    refine r_aload_n (i := 0) hG dX7_wouldSwap_17 rfl rfl ?_
    refine r_iload_n (i := 2) hG dX7_wouldSwap_18 rfl rfl ?_
    refine r_iconst hG dX7_wouldSwap_19 ?_
    refine r_callVi hG (c_it1 (g_l G) (g_D G) a (Z) K U R C _ (by omega))  gX7_wouldSwap_X7_it rfl hyX7_it rfl (by decide) (by decide) 0 rfl rfl rfl (Nat.le_of_ble_eq_true rfl) ⟨Nat.zero_le _, Nat.zero_le _⟩ dX7_wouldSwap_20 (fun w hw => ?_)
    subst hw
    refine r_callVi hG (c_X7_doesAgree (g_l G) (g_D G) a Z K U R C hI _ _ (by omega) (by omega))  gX7_wouldSwap_X7_doesAgree rfl hyX7_doesAgree rfl (by decide) (by decide) 0 rfl rfl rfl (Nat.le_of_ble_eq_true rfl) ⟨Nat.zero_le _, Nat.zero_le _⟩ dX7_wouldSwap_23 (fun w hw => ?_)
    subst hw
    refine rb_if_eq (tgt := 47) hG dX7_wouldSwap_26 (by decide) (fun c26 => ?_) (fun c26 => ?_)
    · refine r_iconst hG dX7_wouldSwap_47 ?_
      exact r_zret hG hE dX7_wouldSwap_48 (by congr 1; unfold b2 wsw wants; (repeat' split) <;> (try simp_all) <;> (try omega)) rfl
    · refine r_aload_n (i := 0) hG dX7_wouldSwap_29 rfl rfl ?_
      refine r_iload_n (i := 2) hG dX7_wouldSwap_30 rfl rfl ?_
      refine r_aload_n (i := 0) hG dX7_wouldSwap_31 rfl rfl ?_
      refine r_iload_n (i := 1) hG dX7_wouldSwap_32 rfl rfl ?_
      refine r_iconst hG dX7_wouldSwap_33 ?_
      refine r_callVi hG (c_it1 (g_l G) (g_D G) a (Z) K U R C _ (by omega))  gX7_wouldSwap_X7_it rfl hyX7_it rfl (by decide) (by decide) 0 rfl rfl rfl (Nat.le_of_ble_eq_true rfl) ⟨Nat.zero_le _, Nat.zero_le _⟩ dX7_wouldSwap_34 (fun w hw => ?_)
      subst hw
      refine r_callVi hG (c_X7_doesAgree (g_l G) (g_D G) a Z K U R C hI _ _ (by omega) (by omega))  gX7_wouldSwap_X7_doesAgree rfl hyX7_doesAgree rfl (by decide) (by decide) 0 rfl rfl rfl (Nat.le_of_ble_eq_true rfl) ⟨Nat.zero_le _, Nat.zero_le _⟩ dX7_wouldSwap_37 (fun w hw => ?_)
      subst hw
      refine rb_if_eq (tgt := 47) hG dX7_wouldSwap_40 (by decide) (fun c40 => ?_) (fun c40 => ?_)
      · refine r_iconst hG dX7_wouldSwap_47 ?_
        exact r_zret hG hE dX7_wouldSwap_48 (by congr 1; unfold b2 wsw wants; (repeat' split) <;> (try simp_all) <;> (try omega)) rfl
      · refine r_iconst hG dX7_wouldSwap_43 ?_
        refine r_goto (tgt := 48) hG dX7_wouldSwap_44 (by decide) ?_
        exact r_zret hG hE dX7_wouldSwap_48 (by congr 1; unfold b2 wsw wants; (repeat' split) <;> (try simp_all) <;> (try omega)) rfl
theorem kX7_matesOf_9 : Cond.fieldLink RX7 9 "BreakSwapsModel" "m" "[I" ∈ wsX7_matesOf := List.mem_of_getElem? (i := 1) rfl
theorem cX7_matesOf_X7 : ∀ w ∈ wsX70, w ∈ wsX7_matesOf := fun _ h => List.mem_cons_of_mem _ (List.mem_append_right _ h)
theorem hyX7_matesOf : hyV yX7_matesOf RX7 1 := by decide +kernel
set_option maxHeartbeats 4000000 in
set_option maxRecDepth 100000 in
theorem c_X7_matesOf (l : Launch) (D : va_G) (a : Nat → Nat) (Z K U R : YS) (C : Int → Int64) (hI : Inv Z) (c : Int) (hc : 0 ≤ c ∧ c < 8) : Con l yX7_matesOf wsX7_matesOf 6 D (mw D a Z K U R C) [.ref (a 0), .int (iI c)] (some (.int (iI (maskN (wsw Z c) (Z 5 2).toNat)))) (fun w => w = mw D a Z K U R C) := by
  refine con_start (own := RX7) (by decide) rfl rfl (Nat.le_of_ble_eq_true rfl) ?_
  intro G hG hE hl hD
  subst hl
  subst hD
  have hN := hI.1
  have L : ∀ i : Nat, i ≤ (Z 5 2).toNat → V G 0 0 (mw (g_D G) a Z K U R C) 4 [(0, .ref (a 0)), (1, .int (iI c)), (2, .int (iI (maskN (wsw Z c) i))), (3, .int (iI (i : Int)))] [] := by
    refine down (fun i hi ih => ?_)
    refine r_iload_n (i := 3) hG dX7_matesOf_4 rfl rfl ?_
    refine r_aload_n (i := 0) hG dX7_matesOf_5 rfl rfl ?_
    refine r_get hG cX7_matesOf_X7 0 0 rfl rfl (by decide) kX7_matesOf_9 rfl dX7_matesOf_6 ?_
    refine r_iconst hG dX7_matesOf_9 ?_
    refine r_iald hG 1 rfl (by omega) (by decide) dX7_matesOf_10 ?_
    refine V_top (x' := iI ((Z) 5 2)) (congrArg iI (mro_2 (Z))) ?_
    refine r_icmp_ge (tgt := 44) hG (by omega) (by omega) dX7_matesOf_11 (by decide) (fun c11 => ?_) (fun c11 => ?_)
    · refine r_iload_n (i := 2) hG dX7_matesOf_44 rfl rfl ?_
      exact r_iret hG hE dX7_matesOf_45 (by rw [show i = (Z 5 2).toNat by omega]) rfl
    · refine r_iload_n (i := 2) hG dX7_matesOf_14 rfl rfl ?_
      refine r_iload_n (i := 3) hG dX7_matesOf_15 rfl rfl ?_
      refine r_iload_n (i := 1) hG dX7_matesOf_16 rfl rfl ?_
      refine r_icmp_eq (tgt := 35) hG (by omega) (by omega) dX7_matesOf_17 (by decide) (fun c17 => ?_) (fun c17 => ?_)
      · refine r_iconst hG dX7_matesOf_35 ?_
        refine rr_ior hG dX7_matesOf_36 ?_
        refine r_istore_n (i := 2) hG dX7_matesOf_37 rfl (by decide) rfl ?_
        refine r_iinc hG dX7_matesOf_38 rfl (by decide) rfl ?_
        refine r_goto (tgt := 4) hG dX7_matesOf_41 (by decide) ?_
        first
          | exact V_lv (ih (by omega)) ⟨rfl, rfl, (congrArg (fun x => some (Value.int x)) (mask_step_t (by omega) c26)), rfl, trivial⟩
          | exact V_lv (ih (by omega)) ⟨rfl, rfl, (congrArg (fun x => some (Value.int x)) (mask_step_f c26)), rfl, trivial⟩
          | exact V_lv (ih (by omega)) ⟨rfl, rfl, (congrArg (fun x => some (Value.int x)) (mask_step_f (by rw [c17]; exact wsw_self Z c))), rfl, trivial⟩
      · refine r_aload_n (i := 0) hG dX7_matesOf_20 rfl rfl ?_
        refine r_iload_n (i := 1) hG dX7_matesOf_21 rfl rfl ?_
        refine r_iload_n (i := 3) hG dX7_matesOf_22 rfl rfl ?_
        refine r_callVi hG (c_X7_wouldSwap (g_l G) (g_D G) a Z K U R C hI _ _ (by omega) (by omega))  gX7_matesOf_X7_wouldSwap rfl hyX7_wouldSwap rfl (by decide) (by decide) 0 rfl rfl rfl (Nat.le_of_ble_eq_true rfl) ⟨Nat.zero_le _, Nat.zero_le _⟩ dX7_matesOf_23 (fun w hw => ?_)
        subst hw
        refine rb_if_eq (tgt := 35) hG dX7_matesOf_26 (by decide) (fun c26 => ?_) (fun c26 => ?_)
        · refine r_iconst hG dX7_matesOf_35 ?_
          refine rr_ior hG dX7_matesOf_36 ?_
          refine r_istore_n (i := 2) hG dX7_matesOf_37 rfl (by decide) rfl ?_
          refine r_iinc hG dX7_matesOf_38 rfl (by decide) rfl ?_
          refine r_goto (tgt := 4) hG dX7_matesOf_41 (by decide) ?_
          first
            | exact V_lv (ih (by omega)) ⟨rfl, rfl, (congrArg (fun x => some (Value.int x)) (mask_step_t (by omega) c26)), rfl, trivial⟩
            | exact V_lv (ih (by omega)) ⟨rfl, rfl, (congrArg (fun x => some (Value.int x)) (mask_step_f c26)), rfl, trivial⟩
            | exact V_lv (ih (by omega)) ⟨rfl, rfl, (congrArg (fun x => some (Value.int x)) (mask_step_f (by rw [c17]; exact wsw_self Z c))), rfl, trivial⟩
        · refine r_iconst hG dX7_matesOf_29 ?_
          refine r_iload_n (i := 3) hG dX7_matesOf_30 rfl rfl ?_
          refine rr_ishl hG dX7_matesOf_31 ?_
          refine r_goto (tgt := 36) hG dX7_matesOf_32 (by decide) ?_
          refine rr_ior hG dX7_matesOf_36 ?_
          refine r_istore_n (i := 2) hG dX7_matesOf_37 rfl (by decide) rfl ?_
          refine r_iinc hG dX7_matesOf_38 rfl (by decide) rfl ?_
          refine r_goto (tgt := 4) hG dX7_matesOf_41 (by decide) ?_
          first
            | exact V_lv (ih (by omega)) ⟨rfl, rfl, (congrArg (fun x => some (Value.int x)) (mask_step_t (by omega) c26)), rfl, trivial⟩
            | exact V_lv (ih (by omega)) ⟨rfl, rfl, (congrArg (fun x => some (Value.int x)) (mask_step_f c26)), rfl, trivial⟩
            | exact V_lv (ih (by omega)) ⟨rfl, rfl, (congrArg (fun x => some (Value.int x)) (mask_step_f (by rw [c17]; exact wsw_self Z c))), rfl, trivial⟩
  refine r_iconst hG dX7_matesOf_0 ?_
  refine r_istore_n (i := 2) hG dX7_matesOf_1 rfl (by decide) rfl ?_
  refine r_iconst hG dX7_matesOf_2 ?_
  refine r_istore_n (i := 3) hG dX7_matesOf_3 rfl (by decide) rfl ?_
  exact V_lv (L 0 (by omega)) ⟨rfl, rfl, rfl, rfl, trivial⟩
theorem kX7_isOver_9 : Cond.fieldLink RX7 9 "BreakSwapsModel" "m" "[I" ∈ wsX7_isOver := List.mem_of_getElem? (i := 1) rfl
theorem cX7_isOver_X7 : ∀ w ∈ wsX70, w ∈ wsX7_isOver := fun _ h => List.mem_cons_of_mem _ (List.mem_append_right _ h)
theorem hyX7_isOver : hyV yX7_isOver RX7 0 := by decide +kernel
set_option maxHeartbeats 4000000 in
set_option maxRecDepth 100000 in
theorem c_X7_isOver (l : Launch) (D : va_G) (a : Nat → Nat) (Z K U R : YS) (C : Int → Int64) (hI : Inv Z) : Con l yX7_isOver wsX7_isOver 7 D (mw D a Z K U R C) [.ref (a 0)] (some (.int (iI (b2 (!pairY Z))))) (fun w => w = mw D a Z K U R C) := by
  refine con_start (own := RX7) (by decide) rfl rfl (Nat.le_of_ble_eq_true rfl) ?_
  intro G hG hE hl hD
  subst hl
  subst hD
  have hN := hI.1
  have hm : ∀ c : Int, 0 ≤ maskN (wsw Z c) (Z 5 2).toNat ∧ maskN (wsw Z c) (Z 5 2).toNat < 2147483648 := fun c => by
    have h := maskN_rng (wsw Z c) (Z 5 2).toNat
    have h8 : (2 : Int) ^ (Z 5 2).toNat ≤ 256 := by
      rcases (show (Z 5 2).toNat = 8 ∨ (Z 5 2).toNat < 8 by omega) with e | e
      · rw [e]; decide
      · have := two_pow_8 e; omega
    omega
  have L : ∀ i : Nat, i ≤ (Z 5 2).toNat → ∀ x : Int32, (x = 0 ↔ ∀ c : Nat, c < i → maskN (wsw Z c) (Z 5 2).toNat = 0) → V G 0 0 (mw (g_D G) a Z K U R C) 4 [(0, .ref (a 0)), (1, .int x), (2, .int (iI (i : Int)))] [] := by
    refine down (fun i hi ih x hx => ?_)
    have hp : i = (Z 5 2).toNat → (x = 0 ↔ pairY Z = false) := fun e => by
      rw [hx, ← pair_false hI, e]
      exact ⟨fun h c hc => h c (by omega), fun h c hc => h c (by omega)⟩
    refine r_iload_n (i := 2) hG dX7_isOver_4 rfl rfl ?_
    refine r_aload_n (i := 0) hG dX7_isOver_5 rfl rfl ?_
    refine r_get hG cX7_isOver_X7 0 0 rfl rfl (by decide) kX7_isOver_9 rfl dX7_isOver_6 ?_
    refine r_iconst hG dX7_isOver_9 ?_
    refine r_iald hG 1 rfl (by omega) (by decide) dX7_isOver_10 ?_
    refine V_top (x' := iI ((Z) 5 2)) (congrArg iI (mro_2 (Z))) ?_
    refine r_icmp_ge (tgt := 28) hG (by omega) (by omega) dX7_isOver_11 (by decide) (fun c11 => ?_) (fun c11 => ?_)
    · refine r_iload_n (i := 1) hG dX7_isOver_28 rfl rfl ?_
      refine rr_if_ne (tgt := 36) hG dX7_isOver_29 (by decide) (fun c29 => ?_) (fun c29 => ?_)
      · refine r_iconst hG dX7_isOver_36 ?_
        first
          | exact r_zret hG hE dX7_isOver_37 (by rw [(hp (by omega)).mp c29]; rfl) rfl
          | exact r_zret hG hE dX7_isOver_37 (by rw [show pairY Z = true by cases e : pairY Z; exact absurd ((hp (by omega)).mpr e) c29; rfl]; rfl) rfl
      · refine r_iconst hG dX7_isOver_32 ?_
        refine r_goto (tgt := 37) hG dX7_isOver_33 (by decide) ?_
        first
          | exact r_zret hG hE dX7_isOver_37 (by rw [(hp (by omega)).mp c29]; rfl) rfl
          | exact r_zret hG hE dX7_isOver_37 (by rw [show pairY Z = true by cases e : pairY Z; exact absurd ((hp (by omega)).mpr e) c29; rfl]; rfl) rfl
    · refine r_iload_n (i := 1) hG dX7_isOver_14 rfl rfl ?_
      refine r_aload_n (i := 0) hG dX7_isOver_15 rfl rfl ?_
      refine r_iload_n (i := 2) hG dX7_isOver_16 rfl rfl ?_
      refine r_callVi hG (c_X7_matesOf (g_l G) (g_D G) a Z K U R C hI _ (by omega))  gX7_isOver_X7_matesOf rfl hyX7_matesOf rfl (by decide) (by decide) 0 rfl rfl rfl (Nat.le_of_ble_eq_true rfl) ⟨Nat.zero_le _, Nat.zero_le _⟩ dX7_isOver_17 (fun w hw => ?_)
      subst hw
      refine rr_ior hG dX7_isOver_20 ?_
      refine r_istore_n (i := 1) hG dX7_isOver_21 rfl (by decide) rfl ?_
      refine r_iinc hG dX7_isOver_22 rfl (by decide) rfl ?_
      refine r_goto (tgt := 4) hG dX7_isOver_25 (by decide) ?_
      exact V_lv (ih (by omega) _ (by
        rw [or_zero_iff, hx, iI_eq0 (by have := hm (i : Int); omega)]
        exact ⟨fun h => lt_s h.1 h.2, fun h => ⟨fun c hc => h c (by omega), h i (by omega)⟩⟩)) ⟨rfl, rfl, rfl, trivial⟩
  refine r_iconst hG dX7_isOver_0 ?_
  refine r_istore_n (i := 1) hG dX7_isOver_1 rfl (by decide) rfl ?_
  refine r_iconst hG dX7_isOver_2 ?_
  refine r_istore_n (i := 2) hG dX7_isOver_3 rfl (by decide) rfl ?_
  exact V_lv (L 0 (by omega) (iI 0) ⟨fun _ c hc => absurd hc (by omega), fun _ => rfl⟩) ⟨rfl, rfl, rfl, trivial⟩
theorem kX7_thingsHad_9 : Cond.fieldLink RX7 9 "BreakSwapsModel" "m" "[I" ∈ wsX7_thingsHad := List.mem_of_getElem? (i := 1) rfl
theorem cX7_thingsHad_X7 : ∀ w ∈ wsX70, w ∈ wsX7_thingsHad := fun _ h => List.mem_cons_of_mem _ (List.mem_append_right _ h)
theorem hyX7_thingsHad : hyV yX7_thingsHad RX7 0 := by decide +kernel
set_option maxHeartbeats 4000000 in
set_option maxRecDepth 100000 in
theorem c_X7_thingsHad (l : Launch) (D : va_G) (a : Nat → Nat) (Z K U R : YS) (C : Int → Int64) (hI : Inv Z) : Con l yX7_thingsHad wsX7_thingsHad 1 D (mw D a Z K U R C) [.ref (a 0)] (some (.int (orN (Z 1) (Z 5 2).toNat))) (fun w => w = mw D a Z K U R C) := by
  refine con_start (own := RX7) (by decide) rfl rfl (Nat.le_of_ble_eq_true rfl) ?_
  intro G hG hE hl hD
  subst hl
  subst hD
  have hN := hI.1
  have L : ∀ i : Nat, i ≤ (Z 5 2).toNat → V G 0 0 (mw (g_D G) a Z K U R C) 4 [(0, .ref (a 0)), (1, .int (orN (Z 1) i)), (2, .int (iI (i : Int)))] [] := by
    refine down (fun i hi ih => ?_)
    refine r_iload_n (i := 2) hG dX7_thingsHad_4 rfl rfl ?_
    refine r_aload_n (i := 0) hG dX7_thingsHad_5 rfl rfl ?_
    refine r_get hG cX7_thingsHad_X7 0 0 rfl rfl (by decide) kX7_thingsHad_9 rfl dX7_thingsHad_6 ?_
    refine r_iconst hG dX7_thingsHad_9 ?_
    refine r_iald hG 1 rfl (by omega) (by decide) dX7_thingsHad_10 ?_
    refine V_top (x' := iI ((Z) 5 2)) (congrArg iI (mro_2 (Z))) ?_
    refine r_icmp_ge (tgt := 31) hG (by omega) (by omega) dX7_thingsHad_11 (by decide) (fun c11 => ?_) (fun c11 => ?_)
    · refine r_iload_n (i := 1) hG dX7_thingsHad_31 rfl rfl ?_
      exact r_iret hG hE dX7_thingsHad_32 (by rw [show i = (Z 5 2).toNat by omega]) rfl
    · refine r_iload_n (i := 1) hG dX7_thingsHad_14 rfl rfl ?_
      refine r_iconst hG dX7_thingsHad_15 ?_
      refine r_aload_n (i := 0) hG dX7_thingsHad_16 rfl rfl ?_
      refine r_iload_n (i := 2) hG dX7_thingsHad_17 rfl rfl ?_
      refine r_iconst hG dX7_thingsHad_18 ?_
      refine r_callVi hG (c_it1 (g_l G) (g_D G) a (Z) K U R C _ (by omega))  gX7_thingsHad_X7_it rfl hyX7_it rfl (by decide) (by decide) 0 rfl rfl rfl (Nat.le_of_ble_eq_true rfl) ⟨Nat.zero_le _, Nat.zero_le _⟩ dX7_thingsHad_19 (fun w hw => ?_)
      subst hw
      refine rr_ishl hG dX7_thingsHad_22 ?_
      refine rr_ior hG dX7_thingsHad_23 ?_
      refine r_istore_n (i := 1) hG dX7_thingsHad_24 rfl (by decide) rfl ?_
      refine r_iinc hG dX7_thingsHad_25 rfl (by decide) rfl ?_
      refine r_goto (tgt := 4) hG dX7_thingsHad_28 (by decide) ?_
      exact V_lv (ih (by omega)) ⟨rfl, rfl, rfl, trivial⟩
  refine r_iconst hG dX7_thingsHad_0 ?_
  refine r_istore_n (i := 1) hG dX7_thingsHad_1 rfl (by decide) rfl ?_
  refine r_iconst hG dX7_thingsHad_2 ?_
  refine r_istore_n (i := 2) hG dX7_thingsHad_3 rfl (by decide) rfl ?_
  exact V_lv (L 0 (by omega)) ⟨rfl, rfl, rfl, trivial⟩
theorem kX7_allGlad_9 : Cond.fieldLink RX7 9 "BreakSwapsModel" "m" "[I" ∈ wsX7_allGlad := List.mem_of_getElem? (i := 1) rfl
theorem cX7_allGlad_X7 : ∀ w ∈ wsX70, w ∈ wsX7_allGlad := fun _ h => List.mem_cons_of_mem _ (List.mem_append_right _ h)
theorem hyX7_allGlad : hyV yX7_allGlad RX7 0 := by decide +kernel
set_option maxHeartbeats 4000000 in
set_option maxRecDepth 100000 in
theorem c_X7_allGlad (l : Launch) (D : va_G) (a : Nat → Nat) (Z K U R : YS) (C : Int → Int64) (hI : Inv Z) : Con l yX7_allGlad wsX7_allGlad 4 D (mw D a Z K U R C) [.ref (a 0)] (some (.int (iI (sumN (glad Z) (Z 5 2).toNat)))) (fun w => w = mw D a Z K U R C) := by
  refine con_start (own := RX7) (by decide) rfl rfl (Nat.le_of_ble_eq_true rfl) ?_
  intro G hG hE hl hD
  subst hl
  subst hD
  have hN := hI.1
  have L : ∀ i : Nat, i ≤ (Z 5 2).toNat → V G 0 0 (mw (g_D G) a Z K U R C) 4 [(0, .ref (a 0)), (1, .int (iI (sumN (glad Z) i))), (2, .int (iI (i : Int)))] [] := by
    refine down (fun i hi ih => ?_)
    refine r_iload_n (i := 2) hG dX7_allGlad_4 rfl rfl ?_
    refine r_aload_n (i := 0) hG dX7_allGlad_5 rfl rfl ?_
    refine r_get hG cX7_allGlad_X7 0 0 rfl rfl (by decide) kX7_allGlad_9 rfl dX7_allGlad_6 ?_
    refine r_iconst hG dX7_allGlad_9 ?_
    refine r_iald hG 1 rfl (by omega) (by decide) dX7_allGlad_10 ?_
    refine V_top (x' := iI ((Z) 5 2)) (congrArg iI (mro_2 (Z))) ?_
    refine r_icmp_ge (tgt := 28) hG (by omega) (by omega) dX7_allGlad_11 (by decide) (fun c11 => ?_) (fun c11 => ?_)
    · refine r_iload_n (i := 1) hG dX7_allGlad_28 rfl rfl ?_
      exact r_iret hG hE dX7_allGlad_29 (by rw [show i = (Z 5 2).toNat by omega]) rfl
    · refine r_iload_n (i := 1) hG dX7_allGlad_14 rfl rfl ?_
      refine r_aload_n (i := 0) hG dX7_allGlad_15 rfl rfl ?_
      refine r_iload_n (i := 2) hG dX7_allGlad_16 rfl rfl ?_
      refine r_callVi hG (c_X7_gladness (g_l G) (g_D G) a Z K U R C hI _ (by omega))  gX7_allGlad_X7_gladness rfl hyX7_gladness rfl (by decide) (by decide) 0 rfl rfl rfl (Nat.le_of_ble_eq_true rfl) ⟨Nat.zero_le _, Nat.zero_le _⟩ dX7_allGlad_17 (fun w hw => ?_)
      subst hw
      refine r_iadd hG dX7_allGlad_20 ?_
      refine r_istore_n (i := 1) hG dX7_allGlad_21 rfl (by decide) rfl ?_
      refine r_iinc hG dX7_allGlad_22 rfl (by decide) rfl ?_
      refine r_goto (tgt := 4) hG dX7_allGlad_25 (by decide) ?_
      exact V_lv (ih (by omega)) ⟨rfl, rfl, rfl, trivial⟩
  refine r_iconst hG dX7_allGlad_0 ?_
  refine r_istore_n (i := 1) hG dX7_allGlad_1 rfl (by decide) rfl ?_
  refine r_iconst hG dX7_allGlad_2 ?_
  refine r_istore_n (i := 2) hG dX7_allGlad_3 rfl (by decide) rfl ?_
  exact V_lv (L 0 (by omega)) ⟨rfl, rfl, rfl, trivial⟩
theorem kX7_sums_9 : Cond.fieldLink RX7 9 "BreakSwapsModel" "m" "[I" ∈ wsX7_sums := List.mem_of_getElem? (i := 1) rfl
theorem cX7_sums_X7 : ∀ w ∈ wsX70, w ∈ wsX7_sums := fun _ h => List.mem_cons_of_mem _ (List.mem_append_right _ h)
theorem hyX7_sums : hyV yX7_sums RX7 1 := by decide +kernel
set_option maxHeartbeats 4000000 in
set_option maxRecDepth 100000 in
theorem c_X7_sums (l : Launch) (D : va_G) (a : Nat → Nat) (Z K U R : YS) (C : Int → Int64) (hI : Inv Z) (w : Nat) (hw : w < 4) : Con l yX7_sums wsX7_sums 1 D (mw D a Z K U R C) [.ref (a 0), .int (iI (w : Int))] (some (.int (iI (sumN (Z w) (Z 5 2).toNat)))) (fun w => w = mw D a Z K U R C) := by
  refine con_start (own := RX7) (by decide) rfl rfl (Nat.le_of_ble_eq_true rfl) ?_
  intro G hG hE hl hD
  subst hl
  subst hD
  have hN := hI.1
  have L : ∀ i : Nat, i ≤ (Z 5 2).toNat → V G 0 0 (mw (g_D G) a Z K U R C) 4 [(0, .ref (a 0)), (1, .int (iI (w : Int))), (2, .int (iI (sumN (Z w) i))), (3, .int (iI (i : Int)))] [] := by
    refine down (fun i hi ih => ?_)
    refine r_iload_n (i := 3) hG dX7_sums_4 rfl rfl ?_
    refine r_aload_n (i := 0) hG dX7_sums_5 rfl rfl ?_
    refine r_get hG cX7_sums_X7 0 0 rfl rfl (by decide) kX7_sums_9 rfl dX7_sums_6 ?_
    refine r_iconst hG dX7_sums_9 ?_
    refine r_iald hG 1 rfl (by omega) (by decide) dX7_sums_10 ?_
    refine V_top (x' := iI ((Z) 5 2)) (congrArg iI (mro_2 (Z))) ?_
    refine r_icmp_ge (tgt := 29) hG (by omega) (by omega) dX7_sums_11 (by decide) (fun c11 => ?_) (fun c11 => ?_)
    · refine r_iload_n (i := 2) hG dX7_sums_29 rfl rfl ?_
      exact r_iret hG hE dX7_sums_30 (by rw [show i = (Z 5 2).toNat by omega]) rfl
    · refine r_iload_n (i := 2) hG dX7_sums_14 rfl rfl ?_
      refine r_aload_n (i := 0) hG dX7_sums_15 rfl rfl ?_
      refine r_iload_n (i := 3) hG dX7_sums_16 rfl rfl ?_
      refine r_iload_n (i := 1) hG dX7_sums_17 rfl rfl ?_
      refine r_callVi hG (c_X7_it (g_l G) (g_D G) a Z K U R C _ _ (Z w i) (by omega) (mro_f Z w (by omega) hw))  gX7_sums_X7_it rfl hyX7_it rfl (by decide) (by decide) 0 rfl rfl rfl (Nat.le_of_ble_eq_true rfl) ⟨Nat.zero_le _, Nat.zero_le _⟩ dX7_sums_18 (fun w hw => ?_)
      subst hw
      refine r_iadd hG dX7_sums_21 ?_
      refine r_istore_n (i := 2) hG dX7_sums_22 rfl (by decide) rfl ?_
      refine r_iinc hG dX7_sums_23 rfl (by decide) rfl ?_
      refine r_goto (tgt := 4) hG dX7_sums_26 (by decide) ?_
      exact V_lv (ih (by omega)) ⟨rfl, rfl, rfl, rfl, trivial⟩
  refine r_iconst hG dX7_sums_0 ?_
  refine r_istore_n (i := 2) hG dX7_sums_1 rfl (by decide) rfl ?_
  refine r_iconst hG dX7_sums_2 ?_
  refine r_istore_n (i := 3) hG dX7_sums_3 rfl (by decide) rfl ?_
  exact V_lv (L 0 (by omega)) ⟨rfl, rfl, rfl, rfl, trivial⟩
