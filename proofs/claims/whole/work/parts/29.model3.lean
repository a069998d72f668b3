theorem kX7_comesAs_9 : Cond.fieldLink RX7 9 "BreakSwapsModel" "m" "[I" ∈ wsX7_comesAs := List.mem_of_getElem? (i := 1) rfl
theorem cX7_comesAs_X7 : ∀ w ∈ wsX70, w ∈ wsX7_comesAs := fun _ h => List.mem_cons_of_mem _ (List.mem_append_right _ h)
theorem hyX7_comesAs : hyV yX7_comesAs RX7 3 := by decide +kernel
set_option maxHeartbeats 4000000 in
set_option maxRecDepth 100000 in
theorem c_X7_comesAs (l : Launch) (D : va_G) (a : Nat → Nat) (Z K U R : YS) (C : Int → Int64) (hI : Inv Z) (hf : Z 5 2 < 8) (k t tr : Int) : Con l yX7_comesAs wsX7_comesAs 1 D (mw D a Z K U R C) [.ref (a 0), .int (iI k), .int (iI t), .int (iI tr)] (some (.int (iI (Z 5 2)))) (fun w => w = mw D a (comeZ Z k t tr) K U R C) := by
  refine con_start (own := RX7) (by decide) rfl rfl (Nat.le_of_ble_eq_true rfl) ?_
  intro G hG hE hl hD
  subst hl
  subst hD
  have hN := hI.1
  have L : ∀ i : Nat, i ≤ 10 → V G 0 0 (mw (g_D G) a (addN (come0 Z k t tr) (Z 5 2) i) K U R C) 53 [(0, .ref (a 0)), (4, .int (iI (Z 5 2))), (5, .int (iI (i : Int)))] [] := by
    refine down (fun i hi ih => ?_)
    refine r_iload hG dX7_comesAs_53 rfl ?_
    refine r_bipush hG dX7_comesAs_55 rfl ?_
    refine r_icmp_ge (tgt := 84) hG (by omega) (by omega) dX7_comesAs_57 (by decide) (fun c57 => ?_) (fun c57 => ?_)
    · refine r_iload hG dX7_comesAs_84 rfl ?_
      exact r_iret hG hE dX7_comesAs_86 rfl (by rw [show i = 10 by omega]; rfl)
    · refine r_aload_n (i := 0) hG dX7_comesAs_60 rfl rfl ?_
      refine r_iload hG dX7_comesAs_61 rfl ?_
      refine r_iconst hG dX7_comesAs_63 ?_
      refine r_iload hG dX7_comesAs_64 rfl ?_
      refine r_iadd hG dX7_comesAs_66 ?_
      refine r_bipush hG dX7_comesAs_67 rfl ?_
      refine r_iload hG dX7_comesAs_69 rfl ?_
      refine r_imul hG dX7_comesAs_71 ?_
      refine r_bipush hG dX7_comesAs_72 rfl ?_
      refine r_irem hG (by omega) (by omega) dX7_comesAs_74 ?_
      refine r_callVv hG (c_putL (g_l G) (g_D G) a (addN (come0 Z k t tr) (Z 5 2) i) K U R C _ _ _ (by omega) (by omega))  gX7_comesAs_X7_put rfl hyX7_put rfl (by decide) (by decide) 0 rfl rfl rfl (Nat.le_of_ble_eq_true rfl) ⟨Nat.zero_le _, Nat.zero_le _⟩ dX7_comesAs_75 (fun w hw => ?_)
      subst hw
      refine r_iinc hG dX7_comesAs_78 rfl (by decide) rfl ?_
      refine r_goto (tgt := 53) hG dX7_comesAs_81 (by decide) ?_
      exact V_lv (ih (by omega)) ⟨rfl, rfl, rfl, trivial⟩
  refine r_aload_n (i := 0) hG dX7_comesAs_0 rfl rfl ?_
  refine r_get hG cX7_comesAs_X7 0 0 rfl rfl (by decide) kX7_comesAs_9 rfl dX7_comesAs_1 ?_
  refine r_iconst hG dX7_comesAs_4 ?_
  refine r_iald hG 1 rfl (by omega) (by decide) dX7_comesAs_5 ?_
  refine V_top (x' := iI ((Z) 5 2)) (congrArg iI (mro_2 (Z))) ?_
  refine r_istore hG dX7_comesAs_6 (by decide) rfl ?_
  refine r_aload_n (i := 0) hG dX7_comesAs_8 rfl rfl ?_
  refine r_get hG cX7_comesAs_X7 0 0 rfl rfl (by decide) kX7_comesAs_9 rfl dX7_comesAs_9 ?_
  refine r_iconst hG dX7_comesAs_12 ?_
  refine r_dup2 hG dX7_comesAs_13 rfl rfl ?_
  refine r_iald hG 1 rfl (by omega) (by decide) dX7_comesAs_14 ?_
  refine V_top (x' := iI ((Z) 5 2)) (congrArg iI (mro_2 (Z))) ?_
  refine r_iconst hG dX7_comesAs_15 ?_
  refine r_iadd hG dX7_comesAs_16 ?_
  refine r_iast hG 1 rfl (by omega) (by decide) dX7_comesAs_17 rfl ?_
  refine V_ia (g := mro (upY Z 5 2 (Z 5 2 + 1))) 1 rfl (fun j h0 h1 => mro_up5 Z (by omega) j h0) rfl ?_
  refine V_ws (ws' := mw (g_D G) a (upY Z 5 2 (Z 5 2 + 1)) K U R C) rfl ?_
  refine r_aload_n (i := 0) hG dX7_comesAs_18 rfl rfl ?_
  refine r_iload hG dX7_comesAs_19 rfl ?_
  refine r_iconst hG dX7_comesAs_21 ?_
  refine r_iload_n (i := 1) hG dX7_comesAs_22 rfl rfl ?_
  refine r_callVv hG (c_put0 (g_l G) (g_D G) a (upY Z 5 2 (Z 5 2 + 1)) K U R C _ _ (by omega))  gX7_comesAs_X7_put rfl hyX7_put rfl (by decide) (by decide) 0 rfl rfl rfl (Nat.le_of_ble_eq_true rfl) ⟨Nat.zero_le _, Nat.zero_le _⟩ dX7_comesAs_23 (fun w hw => ?_)
  subst hw
  refine r_aload_n (i := 0) hG dX7_comesAs_26 rfl rfl ?_
  refine r_iload hG dX7_comesAs_27 rfl ?_
  refine r_iconst hG dX7_comesAs_29 ?_
  refine r_iload_n (i := 2) hG dX7_comesAs_30 rfl rfl ?_
  refine r_callVv hG (c_put1 (g_l G) (g_D G) a (upY (upY Z 5 2 (Z 5 2 + 1)) 0 (Z 5 2) k) K U R C _ _ (by omega))  gX7_comesAs_X7_put rfl hyX7_put rfl (by decide) (by decide) 0 rfl rfl rfl (Nat.le_of_ble_eq_true rfl) ⟨Nat.zero_le _, Nat.zero_le _⟩ dX7_comesAs_31 (fun w hw => ?_)
  subst hw
  refine r_aload_n (i := 0) hG dX7_comesAs_34 rfl rfl ?_
  refine r_iload hG dX7_comesAs_35 rfl ?_
  refine r_iconst hG dX7_comesAs_37 ?_
  refine r_iconst hG dX7_comesAs_38 ?_
  refine r_callVv hG (c_put2 (g_l G) (g_D G) a (upY (upY (upY Z 5 2 (Z 5 2 + 1)) 0 (Z 5 2) k) 1 (Z 5 2) t) K U R C _ _ (by omega))  gX7_comesAs_X7_put rfl hyX7_put rfl (by decide) (by decide) 0 rfl rfl rfl (Nat.le_of_ble_eq_true rfl) ⟨Nat.zero_le _, Nat.zero_le _⟩ dX7_comesAs_39 (fun w hw => ?_)
  subst hw
  refine r_aload_n (i := 0) hG dX7_comesAs_42 rfl rfl ?_
  refine r_iload hG dX7_comesAs_43 rfl ?_
  refine r_iconst hG dX7_comesAs_45 ?_
  refine r_iload_n (i := 3) hG dX7_comesAs_46 rfl rfl ?_
  refine r_callVv hG (c_put3 (g_l G) (g_D G) a (upY (upY (upY (upY Z 5 2 (Z 5 2 + 1)) 0 (Z 5 2) k) 1 (Z 5 2) t) 2 (Z 5 2) 0) K U R C _ _ (by omega))  gX7_comesAs_X7_put rfl hyX7_put rfl (by decide) (by decide) 0 rfl rfl rfl (Nat.le_of_ble_eq_true rfl) ⟨Nat.zero_le _, Nat.zero_le _⟩ dX7_comesAs_47 (fun w hw => ?_)
  subst hw
  refine r_iconst hG dX7_comesAs_50 ?_
  refine r_istore hG dX7_comesAs_51 (by decide) rfl ?_
  exact V_ws (ws' := mw (g_D G) a (addN (come0 Z k t tr) (Z 5 2) 0) K U R C) rfl (V_lv (L 0 (by omega)) ⟨rfl, rfl, rfl, trivial⟩)
theorem hyX7_hasSwapped : hyV yX7_hasSwapped RX7 2 := by decide +kernel
set_option maxHeartbeats 4000000 in
set_option maxRecDepth 100000 in
theorem c_X7_hasSwapped (l : Launch) (D : va_G) (a : Nat → Nat) (Z K U R : YS) (C : Int → Int64) (hI : Inv Z) (c th : Int) (hc : 0 ≤ c ∧ c < 8) (ht : 0 ≤ th ∧ th ≤ 9) : Con l yX7_hasSwapped wsX7_hasSwapped 2 D (mw D a Z K U R C) [.ref (a 0), .int (iI c), .int (iI th)] (none) (fun w => w = mw D a (noteZ (upY Z 1 c th) c) K U R C) := by
  refine con_start (own := RX7) (by decide) rfl rfl (Nat.le_of_ble_eq_true rfl) ?_
  intro G hG hE hl hD
  subst hl
  subst hD
  have hc1 := Inv_c hI hc
  have hk := losesK_rng (Z 0 c)
  have hI2 : Inv (upY (upY Z 1 c th) 2 c (if Z 2 c + 1 < 9999 then Z 2 c + 1 else 9999)) := Inv_up2 (Inv_up1 hI ht) (by split <;> omega)
  refine r_aload_n (i := 0) hG dX7_hasSwapped_0 rfl rfl ?_
  refine r_iload_n (i := 1) hG dX7_hasSwapped_1 rfl rfl ?_
  refine r_iconst hG dX7_hasSwapped_2 ?_
  refine r_iload_n (i := 2) hG dX7_hasSwapped_3 rfl rfl ?_
  refine r_callVv hG (c_put1 (g_l G) (g_D G) a (Z) K U R C _ _ (by omega))  gX7_hasSwapped_X7_put rfl hyX7_put rfl (by decide) (by decide) 0 rfl rfl rfl (Nat.le_of_ble_eq_true rfl) ⟨Nat.zero_le _, Nat.zero_le _⟩ dX7_hasSwapped_4 (fun w hw => ?_)
  subst hw
  refine r_aload_n (i := 0) hG dX7_hasSwapped_7 rfl rfl ?_
  refine r_iload_n (i := 1) hG dX7_hasSwapped_8 rfl rfl ?_
  refine r_iconst hG dX7_hasSwapped_9 ?_
  refine r_aload_n (i := 0) hG dX7_hasSwapped_10 rfl rfl ?_
  refine r_iload_n (i := 1) hG dX7_hasSwapped_11 rfl rfl ?_
  refine r_iconst hG dX7_hasSwapped_12 ?_
  refine r_callVi hG (c_it2 (g_l G) (g_D G) a (upY Z 1 c th) K U R C _ (by omega))  gX7_hasSwapped_X7_it rfl hyX7_it rfl (by decide) (by decide) 0 rfl rfl rfl (Nat.le_of_ble_eq_true rfl) ⟨Nat.zero_le _, Nat.zero_le _⟩ dX7_hasSwapped_13 (fun w hw => ?_)
  subst hw
  refine V_top (x' := iI (Z 2 c)) rfl ?_
  refine r_iconst hG dX7_hasSwapped_16 ?_
  refine r_iadd hG dX7_hasSwapped_17 ?_
  refine r_iconst hG dX7_hasSwapped_18 ?_
  refine r_sipush hG dX7_hasSwapped_19 rfl ?_
  refine r_call0i hG (c_X7_held (g_l G) (g_D G) _ _ _ (by omega) (by omega) (by omega))  gX7_hasSwapped_X7_held rfl hyX7_held rfl (by decide) (by decide) rfl (Nat.le_of_ble_eq_true rfl) ⟨Nat.zero_le _, Nat.zero_le _⟩ dX7_hasSwapped_22 ?_
  refine V_top (x' := iI (if Z 2 c + 1 < 9999 then Z 2 c + 1 else 9999)) (congrArg iI (by (repeat' split) <;> omega)) ?_
  refine r_callVv hG (c_put2 (g_l G) (g_D G) a (upY Z 1 c th) K U R C _ _ (by omega))  gX7_hasSwapped_X7_put rfl hyX7_put rfl (by decide) (by decide) 0 rfl rfl rfl (Nat.le_of_ble_eq_true rfl) ⟨Nat.zero_le _, Nat.zero_le _⟩ dX7_hasSwapped_25 (fun w hw => ?_)
  subst hw
  refine r_aload_n (i := 0) hG dX7_hasSwapped_28 rfl rfl ?_
  refine r_iload_n (i := 1) hG dX7_hasSwapped_29 rfl rfl ?_
  refine r_iconst hG dX7_hasSwapped_30 ?_
  refine r_aload_n (i := 0) hG dX7_hasSwapped_31 rfl rfl ?_
  refine r_iload_n (i := 1) hG dX7_hasSwapped_32 rfl rfl ?_
  refine r_iconst hG dX7_hasSwapped_33 ?_
  refine r_callVi hG (c_it3 (g_l G) (g_D G) a (upY (upY Z 1 c th) 2 c (if Z 2 c + 1 < 9999 then Z 2 c + 1 else 9999)) K U R C _ (by omega))  gX7_hasSwapped_X7_it rfl hyX7_it rfl (by decide) (by decide) 0 rfl rfl rfl (Nat.le_of_ble_eq_true rfl) ⟨Nat.zero_le _, Nat.zero_le _⟩ dX7_hasSwapped_34 (fun w hw => ?_)
  subst hw
  refine V_top (x' := iI (Z 3 c)) rfl ?_
  refine r_aload_n (i := 0) hG dX7_hasSwapped_37 rfl rfl ?_
  refine r_iload_n (i := 1) hG dX7_hasSwapped_38 rfl rfl ?_
  refine r_callVi hG (c_X7_losesOf (g_l G) (g_D G) a (upY (upY Z 1 c th) 2 c (if Z 2 c + 1 < 9999 then Z 2 c + 1 else 9999)) K U R C hI2 _ (by omega))  gX7_hasSwapped_X7_losesOf rfl hyX7_losesOf rfl (by decide) (by decide) 0 rfl rfl rfl (Nat.le_of_ble_eq_true rfl) ⟨Nat.zero_le _, Nat.zero_le _⟩ dX7_hasSwapped_39 (fun w hw => ?_)
  subst hw
  refine V_top (x' := iI (losesK (Z 0 c))) rfl ?_
  refine r_isub hG dX7_hasSwapped_42 ?_
  refine r_iconst hG dX7_hasSwapped_43 ?_
  refine r_bipush hG dX7_hasSwapped_44 rfl ?_
  refine r_call0i hG (c_X7_held (g_l G) (g_D G) _ _ _ (by omega) (by omega) (by omega))  gX7_hasSwapped_X7_held rfl hyX7_held rfl (by decide) (by decide) rfl (Nat.le_of_ble_eq_true rfl) ⟨Nat.zero_le _, Nat.zero_le _⟩ dX7_hasSwapped_46 ?_
  refine V_top (x' := iI (if 0 < Z 3 c - losesK (Z 0 c) then Z 3 c - losesK (Z 0 c) else 0)) (congrArg iI (by (repeat' split) <;> omega)) ?_
  refine r_callVv hG (c_put3 (g_l G) (g_D G) a (upY (upY Z 1 c th) 2 c (if Z 2 c + 1 < 9999 then Z 2 c + 1 else 9999)) K U R C _ _ (by omega))  gX7_hasSwapped_X7_put rfl hyX7_put rfl (by decide) (by decide) 0 rfl rfl rfl (Nat.le_of_ble_eq_true rfl) ⟨Nat.zero_le _, Nat.zero_le _⟩ dX7_hasSwapped_49 (fun w hw => ?_)
  subst hw
  exact r_vret hG hE dX7_hasSwapped_52 rfl
theorem hyX7_swaps : hyV yX7_swaps RX7 2 := by decide +kernel
set_option maxHeartbeats 4000000 in
set_option maxRecDepth 100000 in
theorem c_X7_swaps (l : Launch) (D : va_G) (a : Nat → Nat) (Z K U R : YS) (C : Int → Int64) (hI : Inv Z) (c o : Int) (hc : 0 ≤ c ∧ c < 8) (ho : 0 ≤ o ∧ o < 8) : Con l yX7_swaps wsX7_swaps 3 D (mw D a Z K U R C) [.ref (a 0), .int (iI c), .int (iI o)] (none) (fun w => w = mw D a (swapZ Z c o) K U R C) := by
  refine con_start (own := RX7) (by decide) rfl rfl (Nat.le_of_ble_eq_true rfl) ?_
  intro G hG hE hl hD
  subst hl
  subst hD
  have hc1 := Inv_c hI hc
  have ho1 := Inv_c hI ho
  have hI2 : Inv (noteZ (upY Z 1 c (Z 1 o)) c) := Inv_note (Inv_up1 hI ho1.2.1) hc
  refine r_aload_n (i := 0) hG dX7_swaps_0 rfl rfl ?_
  refine r_iload_n (i := 1) hG dX7_swaps_1 rfl rfl ?_
  refine r_iconst hG dX7_swaps_2 ?_
  refine r_callVi hG (c_it1 (g_l G) (g_D G) a (Z) K U R C _ (by omega))  gX7_swaps_X7_it rfl hyX7_it rfl (by decide) (by decide) 0 rfl rfl rfl (Nat.le_of_ble_eq_true rfl) ⟨Nat.zero_le _, Nat.zero_le _⟩ dX7_swaps_3 (fun w hw => ?_)
  subst hw
  refine r_istore_n (i := 3) hG dX7_swaps_6 rfl (by decide) rfl ?_
  refine r_aload_n (i := 0) hG dX7_swaps_7 rfl rfl ?_
  refine r_iload_n (i := 1) hG dX7_swaps_8 rfl rfl ?_
  refine r_aload_n (i := 0) hG dX7_swaps_9 rfl rfl ?_
  refine r_iload_n (i := 2) hG dX7_swaps_10 rfl rfl ?_
  refine r_iconst hG dX7_swaps_11 ?_
  refine r_callVi hG (c_it1 (g_l G) (g_D G) a (Z) K U R C _ (by omega))  gX7_swaps_X7_it rfl hyX7_it rfl (by decide) (by decide) 0 rfl rfl rfl (Nat.le_of_ble_eq_true rfl) ⟨Nat.zero_le _, Nat.zero_le _⟩ dX7_swaps_12 (fun w hw => ?_)
  subst hw
  refine r_callVv hG (c_X7_hasSwapped (g_l G) (g_D G) a Z K U R C hI _ _ (by omega) (by omega))  gX7_swaps_X7_hasSwapped rfl hyX7_hasSwapped rfl (by decide) (by decide) 0 rfl rfl rfl (Nat.le_of_ble_eq_true rfl) ⟨Nat.zero_le _, Nat.zero_le _⟩ dX7_swaps_15 (fun w hw => ?_)
  subst hw
  refine r_aload_n (i := 0) hG dX7_swaps_18 rfl rfl ?_
  refine r_iload_n (i := 2) hG dX7_swaps_19 rfl rfl ?_
  refine r_iload_n (i := 3) hG dX7_swaps_20 rfl rfl ?_
  refine r_callVv hG (c_X7_hasSwapped (g_l G) (g_D G) a (noteZ (upY Z 1 c (Z 1 o)) c) K U R C hI2 _ _ (by omega) (by omega))  gX7_swaps_X7_hasSwapped rfl hyX7_hasSwapped rfl (by decide) (by decide) 0 rfl rfl rfl (Nat.le_of_ble_eq_true rfl) ⟨Nat.zero_le _, Nat.zero_le _⟩ dX7_swaps_21 (fun w hw => ?_)
  subst hw
  exact r_vret hG hE dX7_swaps_24 (by unfold swapZ; rw [note_comm])
theorem hyX7_isRing : hyV yX7_isRing RX7 3 := by decide +kernel
set_option maxHeartbeats 4000000 in
set_option maxRecDepth 100000 in
theorem c_X7_isRing (l : Launch) (D : va_G) (a : Nat → Nat) (Z K U R : YS) (C : Int → Int64) (hI : Inv Z) (u v w : Int) (hu : 0 ≤ u ∧ u < 8) (hv : 0 ≤ v ∧ v < 8) (hw : 0 ≤ w ∧ w < 8) : Con l yX7_isRing wsX7_isRing 5 D (mw D a Z K U R C) [.ref (a 0), .int (iI u), .int (iI v), .int (iI w)] (some (.int (iI (b2 (ringP Z u v w))))) (fun w => w = mw D a Z K U R C) := by
  refine con_start (own := RX7) (by decide) rfl rfl (Nat.le_of_ble_eq_true rfl) ?_
  intro G hG hE hl hD
  subst hl
  subst hD
  have hu1 := Inv_c hI hu
  have hv1 := Inv_c hI hv
  have hw1 := Inv_c hI hw
  refine r_aload_n (i := 0) hG dX7_isRing_0 rfl rfl ?_
  refine r_iload_n (i := 1) hG dX7_isRing_1 rfl rfl ?_
  refine r_iconst hG dX7_isRing_2 ?_
  refine r_callVi hG (c_it1 (g_l G) (g_D G) a (Z) K U R C _ (by omega))  gX7_isRing_X7_it rfl hyX7_it rfl (by decide) (by decide) 0 rfl rfl rfl (Nat.le_of_ble_eq_true rfl) ⟨Nat.zero_le _, Nat.zero_le _⟩ dX7_isRing_3 (fun w hw => ?_)
  subst hw
  refine r_istore hG dX7_isRing_6 (by decide) rfl ?_
  refine r_aload_n (i := 0) hG dX7_isRing_8 rfl rfl ?_
  refine r_iload_n (i := 2) hG dX7_isRing_9 rfl rfl ?_
  refine r_iconst hG dX7_isRing_10 ?_
  refine r_callVi hG (c_it1 (g_l G) (g_D G) a (Z) K U R C _ (by omega))  gX7_isRing_X7_it rfl hyX7_it rfl (by decide) (by decide) 0 rfl rfl rfl (Nat.le_of_ble_eq_true rfl) ⟨Nat.zero_le _, Nat.zero_le _⟩ dX7_isRing_11 (fun w hw => ?_)
  subst hw
  refine r_istore hG dX7_isRing_14 (by decide) rfl ?_
  refine r_aload_n (i := 0) hG dX7_isRing_16 rfl rfl ?_
  refine r_iload_n (i := 3) hG dX7_isRing_17 rfl rfl ?_
  refine r_iconst hG dX7_isRing_18 ?_
  refine r_callVi hG (c_it1 (g_l G) (g_D G) a (Z) K U R C _ (by omega))  gX7_isRing_X7_it rfl hyX7_it rfl (by decide) (by decide) 0 rfl rfl rfl (Nat.le_of_ble_eq_true rfl) ⟨Nat.zero_le _, Nat.zero_le _⟩ dX7_isRing_19 (fun w hw => ?_)
  subst hw
  refine r_istore hG dX7_isRing_22 (by decide) rfl ?_
  refine r_iload_n (i := 1) hG dX7_isRing_24 rfl rfl ?_
  refine r_iload_n (i := 2) hG dX7_isRing_25 rfl rfl ?_
  refine r_icmp_eq (tgt := 94) hG (by omega) (by omega) dX7_isRing_26 (by decide) (fun c26 => ?_) (fun c26 => ?_)
  · refine r_iconst hG dX7_isRing_94 ?_
    exact r_zret hG hE dX7_isRing_95 (by congr 1; unfold b2 ringP wants; (try simp_all) <;> (try omega)) rfl
  · refine r_iload_n (i := 2) hG dX7_isRing_29 rfl rfl ?_
    refine r_iload_n (i := 3) hG dX7_isRing_30 rfl rfl ?_
    refine r_icmp_eq (tgt := 94) hG (by omega) (by omega) dX7_isRing_31 (by decide) (fun c31 => ?_) (fun c31 => ?_)
    · refine r_iconst hG dX7_isRing_94 ?_
      exact r_zret hG hE dX7_isRing_95 (by congr 1; unfold b2 ringP wants; (try simp_all) <;> (try omega)) rfl
    · refine r_iload_n (i := 1) hG dX7_isRing_34 rfl rfl ?_
      refine r_iload_n (i := 3) hG dX7_isRing_35 rfl rfl ?_
      refine r_icmp_eq (tgt := 94) hG (by omega) (by omega) dX7_isRing_36 (by decide) (fun c36 => ?_) (fun c36 => ?_)
      · refine r_iconst hG dX7_isRing_94 ?_
        exact r_zret hG hE dX7_isRing_95 (by congr 1; unfold b2 ringP wants; (try simp_all) <;> (try omega)) rfl
      · refine r_iload hG dX7_isRing_39 rfl ?_
        refine r_iload hG dX7_isRing_41 rfl ?_
        refine r_icmp_eq (tgt := 94) hG (by omega) (by omega) dX7_isRing_43 (by decide) (fun c43 => ?_) (fun c43 => ?_)
        · refine r_iconst hG dX7_isRing_94 ?_
          exact r_zret hG hE dX7_isRing_95 (by congr 1; unfold b2 ringP wants; (try simp_all) <;> (try omega)) rfl
        · refine r_iload hG dX7_isRing_46 rfl ?_
          refine r_iload hG dX7_isRing_48 rfl ?_
          refine r_icmp_eq (tgt := 94) hG (by omega) (by omega) dX7_isRing_50 (by decide) (fun c50 => ?_) (fun c50 => ?_)
          · refine r_iconst hG dX7_isRing_94 ?_
            exact r_zret hG hE dX7_isRing_95 (by congr 1; unfold b2 ringP wants; (try simp_all) <;> (try omega)) rfl
          · refine r_iload hG dX7_isRing_53 rfl ?_
            refine r_iload hG dX7_isRing_55 rfl ?_
            refine r_icmp_eq (tgt := 94) hG (by omega) (by omega) dX7_isRing_57 (by decide) (fun c57 => ?_) (fun c57 => ?_)
            · refine r_iconst hG dX7_isRing_94 ?_
              exact r_zret hG hE dX7_isRing_95 (by congr 1; unfold b2 ringP wants; (try simp_all) <;> (try omega)) rfl
            · refine r_aload_n (i := 0) hG dX7_isRing_60 rfl rfl ?_
              refine r_iload_n (i := 1) hG dX7_isRing_61 rfl rfl ?_
              refine r_iload hG dX7_isRing_62 rfl ?_
              refine r_callVi hG (c_X7_doesAgree (g_l G) (g_D G) a Z K U R C hI _ _ (by omega) (by omega))  gX7_isRing_X7_doesAgree rfl hyX7_doesAgree rfl (by decide) (by decide) 0 rfl rfl rfl (Nat.le_of_ble_eq_true rfl) ⟨Nat.zero_le _, Nat.zero_le _⟩ dX7_isRing_64 (fun w hw => ?_)
              subst hw
              refine rb_if_eq (tgt := 94) hG dX7_isRing_67 (by decide) (fun c67 => ?_) (fun c67 => ?_)
              · refine r_iconst hG dX7_isRing_94 ?_
                exact r_zret hG hE dX7_isRing_95 (by congr 1; unfold b2 ringP wants; (try simp_all) <;> (try omega)) rfl
              · refine r_aload_n (i := 0) hG dX7_isRing_70 rfl rfl ?_
                refine r_iload_n (i := 2) hG dX7_isRing_71 rfl rfl ?_
                refine r_iload hG dX7_isRing_72 rfl ?_
                refine r_callVi hG (c_X7_doesAgree (g_l G) (g_D G) a Z K U R C hI _ _ (by omega) (by omega))  gX7_isRing_X7_doesAgree rfl hyX7_doesAgree rfl (by decide) (by decide) 0 rfl rfl rfl (Nat.le_of_ble_eq_true rfl) ⟨Nat.zero_le _, Nat.zero_le _⟩ dX7_isRing_74 (fun w hw => ?_)
                subst hw
                refine rb_if_eq (tgt := 94) hG dX7_isRing_77 (by decide) (fun c77 => ?_) (fun c77 => ?_)
                · refine r_iconst hG dX7_isRing_94 ?_
                  exact r_zret hG hE dX7_isRing_95 (by congr 1; unfold b2 ringP wants; (try simp_all) <;> (try omega)) rfl
                · refine r_aload_n (i := 0) hG dX7_isRing_80 rfl rfl ?_
                  refine r_iload_n (i := 3) hG dX7_isRing_81 rfl rfl ?_
                  refine r_iload hG dX7_isRing_82 rfl ?_
                  refine r_callVi hG (c_X7_doesAgree (g_l G) (g_D G) a Z K U R C hI _ _ (by omega) (by omega))  gX7_isRing_X7_doesAgree rfl hyX7_doesAgree rfl (by decide) (by decide) 0 rfl rfl rfl (Nat.le_of_ble_eq_true rfl) ⟨Nat.zero_le _, Nat.zero_le _⟩ dX7_isRing_84 (fun w hw => ?_)
                  subst hw
                  refine rb_if_eq (tgt := 94) hG dX7_isRing_87 (by decide) (fun c87 => ?_) (fun c87 => ?_)
                  · refine r_iconst hG dX7_isRing_94 ?_
                    exact r_zret hG hE dX7_isRing_95 (by congr 1; unfold b2 ringP wants; (try simp_all) <;> (try omega)) rfl
                  · refine r_iconst hG dX7_isRing_90 ?_
                    refine r_goto (tgt := 95) hG dX7_isRing_91 (by decide) ?_
                    exact r_zret hG hE dX7_isRing_95 (by congr 1; unfold b2 ringP wants; (try simp_all) <;> (try omega)) rfl
theorem kX7_askedNext_9 : Cond.fieldLink RX7 9 "BreakSwapsModel" "m" "[I" ∈ wsX7_askedNext := List.mem_of_getElem? (i := 1) rfl
theorem cX7_askedNext_X7 : ∀ w ∈ wsX70, w ∈ wsX7_askedNext := fun _ h => List.mem_cons_of_mem _ (List.mem_append_right _ h)
theorem hyX7_askedNext : hyV yX7_askedNext RX7 2 := by decide +kernel
set_option maxHeartbeats 4000000 in
set_option maxRecDepth 100000 in
theorem c_X7_askedNext (l : Launch) (D : va_G) (a : Nat → Nat) (Z K U R : YS) (C : Int → Int64) (hI : Inv Z) (c : Int) (asked : Int32) (hc : 0 ≤ c ∧ c < 8) : Con l yX7_askedNext wsX7_askedNext 3 D (mw D a Z K U R C) [.ref (a 0), .int (iI c), .int asked] (some (.int (iI (nextZ Z c asked)))) (fun w => w = mw D a Z K U R C) := by
  refine con_start (own := RX7) (by decide) rfl rfl (Nat.le_of_ble_eq_true rfl) ?_
  intro G hG hE hl hD
  subst hl
  subst hD
  have hN := hI.1
  have hc1 := Inv_c hI hc
  have L : ∀ i : Nat, i ≤ (Z 5 2).toNat → V G 0 0 (mw (g_D G) a Z K U R C) 5 [(0, .ref (a 0)), (1, .int (iI c)), (2, .int asked), (3, .int (iI (nextN Z c asked i))), (4, .int (iI (i : Int)))] [] := by
    refine down (fun i hi ih => ?_)
    have hr := nextN_rng Z c asked i
    have J108 : i < (Z 5 2).toNat → ∀ x2, x2 = nextN Z c asked (i + 1) → V G 0 0 (mw (g_D G) a Z K U R C) 108 [(0, .ref (a 0)), (1, .int (iI c)), (2, .int asked), (3, .int (iI x2)), (4, .int (iI (i : Int)))] [] := by
      intro hiN x2 e1
      subst e1
      refine r_iinc hG dX7_askedNext_108 rfl (by decide) rfl ?_
      refine r_goto (tgt := 5) hG dX7_askedNext_111 (by decide) ?_
      exact V_lv (ih hiN) ⟨rfl, rfl, rfl, rfl, rfl, trivial⟩
    have K71 : i < (Z 5 2).toNat → opn Z c asked i = true → V G 0 0 (mw (g_D G) a Z K U R C) 71 [(0, .ref (a 0)), (1, .int (iI c)), (2, .int asked), (3, .int (iI (nextN Z c asked i))), (4, .int (iI (i : Int)))] [] := by
      intro hiN ho
      have hi1 := Inv_c hI (c := (i : Int)) (by omega)
      have hw1 := worth_rng hI hc (t := Z 1 (i : Int)) (by omega)
      have hx1 : ¬ nextN Z c asked i < 0 → _ := fun h => Inv_c hI (c := nextN Z c asked i) (by omega)
      have hw2 : ¬ nextN Z c asked i < 0 → -20 ≤ worth Z c (Z 1 (nextN Z c asked i)) ∧ worth Z c (Z 1 (nextN Z c asked i)) ≤ 28 := fun h => worth_rng hI hc (by have := hx1 h; omega)
      refine r_iload_n (i := 3) hG dX7_askedNext_71 rfl rfl ?_
      refine r_if_lt (tgt := 101) hG (by omega) dX7_askedNext_72 (by decide) (fun c72 => ?_) (fun c72 => ?_)
      · refine r_iload hG dX7_askedNext_101 rfl ?_
        refine r_goto (tgt := 107) hG dX7_askedNext_103 (by decide) ?_
        refine r_istore_n (i := 3) hG dX7_askedNext_107 rfl (by decide) rfl ?_
        first
          | exact V_lv (J108 hiN _ (nextN_take ho (by first | exact Or.inl c72 | exact Or.inr (by omega)))) ⟨rfl, rfl, rfl, rfl, rfl, trivial⟩
          | exact V_lv (J108 hiN _ (nextN_keep (fun h => by omega))) ⟨rfl, rfl, rfl, rfl, rfl, trivial⟩
      · refine r_aload_n (i := 0) hG dX7_askedNext_75 rfl rfl ?_
        refine r_iload_n (i := 1) hG dX7_askedNext_76 rfl rfl ?_
        refine r_aload_n (i := 0) hG dX7_askedNext_77 rfl rfl ?_
        refine r_iload hG dX7_askedNext_78 rfl ?_
        refine r_iconst hG dX7_askedNext_80 ?_
        refine r_callVi hG (c_it1 (g_l G) (g_D G) a (Z) K U R C _ (by omega))  gX7_askedNext_X7_it rfl hyX7_it rfl (by decide) (by decide) 0 rfl rfl rfl (Nat.le_of_ble_eq_true rfl) ⟨Nat.zero_le _, Nat.zero_le _⟩ dX7_askedNext_81 (fun w hw => ?_)
        subst hw
        refine r_callVi hG (c_X7_worthTo (g_l G) (g_D G) a Z K U R C hI _ _ (by omega) (by omega))  gX7_askedNext_X7_worthTo rfl hyX7_worthTo rfl (by decide) (by decide) 0 rfl rfl rfl (Nat.le_of_ble_eq_true rfl) ⟨Nat.zero_le _, Nat.zero_le _⟩ dX7_askedNext_84 (fun w hw => ?_)
        subst hw
        refine r_aload_n (i := 0) hG dX7_askedNext_87 rfl rfl ?_
        refine r_iload_n (i := 1) hG dX7_askedNext_88 rfl rfl ?_
        refine r_aload_n (i := 0) hG dX7_askedNext_89 rfl rfl ?_
        refine r_iload_n (i := 3) hG dX7_askedNext_90 rfl rfl ?_
        refine r_iconst hG dX7_askedNext_91 ?_
        refine r_callVi hG (c_it1 (g_l G) (g_D G) a (Z) K U R C _ (by have := hr; omega))  gX7_askedNext_X7_it rfl hyX7_it rfl (by decide) (by decide) 0 rfl rfl rfl (Nat.le_of_ble_eq_true rfl) ⟨Nat.zero_le _, Nat.zero_le _⟩ dX7_askedNext_92 (fun w hw => ?_)
        subst hw
        refine r_callVi hG (c_X7_worthTo (g_l G) (g_D G) a Z K U R C hI _ _ (by omega) (by have := hx1 (by omega); omega))  gX7_askedNext_X7_worthTo rfl hyX7_worthTo rfl (by decide) (by decide) 0 rfl rfl rfl (Nat.le_of_ble_eq_true rfl) ⟨Nat.zero_le _, Nat.zero_le _⟩ dX7_askedNext_95 (fun w hw => ?_)
        subst hw
        refine r_icmp_le (tgt := 106) hG (by have := hw2 (by omega); omega) (by have := hw2 (by omega); omega) dX7_askedNext_98 (by decide) (fun c98 => ?_) (fun c98 => ?_)
        · refine r_iload_n (i := 3) hG dX7_askedNext_106 rfl rfl ?_
          refine r_istore_n (i := 3) hG dX7_askedNext_107 rfl (by decide) rfl ?_
          first
            | exact V_lv (J108 hiN _ (nextN_take ho (by first | exact Or.inl c72 | exact Or.inr (by omega)))) ⟨rfl, rfl, rfl, rfl, rfl, trivial⟩
            | exact V_lv (J108 hiN _ (nextN_keep (fun h => by omega))) ⟨rfl, rfl, rfl, rfl, rfl, trivial⟩
        · refine r_iload hG dX7_askedNext_101 rfl ?_
          refine r_goto (tgt := 107) hG dX7_askedNext_103 (by decide) ?_
          refine r_istore_n (i := 3) hG dX7_askedNext_107 rfl (by decide) rfl ?_
          first
            | exact V_lv (J108 hiN _ (nextN_take ho (by first | exact Or.inl c72 | exact Or.inr (by omega)))) ⟨rfl, rfl, rfl, rfl, rfl, trivial⟩
            | exact V_lv (J108 hiN _ (nextN_keep (fun h => by omega))) ⟨rfl, rfl, rfl, rfl, rfl, trivial⟩
    refine r_iload hG dX7_askedNext_5 rfl ?_
    refine r_aload_n (i := 0) hG dX7_askedNext_7 rfl rfl ?_
    refine r_get hG cX7_askedNext_X7 0 0 rfl rfl (by decide) kX7_askedNext_9 rfl dX7_askedNext_8 ?_
    refine r_iconst hG dX7_askedNext_11 ?_
    refine r_iald hG 1 rfl (by omega) (by decide) dX7_askedNext_12 ?_
    refine V_top (x' := iI ((Z) 5 2)) (congrArg iI (mro_2 (Z))) ?_
    refine r_icmp_ge (tgt := 114) hG (by omega) (by omega) dX7_askedNext_13 (by decide) (fun c13 => ?_) (fun c13 => ?_)
    · refine r_iload_n (i := 3) hG dX7_askedNext_114 rfl rfl ?_
      exact r_iret hG hE dX7_askedNext_115 (by rw [show i = (Z 5 2).toNat by omega]; rfl) rfl
    · refine r_iload hG dX7_askedNext_16 rfl ?_
      refine r_iload_n (i := 1) hG dX7_askedNext_18 rfl rfl ?_
      refine r_icmp_eq (tgt := 63) hG (by omega) (by omega) dX7_askedNext_19 (by decide) (fun c19 => ?_) (fun c19 => ?_)
      · refine r_iconst hG dX7_askedNext_63 ?_
        refine r_istore hG dX7_askedNext_64 (by decide) rfl ?_
        refine r_iload hG dX7_askedNext_66 rfl ?_
        refine r_if_eq (tgt := 106) hG (by omega) dX7_askedNext_68 (by decide) (fun c68 => ?_) (fun c68 => ?_)
        · refine r_iload_n (i := 3) hG dX7_askedNext_106 rfl rfl ?_
          refine r_istore_n (i := 3) hG dX7_askedNext_107 rfl (by decide) rfl ?_
          first
            | exact absurd c68 (by decide)
            | exact V_lv (J108 (by omega) _ (nextN_skip (by first | (simp_all [opn]; done) | (simp_all [opn]; omega)))) ⟨rfl, rfl, rfl, rfl, rfl, trivial⟩
        · first
            | exact absurd rfl c68
            | exact V_lv (K71 (by omega) (by unfold opn; simp only [c28, decide_true, Bool.true_and, Bool.and_eq_true, decide_eq_true_eq]; exact ⟨by omega, c56⟩)) ⟨rfl, rfl, rfl, rfl, rfl, trivial⟩
      · refine r_iload_n (i := 2) hG dX7_askedNext_22 rfl rfl ?_
        refine r_iload hG dX7_askedNext_23 rfl ?_
        refine rr_ishr hG dX7_askedNext_25 ?_
        refine r_iconst hG dX7_askedNext_26 ?_
        refine rr_iand hG dX7_askedNext_27 ?_
        refine rr_if_ne (tgt := 63) hG dX7_askedNext_28 (by decide) (fun c28 => ?_) (fun c28 => ?_)
        · refine r_iconst hG dX7_askedNext_63 ?_
          refine r_istore hG dX7_askedNext_64 (by decide) rfl ?_
          refine r_iload hG dX7_askedNext_66 rfl ?_
          refine r_if_eq (tgt := 106) hG (by omega) dX7_askedNext_68 (by decide) (fun c68 => ?_) (fun c68 => ?_)
          · refine r_iload_n (i := 3) hG dX7_askedNext_106 rfl rfl ?_
            refine r_istore_n (i := 3) hG dX7_askedNext_107 rfl (by decide) rfl ?_
            first
              | exact absurd c68 (by decide)
              | exact V_lv (J108 (by omega) _ (nextN_skip (by first | (simp_all [opn]; done) | (simp_all [opn]; omega)))) ⟨rfl, rfl, rfl, rfl, rfl, trivial⟩
          · first
              | exact absurd rfl c68
              | exact V_lv (K71 (by omega) (by unfold opn; simp only [c28, decide_true, Bool.true_and, Bool.and_eq_true, decide_eq_true_eq]; exact ⟨by omega, c56⟩)) ⟨rfl, rfl, rfl, rfl, rfl, trivial⟩
        · refine r_aload_n (i := 0) hG dX7_askedNext_31 rfl rfl ?_
          refine r_iload hG dX7_askedNext_32 rfl ?_
          refine r_iconst hG dX7_askedNext_34 ?_
          refine r_callVi hG (c_it3 (g_l G) (g_D G) a (Z) K U R C _ (by omega))  gX7_askedNext_X7_it rfl hyX7_it rfl (by decide) (by decide) 0 rfl rfl rfl (Nat.le_of_ble_eq_true rfl) ⟨Nat.zero_le _, Nat.zero_le _⟩ dX7_askedNext_35 (fun w hw => ?_)
          subst hw
          refine r_bipush hG dX7_askedNext_38 rfl ?_
          refine r_icmp_lt (tgt := 63) hG (by have := Inv_c hI (c := (i : Int)) (by omega); omega) (by have := Inv_c hI (c := (i : Int)) (by omega); omega) dX7_askedNext_40 (by decide) (fun c40 => ?_) (fun c40 => ?_)
          · refine r_iconst hG dX7_askedNext_63 ?_
            refine r_istore hG dX7_askedNext_64 (by decide) rfl ?_
            refine r_iload hG dX7_askedNext_66 rfl ?_
            refine r_if_eq (tgt := 106) hG (by omega) dX7_askedNext_68 (by decide) (fun c68 => ?_) (fun c68 => ?_)
            · refine r_iload_n (i := 3) hG dX7_askedNext_106 rfl rfl ?_
              refine r_istore_n (i := 3) hG dX7_askedNext_107 rfl (by decide) rfl ?_
              first
                | exact absurd c68 (by decide)
                | exact V_lv (J108 (by omega) _ (nextN_skip (by first | (simp_all [opn]; done) | (simp_all [opn]; omega)))) ⟨rfl, rfl, rfl, rfl, rfl, trivial⟩
            · first
                | exact absurd rfl c68
                | exact V_lv (K71 (by omega) (by unfold opn; simp only [c28, decide_true, Bool.true_and, Bool.and_eq_true, decide_eq_true_eq]; exact ⟨by omega, c56⟩)) ⟨rfl, rfl, rfl, rfl, rfl, trivial⟩
          · refine r_aload_n (i := 0) hG dX7_askedNext_43 rfl rfl ?_
            refine r_iload hG dX7_askedNext_44 rfl ?_
            refine r_iconst hG dX7_askedNext_46 ?_
            refine r_callVi hG (c_it1 (g_l G) (g_D G) a (Z) K U R C _ (by omega))  gX7_askedNext_X7_it rfl hyX7_it rfl (by decide) (by decide) 0 rfl rfl rfl (Nat.le_of_ble_eq_true rfl) ⟨Nat.zero_le _, Nat.zero_le _⟩ dX7_askedNext_47 (fun w hw => ?_)
            subst hw
            refine r_aload_n (i := 0) hG dX7_askedNext_50 rfl rfl ?_
            refine r_iload_n (i := 1) hG dX7_askedNext_51 rfl rfl ?_
            refine r_iconst hG dX7_askedNext_52 ?_
            refine r_callVi hG (c_it1 (g_l G) (g_D G) a (Z) K U R C _ (by omega))  gX7_askedNext_X7_it rfl hyX7_it rfl (by decide) (by decide) 0 rfl rfl rfl (Nat.le_of_ble_eq_true rfl) ⟨Nat.zero_le _, Nat.zero_le _⟩ dX7_askedNext_53 (fun w hw => ?_)
            subst hw
            refine r_icmp_eq (tgt := 63) hG (by have := Inv_c hI (c := (i : Int)) (by omega); omega) (by have := Inv_c hI (c := (i : Int)) (by omega); omega) dX7_askedNext_56 (by decide) (fun c56 => ?_) (fun c56 => ?_)
            · refine r_iconst hG dX7_askedNext_63 ?_
              refine r_istore hG dX7_askedNext_64 (by decide) rfl ?_
              refine r_iload hG dX7_askedNext_66 rfl ?_
              refine r_if_eq (tgt := 106) hG (by omega) dX7_askedNext_68 (by decide) (fun c68 => ?_) (fun c68 => ?_)
              · refine r_iload_n (i := 3) hG dX7_askedNext_106 rfl rfl ?_
                refine r_istore_n (i := 3) hG dX7_askedNext_107 rfl (by decide) rfl ?_
                first
                  | exact absurd c68 (by decide)
                  | exact V_lv (J108 (by omega) _ (nextN_skip (by first | (simp_all [opn]; done) | (simp_all [opn]; omega)))) ⟨rfl, rfl, rfl, rfl, rfl, trivial⟩
              · first
                  | exact absurd rfl c68
                  | exact V_lv (K71 (by omega) (by unfold opn; simp only [c28, decide_true, Bool.true_and, Bool.and_eq_true, decide_eq_true_eq]; exact ⟨by omega, c56⟩)) ⟨rfl, rfl, rfl, rfl, rfl, trivial⟩
            · refine r_iconst hG dX7_askedNext_59 ?_
              refine r_goto (tgt := 64) hG dX7_askedNext_60 (by decide) ?_
              refine r_istore hG dX7_askedNext_64 (by decide) rfl ?_
              refine r_iload hG dX7_askedNext_66 rfl ?_
              refine r_if_eq (tgt := 106) hG (by omega) dX7_askedNext_68 (by decide) (fun c68 => ?_) (fun c68 => ?_)
              · refine r_iload_n (i := 3) hG dX7_askedNext_106 rfl rfl ?_
                refine r_istore_n (i := 3) hG dX7_askedNext_107 rfl (by decide) rfl ?_
                first
                  | exact absurd c68 (by decide)
                  | exact V_lv (J108 (by omega) _ (nextN_skip (by first | (simp_all [opn]; done) | (simp_all [opn]; omega)))) ⟨rfl, rfl, rfl, rfl, rfl, trivial⟩
              · first
                  | exact absurd rfl c68
                  | exact V_lv (K71 (by omega) (by unfold opn; simp only [c28, decide_true, Bool.true_and, Bool.and_eq_true, decide_eq_true_eq]; exact ⟨by omega, c56⟩)) ⟨rfl, rfl, rfl, rfl, rfl, trivial⟩
  refine r_iconst hG dX7_askedNext_0 ?_
  refine r_istore_n (i := 3) hG dX7_askedNext_1 rfl (by decide) rfl ?_
  refine r_iconst hG dX7_askedNext_2 ?_
  refine r_istore hG dX7_askedNext_3 (by decide) rfl ?_
  exact V_lv (L 0 (by omega)) ⟨rfl, rfl, rfl, rfl, rfl, trivial⟩
