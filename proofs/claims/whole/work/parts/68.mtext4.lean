theorem kX7_swapItem_9 : Cond.fieldLink RX7 9 "BreakSwapsModel" "m" "[I" ∈ wsX7_swapItem := List.mem_of_getElem? (i := 1) rfl
theorem kX7_swapItem_187 : Cond.fieldLink RX7 187 "BreakSwapsModel" "bad" "Z" ∈ wsX7_swapItem := List.mem_of_getElem? (i := 2) rfl
theorem kX7_swapItem_181 : Cond.fieldLink RX7 181 "BreakSwapsModel" "token" "I" ∈ wsX7_swapItem := List.mem_of_getElem? (i := 3) rfl
theorem kX7_swapItem_178 : Cond.fieldLink RX7 178 "BreakSwapsModel" "value" "I" ∈ wsX7_swapItem := List.mem_of_getElem? (i := 4) rfl
theorem cX7_swapItem_X7 : ∀ w ∈ wsX70, w ∈ wsX7_swapItem := fun _ h => List.mem_cons_of_mem _ (List.mem_append_right _ h)
theorem hyX7_swapItem : hyV yX7_swapItem RX7 0 := by decide +kernel
set_option maxHeartbeats 4000000 in
set_option maxRecDepth 100000 in
theorem c_X7_swapItem (l : Launch) (D : va_G) (a : Nat → Nat) (Z K U R : YS) (C : Int → Int64) (n p : Int) (hB : bytesOk (R 2)) (hn : 0 ≤ n ∧ n ≤ 120) (hp : 0 ≤ p ∧ p ≤ n) (hI : Inv Z) : Con l yX7_swapItem wsX7_swapItem 4 D (mwp D a (Z) K U R C n (p) (0)) [.ref (a 0)] none (fun w => ∃ Z2, w = mwp D a Z2 K U R C n (swapS (R 2) n Z p).2.2 (b2 (!(swapS (R 2) n Z p).1)) ∧ ((swapS (R 2) n Z p).1 = true → Z2 = (swapS (R 2) n Z p).2.1)) := by
  refine con_start (own := RX7) (by decide) rfl rfl (Nat.le_of_ble_eq_true rfl) ?_
  intro G hG hE hl hD
  subst hl
  subst hD
  have hN := hI.1
  have h1 := tE_rng (B := R 2) hp
  have h2 := tE_rng (B := R 2) (n := n) (p := tE (R 2) n p) (by omega)
  have h3 := tE_rng (B := R 2) (n := n) (p := tE (R 2) n (tE (R 2) n p)) (by omega)
  have h4 := tE_rng (B := R 2) (n := n) (p := tE (R 2) n (tE (R 2) n (tE (R 2) n p))) (by omega)
  have ht := tokM_rng (R 2) n p
  have ht1 := tokM_rng (R 2) n (tE (R 2) n p)
  have ht2 := tokM_rng (R 2) n (tE (R 2) n (tE (R 2) n p))
  have hv := tV_rng (R 2) n p
  have hv1 := tV_rng (R 2) n (tE (R 2) n p)
  have hv2 := tV_rng (R 2) n (tE (R 2) n (tE (R 2) n p))
  have hv3 := tV_rng (R 2) n (tE (R 2) n (tE (R 2) n (tE (R 2) n p)))
  by_cases c1 : (tK (R 2) n p) = 2 ∧ (tV (R 2) n p) ≤ Z 5 2 - 1
  · by_cases c2 : ((tK (R 2) n (tE (R 2) n p)) = 2 ∧ (tV (R 2) n (tE (R 2) n p)) ≤ Z 5 2 - 1) ∧ ¬ (tV (R 2) n (tE (R 2) n p)) = (tV (R 2) n p)
    · have e : swapS (R 2) n Z p = (true, swapZ Z (tV (R 2) n p) (tV (R 2) n (tE (R 2) n p)), (tE (R 2) n (tE (R 2) n p))) := by unfold swapS; rw [if_pos c1, if_pos c2]
      refine r_aload_n (i := 0) hG dX7_swapItem_0 rfl rfl ?_
      refine r_iconst hG dX7_swapItem_1 ?_
      refine r_aload_n (i := 0) hG dX7_swapItem_2 rfl rfl ?_
      refine r_get hG cX7_swapItem_X7 0 0 rfl rfl (by decide) kX7_swapItem_9 rfl dX7_swapItem_3 ?_
      refine r_iconst hG dX7_swapItem_6 ?_
      refine r_iald hG 1 rfl (by omega) (by decide) dX7_swapItem_7 ?_
      refine V_top (x' := iI ((Z) 5 2)) (congrArg iI (mro_2 (Z))) ?_
      refine r_iconst hG dX7_swapItem_8 ?_
      refine r_isub hG dX7_swapItem_9 ?_
      refine r_callVi hG (c_X7_number (g_l G) (g_D G) a (Z) K U R C n p hB hn (by omega) (Z 5 2 - 1) (by omega) (by omega))  gX7_swapItem_X7_number rfl hyX7_number rfl (by decide) (by decide) 0 rfl rfl rfl (Nat.le_of_ble_eq_true rfl) ⟨Nat.zero_le _, Nat.zero_le _⟩ dX7_swapItem_10 (fun w hw => ?_)
      subst hw
      refine r_istore_n (i := 1) hG dX7_swapItem_13 rfl (by decide) rfl ?_
      refine r_aload_n (i := 0) hG dX7_swapItem_14 rfl rfl ?_
      refine r_aload_n (i := 0) hG dX7_swapItem_15 rfl rfl ?_
      refine r_get hG cX7_swapItem_X7 0 11 rfl rfl (by decide) kX7_swapItem_187 rfl dX7_swapItem_16 ?_
      refine r_if_ne (tgt := 39) hG (by omega) dX7_swapItem_19 (by decide) (fun c19 => ?_) (fun c19 => ?_)
      · first
          | (exfalso; omega)
          | (refine r_iconst hG dX7_swapItem_39 ?_
             refine r_goto (tgt := 44) hG dX7_swapItem_40 (by decide) ?_
             refine r_put hG cX7_swapItem_X7 0 11 tyX7 tyX7_ok nmX7 rfl rfl (by decide) kX7_swapItem_187 rfl rfl rfl (Nat.le_of_ble_eq_true rfl) dX7_swapItem_44 rfl ?_
             refine r_aload_n (i := 0) hG dX7_swapItem_47 rfl rfl ?_
             refine r_iconst hG dX7_swapItem_48 ?_
             refine r_aload_n (i := 0) hG dX7_swapItem_49 rfl rfl ?_
             refine r_get hG cX7_swapItem_X7 0 0 rfl rfl (by decide) kX7_swapItem_9 rfl dX7_swapItem_50 ?_
             refine r_iconst hG dX7_swapItem_53 ?_
             refine r_iald hG 1 rfl (by omega) (by decide) dX7_swapItem_54 ?_
             refine V_top (x' := iI ((Z) 5 2)) (congrArg iI (mro_2 (Z))) ?_
             refine r_iconst hG dX7_swapItem_55 ?_
             refine r_isub hG dX7_swapItem_56 ?_
             refine r_callVi hG (c_X7_number (g_l G) (g_D G) a (Z) K U R C n (tE (R 2) n p) hB hn (by omega) (Z 5 2 - 1) (by omega) (by omega))  gX7_swapItem_X7_number rfl hyX7_number rfl (by decide) (by decide) 0 rfl rfl rfl (Nat.le_of_ble_eq_true rfl) ⟨Nat.zero_le _, Nat.zero_le _⟩ dX7_swapItem_57 (fun w hw => ?_)
             subst hw
             refine r_istore_n (i := 2) hG dX7_swapItem_60 rfl (by decide) rfl ?_
             refine r_aload_n (i := 0) hG dX7_swapItem_61 rfl rfl ?_
             refine r_get hG cX7_swapItem_X7 0 11 rfl rfl (by decide) kX7_swapItem_187 rfl dX7_swapItem_62 ?_
             refine r_if_ne (tgt := 74) hG (by omega) dX7_swapItem_65 (by decide) (fun c65 => ?_) (fun c65 => ?_)
             · first
                 | (exfalso; omega)
                 | (exact r_vret hG hE dX7_swapItem_74 ⟨swapZ Z (tV (R 2) n p) (tV (R 2) n (tE (R 2) n p)), by rw [e]; rfl, fun _ => by rw [e]⟩)
             · first
                 | (exfalso; omega)
                 | (refine r_aload_n (i := 0) hG dX7_swapItem_68 rfl rfl ?_
                    refine r_iload_n (i := 1) hG dX7_swapItem_69 rfl rfl ?_
                    refine r_iload_n (i := 2) hG dX7_swapItem_70 rfl rfl ?_
                    refine r_callVv hG (c_X7_swaps (g_l G) (g_D G) a Z K U (mR R n (tokM (R 2) n (tE (R 2) n (tE (R 2) n p))) (tS (R 2) n (tE (R 2) n (tE (R 2) n p))) (tE (R 2) n (tE (R 2) n (tE (R 2) n p))) (tV (R 2) n (tE (R 2) n (tE (R 2) n p))) 0) C hI (tV (R 2) n p) (tV (R 2) n (tE (R 2) n p)) (by omega) (by omega))  gX7_swapItem_X7_swaps rfl hyX7_swaps rfl (by decide) (by decide) 0 rfl rfl rfl (Nat.le_of_ble_eq_true rfl) ⟨Nat.zero_le _, Nat.zero_le _⟩ dX7_swapItem_71 ?_
                    intro w hw
                    subst hw
                    refine V_ws (ws' := mwp (g_D G) a (swapZ Z (tV (R 2) n p) (tV (R 2) n (tE (R 2) n p))) K U R C n ((tE (R 2) n (tE (R 2) n p))) (0)) rfl ?_
                    exact r_vret hG hE dX7_swapItem_74 ⟨swapZ Z (tV (R 2) n p) (tV (R 2) n (tE (R 2) n p)), by rw [e]; rfl, fun _ => by rw [e]⟩))
      · first
          | (exfalso; omega)
          | (refine r_aload_n (i := 0) hG dX7_swapItem_22 rfl rfl ?_
             refine r_get hG cX7_swapItem_X7 0 7 rfl rfl (by decide) kX7_swapItem_181 rfl dX7_swapItem_23 ?_
             refine r_bipush hG dX7_swapItem_26 rfl ?_
             refine r_icmp_ne (tgt := 43) hG (by omega) (by omega) dX7_swapItem_28 (by decide) (fun c28 => ?_) (fun c28 => ?_)
             · first
                 | (exfalso; omega)
                 | (refine r_iconst hG dX7_swapItem_43 ?_
                    refine r_put hG cX7_swapItem_X7 0 11 tyX7 tyX7_ok nmX7 rfl rfl (by decide) kX7_swapItem_187 rfl rfl rfl (Nat.le_of_ble_eq_true rfl) dX7_swapItem_44 rfl ?_
                    refine r_aload_n (i := 0) hG dX7_swapItem_47 rfl rfl ?_
                    refine r_iconst hG dX7_swapItem_48 ?_
                    refine r_aload_n (i := 0) hG dX7_swapItem_49 rfl rfl ?_
                    refine r_get hG cX7_swapItem_X7 0 0 rfl rfl (by decide) kX7_swapItem_9 rfl dX7_swapItem_50 ?_
                    refine r_iconst hG dX7_swapItem_53 ?_
                    refine r_iald hG 1 rfl (by omega) (by decide) dX7_swapItem_54 ?_
                    refine V_top (x' := iI ((Z) 5 2)) (congrArg iI (mro_2 (Z))) ?_
                    refine r_iconst hG dX7_swapItem_55 ?_
                    refine r_isub hG dX7_swapItem_56 ?_
                    refine r_callVi hG (c_X7_number (g_l G) (g_D G) a (Z) K U R C n (tE (R 2) n p) hB hn (by omega) (Z 5 2 - 1) (by omega) (by omega))  gX7_swapItem_X7_number rfl hyX7_number rfl (by decide) (by decide) 0 rfl rfl rfl (Nat.le_of_ble_eq_true rfl) ⟨Nat.zero_le _, Nat.zero_le _⟩ dX7_swapItem_57 (fun w hw => ?_)
                    subst hw
                    refine r_istore_n (i := 2) hG dX7_swapItem_60 rfl (by decide) rfl ?_
                    refine r_aload_n (i := 0) hG dX7_swapItem_61 rfl rfl ?_
                    refine r_get hG cX7_swapItem_X7 0 11 rfl rfl (by decide) kX7_swapItem_187 rfl dX7_swapItem_62 ?_
                    refine r_if_ne (tgt := 74) hG (by omega) dX7_swapItem_65 (by decide) (fun c65 => ?_) (fun c65 => ?_)
                    · first
                        | (exfalso; omega)
                        | (exact r_vret hG hE dX7_swapItem_74 ⟨swapZ Z (tV (R 2) n p) (tV (R 2) n (tE (R 2) n p)), by rw [e]; rfl, fun _ => by rw [e]⟩)
                    · first
                        | (exfalso; omega)
                        | (refine r_aload_n (i := 0) hG dX7_swapItem_68 rfl rfl ?_
                           refine r_iload_n (i := 1) hG dX7_swapItem_69 rfl rfl ?_
                           refine r_iload_n (i := 2) hG dX7_swapItem_70 rfl rfl ?_
                           refine r_callVv hG (c_X7_swaps (g_l G) (g_D G) a Z K U (mR R n (tokM (R 2) n (tE (R 2) n (tE (R 2) n p))) (tS (R 2) n (tE (R 2) n (tE (R 2) n p))) (tE (R 2) n (tE (R 2) n (tE (R 2) n p))) (tV (R 2) n (tE (R 2) n (tE (R 2) n p))) 0) C hI (tV (R 2) n p) (tV (R 2) n (tE (R 2) n p)) (by omega) (by omega))  gX7_swapItem_X7_swaps rfl hyX7_swaps rfl (by decide) (by decide) 0 rfl rfl rfl (Nat.le_of_ble_eq_true rfl) ⟨Nat.zero_le _, Nat.zero_le _⟩ dX7_swapItem_71 ?_
                           intro w hw
                           subst hw
                           refine V_ws (ws' := mwp (g_D G) a (swapZ Z (tV (R 2) n p) (tV (R 2) n (tE (R 2) n p))) K U R C n ((tE (R 2) n (tE (R 2) n p))) (0)) rfl ?_
                           exact r_vret hG hE dX7_swapItem_74 ⟨swapZ Z (tV (R 2) n p) (tV (R 2) n (tE (R 2) n p)), by rw [e]; rfl, fun _ => by rw [e]⟩))
             · first
                 | (exfalso; omega)
                 | (refine r_aload_n (i := 0) hG dX7_swapItem_31 rfl rfl ?_
                    refine r_get hG cX7_swapItem_X7 0 10 rfl rfl (by decide) kX7_swapItem_178 rfl dX7_swapItem_32 ?_
                    refine r_iload_n (i := 1) hG dX7_swapItem_35 rfl rfl ?_
                    refine r_icmp_ne (tgt := 43) hG (by omega) (by omega) dX7_swapItem_36 (by decide) (fun c36 => ?_) (fun c36 => ?_)
                    · first
                        | (exfalso; omega)
                        | (refine r_iconst hG dX7_swapItem_43 ?_
                           refine r_put hG cX7_swapItem_X7 0 11 tyX7 tyX7_ok nmX7 rfl rfl (by decide) kX7_swapItem_187 rfl rfl rfl (Nat.le_of_ble_eq_true rfl) dX7_swapItem_44 rfl ?_
                           refine r_aload_n (i := 0) hG dX7_swapItem_47 rfl rfl ?_
                           refine r_iconst hG dX7_swapItem_48 ?_
                           refine r_aload_n (i := 0) hG dX7_swapItem_49 rfl rfl ?_
                           refine r_get hG cX7_swapItem_X7 0 0 rfl rfl (by decide) kX7_swapItem_9 rfl dX7_swapItem_50 ?_
                           refine r_iconst hG dX7_swapItem_53 ?_
                           refine r_iald hG 1 rfl (by omega) (by decide) dX7_swapItem_54 ?_
                           refine V_top (x' := iI ((Z) 5 2)) (congrArg iI (mro_2 (Z))) ?_
                           refine r_iconst hG dX7_swapItem_55 ?_
                           refine r_isub hG dX7_swapItem_56 ?_
                           refine r_callVi hG (c_X7_number (g_l G) (g_D G) a (Z) K U R C n (tE (R 2) n p) hB hn (by omega) (Z 5 2 - 1) (by omega) (by omega))  gX7_swapItem_X7_number rfl hyX7_number rfl (by decide) (by decide) 0 rfl rfl rfl (Nat.le_of_ble_eq_true rfl) ⟨Nat.zero_le _, Nat.zero_le _⟩ dX7_swapItem_57 (fun w hw => ?_)
                           subst hw
                           refine r_istore_n (i := 2) hG dX7_swapItem_60 rfl (by decide) rfl ?_
                           refine r_aload_n (i := 0) hG dX7_swapItem_61 rfl rfl ?_
                           refine r_get hG cX7_swapItem_X7 0 11 rfl rfl (by decide) kX7_swapItem_187 rfl dX7_swapItem_62 ?_
                           refine r_if_ne (tgt := 74) hG (by omega) dX7_swapItem_65 (by decide) (fun c65 => ?_) (fun c65 => ?_)
                           · first
                               | (exfalso; omega)
                               | (exact r_vret hG hE dX7_swapItem_74 ⟨swapZ Z (tV (R 2) n p) (tV (R 2) n (tE (R 2) n p)), by rw [e]; rfl, fun _ => by rw [e]⟩)
                           · first
                               | (exfalso; omega)
                               | (refine r_aload_n (i := 0) hG dX7_swapItem_68 rfl rfl ?_
                                  refine r_iload_n (i := 1) hG dX7_swapItem_69 rfl rfl ?_
                                  refine r_iload_n (i := 2) hG dX7_swapItem_70 rfl rfl ?_
                                  refine r_callVv hG (c_X7_swaps (g_l G) (g_D G) a Z K U (mR R n (tokM (R 2) n (tE (R 2) n (tE (R 2) n p))) (tS (R 2) n (tE (R 2) n (tE (R 2) n p))) (tE (R 2) n (tE (R 2) n (tE (R 2) n p))) (tV (R 2) n (tE (R 2) n (tE (R 2) n p))) 0) C hI (tV (R 2) n p) (tV (R 2) n (tE (R 2) n p)) (by omega) (by omega))  gX7_swapItem_X7_swaps rfl hyX7_swaps rfl (by decide) (by decide) 0 rfl rfl rfl (Nat.le_of_ble_eq_true rfl) ⟨Nat.zero_le _, Nat.zero_le _⟩ dX7_swapItem_71 ?_
                                  intro w hw
                                  subst hw
                                  refine V_ws (ws' := mwp (g_D G) a (swapZ Z (tV (R 2) n p) (tV (R 2) n (tE (R 2) n p))) K U R C n ((tE (R 2) n (tE (R 2) n p))) (0)) rfl ?_
                                  exact r_vret hG hE dX7_swapItem_74 ⟨swapZ Z (tV (R 2) n p) (tV (R 2) n (tE (R 2) n p)), by rw [e]; rfl, fun _ => by rw [e]⟩))
                    · first
                        | (exfalso; omega)
                        | (refine r_iconst hG dX7_swapItem_39 ?_
                           refine r_goto (tgt := 44) hG dX7_swapItem_40 (by decide) ?_
                           refine r_put hG cX7_swapItem_X7 0 11 tyX7 tyX7_ok nmX7 rfl rfl (by decide) kX7_swapItem_187 rfl rfl rfl (Nat.le_of_ble_eq_true rfl) dX7_swapItem_44 rfl ?_
                           refine r_aload_n (i := 0) hG dX7_swapItem_47 rfl rfl ?_
                           refine r_iconst hG dX7_swapItem_48 ?_
                           refine r_aload_n (i := 0) hG dX7_swapItem_49 rfl rfl ?_
                           refine r_get hG cX7_swapItem_X7 0 0 rfl rfl (by decide) kX7_swapItem_9 rfl dX7_swapItem_50 ?_
                           refine r_iconst hG dX7_swapItem_53 ?_
                           refine r_iald hG 1 rfl (by omega) (by decide) dX7_swapItem_54 ?_
                           refine V_top (x' := iI ((Z) 5 2)) (congrArg iI (mro_2 (Z))) ?_
                           refine r_iconst hG dX7_swapItem_55 ?_
                           refine r_isub hG dX7_swapItem_56 ?_
                           refine r_callVi hG (c_X7_number (g_l G) (g_D G) a (Z) K U R C n (tE (R 2) n p) hB hn (by omega) (Z 5 2 - 1) (by omega) (by omega))  gX7_swapItem_X7_number rfl hyX7_number rfl (by decide) (by decide) 0 rfl rfl rfl (Nat.le_of_ble_eq_true rfl) ⟨Nat.zero_le _, Nat.zero_le _⟩ dX7_swapItem_57 (fun w hw => ?_)
                           subst hw
                           refine r_istore_n (i := 2) hG dX7_swapItem_60 rfl (by decide) rfl ?_
                           refine r_aload_n (i := 0) hG dX7_swapItem_61 rfl rfl ?_
                           refine r_get hG cX7_swapItem_X7 0 11 rfl rfl (by decide) kX7_swapItem_187 rfl dX7_swapItem_62 ?_
                           refine r_if_ne (tgt := 74) hG (by omega) dX7_swapItem_65 (by decide) (fun c65 => ?_) (fun c65 => ?_)
                           · first
                               | (exfalso; omega)
                               | (exact r_vret hG hE dX7_swapItem_74 ⟨swapZ Z (tV (R 2) n p) (tV (R 2) n (tE (R 2) n p)), by rw [e]; rfl, fun _ => by rw [e]⟩)
                           · first
                               | (exfalso; omega)
                               | (refine r_aload_n (i := 0) hG dX7_swapItem_68 rfl rfl ?_
                                  refine r_iload_n (i := 1) hG dX7_swapItem_69 rfl rfl ?_
                                  refine r_iload_n (i := 2) hG dX7_swapItem_70 rfl rfl ?_
                                  refine r_callVv hG (c_X7_swaps (g_l G) (g_D G) a Z K U (mR R n (tokM (R 2) n (tE (R 2) n (tE (R 2) n p))) (tS (R 2) n (tE (R 2) n (tE (R 2) n p))) (tE (R 2) n (tE (R 2) n (tE (R 2) n p))) (tV (R 2) n (tE (R 2) n (tE (R 2) n p))) 0) C hI (tV (R 2) n p) (tV (R 2) n (tE (R 2) n p)) (by omega) (by omega))  gX7_swapItem_X7_swaps rfl hyX7_swaps rfl (by decide) (by decide) 0 rfl rfl rfl (Nat.le_of_ble_eq_true rfl) ⟨Nat.zero_le _, Nat.zero_le _⟩ dX7_swapItem_71 ?_
                                  intro w hw
                                  subst hw
                                  refine V_ws (ws' := mwp (g_D G) a (swapZ Z (tV (R 2) n p) (tV (R 2) n (tE (R 2) n p))) K U R C n ((tE (R 2) n (tE (R 2) n p))) (0)) rfl ?_
                                  exact r_vret hG hE dX7_swapItem_74 ⟨swapZ Z (tV (R 2) n p) (tV (R 2) n (tE (R 2) n p)), by rw [e]; rfl, fun _ => by rw [e]⟩))))
    · have e : swapS (R 2) n Z p = (false, Z, (tE (R 2) n p)) := by unfold swapS; rw [if_pos c1, if_neg c2]
      refine r_aload_n (i := 0) hG dX7_swapItem_0 rfl rfl ?_
      refine r_iconst hG dX7_swapItem_1 ?_
      refine r_aload_n (i := 0) hG dX7_swapItem_2 rfl rfl ?_
      refine r_get hG cX7_swapItem_X7 0 0 rfl rfl (by decide) kX7_swapItem_9 rfl dX7_swapItem_3 ?_
      refine r_iconst hG dX7_swapItem_6 ?_
      refine r_iald hG 1 rfl (by omega) (by decide) dX7_swapItem_7 ?_
      refine V_top (x' := iI ((Z) 5 2)) (congrArg iI (mro_2 (Z))) ?_
      refine r_iconst hG dX7_swapItem_8 ?_
      refine r_isub hG dX7_swapItem_9 ?_
      refine r_callVi hG (c_X7_number (g_l G) (g_D G) a (Z) K U R C n p hB hn (by omega) (Z 5 2 - 1) (by omega) (by omega))  gX7_swapItem_X7_number rfl hyX7_number rfl (by decide) (by decide) 0 rfl rfl rfl (Nat.le_of_ble_eq_true rfl) ⟨Nat.zero_le _, Nat.zero_le _⟩ dX7_swapItem_10 (fun w hw => ?_)
      subst hw
      refine r_istore_n (i := 1) hG dX7_swapItem_13 rfl (by decide) rfl ?_
      refine r_aload_n (i := 0) hG dX7_swapItem_14 rfl rfl ?_
      refine r_aload_n (i := 0) hG dX7_swapItem_15 rfl rfl ?_
      refine r_get hG cX7_swapItem_X7 0 11 rfl rfl (by decide) kX7_swapItem_187 rfl dX7_swapItem_16 ?_
      refine r_if_ne (tgt := 39) hG (by omega) dX7_swapItem_19 (by decide) (fun c19 => ?_) (fun c19 => ?_)
      · first
          | (exfalso; omega)
          | (refine r_iconst hG dX7_swapItem_39 ?_
             refine r_goto (tgt := 44) hG dX7_swapItem_40 (by decide) ?_
             refine r_put hG cX7_swapItem_X7 0 11 tyX7 tyX7_ok nmX7 rfl rfl (by decide) kX7_swapItem_187 rfl rfl rfl (Nat.le_of_ble_eq_true rfl) dX7_swapItem_44 rfl ?_
             refine r_aload_n (i := 0) hG dX7_swapItem_47 rfl rfl ?_
             refine r_iconst hG dX7_swapItem_48 ?_
             refine r_aload_n (i := 0) hG dX7_swapItem_49 rfl rfl ?_
             refine r_get hG cX7_swapItem_X7 0 0 rfl rfl (by decide) kX7_swapItem_9 rfl dX7_swapItem_50 ?_
             refine r_iconst hG dX7_swapItem_53 ?_
             refine r_iald hG 1 rfl (by omega) (by decide) dX7_swapItem_54 ?_
             refine V_top (x' := iI ((Z) 5 2)) (congrArg iI (mro_2 (Z))) ?_
             refine r_iconst hG dX7_swapItem_55 ?_
             refine r_isub hG dX7_swapItem_56 ?_
             refine r_callVi hG (c_X7_number_n (g_l G) (g_D G) a (Z) K U R C n (tE (R 2) n p) hB hn (by omega) (_) (Z 5 2 - 1) (by omega) (by omega) (by omega))  gX7_swapItem_X7_number rfl hyX7_number rfl (by decide) (by decide) 0 rfl rfl rfl (Nat.le_of_ble_eq_true rfl) ⟨Nat.zero_le _, Nat.zero_le _⟩ dX7_swapItem_57 (fun w hw => ?_)
             subst hw
             refine r_istore_n (i := 2) hG dX7_swapItem_60 rfl (by decide) rfl ?_
             refine r_aload_n (i := 0) hG dX7_swapItem_61 rfl rfl ?_
             refine r_get hG cX7_swapItem_X7 0 11 rfl rfl (by decide) kX7_swapItem_187 rfl dX7_swapItem_62 ?_
             refine r_if_ne (tgt := 74) hG (by omega) dX7_swapItem_65 (by decide) (fun c65 => ?_) (fun c65 => ?_)
             · first
                 | (exfalso; omega)
                 | (exact r_vret hG hE dX7_swapItem_74 ⟨Z, by rw [e]; rfl, fun h => by rw [e] at h; cases h⟩)
             · first
                 | (exfalso; omega)
                 | (refine r_aload_n (i := 0) hG dX7_swapItem_68 rfl rfl ?_
                    refine r_iload_n (i := 1) hG dX7_swapItem_69 rfl rfl ?_
                    refine r_iload_n (i := 2) hG dX7_swapItem_70 rfl rfl ?_
                    refine r_callVv hG (c_X7_swaps (g_l G) (g_D G) a Z K U (mR R n (tokM (R 2) n (tE (R 2) n (tE (R 2) n p))) (tS (R 2) n (tE (R 2) n (tE (R 2) n p))) (tE (R 2) n (tE (R 2) n (tE (R 2) n p))) (tV (R 2) n (tE (R 2) n (tE (R 2) n p))) 0) C hI (tV (R 2) n p) (tV (R 2) n (tE (R 2) n p)) (by omega) (by omega))  gX7_swapItem_X7_swaps rfl hyX7_swaps rfl (by decide) (by decide) 0 rfl rfl rfl (Nat.le_of_ble_eq_true rfl) ⟨Nat.zero_le _, Nat.zero_le _⟩ dX7_swapItem_71 ?_
                    intro w hw
                    subst hw
                    refine V_ws (ws' := mwp (g_D G) a (swapZ Z (tV (R 2) n p) (tV (R 2) n (tE (R 2) n p))) K U R C n ((tE (R 2) n (tE (R 2) n p))) (0)) rfl ?_
                    exact r_vret hG hE dX7_swapItem_74 ⟨Z, by rw [e]; rfl, fun h => by rw [e] at h; cases h⟩))
      · first
          | (exfalso; omega)
          | (refine r_aload_n (i := 0) hG dX7_swapItem_22 rfl rfl ?_
             refine r_get hG cX7_swapItem_X7 0 7 rfl rfl (by decide) kX7_swapItem_181 rfl dX7_swapItem_23 ?_
             refine r_bipush hG dX7_swapItem_26 rfl ?_
             refine r_icmp_ne (tgt := 43) hG (by omega) (by omega) dX7_swapItem_28 (by decide) (fun c28 => ?_) (fun c28 => ?_)
             · first
                 | (exfalso; omega)
                 | (refine r_iconst hG dX7_swapItem_43 ?_
                    refine r_put hG cX7_swapItem_X7 0 11 tyX7 tyX7_ok nmX7 rfl rfl (by decide) kX7_swapItem_187 rfl rfl rfl (Nat.le_of_ble_eq_true rfl) dX7_swapItem_44 rfl ?_
                    refine r_aload_n (i := 0) hG dX7_swapItem_47 rfl rfl ?_
                    refine r_iconst hG dX7_swapItem_48 ?_
                    refine r_aload_n (i := 0) hG dX7_swapItem_49 rfl rfl ?_
                    refine r_get hG cX7_swapItem_X7 0 0 rfl rfl (by decide) kX7_swapItem_9 rfl dX7_swapItem_50 ?_
                    refine r_iconst hG dX7_swapItem_53 ?_
                    refine r_iald hG 1 rfl (by omega) (by decide) dX7_swapItem_54 ?_
                    refine V_top (x' := iI ((Z) 5 2)) (congrArg iI (mro_2 (Z))) ?_
                    refine r_iconst hG dX7_swapItem_55 ?_
                    refine r_isub hG dX7_swapItem_56 ?_
                    refine r_callVi hG (c_X7_number_n (g_l G) (g_D G) a (Z) K U R C n (tE (R 2) n p) hB hn (by omega) (_) (Z 5 2 - 1) (by omega) (by omega) (by omega))  gX7_swapItem_X7_number rfl hyX7_number rfl (by decide) (by decide) 0 rfl rfl rfl (Nat.le_of_ble_eq_true rfl) ⟨Nat.zero_le _, Nat.zero_le _⟩ dX7_swapItem_57 (fun w hw => ?_)
                    subst hw
                    refine r_istore_n (i := 2) hG dX7_swapItem_60 rfl (by decide) rfl ?_
                    refine r_aload_n (i := 0) hG dX7_swapItem_61 rfl rfl ?_
                    refine r_get hG cX7_swapItem_X7 0 11 rfl rfl (by decide) kX7_swapItem_187 rfl dX7_swapItem_62 ?_
                    refine r_if_ne (tgt := 74) hG (by omega) dX7_swapItem_65 (by decide) (fun c65 => ?_) (fun c65 => ?_)
                    · first
                        | (exfalso; omega)
                        | (exact r_vret hG hE dX7_swapItem_74 ⟨Z, by rw [e]; rfl, fun h => by rw [e] at h; cases h⟩)
                    · first
                        | (exfalso; omega)
                        | (refine r_aload_n (i := 0) hG dX7_swapItem_68 rfl rfl ?_
                           refine r_iload_n (i := 1) hG dX7_swapItem_69 rfl rfl ?_
                           refine r_iload_n (i := 2) hG dX7_swapItem_70 rfl rfl ?_
                           refine r_callVv hG (c_X7_swaps (g_l G) (g_D G) a Z K U (mR R n (tokM (R 2) n (tE (R 2) n (tE (R 2) n p))) (tS (R 2) n (tE (R 2) n (tE (R 2) n p))) (tE (R 2) n (tE (R 2) n (tE (R 2) n p))) (tV (R 2) n (tE (R 2) n (tE (R 2) n p))) 0) C hI (tV (R 2) n p) (tV (R 2) n (tE (R 2) n p)) (by omega) (by omega))  gX7_swapItem_X7_swaps rfl hyX7_swaps rfl (by decide) (by decide) 0 rfl rfl rfl (Nat.le_of_ble_eq_true rfl) ⟨Nat.zero_le _, Nat.zero_le _⟩ dX7_swapItem_71 ?_
                           intro w hw
                           subst hw
                           refine V_ws (ws' := mwp (g_D G) a (swapZ Z (tV (R 2) n p) (tV (R 2) n (tE (R 2) n p))) K U R C n ((tE (R 2) n (tE (R 2) n p))) (0)) rfl ?_
                           exact r_vret hG hE dX7_swapItem_74 ⟨Z, by rw [e]; rfl, fun h => by rw [e] at h; cases h⟩))
             · first
                 | (exfalso; omega)
                 | (refine r_aload_n (i := 0) hG dX7_swapItem_31 rfl rfl ?_
                    refine r_get hG cX7_swapItem_X7 0 10 rfl rfl (by decide) kX7_swapItem_178 rfl dX7_swapItem_32 ?_
                    refine r_iload_n (i := 1) hG dX7_swapItem_35 rfl rfl ?_
                    refine r_icmp_ne (tgt := 43) hG (by omega) (by omega) dX7_swapItem_36 (by decide) (fun c36 => ?_) (fun c36 => ?_)
                    · first
                        | (exfalso; omega)
                        | (refine r_iconst hG dX7_swapItem_43 ?_
                           refine r_put hG cX7_swapItem_X7 0 11 tyX7 tyX7_ok nmX7 rfl rfl (by decide) kX7_swapItem_187 rfl rfl rfl (Nat.le_of_ble_eq_true rfl) dX7_swapItem_44 rfl ?_
                           refine r_aload_n (i := 0) hG dX7_swapItem_47 rfl rfl ?_
                           refine r_iconst hG dX7_swapItem_48 ?_
                           refine r_aload_n (i := 0) hG dX7_swapItem_49 rfl rfl ?_
                           refine r_get hG cX7_swapItem_X7 0 0 rfl rfl (by decide) kX7_swapItem_9 rfl dX7_swapItem_50 ?_
                           refine r_iconst hG dX7_swapItem_53 ?_
                           refine r_iald hG 1 rfl (by omega) (by decide) dX7_swapItem_54 ?_
                           refine V_top (x' := iI ((Z) 5 2)) (congrArg iI (mro_2 (Z))) ?_
                           refine r_iconst hG dX7_swapItem_55 ?_
                           refine r_isub hG dX7_swapItem_56 ?_
                           refine r_callVi hG (c_X7_number_n (g_l G) (g_D G) a (Z) K U R C n (tE (R 2) n p) hB hn (by omega) (_) (Z 5 2 - 1) (by omega) (by omega) (by omega))  gX7_swapItem_X7_number rfl hyX7_number rfl (by decide) (by decide) 0 rfl rfl rfl (Nat.le_of_ble_eq_true rfl) ⟨Nat.zero_le _, Nat.zero_le _⟩ dX7_swapItem_57 (fun w hw => ?_)
                           subst hw
                           refine r_istore_n (i := 2) hG dX7_swapItem_60 rfl (by decide) rfl ?_
                           refine r_aload_n (i := 0) hG dX7_swapItem_61 rfl rfl ?_
                           refine r_get hG cX7_swapItem_X7 0 11 rfl rfl (by decide) kX7_swapItem_187 rfl dX7_swapItem_62 ?_
                           refine r_if_ne (tgt := 74) hG (by omega) dX7_swapItem_65 (by decide) (fun c65 => ?_) (fun c65 => ?_)
                           · first
                               | (exfalso; omega)
                               | (exact r_vret hG hE dX7_swapItem_74 ⟨Z, by rw [e]; rfl, fun h => by rw [e] at h; cases h⟩)
                           · first
                               | (exfalso; omega)
                               | (refine r_aload_n (i := 0) hG dX7_swapItem_68 rfl rfl ?_
                                  refine r_iload_n (i := 1) hG dX7_swapItem_69 rfl rfl ?_
                                  refine r_iload_n (i := 2) hG dX7_swapItem_70 rfl rfl ?_
                                  refine r_callVv hG (c_X7_swaps (g_l G) (g_D G) a Z K U (mR R n (tokM (R 2) n (tE (R 2) n (tE (R 2) n p))) (tS (R 2) n (tE (R 2) n (tE (R 2) n p))) (tE (R 2) n (tE (R 2) n (tE (R 2) n p))) (tV (R 2) n (tE (R 2) n (tE (R 2) n p))) 0) C hI (tV (R 2) n p) (tV (R 2) n (tE (R 2) n p)) (by omega) (by omega))  gX7_swapItem_X7_swaps rfl hyX7_swaps rfl (by decide) (by decide) 0 rfl rfl rfl (Nat.le_of_ble_eq_true rfl) ⟨Nat.zero_le _, Nat.zero_le _⟩ dX7_swapItem_71 ?_
                                  intro w hw
                                  subst hw
                                  refine V_ws (ws' := mwp (g_D G) a (swapZ Z (tV (R 2) n p) (tV (R 2) n (tE (R 2) n p))) K U R C n ((tE (R 2) n (tE (R 2) n p))) (0)) rfl ?_
                                  exact r_vret hG hE dX7_swapItem_74 ⟨Z, by rw [e]; rfl, fun h => by rw [e] at h; cases h⟩))
                    · first
                        | (exfalso; omega)
                        | (refine r_iconst hG dX7_swapItem_39 ?_
                           refine r_goto (tgt := 44) hG dX7_swapItem_40 (by decide) ?_
                           refine r_put hG cX7_swapItem_X7 0 11 tyX7 tyX7_ok nmX7 rfl rfl (by decide) kX7_swapItem_187 rfl rfl rfl (Nat.le_of_ble_eq_true rfl) dX7_swapItem_44 rfl ?_
                           refine r_aload_n (i := 0) hG dX7_swapItem_47 rfl rfl ?_
                           refine r_iconst hG dX7_swapItem_48 ?_
                           refine r_aload_n (i := 0) hG dX7_swapItem_49 rfl rfl ?_
                           refine r_get hG cX7_swapItem_X7 0 0 rfl rfl (by decide) kX7_swapItem_9 rfl dX7_swapItem_50 ?_
                           refine r_iconst hG dX7_swapItem_53 ?_
                           refine r_iald hG 1 rfl (by omega) (by decide) dX7_swapItem_54 ?_
                           refine V_top (x' := iI ((Z) 5 2)) (congrArg iI (mro_2 (Z))) ?_
                           refine r_iconst hG dX7_swapItem_55 ?_
                           refine r_isub hG dX7_swapItem_56 ?_
                           refine r_callVi hG (c_X7_number_n (g_l G) (g_D G) a (Z) K U R C n (tE (R 2) n p) hB hn (by omega) (_) (Z 5 2 - 1) (by omega) (by omega) (by omega))  gX7_swapItem_X7_number rfl hyX7_number rfl (by decide) (by decide) 0 rfl rfl rfl (Nat.le_of_ble_eq_true rfl) ⟨Nat.zero_le _, Nat.zero_le _⟩ dX7_swapItem_57 (fun w hw => ?_)
                           subst hw
                           refine r_istore_n (i := 2) hG dX7_swapItem_60 rfl (by decide) rfl ?_
                           refine r_aload_n (i := 0) hG dX7_swapItem_61 rfl rfl ?_
                           refine r_get hG cX7_swapItem_X7 0 11 rfl rfl (by decide) kX7_swapItem_187 rfl dX7_swapItem_62 ?_
                           refine r_if_ne (tgt := 74) hG (by omega) dX7_swapItem_65 (by decide) (fun c65 => ?_) (fun c65 => ?_)
                           · first
                               | (exfalso; omega)
                               | (exact r_vret hG hE dX7_swapItem_74 ⟨Z, by rw [e]; rfl, fun h => by rw [e] at h; cases h⟩)
                           · first
                               | (exfalso; omega)
                               | (refine r_aload_n (i := 0) hG dX7_swapItem_68 rfl rfl ?_
                                  refine r_iload_n (i := 1) hG dX7_swapItem_69 rfl rfl ?_
                                  refine r_iload_n (i := 2) hG dX7_swapItem_70 rfl rfl ?_
                                  refine r_callVv hG (c_X7_swaps (g_l G) (g_D G) a Z K U (mR R n (tokM (R 2) n (tE (R 2) n (tE (R 2) n p))) (tS (R 2) n (tE (R 2) n (tE (R 2) n p))) (tE (R 2) n (tE (R 2) n (tE (R 2) n p))) (tV (R 2) n (tE (R 2) n (tE (R 2) n p))) 0) C hI (tV (R 2) n p) (tV (R 2) n (tE (R 2) n p)) (by omega) (by omega))  gX7_swapItem_X7_swaps rfl hyX7_swaps rfl (by decide) (by decide) 0 rfl rfl rfl (Nat.le_of_ble_eq_true rfl) ⟨Nat.zero_le _, Nat.zero_le _⟩ dX7_swapItem_71 ?_
                                  intro w hw
                                  subst hw
                                  refine V_ws (ws' := mwp (g_D G) a (swapZ Z (tV (R 2) n p) (tV (R 2) n (tE (R 2) n p))) K U R C n ((tE (R 2) n (tE (R 2) n p))) (0)) rfl ?_
                                  exact r_vret hG hE dX7_swapItem_74 ⟨Z, by rw [e]; rfl, fun h => by rw [e] at h; cases h⟩))))
  · have e : swapS (R 2) n Z p = (false, Z, p) := by unfold swapS; rw [if_neg c1]
    refine r_aload_n (i := 0) hG dX7_swapItem_0 rfl rfl ?_
    refine r_iconst hG dX7_swapItem_1 ?_
    refine r_aload_n (i := 0) hG dX7_swapItem_2 rfl rfl ?_
    refine r_get hG cX7_swapItem_X7 0 0 rfl rfl (by decide) kX7_swapItem_9 rfl dX7_swapItem_3 ?_
    refine r_iconst hG dX7_swapItem_6 ?_
    refine r_iald hG 1 rfl (by omega) (by decide) dX7_swapItem_7 ?_
    refine V_top (x' := iI ((Z) 5 2)) (congrArg iI (mro_2 (Z))) ?_
    refine r_iconst hG dX7_swapItem_8 ?_
    refine r_isub hG dX7_swapItem_9 ?_
    refine r_callVi hG (c_X7_number_n (g_l G) (g_D G) a (Z) K U R C n p hB hn (by omega) (0) (Z 5 2 - 1) (by omega) (by omega) (by omega))  gX7_swapItem_X7_number rfl hyX7_number rfl (by decide) (by decide) 0 rfl rfl rfl (Nat.le_of_ble_eq_true rfl) ⟨Nat.zero_le _, Nat.zero_le _⟩ dX7_swapItem_10 (fun w hw => ?_)
    subst hw
    refine r_istore_n (i := 1) hG dX7_swapItem_13 rfl (by decide) rfl ?_
    refine r_aload_n (i := 0) hG dX7_swapItem_14 rfl rfl ?_
    refine r_aload_n (i := 0) hG dX7_swapItem_15 rfl rfl ?_
    refine r_get hG cX7_swapItem_X7 0 11 rfl rfl (by decide) kX7_swapItem_187 rfl dX7_swapItem_16 ?_
    refine r_if_ne (tgt := 39) hG (by omega) dX7_swapItem_19 (by decide) (fun c19 => ?_) (fun c19 => ?_)
    · first
        | (exfalso; omega)
        | (refine r_iconst hG dX7_swapItem_39 ?_
           refine r_goto (tgt := 44) hG dX7_swapItem_40 (by decide) ?_
           refine r_put hG cX7_swapItem_X7 0 11 tyX7 tyX7_ok nmX7 rfl rfl (by decide) kX7_swapItem_187 rfl rfl rfl (Nat.le_of_ble_eq_true rfl) dX7_swapItem_44 rfl ?_
           refine r_aload_n (i := 0) hG dX7_swapItem_47 rfl rfl ?_
           refine r_iconst hG dX7_swapItem_48 ?_
           refine r_aload_n (i := 0) hG dX7_swapItem_49 rfl rfl ?_
           refine r_get hG cX7_swapItem_X7 0 0 rfl rfl (by decide) kX7_swapItem_9 rfl dX7_swapItem_50 ?_
           refine r_iconst hG dX7_swapItem_53 ?_
           refine r_iald hG 1 rfl (by omega) (by decide) dX7_swapItem_54 ?_
           refine V_top (x' := iI ((Z) 5 2)) (congrArg iI (mro_2 (Z))) ?_
           refine r_iconst hG dX7_swapItem_55 ?_
           refine r_isub hG dX7_swapItem_56 ?_
           refine r_callVi hG (c_X7_number_n (g_l G) (g_D G) a (Z) K U R C n p hB hn (by omega) (_) (Z 5 2 - 1) (by omega) (by omega) (by omega))  gX7_swapItem_X7_number rfl hyX7_number rfl (by decide) (by decide) 0 rfl rfl rfl (Nat.le_of_ble_eq_true rfl) ⟨Nat.zero_le _, Nat.zero_le _⟩ dX7_swapItem_57 (fun w hw => ?_)
           subst hw
           refine r_istore_n (i := 2) hG dX7_swapItem_60 rfl (by decide) rfl ?_
           refine r_aload_n (i := 0) hG dX7_swapItem_61 rfl rfl ?_
           refine r_get hG cX7_swapItem_X7 0 11 rfl rfl (by decide) kX7_swapItem_187 rfl dX7_swapItem_62 ?_
           refine r_if_ne (tgt := 74) hG (by omega) dX7_swapItem_65 (by decide) (fun c65 => ?_) (fun c65 => ?_)
           · first
               | (exfalso; omega)
               | (exact r_vret hG hE dX7_swapItem_74 ⟨Z, by rw [e]; rfl, fun h => by rw [e] at h; cases h⟩)
           · first
               | (exfalso; omega)
               | (refine r_aload_n (i := 0) hG dX7_swapItem_68 rfl rfl ?_
                  refine r_iload_n (i := 1) hG dX7_swapItem_69 rfl rfl ?_
                  refine r_iload_n (i := 2) hG dX7_swapItem_70 rfl rfl ?_
                  refine r_callVv hG (c_X7_swaps (g_l G) (g_D G) a Z K U (mR R n (tokM (R 2) n (tE (R 2) n (tE (R 2) n p))) (tS (R 2) n (tE (R 2) n (tE (R 2) n p))) (tE (R 2) n (tE (R 2) n (tE (R 2) n p))) (tV (R 2) n (tE (R 2) n (tE (R 2) n p))) 0) C hI (tV (R 2) n p) (tV (R 2) n (tE (R 2) n p)) (by omega) (by omega))  gX7_swapItem_X7_swaps rfl hyX7_swaps rfl (by decide) (by decide) 0 rfl rfl rfl (Nat.le_of_ble_eq_true rfl) ⟨Nat.zero_le _, Nat.zero_le _⟩ dX7_swapItem_71 ?_
                  intro w hw
                  subst hw
                  refine V_ws (ws' := mwp (g_D G) a (swapZ Z (tV (R 2) n p) (tV (R 2) n (tE (R 2) n p))) K U R C n ((tE (R 2) n (tE (R 2) n p))) (0)) rfl ?_
                  exact r_vret hG hE dX7_swapItem_74 ⟨Z, by rw [e]; rfl, fun h => by rw [e] at h; cases h⟩))
    · first
        | (exfalso; omega)
        | (refine r_aload_n (i := 0) hG dX7_swapItem_22 rfl rfl ?_
           refine r_get hG cX7_swapItem_X7 0 7 rfl rfl (by decide) kX7_swapItem_181 rfl dX7_swapItem_23 ?_
           refine r_bipush hG dX7_swapItem_26 rfl ?_
           refine r_icmp_ne (tgt := 43) hG (by omega) (by omega) dX7_swapItem_28 (by decide) (fun c28 => ?_) (fun c28 => ?_)
           · first
               | (exfalso; omega)
               | (refine r_iconst hG dX7_swapItem_43 ?_
                  refine r_put hG cX7_swapItem_X7 0 11 tyX7 tyX7_ok nmX7 rfl rfl (by decide) kX7_swapItem_187 rfl rfl rfl (Nat.le_of_ble_eq_true rfl) dX7_swapItem_44 rfl ?_
                  refine r_aload_n (i := 0) hG dX7_swapItem_47 rfl rfl ?_
                  refine r_iconst hG dX7_swapItem_48 ?_
                  refine r_aload_n (i := 0) hG dX7_swapItem_49 rfl rfl ?_
                  refine r_get hG cX7_swapItem_X7 0 0 rfl rfl (by decide) kX7_swapItem_9 rfl dX7_swapItem_50 ?_
                  refine r_iconst hG dX7_swapItem_53 ?_
                  refine r_iald hG 1 rfl (by omega) (by decide) dX7_swapItem_54 ?_
                  refine V_top (x' := iI ((Z) 5 2)) (congrArg iI (mro_2 (Z))) ?_
                  refine r_iconst hG dX7_swapItem_55 ?_
                  refine r_isub hG dX7_swapItem_56 ?_
                  refine r_callVi hG (c_X7_number_n (g_l G) (g_D G) a (Z) K U R C n p hB hn (by omega) (_) (Z 5 2 - 1) (by omega) (by omega) (by omega))  gX7_swapItem_X7_number rfl hyX7_number rfl (by decide) (by decide) 0 rfl rfl rfl (Nat.le_of_ble_eq_true rfl) ⟨Nat.zero_le _, Nat.zero_le _⟩ dX7_swapItem_57 (fun w hw => ?_)
                  subst hw
                  refine r_istore_n (i := 2) hG dX7_swapItem_60 rfl (by decide) rfl ?_
                  refine r_aload_n (i := 0) hG dX7_swapItem_61 rfl rfl ?_
                  refine r_get hG cX7_swapItem_X7 0 11 rfl rfl (by decide) kX7_swapItem_187 rfl dX7_swapItem_62 ?_
                  refine r_if_ne (tgt := 74) hG (by omega) dX7_swapItem_65 (by decide) (fun c65 => ?_) (fun c65 => ?_)
                  · first
                      | (exfalso; omega)
                      | (exact r_vret hG hE dX7_swapItem_74 ⟨Z, by rw [e]; rfl, fun h => by rw [e] at h; cases h⟩)
                  · first
                      | (exfalso; omega)
                      | (refine r_aload_n (i := 0) hG dX7_swapItem_68 rfl rfl ?_
                         refine r_iload_n (i := 1) hG dX7_swapItem_69 rfl rfl ?_
                         refine r_iload_n (i := 2) hG dX7_swapItem_70 rfl rfl ?_
                         refine r_callVv hG (c_X7_swaps (g_l G) (g_D G) a Z K U (mR R n (tokM (R 2) n (tE (R 2) n (tE (R 2) n p))) (tS (R 2) n (tE (R 2) n (tE (R 2) n p))) (tE (R 2) n (tE (R 2) n (tE (R 2) n p))) (tV (R 2) n (tE (R 2) n (tE (R 2) n p))) 0) C hI (tV (R 2) n p) (tV (R 2) n (tE (R 2) n p)) (by omega) (by omega))  gX7_swapItem_X7_swaps rfl hyX7_swaps rfl (by decide) (by decide) 0 rfl rfl rfl (Nat.le_of_ble_eq_true rfl) ⟨Nat.zero_le _, Nat.zero_le _⟩ dX7_swapItem_71 ?_
                         intro w hw
                         subst hw
                         refine V_ws (ws' := mwp (g_D G) a (swapZ Z (tV (R 2) n p) (tV (R 2) n (tE (R 2) n p))) K U R C n ((tE (R 2) n (tE (R 2) n p))) (0)) rfl ?_
                         exact r_vret hG hE dX7_swapItem_74 ⟨Z, by rw [e]; rfl, fun h => by rw [e] at h; cases h⟩))
           · first
               | (exfalso; omega)
               | (refine r_aload_n (i := 0) hG dX7_swapItem_31 rfl rfl ?_
                  refine r_get hG cX7_swapItem_X7 0 10 rfl rfl (by decide) kX7_swapItem_178 rfl dX7_swapItem_32 ?_
                  refine r_iload_n (i := 1) hG dX7_swapItem_35 rfl rfl ?_
                  refine r_icmp_ne (tgt := 43) hG (by omega) (by omega) dX7_swapItem_36 (by decide) (fun c36 => ?_) (fun c36 => ?_)
                  · first
                      | (exfalso; omega)
                      | (refine r_iconst hG dX7_swapItem_43 ?_
                         refine r_put hG cX7_swapItem_X7 0 11 tyX7 tyX7_ok nmX7 rfl rfl (by decide) kX7_swapItem_187 rfl rfl rfl (Nat.le_of_ble_eq_true rfl) dX7_swapItem_44 rfl ?_
                         refine r_aload_n (i := 0) hG dX7_swapItem_47 rfl rfl ?_
                         refine r_iconst hG dX7_swapItem_48 ?_
                         refine r_aload_n (i := 0) hG dX7_swapItem_49 rfl rfl ?_
                         refine r_get hG cX7_swapItem_X7 0 0 rfl rfl (by decide) kX7_swapItem_9 rfl dX7_swapItem_50 ?_
                         refine r_iconst hG dX7_swapItem_53 ?_
                         refine r_iald hG 1 rfl (by omega) (by decide) dX7_swapItem_54 ?_
                         refine V_top (x' := iI ((Z) 5 2)) (congrArg iI (mro_2 (Z))) ?_
                         refine r_iconst hG dX7_swapItem_55 ?_
                         refine r_isub hG dX7_swapItem_56 ?_
                         refine r_callVi hG (c_X7_number_n (g_l G) (g_D G) a (Z) K U R C n p hB hn (by omega) (_) (Z 5 2 - 1) (by omega) (by omega) (by omega))  gX7_swapItem_X7_number rfl hyX7_number rfl (by decide) (by decide) 0 rfl rfl rfl (Nat.le_of_ble_eq_true rfl) ⟨Nat.zero_le _, Nat.zero_le _⟩ dX7_swapItem_57 (fun w hw => ?_)
                         subst hw
                         refine r_istore_n (i := 2) hG dX7_swapItem_60 rfl (by decide) rfl ?_
                         refine r_aload_n (i := 0) hG dX7_swapItem_61 rfl rfl ?_
                         refine r_get hG cX7_swapItem_X7 0 11 rfl rfl (by decide) kX7_swapItem_187 rfl dX7_swapItem_62 ?_
                         refine r_if_ne (tgt := 74) hG (by omega) dX7_swapItem_65 (by decide) (fun c65 => ?_) (fun c65 => ?_)
                         · first
                             | (exfalso; omega)
                             | (exact r_vret hG hE dX7_swapItem_74 ⟨Z, by rw [e]; rfl, fun h => by rw [e] at h; cases h⟩)
                         · first
                             | (exfalso; omega)
                             | (refine r_aload_n (i := 0) hG dX7_swapItem_68 rfl rfl ?_
                                refine r_iload_n (i := 1) hG dX7_swapItem_69 rfl rfl ?_
                                refine r_iload_n (i := 2) hG dX7_swapItem_70 rfl rfl ?_
                                refine r_callVv hG (c_X7_swaps (g_l G) (g_D G) a Z K U (mR R n (tokM (R 2) n (tE (R 2) n (tE (R 2) n p))) (tS (R 2) n (tE (R 2) n (tE (R 2) n p))) (tE (R 2) n (tE (R 2) n (tE (R 2) n p))) (tV (R 2) n (tE (R 2) n (tE (R 2) n p))) 0) C hI (tV (R 2) n p) (tV (R 2) n (tE (R 2) n p)) (by omega) (by omega))  gX7_swapItem_X7_swaps rfl hyX7_swaps rfl (by decide) (by decide) 0 rfl rfl rfl (Nat.le_of_ble_eq_true rfl) ⟨Nat.zero_le _, Nat.zero_le _⟩ dX7_swapItem_71 ?_
                                intro w hw
                                subst hw
                                refine V_ws (ws' := mwp (g_D G) a (swapZ Z (tV (R 2) n p) (tV (R 2) n (tE (R 2) n p))) K U R C n ((tE (R 2) n (tE (R 2) n p))) (0)) rfl ?_
                                exact r_vret hG hE dX7_swapItem_74 ⟨Z, by rw [e]; rfl, fun h => by rw [e] at h; cases h⟩))
                  · first
                      | (exfalso; omega)
                      | (refine r_iconst hG dX7_swapItem_39 ?_
                         refine r_goto (tgt := 44) hG dX7_swapItem_40 (by decide) ?_
                         refine r_put hG cX7_swapItem_X7 0 11 tyX7 tyX7_ok nmX7 rfl rfl (by decide) kX7_swapItem_187 rfl rfl rfl (Nat.le_of_ble_eq_true rfl) dX7_swapItem_44 rfl ?_
                         refine r_aload_n (i := 0) hG dX7_swapItem_47 rfl rfl ?_
                         refine r_iconst hG dX7_swapItem_48 ?_
                         refine r_aload_n (i := 0) hG dX7_swapItem_49 rfl rfl ?_
                         refine r_get hG cX7_swapItem_X7 0 0 rfl rfl (by decide) kX7_swapItem_9 rfl dX7_swapItem_50 ?_
                         refine r_iconst hG dX7_swapItem_53 ?_
                         refine r_iald hG 1 rfl (by omega) (by decide) dX7_swapItem_54 ?_
                         refine V_top (x' := iI ((Z) 5 2)) (congrArg iI (mro_2 (Z))) ?_
                         refine r_iconst hG dX7_swapItem_55 ?_
                         refine r_isub hG dX7_swapItem_56 ?_
                         refine r_callVi hG (c_X7_number_n (g_l G) (g_D G) a (Z) K U R C n p hB hn (by omega) (_) (Z 5 2 - 1) (by omega) (by omega) (by omega))  gX7_swapItem_X7_number rfl hyX7_number rfl (by decide) (by decide) 0 rfl rfl rfl (Nat.le_of_ble_eq_true rfl) ⟨Nat.zero_le _, Nat.zero_le _⟩ dX7_swapItem_57 (fun w hw => ?_)
                         subst hw
                         refine r_istore_n (i := 2) hG dX7_swapItem_60 rfl (by decide) rfl ?_
                         refine r_aload_n (i := 0) hG dX7_swapItem_61 rfl rfl ?_
                         refine r_get hG cX7_swapItem_X7 0 11 rfl rfl (by decide) kX7_swapItem_187 rfl dX7_swapItem_62 ?_
                         refine r_if_ne (tgt := 74) hG (by omega) dX7_swapItem_65 (by decide) (fun c65 => ?_) (fun c65 => ?_)
                         · first
                             | (exfalso; omega)
                             | (exact r_vret hG hE dX7_swapItem_74 ⟨Z, by rw [e]; rfl, fun h => by rw [e] at h; cases h⟩)
                         · first
                             | (exfalso; omega)
                             | (refine r_aload_n (i := 0) hG dX7_swapItem_68 rfl rfl ?_
                                refine r_iload_n (i := 1) hG dX7_swapItem_69 rfl rfl ?_
                                refine r_iload_n (i := 2) hG dX7_swapItem_70 rfl rfl ?_
                                refine r_callVv hG (c_X7_swaps (g_l G) (g_D G) a Z K U (mR R n (tokM (R 2) n (tE (R 2) n (tE (R 2) n p))) (tS (R 2) n (tE (R 2) n (tE (R 2) n p))) (tE (R 2) n (tE (R 2) n (tE (R 2) n p))) (tV (R 2) n (tE (R 2) n (tE (R 2) n p))) 0) C hI (tV (R 2) n p) (tV (R 2) n (tE (R 2) n p)) (by omega) (by omega))  gX7_swapItem_X7_swaps rfl hyX7_swaps rfl (by decide) (by decide) 0 rfl rfl rfl (Nat.le_of_ble_eq_true rfl) ⟨Nat.zero_le _, Nat.zero_le _⟩ dX7_swapItem_71 ?_
                                intro w hw
                                subst hw
                                refine V_ws (ws' := mwp (g_D G) a (swapZ Z (tV (R 2) n p) (tV (R 2) n (tE (R 2) n p))) K U R C n ((tE (R 2) n (tE (R 2) n p))) (0)) rfl ?_
                                exact r_vret hG hE dX7_swapItem_74 ⟨Z, by rw [e]; rfl, fun h => by rw [e] at h; cases h⟩))))
theorem kX7_childItem_181 : Cond.fieldLink RX7 181 "BreakSwapsModel" "token" "I" ∈ wsX7_childItem := List.mem_of_getElem? (i := 1) rfl
theorem kX7_childItem_9 : Cond.fieldLink RX7 9 "BreakSwapsModel" "m" "[I" ∈ wsX7_childItem := List.mem_of_getElem? (i := 2) rfl
theorem kX7_childItem_187 : Cond.fieldLink RX7 187 "BreakSwapsModel" "bad" "Z" ∈ wsX7_childItem := List.mem_of_getElem? (i := 3) rfl
theorem cX7_childItem_X7 : ∀ w ∈ wsX70, w ∈ wsX7_childItem := fun _ h => List.mem_cons_of_mem _ (List.mem_append_right _ h)
theorem hyX7_childItem : hyV yX7_childItem RX7 0 := by decide +kernel
set_option maxHeartbeats 4000000 in
set_option maxRecDepth 100000 in
theorem c_X7_childItem (l : Launch) (D : va_G) (a : Nat → Nat) (Z K U R : YS) (C : Int → Int64) (n p : Int) (hB : bytesOk (R 2)) (hn : 0 ≤ n ∧ n ≤ 120) (hp : 0 ≤ p ∧ p ≤ n) (hI : Inv Z) (hk : 0 ≤ (tokM (R 2) n p) ∧ (tokM (R 2) n p) ≤ 5) : Con l yX7_childItem wsX7_childItem 5 D (mwp D a (Z) K U R C n (p) (0)) [.ref (a 0)] none (fun w => ∃ Z2, w = mwp D a Z2 K U R C n (childS (R 2) n Z (tokM (R 2) n p) p).2.2 (b2 (!(childS (R 2) n Z (tokM (R 2) n p) p).1)) ∧ ((childS (R 2) n Z (tokM (R 2) n p) p).1 = true → Z2 = (childS (R 2) n Z (tokM (R 2) n p) p).2.1)) := by
  refine con_start (own := RX7) (by decide) rfl rfl (Nat.le_of_ble_eq_true rfl) ?_
  intro G hG hE hl hD
  subst hl
  subst hD
  have hN := hI.1
  have h1 := tE_rng (B := R 2) hp
  have h2 := tE_rng (B := R 2) (n := n) (p := tE (R 2) n p) (by omega)
  have h3 := tE_rng (B := R 2) (n := n) (p := tE (R 2) n (tE (R 2) n p)) (by omega)
  have h4 := tE_rng (B := R 2) (n := n) (p := tE (R 2) n (tE (R 2) n (tE (R 2) n p))) (by omega)
  have ht := tokM_rng (R 2) n p
  have ht1 := tokM_rng (R 2) n (tE (R 2) n p)
  have ht2 := tokM_rng (R 2) n (tE (R 2) n (tE (R 2) n p))
  have hv := tV_rng (R 2) n p
  have hv1 := tV_rng (R 2) n (tE (R 2) n p)
  have hv2 := tV_rng (R 2) n (tE (R 2) n (tE (R 2) n p))
  have hv3 := tV_rng (R 2) n (tE (R 2) n (tE (R 2) n (tE (R 2) n p)))
  have hK : tokM (R 2) n p ≤ 5 := hk.2
  by_cases cf : Z 5 2 < 8
  · by_cases cb : (tK (R 2) n (tE (R 2) n p)) = 2 ∧ (tV (R 2) n (tE (R 2) n p)) ≤ 9
    · have e0 : childS (R 2) n Z (tokM (R 2) n p) p = bornS (R 2) n Z (Z 5 2) (trustS (R 2) n (addY Z (tokM (R 2) n p) (tV (R 2) n (tE (R 2) n p))) (Z 5 2) (tE (R 2) n (tE (R 2) n p))) := by unfold childS; rw [if_pos cf, if_pos cb]
      have L : ∀ (pt : Int), ∀ k : Nat, k ≤ 4 → ∀ (Z1 : YS) (p1 : Int), (0 ≤ p1 ∧ p1 ≤ n) → likeS (R 2) n (Z 5 2) (4 - k) (k : Int) Z1 p1 = childS (R 2) n Z (tokM (R 2) n p) p → V G 0 0 (mwp (g_D G) a (Z1) K U R C n (p1) (0)) 85 [(0, .ref (a 0)), (4, .int (iI (Z 5 2))), (5, .int (iI 1)), (6, .int (iI (k : Int)))] [] := by
        intro pt
        refine down (fun k hk4 ih Z1 p1 hp1 he => ?_)
        have g1 := tE_rng (B := R 2) hp1
        have g2 := tV_rng (R 2) n p1
        have g3 := tokM_rng (R 2) n p1
        have eS : k < 4 → childS (R 2) n Z (tokM (R 2) n p) p = if 0 < (k : Int) ∧ ¬ (tK (R 2) n p1) = 2 then (true, Z1, p1) else if (tK (R 2) n p1) = 2 ∧ (tV (R 2) n p1) ≤ 20 then likeS (R 2) n (Z 5 2) (4 - (k + 1)) ((k : Int) + 1) (upY Z1 4 ((Z 5 2) * 10 + (k : Int)) (tV (R 2) n p1)) (tE (R 2) n p1) else (false, Z1, p1) := by
          intro h4
          rw [← he, show 4 - k = (4 - (k + 1)) + 1 by omega]
          rfl
        have R140 : ∀ (Z3 : YS) (p3 : Int) (bd3 : Int), (∃ Z2, mwp (g_D G) a (Z3) K U R C n (p3) (bd3) = mwp (g_D G) a Z2 K U R C n (childS (R 2) n Z (tokM (R 2) n p) p).2.2 (b2 (!(childS (R 2) n Z (tokM (R 2) n p) p).1)) ∧ ((childS (R 2) n Z (tokM (R 2) n p) p).1 = true → Z2 = (childS (R 2) n Z (tokM (R 2) n p) p).2.1)) → V G 0 0 (mwp (g_D G) a (Z3) K U R C n (p3) (bd3)) 140 [(0, .ref (a 0))] [] := by
          intro Z3 p3 bd3 hx
          exact r_vret hG hE dX7_childItem_140 hx
        have K117 : k < 4 → ¬ (0 < (k : Int) ∧ ¬ (tK (R 2) n p1) = 2) → V G 0 0 (mwp (g_D G) a (Z1) K U R C n (p1) (0)) 117 [(0, .ref (a 0)), (4, .int (iI (Z 5 2))), (5, .int (iI 1)), (6, .int (iI (k : Int)))] [] := by
          intro h4 hno
          have eS' := eS h4
          rw [if_neg hno] at eS'
          by_cases cn : (tK (R 2) n p1) = 2 ∧ (tV (R 2) n p1) ≤ 20
          · rw [if_pos cn] at eS'
            refine r_aload_n (i := 0) hG dX7_childItem_117 rfl rfl ?_
            refine r_iload hG dX7_childItem_118 rfl ?_
            refine r_iconst hG dX7_childItem_120 ?_
            refine r_iload hG dX7_childItem_121 rfl ?_
            refine r_iadd hG dX7_childItem_123 ?_
            refine r_aload_n (i := 0) hG dX7_childItem_124 rfl rfl ?_
            refine r_iconst hG dX7_childItem_125 ?_
            refine r_bipush hG dX7_childItem_126 rfl ?_
            refine r_callVi hG (c_X7_number (g_l G) (g_D G) a (Z1) K U R C n p1 hB hn (by omega) 20 (by omega) (by omega))  gX7_childItem_X7_number rfl hyX7_number rfl (by decide) (by decide) 0 rfl rfl rfl (Nat.le_of_ble_eq_true rfl) ⟨Nat.zero_le _, Nat.zero_le _⟩ dX7_childItem_128 (fun w hw => ?_)
            subst hw
            refine r_callVv hG (c_putL (g_l G) (g_D G) a (Z1) K U (mR R n (tokM (R 2) n (tE (R 2) n p1)) (tS (R 2) n (tE (R 2) n p1)) (tE (R 2) n (tE (R 2) n p1)) (tV (R 2) n (tE (R 2) n p1)) (0)) C (Z 5 2) (k : Int) (tV (R 2) n p1) (by omega) (by omega))  gX7_childItem_X7_put rfl hyX7_put rfl (by decide) (by decide) 0 rfl rfl rfl (Nat.le_of_ble_eq_true rfl) ⟨Nat.zero_le _, Nat.zero_le _⟩ dX7_childItem_131 ?_
            intro w hw
            subst hw
            refine V_ws (ws' := mwp (g_D G) a (upY Z1 4 ((Z 5 2) * 10 + (k : Int)) (tV (R 2) n p1)) K U R C n ((tE (R 2) n p1)) (0)) rfl ?_
            refine r_iinc hG dX7_childItem_134 rfl (by decide) rfl ?_
            refine r_goto (tgt := 85) hG dX7_childItem_137 (by decide) ?_
            exact V_lv (ih h4 _ _ (by omega) eS'.symm) ⟨rfl, rfl, rfl, rfl, trivial⟩
          · rw [if_neg cn] at eS'
            refine r_aload_n (i := 0) hG dX7_childItem_117 rfl rfl ?_
            refine r_iload hG dX7_childItem_118 rfl ?_
            refine r_iconst hG dX7_childItem_120 ?_
            refine r_iload hG dX7_childItem_121 rfl ?_
            refine r_iadd hG dX7_childItem_123 ?_
            refine r_aload_n (i := 0) hG dX7_childItem_124 rfl rfl ?_
            refine r_iconst hG dX7_childItem_125 ?_
            refine r_bipush hG dX7_childItem_126 rfl ?_
            refine r_callVi hG (c_X7_number_n (g_l G) (g_D G) a (Z1) K U R C n p1 hB hn (by omega) (0) 20 (by omega) (by omega) (by omega))  gX7_childItem_X7_number rfl hyX7_number rfl (by decide) (by decide) 0 rfl rfl rfl (Nat.le_of_ble_eq_true rfl) ⟨Nat.zero_le _, Nat.zero_le _⟩ dX7_childItem_128 (fun w hw => ?_)
            subst hw
            refine r_callVv hG (c_putL (g_l G) (g_D G) a (Z1) K U (mR R n (tokM (R 2) n p1) (tS (R 2) n p1) (tE (R 2) n p1) (tV (R 2) n p1) (1)) C (Z 5 2) (k : Int) (tV (R 2) n p1) (by omega) (by omega))  gX7_childItem_X7_put rfl hyX7_put rfl (by decide) (by decide) 0 rfl rfl rfl (Nat.le_of_ble_eq_true rfl) ⟨Nat.zero_le _, Nat.zero_le _⟩ dX7_childItem_131 ?_
            intro w hw
            subst hw
            refine V_ws (ws' := mwp (g_D G) a (upY Z1 4 ((Z 5 2) * 10 + (k : Int)) (tV (R 2) n p1)) K U R C n (p1) (1)) rfl ?_
            refine r_iinc hG dX7_childItem_134 rfl (by decide) rfl ?_
            refine r_goto (tgt := 85) hG dX7_childItem_137 (by decide) ?_
            refine r_iload hG dX7_childItem_85 rfl ?_
            refine r_iconst hG dX7_childItem_87 ?_
            refine r_icmp_ge (tgt := 140) hG (by omega) (by omega) dX7_childItem_88 (by decide) (fun c88 => ?_) (fun c88 => ?_)
            · first
                | (exfalso; omega)
                | (exact V_lv (R140 _ _ _ ⟨upY Z1 4 ((Z 5 2) * 10 + (k : Int)) (tV (R 2) n p1), by rw [eS']; rfl, fun h => by rw [eS'] at h; cases h⟩) ⟨rfl, trivial⟩)
            · first
                | (exfalso; omega)
                | (refine r_iload hG dX7_childItem_91 rfl ?_
                   refine r_if_eq (tgt := 140) hG (by omega) dX7_childItem_93 (by decide) (fun c93 => ?_) (fun c93 => ?_)
                   · first
                       | (exfalso; omega)
                       | (exact V_lv (R140 _ _ _ ⟨upY Z1 4 ((Z 5 2) * 10 + (k : Int)) (tV (R 2) n p1), by rw [eS']; rfl, fun h => by rw [eS'] at h; cases h⟩) ⟨rfl, trivial⟩)
                   · first
                       | (exfalso; omega)
                       | (refine r_aload_n (i := 0) hG dX7_childItem_96 rfl rfl ?_
                          refine r_get hG cX7_childItem_X7 0 11 rfl rfl (by decide) kX7_childItem_187 rfl dX7_childItem_97 ?_
                          refine r_if_ne (tgt := 140) hG (by omega) dX7_childItem_100 (by decide) (fun c100 => ?_) (fun c100 => ?_)
                          · first
                              | (exfalso; omega)
                              | (exact V_lv (R140 _ _ _ ⟨upY Z1 4 ((Z 5 2) * 10 + (k : Int)) (tV (R 2) n p1), by rw [eS']; rfl, fun h => by rw [eS'] at h; cases h⟩) ⟨rfl, trivial⟩)
                          · first
                              | (exfalso; omega)
                              | ((exfalso; omega))))
        refine r_iload hG dX7_childItem_85 rfl ?_
        refine r_iconst hG dX7_childItem_87 ?_
        refine r_icmp_ge (tgt := 140) hG (by omega) (by omega) dX7_childItem_88 (by decide) (fun c88 => ?_) (fun c88 => ?_)
        · first
            | (exfalso; omega)
            | (first
                 | (have eS' := eS (by omega)
                    rw [if_pos (by omega)] at eS'
                    exact V_lv (R140 _ _ _ ⟨Z1, by rw [eS']; rfl, fun _ => by rw [eS']⟩) ⟨rfl, trivial⟩)
                 | (have e4 : 4 - k = 0 := by omega
                    rw [e4] at he
                    exact V_lv (R140 _ _ _ ⟨Z1, by rw [← he]; rfl, fun _ => by rw [← he]; rfl⟩) ⟨rfl, trivial⟩))
        · first
            | (exfalso; omega)
            | (refine r_iload hG dX7_childItem_91 rfl ?_
               refine r_if_eq (tgt := 140) hG (by omega) dX7_childItem_93 (by decide) (fun c93 => ?_) (fun c93 => ?_)
               · first
                   | (exfalso; omega)
                   | (first
                        | (have eS' := eS (by omega)
                           rw [if_pos (by omega)] at eS'
                           exact V_lv (R140 _ _ _ ⟨Z1, by rw [eS']; rfl, fun _ => by rw [eS']⟩) ⟨rfl, trivial⟩)
                        | (have e4 : 4 - k = 0 := by omega
                           rw [e4] at he
                           exact V_lv (R140 _ _ _ ⟨Z1, by rw [← he]; rfl, fun _ => by rw [← he]; rfl⟩) ⟨rfl, trivial⟩))
               · first
                   | (exfalso; omega)
                   | (refine r_aload_n (i := 0) hG dX7_childItem_96 rfl rfl ?_
                      refine r_get hG cX7_childItem_X7 0 11 rfl rfl (by decide) kX7_childItem_187 rfl dX7_childItem_97 ?_
                      refine r_if_ne (tgt := 140) hG (by omega) dX7_childItem_100 (by decide) (fun c100 => ?_) (fun c100 => ?_)
                      · first
                          | (exfalso; omega)
                          | (first
                               | (have eS' := eS (by omega)
                                  rw [if_pos (by omega)] at eS'
                                  exact V_lv (R140 _ _ _ ⟨Z1, by rw [eS']; rfl, fun _ => by rw [eS']⟩) ⟨rfl, trivial⟩)
                               | (have e4 : 4 - k = 0 := by omega
                                  rw [e4] at he
                                  exact V_lv (R140 _ _ _ ⟨Z1, by rw [← he]; rfl, fun _ => by rw [← he]; rfl⟩) ⟨rfl, trivial⟩))
                      · first
                          | (exfalso; omega)
                          | (refine r_iload hG dX7_childItem_103 rfl ?_
                             refine r_if_eq (tgt := 117) hG (by omega) dX7_childItem_105 (by decide) (fun c105 => ?_) (fun c105 => ?_)
                             · first
                                 | (exfalso; omega)
                                 | (exact V_lv (K117 (by omega) (by omega)) ⟨rfl, rfl, rfl, rfl, trivial⟩)
                             · first
                                 | (exfalso; omega)
                                 | (refine r_aload_n (i := 0) hG dX7_childItem_108 rfl rfl ?_
                                    refine r_get hG cX7_childItem_X7 0 7 rfl rfl (by decide) kX7_childItem_181 rfl dX7_childItem_109 ?_
                                    refine r_bipush hG dX7_childItem_112 rfl ?_
                                    refine r_icmp_ne (tgt := 140) hG (by omega) (by omega) dX7_childItem_114 (by decide) (fun c114 => ?_) (fun c114 => ?_)
                                    · first
                                        | (exfalso; omega)
                                        | (first
                                             | (have eS' := eS (by omega)
                                                rw [if_pos (by omega)] at eS'
                                                exact V_lv (R140 _ _ _ ⟨Z1, by rw [eS']; rfl, fun _ => by rw [eS']⟩) ⟨rfl, trivial⟩)
                                             | (have e4 : 4 - k = 0 := by omega
                                                rw [e4] at he
                                                exact V_lv (R140 _ _ _ ⟨Z1, by rw [← he]; rfl, fun _ => by rw [← he]; rfl⟩) ⟨rfl, trivial⟩))
                                    · first
                                        | (exfalso; omega)
                                        | (exact V_lv (K117 (by omega) (by omega)) ⟨rfl, rfl, rfl, rfl, trivial⟩)))))
      have K74 : ∀ (Zt : YS) (pt : Int), (0 ≤ pt ∧ pt ≤ n) → trustS (R 2) n (addY Z (tokM (R 2) n p) (tV (R 2) n (tE (R 2) n p))) (Z 5 2) (tE (R 2) n (tE (R 2) n p)) = (true, Zt, pt) → V G 0 0 (mwp (g_D G) a (Zt) K U R C n (pt) (0)) 74 [(0, .ref (a 0)), (4, .int (iI (Z 5 2)))] [] := by
        intro Zt pt hpt et
        have g1 := tE_rng (B := R 2) hpt
        have g3 := tokM_rng (R 2) n pt
        have e5 : childS (R 2) n Z (tokM (R 2) n p) p = likesS (R 2) n Zt (Z 5 2) pt := by rw [e0, et]; rfl
        by_cases c7 : (tokM (R 2) n pt) = 7
        · have e6 : childS (R 2) n Z (tokM (R 2) n p) p = likeS (R 2) n (Z 5 2) 4 0 Zt (tE (R 2) n pt) := by rw [e5]; unfold likesS; rw [if_pos c7]
          refine r_aload_n (i := 0) hG dX7_childItem_74 rfl rfl ?_
          refine r_bipush hG dX7_childItem_75 rfl ?_
          refine r_callVi hG (c_X7_passes (g_l G) (g_D G) a (Zt) K U R C n pt hB hn (by omega) 7 (by omega) (by omega))  gX7_childItem_X7_passes rfl hyX7_passes rfl (by decide) (by decide) 0 rfl rfl rfl (Nat.le_of_ble_eq_true rfl) ⟨Nat.zero_le _, Nat.zero_le _⟩ dX7_childItem_77 ?_
          intro w hw
          subst hw
          refine V_top (x' := iI 1) rfl ?_
          refine r_istore hG dX7_childItem_80 (by decide) rfl ?_
          refine r_iconst hG dX7_childItem_82 ?_
          refine r_istore hG dX7_childItem_83 (by decide) rfl ?_
          exact V_lv (L pt 0 (by omega) Zt (tE (R 2) n pt) (by omega) e6.symm) ⟨rfl, rfl, rfl, rfl, trivial⟩
        · have e6 : childS (R 2) n Z (tokM (R 2) n p) p = (true, Zt, pt) := by rw [e5]; unfold likesS; rw [if_neg c7]
          refine r_aload_n (i := 0) hG dX7_childItem_74 rfl rfl ?_
          refine r_bipush hG dX7_childItem_75 rfl ?_
          refine r_callVi hG (c_X7_passes_n (g_l G) (g_D G) a (Zt) K U R C n pt hB hn (by omega) (0) 7 (by omega) (by omega) (by omega))  gX7_childItem_X7_passes rfl hyX7_passes rfl (by decide) (by decide) 0 rfl rfl rfl (Nat.le_of_ble_eq_true rfl) ⟨Nat.zero_le _, Nat.zero_le _⟩ dX7_childItem_77 ?_
          intro w hw
          subst hw
          refine V_top (x' := iI 0) rfl ?_
          refine r_istore hG dX7_childItem_80 (by decide) rfl ?_
          refine r_iconst hG dX7_childItem_82 ?_
          refine r_istore hG dX7_childItem_83 (by decide) rfl ?_
          refine r_iload hG dX7_childItem_85 rfl ?_
          refine r_iconst hG dX7_childItem_87 ?_
          refine r_icmp_ge (tgt := 140) hG (by omega) (by omega) dX7_childItem_88 (by decide) (fun c88 => ?_) (fun c88 => ?_)
          · first
              | (exfalso; omega)
              | (exact r_vret hG hE dX7_childItem_140 ⟨Zt, by rw [e6]; rfl, fun _ => by rw [e6]⟩)
          · first
              | (exfalso; omega)
              | (refine r_iload hG dX7_childItem_91 rfl ?_
                 refine r_if_eq (tgt := 140) hG (by omega) dX7_childItem_93 (by decide) (fun c93 => ?_) (fun c93 => ?_)
                 · first
                     | (exfalso; omega)
                     | (exact r_vret hG hE dX7_childItem_140 ⟨Zt, by rw [e6]; rfl, fun _ => by rw [e6]⟩)
                 · first
                     | (exfalso; omega)
                     | ((exfalso; omega)))
      by_cases c6 : (tokM (R 2) n (tE (R 2) n (tE (R 2) n p))) = 6
      · by_cases c9 : (tK (R 2) n (tE (R 2) n (tE (R 2) n (tE (R 2) n p)))) = 2 ∧ (tV (R 2) n (tE (R 2) n (tE (R 2) n (tE (R 2) n p)))) ≤ 99
        · have et : trustS (R 2) n (addY Z (tokM (R 2) n p) (tV (R 2) n (tE (R 2) n p))) (Z 5 2) (tE (R 2) n (tE (R 2) n p)) = (true, upY (addY Z (tokM (R 2) n p) (tV (R 2) n (tE (R 2) n p))) 3 (Z 5 2) (tV (R 2) n (tE (R 2) n (tE (R 2) n (tE (R 2) n p)))), (tE (R 2) n (tE (R 2) n (tE (R 2) n (tE (R 2) n p))))) := by unfold trustS; rw [if_pos c6, if_pos c9]
          refine r_aload_n (i := 0) hG dX7_childItem_0 rfl rfl ?_
          refine r_get hG cX7_childItem_X7 0 7 rfl rfl (by decide) kX7_childItem_181 rfl dX7_childItem_1 ?_
          refine r_istore_n (i := 1) hG dX7_childItem_4 rfl (by decide) rfl ?_
          refine r_aload_n (i := 0) hG dX7_childItem_5 rfl rfl ?_
          refine r_aload_n (i := 0) hG dX7_childItem_6 rfl rfl ?_
          refine r_get hG cX7_childItem_X7 0 0 rfl rfl (by decide) kX7_childItem_9 rfl dX7_childItem_7 ?_
          refine r_iconst hG dX7_childItem_10 ?_
          refine r_iald hG 1 rfl (by omega) (by decide) dX7_childItem_11 ?_
          refine V_top (x' := iI ((Z) 5 2)) (congrArg iI (mro_2 (Z))) ?_
          refine r_bipush hG dX7_childItem_12 rfl ?_
          refine r_icmp_ne (tgt := 21) hG (by omega) (by omega) dX7_childItem_14 (by decide) (fun c14 => ?_) (fun c14 => ?_)
          · first
              | (exfalso; omega)
              | (refine r_iconst hG dX7_childItem_21 ?_
                 refine r_put hG cX7_childItem_X7 0 11 tyX7 tyX7_ok nmX7 rfl rfl (by decide) kX7_childItem_187 rfl rfl rfl (Nat.le_of_ble_eq_true rfl) dX7_childItem_22 rfl ?_
                 refine r_aload_n (i := 0) hG dX7_childItem_25 rfl rfl ?_
                 refine r_get hG cX7_childItem_X7 0 11 rfl rfl (by decide) kX7_childItem_187 rfl dX7_childItem_26 ?_
                 refine r_if_eq (tgt := 33) hG (by omega) dX7_childItem_29 (by decide) (fun c29 => ?_) (fun c29 => ?_)
                 · first
                     | (exfalso; omega)
                     | (refine r_aload_n (i := 0) hG dX7_childItem_33 rfl rfl ?_
                        refine r_callVv hG (c_X7_reads (g_l G) (g_D G) a (Z) K U R C n (tokM (R 2) n p) (tS (R 2) n p) (tE (R 2) n p) (tV (R 2) n p) (0) hB hn (by omega))  gX7_childItem_X7_reads rfl hyX7_reads rfl (by decide) (by decide) 0 rfl rfl rfl (Nat.le_of_ble_eq_true rfl) ⟨Nat.zero_le _, Nat.zero_le _⟩ dX7_childItem_34 (fun w hw => ?_)
                        subst hw
                        refine r_aload_n (i := 0) hG dX7_childItem_37 rfl rfl ?_
                        refine r_iconst hG dX7_childItem_38 ?_
                        refine r_bipush hG dX7_childItem_39 rfl ?_
                        refine r_callVi hG (c_X7_number (g_l G) (g_D G) a (Z) K U R C n (tE (R 2) n p) hB hn (by omega) 9 (by omega) (by omega))  gX7_childItem_X7_number rfl hyX7_number rfl (by decide) (by decide) 0 rfl rfl rfl (Nat.le_of_ble_eq_true rfl) ⟨Nat.zero_le _, Nat.zero_le _⟩ dX7_childItem_41 (fun w hw => ?_)
                        subst hw
                        refine r_istore_n (i := 2) hG dX7_childItem_44 rfl (by decide) rfl ?_
                        refine r_aload_n (i := 0) hG dX7_childItem_45 rfl rfl ?_
                        refine r_bipush hG dX7_childItem_46 rfl ?_
                        refine r_iconst hG dX7_childItem_48 ?_
                        refine r_bipush hG dX7_childItem_49 rfl ?_
                        refine r_bipush hG dX7_childItem_51 rfl ?_
                        refine r_callVi hG (c_X7_perhaps (g_l G) (g_D G) a Z K U R C n (tE (R 2) n (tE (R 2) n p)) hB hn (by omega) 6 99 50 (by omega) (by omega) c6 c9)  gX7_childItem_X7_perhaps rfl hyX7_perhaps rfl (by decide) (by decide) 0 rfl rfl rfl (Nat.le_of_ble_eq_true rfl) ⟨Nat.zero_le _, Nat.zero_le _⟩ dX7_childItem_53 (fun w hw => ?_)
                        subst hw
                        refine r_istore_n (i := 3) hG dX7_childItem_56 rfl (by decide) rfl ?_
                        refine r_aload_n (i := 0) hG dX7_childItem_57 rfl rfl ?_
                        refine r_get hG cX7_childItem_X7 0 11 rfl rfl (by decide) kX7_childItem_187 rfl dX7_childItem_58 ?_
                        refine r_if_eq (tgt := 65) hG (by omega) dX7_childItem_61 (by decide) (fun c61 => ?_) (fun c61 => ?_)
                        · first
                            | (exfalso; omega)
                            | (refine r_aload_n (i := 0) hG dX7_childItem_65 rfl rfl ?_
                               refine r_iload_n (i := 1) hG dX7_childItem_66 rfl rfl ?_
                               refine r_iload_n (i := 2) hG dX7_childItem_67 rfl rfl ?_
                               refine r_iload_n (i := 3) hG dX7_childItem_68 rfl rfl ?_
                               refine r_callVi hG (c_X7_comesAs (g_l G) (g_D G) a Z K U (mR R n (tokM (R 2) n (tE (R 2) n (tE (R 2) n (tE (R 2) n (tE (R 2) n p))))) (tS (R 2) n (tE (R 2) n (tE (R 2) n (tE (R 2) n (tE (R 2) n p))))) (tE (R 2) n (tE (R 2) n (tE (R 2) n (tE (R 2) n (tE (R 2) n p))))) (tV (R 2) n (tE (R 2) n (tE (R 2) n (tE (R 2) n (tE (R 2) n p))))) 0) C hI (by omega) (tokM (R 2) n p) (tV (R 2) n (tE (R 2) n p)) ((tV (R 2) n (tE (R 2) n (tE (R 2) n (tE (R 2) n p))))))  gX7_childItem_X7_comesAs rfl hyX7_comesAs rfl (by decide) (by decide) 0 rfl rfl rfl (Nat.le_of_ble_eq_true rfl) ⟨Nat.zero_le _, Nat.zero_le _⟩ dX7_childItem_69 ?_
                               intro w hw
                               subst hw
                               refine V_ws (ws' := mwp (g_D G) a (upY (addY Z (tokM (R 2) n p) (tV (R 2) n (tE (R 2) n p))) 3 (Z 5 2) (tV (R 2) n (tE (R 2) n (tE (R 2) n (tE (R 2) n p))))) K U R C n ((tE (R 2) n (tE (R 2) n (tE (R 2) n (tE (R 2) n p))))) (0)) (mwt_mro (g_D G) a K U R C n _ _ _ _ 0 (come_tr Z (tokM (R 2) n p) (tV (R 2) n (tE (R 2) n p)) (tV (R 2) n (tE (R 2) n (tE (R 2) n (tE (R 2) n p)))))) ?_
                               refine r_istore hG dX7_childItem_72 (by decide) rfl ?_
                               exact V_lv (K74 _ _ (by omega) et) ⟨rfl, rfl, trivial⟩)
                        · first
                            | (exfalso; omega)
                            | ((exfalso; omega)))
                 · first
                     | (exfalso; omega)
                     | ((exfalso; omega)))
          · first
              | (exfalso; omega)
              | (refine r_iconst hG dX7_childItem_17 ?_
                 refine r_goto (tgt := 22) hG dX7_childItem_18 (by decide) ?_
                 refine r_put hG cX7_childItem_X7 0 11 tyX7 tyX7_ok nmX7 rfl rfl (by decide) kX7_childItem_187 rfl rfl rfl (Nat.le_of_ble_eq_true rfl) dX7_childItem_22 rfl ?_
                 refine r_aload_n (i := 0) hG dX7_childItem_25 rfl rfl ?_
                 refine r_get hG cX7_childItem_X7 0 11 rfl rfl (by decide) kX7_childItem_187 rfl dX7_childItem_26 ?_
                 refine r_if_eq (tgt := 33) hG (by omega) dX7_childItem_29 (by decide) (fun c29 => ?_) (fun c29 => ?_)
                 · first
                     | (exfalso; omega)
                     | (refine r_aload_n (i := 0) hG dX7_childItem_33 rfl rfl ?_
                        refine r_callVv hG (c_X7_reads (g_l G) (g_D G) a (Z) K U R C n (tokM (R 2) n p) (tS (R 2) n p) (tE (R 2) n p) (tV (R 2) n p) (0) hB hn (by omega))  gX7_childItem_X7_reads rfl hyX7_reads rfl (by decide) (by decide) 0 rfl rfl rfl (Nat.le_of_ble_eq_true rfl) ⟨Nat.zero_le _, Nat.zero_le _⟩ dX7_childItem_34 (fun w hw => ?_)
                        subst hw
                        refine r_aload_n (i := 0) hG dX7_childItem_37 rfl rfl ?_
                        refine r_iconst hG dX7_childItem_38 ?_
                        refine r_bipush hG dX7_childItem_39 rfl ?_
                        refine r_callVi hG (c_X7_number (g_l G) (g_D G) a (Z) K U R C n (tE (R 2) n p) hB hn (by omega) 9 (by omega) (by omega))  gX7_childItem_X7_number rfl hyX7_number rfl (by decide) (by decide) 0 rfl rfl rfl (Nat.le_of_ble_eq_true rfl) ⟨Nat.zero_le _, Nat.zero_le _⟩ dX7_childItem_41 (fun w hw => ?_)
                        subst hw
                        refine r_istore_n (i := 2) hG dX7_childItem_44 rfl (by decide) rfl ?_
                        refine r_aload_n (i := 0) hG dX7_childItem_45 rfl rfl ?_
                        refine r_bipush hG dX7_childItem_46 rfl ?_
                        refine r_iconst hG dX7_childItem_48 ?_
                        refine r_bipush hG dX7_childItem_49 rfl ?_
                        refine r_bipush hG dX7_childItem_51 rfl ?_
                        refine r_callVi hG (c_X7_perhaps (g_l G) (g_D G) a Z K U R C n (tE (R 2) n (tE (R 2) n p)) hB hn (by omega) 6 99 50 (by omega) (by omega) c6 c9)  gX7_childItem_X7_perhaps rfl hyX7_perhaps rfl (by decide) (by decide) 0 rfl rfl rfl (Nat.le_of_ble_eq_true rfl) ⟨Nat.zero_le _, Nat.zero_le _⟩ dX7_childItem_53 (fun w hw => ?_)
                        subst hw
                        refine r_istore_n (i := 3) hG dX7_childItem_56 rfl (by decide) rfl ?_
                        refine r_aload_n (i := 0) hG dX7_childItem_57 rfl rfl ?_
                        refine r_get hG cX7_childItem_X7 0 11 rfl rfl (by decide) kX7_childItem_187 rfl dX7_childItem_58 ?_
                        refine r_if_eq (tgt := 65) hG (by omega) dX7_childItem_61 (by decide) (fun c61 => ?_) (fun c61 => ?_)
                        · first
                            | (exfalso; omega)
                            | (refine r_aload_n (i := 0) hG dX7_childItem_65 rfl rfl ?_
                               refine r_iload_n (i := 1) hG dX7_childItem_66 rfl rfl ?_
                               refine r_iload_n (i := 2) hG dX7_childItem_67 rfl rfl ?_
                               refine r_iload_n (i := 3) hG dX7_childItem_68 rfl rfl ?_
                               refine r_callVi hG (c_X7_comesAs (g_l G) (g_D G) a Z K U (mR R n (tokM (R 2) n (tE (R 2) n (tE (R 2) n (tE (R 2) n (tE (R 2) n p))))) (tS (R 2) n (tE (R 2) n (tE (R 2) n (tE (R 2) n (tE (R 2) n p))))) (tE (R 2) n (tE (R 2) n (tE (R 2) n (tE (R 2) n (tE (R 2) n p))))) (tV (R 2) n (tE (R 2) n (tE (R 2) n (tE (R 2) n (tE (R 2) n p))))) 0) C hI (by omega) (tokM (R 2) n p) (tV (R 2) n (tE (R 2) n p)) ((tV (R 2) n (tE (R 2) n (tE (R 2) n (tE (R 2) n p))))))  gX7_childItem_X7_comesAs rfl hyX7_comesAs rfl (by decide) (by decide) 0 rfl rfl rfl (Nat.le_of_ble_eq_true rfl) ⟨Nat.zero_le _, Nat.zero_le _⟩ dX7_childItem_69 ?_
                               intro w hw
                               subst hw
                               refine V_ws (ws' := mwp (g_D G) a (upY (addY Z (tokM (R 2) n p) (tV (R 2) n (tE (R 2) n p))) 3 (Z 5 2) (tV (R 2) n (tE (R 2) n (tE (R 2) n (tE (R 2) n p))))) K U R C n ((tE (R 2) n (tE (R 2) n (tE (R 2) n (tE (R 2) n p))))) (0)) (mwt_mro (g_D G) a K U R C n _ _ _ _ 0 (come_tr Z (tokM (R 2) n p) (tV (R 2) n (tE (R 2) n p)) (tV (R 2) n (tE (R 2) n (tE (R 2) n (tE (R 2) n p)))))) ?_
                               refine r_istore hG dX7_childItem_72 (by decide) rfl ?_
                               exact V_lv (K74 _ _ (by omega) et) ⟨rfl, rfl, trivial⟩)
                        · first
                            | (exfalso; omega)
                            | ((exfalso; omega)))
                 · first
                     | (exfalso; omega)
                     | ((exfalso; omega)))
        · have et : trustS (R 2) n (addY Z (tokM (R 2) n p) (tV (R 2) n (tE (R 2) n p))) (Z 5 2) (tE (R 2) n (tE (R 2) n p)) = (false, addY Z (tokM (R 2) n p) (tV (R 2) n (tE (R 2) n p)), (tE (R 2) n (tE (R 2) n (tE (R 2) n p)))) := by unfold trustS; rw [if_pos c6, if_neg c9]
          have e6 : childS (R 2) n Z (tokM (R 2) n p) p = (false, addY Z (tokM (R 2) n p) (tV (R 2) n (tE (R 2) n p)), (tE (R 2) n (tE (R 2) n (tE (R 2) n p)))) := by rw [e0, et]; rfl
          refine r_aload_n (i := 0) hG dX7_childItem_0 rfl rfl ?_
          refine r_get hG cX7_childItem_X7 0 7 rfl rfl (by decide) kX7_childItem_181 rfl dX7_childItem_1 ?_
          refine r_istore_n (i := 1) hG dX7_childItem_4 rfl (by decide) rfl ?_
          refine r_aload_n (i := 0) hG dX7_childItem_5 rfl rfl ?_
          refine r_aload_n (i := 0) hG dX7_childItem_6 rfl rfl ?_
          refine r_get hG cX7_childItem_X7 0 0 rfl rfl (by decide) kX7_childItem_9 rfl dX7_childItem_7 ?_
          refine r_iconst hG dX7_childItem_10 ?_
          refine r_iald hG 1 rfl (by omega) (by decide) dX7_childItem_11 ?_
          refine V_top (x' := iI ((Z) 5 2)) (congrArg iI (mro_2 (Z))) ?_
          refine r_bipush hG dX7_childItem_12 rfl ?_
          refine r_icmp_ne (tgt := 21) hG (by omega) (by omega) dX7_childItem_14 (by decide) (fun c14 => ?_) (fun c14 => ?_)
          · first
              | (exfalso; omega)
              | (refine r_iconst hG dX7_childItem_21 ?_
                 refine r_put hG cX7_childItem_X7 0 11 tyX7 tyX7_ok nmX7 rfl rfl (by decide) kX7_childItem_187 rfl rfl rfl (Nat.le_of_ble_eq_true rfl) dX7_childItem_22 rfl ?_
                 refine r_aload_n (i := 0) hG dX7_childItem_25 rfl rfl ?_
                 refine r_get hG cX7_childItem_X7 0 11 rfl rfl (by decide) kX7_childItem_187 rfl dX7_childItem_26 ?_
                 refine r_if_eq (tgt := 33) hG (by omega) dX7_childItem_29 (by decide) (fun c29 => ?_) (fun c29 => ?_)
                 · first
                     | (exfalso; omega)
                     | (refine r_aload_n (i := 0) hG dX7_childItem_33 rfl rfl ?_
                        refine r_callVv hG (c_X7_reads (g_l G) (g_D G) a (Z) K U R C n (tokM (R 2) n p) (tS (R 2) n p) (tE (R 2) n p) (tV (R 2) n p) (0) hB hn (by omega))  gX7_childItem_X7_reads rfl hyX7_reads rfl (by decide) (by decide) 0 rfl rfl rfl (Nat.le_of_ble_eq_true rfl) ⟨Nat.zero_le _, Nat.zero_le _⟩ dX7_childItem_34 (fun w hw => ?_)
                        subst hw
                        refine r_aload_n (i := 0) hG dX7_childItem_37 rfl rfl ?_
                        refine r_iconst hG dX7_childItem_38 ?_
                        refine r_bipush hG dX7_childItem_39 rfl ?_
                        refine r_callVi hG (c_X7_number (g_l G) (g_D G) a (Z) K U R C n (tE (R 2) n p) hB hn (by omega) 9 (by omega) (by omega))  gX7_childItem_X7_number rfl hyX7_number rfl (by decide) (by decide) 0 rfl rfl rfl (Nat.le_of_ble_eq_true rfl) ⟨Nat.zero_le _, Nat.zero_le _⟩ dX7_childItem_41 (fun w hw => ?_)
                        subst hw
                        refine r_istore_n (i := 2) hG dX7_childItem_44 rfl (by decide) rfl ?_
                        refine r_aload_n (i := 0) hG dX7_childItem_45 rfl rfl ?_
                        refine r_bipush hG dX7_childItem_46 rfl ?_
                        refine r_iconst hG dX7_childItem_48 ?_
                        refine r_bipush hG dX7_childItem_49 rfl ?_
                        refine r_bipush hG dX7_childItem_51 rfl ?_
                        refine r_callVi hG (c_X7_perhaps_b (g_l G) (g_D G) a Z K U R C n (tE (R 2) n (tE (R 2) n p)) hB hn (by omega) 6 99 50 (by omega) (by omega) c6 c9)  gX7_childItem_X7_perhaps rfl hyX7_perhaps rfl (by decide) (by decide) 0 rfl rfl rfl (Nat.le_of_ble_eq_true rfl) ⟨Nat.zero_le _, Nat.zero_le _⟩ dX7_childItem_53 (fun w hw => ?_)
                        subst hw
                        refine r_istore_n (i := 3) hG dX7_childItem_56 rfl (by decide) rfl ?_
                        refine r_aload_n (i := 0) hG dX7_childItem_57 rfl rfl ?_
                        refine r_get hG cX7_childItem_X7 0 11 rfl rfl (by decide) kX7_childItem_187 rfl dX7_childItem_58 ?_
                        refine r_if_eq (tgt := 65) hG (by omega) dX7_childItem_61 (by decide) (fun c61 => ?_) (fun c61 => ?_)
                        · first
                            | (exfalso; omega)
                            | ((exfalso; omega))
                        · first
                            | (exfalso; omega)
                            | (exact r_vret hG hE dX7_childItem_64 ⟨Z, by rw [e6]; rfl, fun h => by rw [e6] at h; cases h⟩))
                 · first
                     | (exfalso; omega)
                     | ((exfalso; omega)))
          · first
              | (exfalso; omega)
              | (refine r_iconst hG dX7_childItem_17 ?_
                 refine r_goto (tgt := 22) hG dX7_childItem_18 (by decide) ?_
                 refine r_put hG cX7_childItem_X7 0 11 tyX7 tyX7_ok nmX7 rfl rfl (by decide) kX7_childItem_187 rfl rfl rfl (Nat.le_of_ble_eq_true rfl) dX7_childItem_22 rfl ?_
                 refine r_aload_n (i := 0) hG dX7_childItem_25 rfl rfl ?_
                 refine r_get hG cX7_childItem_X7 0 11 rfl rfl (by decide) kX7_childItem_187 rfl dX7_childItem_26 ?_
                 refine r_if_eq (tgt := 33) hG (by omega) dX7_childItem_29 (by decide) (fun c29 => ?_) (fun c29 => ?_)
                 · first
                     | (exfalso; omega)
                     | (refine r_aload_n (i := 0) hG dX7_childItem_33 rfl rfl ?_
                        refine r_callVv hG (c_X7_reads (g_l G) (g_D G) a (Z) K U R C n (tokM (R 2) n p) (tS (R 2) n p) (tE (R 2) n p) (tV (R 2) n p) (0) hB hn (by omega))  gX7_childItem_X7_reads rfl hyX7_reads rfl (by decide) (by decide) 0 rfl rfl rfl (Nat.le_of_ble_eq_true rfl) ⟨Nat.zero_le _, Nat.zero_le _⟩ dX7_childItem_34 (fun w hw => ?_)
                        subst hw
                        refine r_aload_n (i := 0) hG dX7_childItem_37 rfl rfl ?_
                        refine r_iconst hG dX7_childItem_38 ?_
                        refine r_bipush hG dX7_childItem_39 rfl ?_
                        refine r_callVi hG (c_X7_number (g_l G) (g_D G) a (Z) K U R C n (tE (R 2) n p) hB hn (by omega) 9 (by omega) (by omega))  gX7_childItem_X7_number rfl hyX7_number rfl (by decide) (by decide) 0 rfl rfl rfl (Nat.le_of_ble_eq_true rfl) ⟨Nat.zero_le _, Nat.zero_le _⟩ dX7_childItem_41 (fun w hw => ?_)
                        subst hw
                        refine r_istore_n (i := 2) hG dX7_childItem_44 rfl (by decide) rfl ?_
                        refine r_aload_n (i := 0) hG dX7_childItem_45 rfl rfl ?_
                        refine r_bipush hG dX7_childItem_46 rfl ?_
                        refine r_iconst hG dX7_childItem_48 ?_
                        refine r_bipush hG dX7_childItem_49 rfl ?_
                        refine r_bipush hG dX7_childItem_51 rfl ?_
                        refine r_callVi hG (c_X7_perhaps_b (g_l G) (g_D G) a Z K U R C n (tE (R 2) n (tE (R 2) n p)) hB hn (by omega) 6 99 50 (by omega) (by omega) c6 c9)  gX7_childItem_X7_perhaps rfl hyX7_perhaps rfl (by decide) (by decide) 0 rfl rfl rfl (Nat.le_of_ble_eq_true rfl) ⟨Nat.zero_le _, Nat.zero_le _⟩ dX7_childItem_53 (fun w hw => ?_)
                        subst hw
                        refine r_istore_n (i := 3) hG dX7_childItem_56 rfl (by decide) rfl ?_
                        refine r_aload_n (i := 0) hG dX7_childItem_57 rfl rfl ?_
                        refine r_get hG cX7_childItem_X7 0 11 rfl rfl (by decide) kX7_childItem_187 rfl dX7_childItem_58 ?_
                        refine r_if_eq (tgt := 65) hG (by omega) dX7_childItem_61 (by decide) (fun c61 => ?_) (fun c61 => ?_)
                        · first
                            | (exfalso; omega)
                            | ((exfalso; omega))
                        · first
                            | (exfalso; omega)
                            | (exact r_vret hG hE dX7_childItem_64 ⟨Z, by rw [e6]; rfl, fun h => by rw [e6] at h; cases h⟩))
                 · first
                     | (exfalso; omega)
                     | ((exfalso; omega)))
      · have et : trustS (R 2) n (addY Z (tokM (R 2) n p) (tV (R 2) n (tE (R 2) n p))) (Z 5 2) (tE (R 2) n (tE (R 2) n p)) = (true, addY Z (tokM (R 2) n p) (tV (R 2) n (tE (R 2) n p)), (tE (R 2) n (tE (R 2) n p))) := by unfold trustS; rw [if_neg c6]
        refine r_aload_n (i := 0) hG dX7_childItem_0 rfl rfl ?_
        refine r_get hG cX7_childItem_X7 0 7 rfl rfl (by decide) kX7_childItem_181 rfl dX7_childItem_1 ?_
        refine r_istore_n (i := 1) hG dX7_childItem_4 rfl (by decide) rfl ?_
        refine r_aload_n (i := 0) hG dX7_childItem_5 rfl rfl ?_
        refine r_aload_n (i := 0) hG dX7_childItem_6 rfl rfl ?_
        refine r_get hG cX7_childItem_X7 0 0 rfl rfl (by decide) kX7_childItem_9 rfl dX7_childItem_7 ?_
        refine r_iconst hG dX7_childItem_10 ?_
        refine r_iald hG 1 rfl (by omega) (by decide) dX7_childItem_11 ?_
        refine V_top (x' := iI ((Z) 5 2)) (congrArg iI (mro_2 (Z))) ?_
        refine r_bipush hG dX7_childItem_12 rfl ?_
        refine r_icmp_ne (tgt := 21) hG (by omega) (by omega) dX7_childItem_14 (by decide) (fun c14 => ?_) (fun c14 => ?_)
        · first
            | (exfalso; omega)
            | (refine r_iconst hG dX7_childItem_21 ?_
               refine r_put hG cX7_childItem_X7 0 11 tyX7 tyX7_ok nmX7 rfl rfl (by decide) kX7_childItem_187 rfl rfl rfl (Nat.le_of_ble_eq_true rfl) dX7_childItem_22 rfl ?_
               refine r_aload_n (i := 0) hG dX7_childItem_25 rfl rfl ?_
               refine r_get hG cX7_childItem_X7 0 11 rfl rfl (by decide) kX7_childItem_187 rfl dX7_childItem_26 ?_
               refine r_if_eq (tgt := 33) hG (by omega) dX7_childItem_29 (by decide) (fun c29 => ?_) (fun c29 => ?_)
               · first
                   | (exfalso; omega)
                   | (refine r_aload_n (i := 0) hG dX7_childItem_33 rfl rfl ?_
                      refine r_callVv hG (c_X7_reads (g_l G) (g_D G) a (Z) K U R C n (tokM (R 2) n p) (tS (R 2) n p) (tE (R 2) n p) (tV (R 2) n p) (0) hB hn (by omega))  gX7_childItem_X7_reads rfl hyX7_reads rfl (by decide) (by decide) 0 rfl rfl rfl (Nat.le_of_ble_eq_true rfl) ⟨Nat.zero_le _, Nat.zero_le _⟩ dX7_childItem_34 (fun w hw => ?_)
                      subst hw
                      refine r_aload_n (i := 0) hG dX7_childItem_37 rfl rfl ?_
                      refine r_iconst hG dX7_childItem_38 ?_
                      refine r_bipush hG dX7_childItem_39 rfl ?_
                      refine r_callVi hG (c_X7_number (g_l G) (g_D G) a (Z) K U R C n (tE (R 2) n p) hB hn (by omega) 9 (by omega) (by omega))  gX7_childItem_X7_number rfl hyX7_number rfl (by decide) (by decide) 0 rfl rfl rfl (Nat.le_of_ble_eq_true rfl) ⟨Nat.zero_le _, Nat.zero_le _⟩ dX7_childItem_41 (fun w hw => ?_)
                      subst hw
                      refine r_istore_n (i := 2) hG dX7_childItem_44 rfl (by decide) rfl ?_
                      refine r_aload_n (i := 0) hG dX7_childItem_45 rfl rfl ?_
                      refine r_bipush hG dX7_childItem_46 rfl ?_
                      refine r_iconst hG dX7_childItem_48 ?_
                      refine r_bipush hG dX7_childItem_49 rfl ?_
                      refine r_bipush hG dX7_childItem_51 rfl ?_
                      refine r_callVi hG (c_X7_perhaps_c (g_l G) (g_D G) a Z K U R C n (tE (R 2) n (tE (R 2) n p)) hB hn (by omega) 0 6 99 50 (by omega) (by omega) (by omega))  gX7_childItem_X7_perhaps rfl hyX7_perhaps rfl (by decide) (by decide) 0 rfl rfl rfl (Nat.le_of_ble_eq_true rfl) ⟨Nat.zero_le _, Nat.zero_le _⟩ dX7_childItem_53 (fun w hw => ?_)
                      subst hw
                      refine r_istore_n (i := 3) hG dX7_childItem_56 rfl (by decide) rfl ?_
                      refine r_aload_n (i := 0) hG dX7_childItem_57 rfl rfl ?_
                      refine r_get hG cX7_childItem_X7 0 11 rfl rfl (by decide) kX7_childItem_187 rfl dX7_childItem_58 ?_
                      refine r_if_eq (tgt := 65) hG (by omega) dX7_childItem_61 (by decide) (fun c61 => ?_) (fun c61 => ?_)
                      · first
                          | (exfalso; omega)
                          | (refine r_aload_n (i := 0) hG dX7_childItem_65 rfl rfl ?_
                             refine r_iload_n (i := 1) hG dX7_childItem_66 rfl rfl ?_
                             refine r_iload_n (i := 2) hG dX7_childItem_67 rfl rfl ?_
                             refine r_iload_n (i := 3) hG dX7_childItem_68 rfl rfl ?_
                             refine r_callVi hG (c_X7_comesAs (g_l G) (g_D G) a Z K U (mR R n (tokM (R 2) n (tE (R 2) n (tE (R 2) n p))) (tS (R 2) n (tE (R 2) n (tE (R 2) n p))) (tE (R 2) n (tE (R 2) n (tE (R 2) n p))) (tV (R 2) n (tE (R 2) n (tE (R 2) n p))) 0) C hI (by omega) (tokM (R 2) n p) (tV (R 2) n (tE (R 2) n p)) (50))  gX7_childItem_X7_comesAs rfl hyX7_comesAs rfl (by decide) (by decide) 0 rfl rfl rfl (Nat.le_of_ble_eq_true rfl) ⟨Nat.zero_le _, Nat.zero_le _⟩ dX7_childItem_69 ?_
                             intro w hw
                             subst hw
                             refine V_ws (ws' := mwp (g_D G) a (addY Z (tokM (R 2) n p) (tV (R 2) n (tE (R 2) n p))) K U R C n ((tE (R 2) n (tE (R 2) n p))) (0)) (mwt_mro (g_D G) a K U R C n _ _ _ _ 0 (come_add Z (tokM (R 2) n p) (tV (R 2) n (tE (R 2) n p)))) ?_
                             refine r_istore hG dX7_childItem_72 (by decide) rfl ?_
                             exact V_lv (K74 _ _ (by omega) et) ⟨rfl, rfl, trivial⟩)
                      · first
                          | (exfalso; omega)
                          | (exact r_vret hG hE dX7_childItem_64 ⟨Z, by rw [e6]; rfl, fun h => by rw [e6] at h; cases h⟩))
               · first
                   | (exfalso; omega)
                   | ((exfalso; omega)))
        · first
            | (exfalso; omega)
            | (refine r_iconst hG dX7_childItem_17 ?_
               refine r_goto (tgt := 22) hG dX7_childItem_18 (by decide) ?_
               refine r_put hG cX7_childItem_X7 0 11 tyX7 tyX7_ok nmX7 rfl rfl (by decide) kX7_childItem_187 rfl rfl rfl (Nat.le_of_ble_eq_true rfl) dX7_childItem_22 rfl ?_
               refine r_aload_n (i := 0) hG dX7_childItem_25 rfl rfl ?_
               refine r_get hG cX7_childItem_X7 0 11 rfl rfl (by decide) kX7_childItem_187 rfl dX7_childItem_26 ?_
               refine r_if_eq (tgt := 33) hG (by omega) dX7_childItem_29 (by decide) (fun c29 => ?_) (fun c29 => ?_)
               · first
                   | (exfalso; omega)
                   | (refine r_aload_n (i := 0) hG dX7_childItem_33 rfl rfl ?_
                      refine r_callVv hG (c_X7_reads (g_l G) (g_D G) a (Z) K U R C n (tokM (R 2) n p) (tS (R 2) n p) (tE (R 2) n p) (tV (R 2) n p) (0) hB hn (by omega))  gX7_childItem_X7_reads rfl hyX7_reads rfl (by decide) (by decide) 0 rfl rfl rfl (Nat.le_of_ble_eq_true rfl) ⟨Nat.zero_le _, Nat.zero_le _⟩ dX7_childItem_34 (fun w hw => ?_)
                      subst hw
                      refine r_aload_n (i := 0) hG dX7_childItem_37 rfl rfl ?_
                      refine r_iconst hG dX7_childItem_38 ?_
                      refine r_bipush hG dX7_childItem_39 rfl ?_
                      refine r_callVi hG (c_X7_number (g_l G) (g_D G) a (Z) K U R C n (tE (R 2) n p) hB hn (by omega) 9 (by omega) (by omega))  gX7_childItem_X7_number rfl hyX7_number rfl (by decide) (by decide) 0 rfl rfl rfl (Nat.le_of_ble_eq_true rfl) ⟨Nat.zero_le _, Nat.zero_le _⟩ dX7_childItem_41 (fun w hw => ?_)
                      subst hw
                      refine r_istore_n (i := 2) hG dX7_childItem_44 rfl (by decide) rfl ?_
                      refine r_aload_n (i := 0) hG dX7_childItem_45 rfl rfl ?_
                      refine r_bipush hG dX7_childItem_46 rfl ?_
                      refine r_iconst hG dX7_childItem_48 ?_
                      refine r_bipush hG dX7_childItem_49 rfl ?_
                      refine r_bipush hG dX7_childItem_51 rfl ?_
                      refine r_callVi hG (c_X7_perhaps_c (g_l G) (g_D G) a Z K U R C n (tE (R 2) n (tE (R 2) n p)) hB hn (by omega) 0 6 99 50 (by omega) (by omega) (by omega))  gX7_childItem_X7_perhaps rfl hyX7_perhaps rfl (by decide) (by decide) 0 rfl rfl rfl (Nat.le_of_ble_eq_true rfl) ⟨Nat.zero_le _, Nat.zero_le _⟩ dX7_childItem_53 (fun w hw => ?_)
                      subst hw
                      refine r_istore_n (i := 3) hG dX7_childItem_56 rfl (by decide) rfl ?_
                      refine r_aload_n (i := 0) hG dX7_childItem_57 rfl rfl ?_
                      refine r_get hG cX7_childItem_X7 0 11 rfl rfl (by decide) kX7_childItem_187 rfl dX7_childItem_58 ?_
                      refine r_if_eq (tgt := 65) hG (by omega) dX7_childItem_61 (by decide) (fun c61 => ?_) (fun c61 => ?_)
                      · first
                          | (exfalso; omega)
                          | (refine r_aload_n (i := 0) hG dX7_childItem_65 rfl rfl ?_
                             refine r_iload_n (i := 1) hG dX7_childItem_66 rfl rfl ?_
                             refine r_iload_n (i := 2) hG dX7_childItem_67 rfl rfl ?_
                             refine r_iload_n (i := 3) hG dX7_childItem_68 rfl rfl ?_
                             refine r_callVi hG (c_X7_comesAs (g_l G) (g_D G) a Z K U (mR R n (tokM (R 2) n (tE (R 2) n (tE (R 2) n p))) (tS (R 2) n (tE (R 2) n (tE (R 2) n p))) (tE (R 2) n (tE (R 2) n (tE (R 2) n p))) (tV (R 2) n (tE (R 2) n (tE (R 2) n p))) 0) C hI (by omega) (tokM (R 2) n p) (tV (R 2) n (tE (R 2) n p)) (50))  gX7_childItem_X7_comesAs rfl hyX7_comesAs rfl (by decide) (by decide) 0 rfl rfl rfl (Nat.le_of_ble_eq_true rfl) ⟨Nat.zero_le _, Nat.zero_le _⟩ dX7_childItem_69 ?_
                             intro w hw
                             subst hw
                             refine V_ws (ws' := mwp (g_D G) a (addY Z (tokM (R 2) n p) (tV (R 2) n (tE (R 2) n p))) K U R C n ((tE (R 2) n (tE (R 2) n p))) (0)) (mwt_mro (g_D G) a K U R C n _ _ _ _ 0 (come_add Z (tokM (R 2) n p) (tV (R 2) n (tE (R 2) n p)))) ?_
                             refine r_istore hG dX7_childItem_72 (by decide) rfl ?_
                             exact V_lv (K74 _ _ (by omega) et) ⟨rfl, rfl, trivial⟩)
                      · first
                          | (exfalso; omega)
                          | (exact r_vret hG hE dX7_childItem_64 ⟨Z, by rw [e6]; rfl, fun h => by rw [e6] at h; cases h⟩))
               · first
                   | (exfalso; omega)
                   | ((exfalso; omega)))
    · have e6 : childS (R 2) n Z (tokM (R 2) n p) p = (false, Z, (tE (R 2) n p)) := by unfold childS; rw [if_pos cf, if_neg cb]
      refine r_aload_n (i := 0) hG dX7_childItem_0 rfl rfl ?_
      refine r_get hG cX7_childItem_X7 0 7 rfl rfl (by decide) kX7_childItem_181 rfl dX7_childItem_1 ?_
      refine r_istore_n (i := 1) hG dX7_childItem_4 rfl (by decide) rfl ?_
      refine r_aload_n (i := 0) hG dX7_childItem_5 rfl rfl ?_
      refine r_aload_n (i := 0) hG dX7_childItem_6 rfl rfl ?_
      refine r_get hG cX7_childItem_X7 0 0 rfl rfl (by decide) kX7_childItem_9 rfl dX7_childItem_7 ?_
      refine r_iconst hG dX7_childItem_10 ?_
      refine r_iald hG 1 rfl (by omega) (by decide) dX7_childItem_11 ?_
      refine V_top (x' := iI ((Z) 5 2)) (congrArg iI (mro_2 (Z))) ?_
      refine r_bipush hG dX7_childItem_12 rfl ?_
      refine r_icmp_ne (tgt := 21) hG (by omega) (by omega) dX7_childItem_14 (by decide) (fun c14 => ?_) (fun c14 => ?_)
      · first
          | (exfalso; omega)
          | (refine r_iconst hG dX7_childItem_21 ?_
             refine r_put hG cX7_childItem_X7 0 11 tyX7 tyX7_ok nmX7 rfl rfl (by decide) kX7_childItem_187 rfl rfl rfl (Nat.le_of_ble_eq_true rfl) dX7_childItem_22 rfl ?_
             refine r_aload_n (i := 0) hG dX7_childItem_25 rfl rfl ?_
             refine r_get hG cX7_childItem_X7 0 11 rfl rfl (by decide) kX7_childItem_187 rfl dX7_childItem_26 ?_
             refine r_if_eq (tgt := 33) hG (by omega) dX7_childItem_29 (by decide) (fun c29 => ?_) (fun c29 => ?_)
             · first
                 | (exfalso; omega)
                 | (refine r_aload_n (i := 0) hG dX7_childItem_33 rfl rfl ?_
                    refine r_callVv hG (c_X7_reads (g_l G) (g_D G) a (Z) K U R C n (tokM (R 2) n p) (tS (R 2) n p) (tE (R 2) n p) (tV (R 2) n p) (0) hB hn (by omega))  gX7_childItem_X7_reads rfl hyX7_reads rfl (by decide) (by decide) 0 rfl rfl rfl (Nat.le_of_ble_eq_true rfl) ⟨Nat.zero_le _, Nat.zero_le _⟩ dX7_childItem_34 (fun w hw => ?_)
                    subst hw
                    refine r_aload_n (i := 0) hG dX7_childItem_37 rfl rfl ?_
                    refine r_iconst hG dX7_childItem_38 ?_
                    refine r_bipush hG dX7_childItem_39 rfl ?_
                    refine r_callVi hG (c_X7_number_n (g_l G) (g_D G) a (Z) K U R C n (tE (R 2) n p) hB hn (by omega) (0) 9 (by omega) (by omega) (by omega))  gX7_childItem_X7_number rfl hyX7_number rfl (by decide) (by decide) 0 rfl rfl rfl (Nat.le_of_ble_eq_true rfl) ⟨Nat.zero_le _, Nat.zero_le _⟩ dX7_childItem_41 (fun w hw => ?_)
                    subst hw
                    refine r_istore_n (i := 2) hG dX7_childItem_44 rfl (by decide) rfl ?_
                    refine r_aload_n (i := 0) hG dX7_childItem_45 rfl rfl ?_
                    refine r_bipush hG dX7_childItem_46 rfl ?_
                    refine r_iconst hG dX7_childItem_48 ?_
                    refine r_bipush hG dX7_childItem_49 rfl ?_
                    refine r_bipush hG dX7_childItem_51 rfl ?_
                    refine r_callVi hG (c_X7_perhaps_c (g_l G) (g_D G) a Z K U R C n (tE (R 2) n p) hB hn (by omega) 1 6 99 50 (by omega) (by omega) (by omega))  gX7_childItem_X7_perhaps rfl hyX7_perhaps rfl (by decide) (by decide) 0 rfl rfl rfl (Nat.le_of_ble_eq_true rfl) ⟨Nat.zero_le _, Nat.zero_le _⟩ dX7_childItem_53 (fun w hw => ?_)
                    subst hw
                    refine r_istore_n (i := 3) hG dX7_childItem_56 rfl (by decide) rfl ?_
                    refine r_aload_n (i := 0) hG dX7_childItem_57 rfl rfl ?_
                    refine r_get hG cX7_childItem_X7 0 11 rfl rfl (by decide) kX7_childItem_187 rfl dX7_childItem_58 ?_
                    refine r_if_eq (tgt := 65) hG (by omega) dX7_childItem_61 (by decide) (fun c61 => ?_) (fun c61 => ?_)
                    · first
                        | (exfalso; omega)
                        | ((exfalso; omega))
                    · first
                        | (exfalso; omega)
                        | (exact r_vret hG hE dX7_childItem_64 ⟨Z, by rw [e6]; rfl, fun h => by rw [e6] at h; cases h⟩))
             · first
                 | (exfalso; omega)
                 | ((exfalso; omega)))
      · first
          | (exfalso; omega)
          | (refine r_iconst hG dX7_childItem_17 ?_
             refine r_goto (tgt := 22) hG dX7_childItem_18 (by decide) ?_
             refine r_put hG cX7_childItem_X7 0 11 tyX7 tyX7_ok nmX7 rfl rfl (by decide) kX7_childItem_187 rfl rfl rfl (Nat.le_of_ble_eq_true rfl) dX7_childItem_22 rfl ?_
             refine r_aload_n (i := 0) hG dX7_childItem_25 rfl rfl ?_
             refine r_get hG cX7_childItem_X7 0 11 rfl rfl (by decide) kX7_childItem_187 rfl dX7_childItem_26 ?_
             refine r_if_eq (tgt := 33) hG (by omega) dX7_childItem_29 (by decide) (fun c29 => ?_) (fun c29 => ?_)
             · first
                 | (exfalso; omega)
                 | (refine r_aload_n (i := 0) hG dX7_childItem_33 rfl rfl ?_
                    refine r_callVv hG (c_X7_reads (g_l G) (g_D G) a (Z) K U R C n (tokM (R 2) n p) (tS (R 2) n p) (tE (R 2) n p) (tV (R 2) n p) (0) hB hn (by omega))  gX7_childItem_X7_reads rfl hyX7_reads rfl (by decide) (by decide) 0 rfl rfl rfl (Nat.le_of_ble_eq_true rfl) ⟨Nat.zero_le _, Nat.zero_le _⟩ dX7_childItem_34 (fun w hw => ?_)
                    subst hw
                    refine r_aload_n (i := 0) hG dX7_childItem_37 rfl rfl ?_
                    refine r_iconst hG dX7_childItem_38 ?_
                    refine r_bipush hG dX7_childItem_39 rfl ?_
                    refine r_callVi hG (c_X7_number_n (g_l G) (g_D G) a (Z) K U R C n (tE (R 2) n p) hB hn (by omega) (0) 9 (by omega) (by omega) (by omega))  gX7_childItem_X7_number rfl hyX7_number rfl (by decide) (by decide) 0 rfl rfl rfl (Nat.le_of_ble_eq_true rfl) ⟨Nat.zero_le _, Nat.zero_le _⟩ dX7_childItem_41 (fun w hw => ?_)
                    subst hw
                    refine r_istore_n (i := 2) hG dX7_childItem_44 rfl (by decide) rfl ?_
                    refine r_aload_n (i := 0) hG dX7_childItem_45 rfl rfl ?_
                    refine r_bipush hG dX7_childItem_46 rfl ?_
                    refine r_iconst hG dX7_childItem_48 ?_
                    refine r_bipush hG dX7_childItem_49 rfl ?_
                    refine r_bipush hG dX7_childItem_51 rfl ?_
                    refine r_callVi hG (c_X7_perhaps_c (g_l G) (g_D G) a Z K U R C n (tE (R 2) n p) hB hn (by omega) 1 6 99 50 (by omega) (by omega) (by omega))  gX7_childItem_X7_perhaps rfl hyX7_perhaps rfl (by decide) (by decide) 0 rfl rfl rfl (Nat.le_of_ble_eq_true rfl) ⟨Nat.zero_le _, Nat.zero_le _⟩ dX7_childItem_53 (fun w hw => ?_)
                    subst hw
                    refine r_istore_n (i := 3) hG dX7_childItem_56 rfl (by decide) rfl ?_
                    refine r_aload_n (i := 0) hG dX7_childItem_57 rfl rfl ?_
                    refine r_get hG cX7_childItem_X7 0 11 rfl rfl (by decide) kX7_childItem_187 rfl dX7_childItem_58 ?_
                    refine r_if_eq (tgt := 65) hG (by omega) dX7_childItem_61 (by decide) (fun c61 => ?_) (fun c61 => ?_)
                    · first
                        | (exfalso; omega)
                        | ((exfalso; omega))
                    · first
                        | (exfalso; omega)
                        | (exact r_vret hG hE dX7_childItem_64 ⟨Z, by rw [e6]; rfl, fun h => by rw [e6] at h; cases h⟩))
             · first
                 | (exfalso; omega)
                 | ((exfalso; omega)))
  · have e6 : childS (R 2) n Z (tokM (R 2) n p) p = (false, Z, p) := by unfold childS; rw [if_neg cf]
    refine r_aload_n (i := 0) hG dX7_childItem_0 rfl rfl ?_
    refine r_get hG cX7_childItem_X7 0 7 rfl rfl (by decide) kX7_childItem_181 rfl dX7_childItem_1 ?_
    refine r_istore_n (i := 1) hG dX7_childItem_4 rfl (by decide) rfl ?_
    refine r_aload_n (i := 0) hG dX7_childItem_5 rfl rfl ?_
    refine r_aload_n (i := 0) hG dX7_childItem_6 rfl rfl ?_
    refine r_get hG cX7_childItem_X7 0 0 rfl rfl (by decide) kX7_childItem_9 rfl dX7_childItem_7 ?_
    refine r_iconst hG dX7_childItem_10 ?_
    refine r_iald hG 1 rfl (by omega) (by decide) dX7_childItem_11 ?_
    refine V_top (x' := iI ((Z) 5 2)) (congrArg iI (mro_2 (Z))) ?_
    refine r_bipush hG dX7_childItem_12 rfl ?_
    refine r_icmp_ne (tgt := 21) hG (by omega) (by omega) dX7_childItem_14 (by decide) (fun c14 => ?_) (fun c14 => ?_)
    · first
        | (exfalso; omega)
        | (refine r_iconst hG dX7_childItem_21 ?_
           refine r_put hG cX7_childItem_X7 0 11 tyX7 tyX7_ok nmX7 rfl rfl (by decide) kX7_childItem_187 rfl rfl rfl (Nat.le_of_ble_eq_true rfl) dX7_childItem_22 rfl ?_
           refine r_aload_n (i := 0) hG dX7_childItem_25 rfl rfl ?_
           refine r_get hG cX7_childItem_X7 0 11 rfl rfl (by decide) kX7_childItem_187 rfl dX7_childItem_26 ?_
           refine r_if_eq (tgt := 33) hG (by omega) dX7_childItem_29 (by decide) (fun c29 => ?_) (fun c29 => ?_)
           · first
               | (exfalso; omega)
               | ((exfalso; omega))
           · first
               | (exfalso; omega)
               | (exact r_vret hG hE dX7_childItem_32 ⟨Z, by rw [e6]; rfl, fun h => by rw [e6] at h; cases h⟩))
    · first
        | (exfalso; omega)
        | (refine r_iconst hG dX7_childItem_17 ?_
           refine r_goto (tgt := 22) hG dX7_childItem_18 (by decide) ?_
           refine r_put hG cX7_childItem_X7 0 11 tyX7 tyX7_ok nmX7 rfl rfl (by decide) kX7_childItem_187 rfl rfl rfl (Nat.le_of_ble_eq_true rfl) dX7_childItem_22 rfl ?_
           refine r_aload_n (i := 0) hG dX7_childItem_25 rfl rfl ?_
           refine r_get hG cX7_childItem_X7 0 11 rfl rfl (by decide) kX7_childItem_187 rfl dX7_childItem_26 ?_
           refine r_if_eq (tgt := 33) hG (by omega) dX7_childItem_29 (by decide) (fun c29 => ?_) (fun c29 => ?_)
           · first
               | (exfalso; omega)
               | ((exfalso; omega))
           · first
               | (exfalso; omega)
               | (exact r_vret hG hE dX7_childItem_32 ⟨Z, by rw [e6]; rfl, fun h => by rw [e6] at h; cases h⟩))
