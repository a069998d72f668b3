theorem kX7_item_181 : Cond.fieldLink RX7 181 "BreakSwapsModel" "token" "I" ∈ wsX7_item := List.mem_of_getElem? (i := 1) rfl
theorem kX7_item_9 : Cond.fieldLink RX7 9 "BreakSwapsModel" "m" "[I" ∈ wsX7_item := List.mem_of_getElem? (i := 2) rfl
theorem kX7_item_187 : Cond.fieldLink RX7 187 "BreakSwapsModel" "bad" "Z" ∈ wsX7_item := List.mem_of_getElem? (i := 3) rfl
theorem cX7_item_X7 : ∀ w ∈ wsX70, w ∈ wsX7_item := fun _ h => List.mem_cons_of_mem _ (List.mem_append_right _ h)
theorem hyX7_item : hyV yX7_item RX7 0 := by decide +kernel
set_option maxHeartbeats 4000000 in
set_option maxRecDepth 100000 in
theorem c_X7_item (l : Launch) (D : va_G) (a : Nat → Nat) (Z K U R : YS) (C : Int → Int64) (n p : Int) (hB : bytesOk (R 2)) (hn : 0 ≤ n ∧ n ≤ 120) (hp : 0 ≤ p ∧ p ≤ n) (hI : Inv Z) : Con l yX7_item wsX7_item 6 D (mwp D a (Z) K U R C n (p) (0)) [.ref (a 0)] none (fun w => ∃ Z2, w = mwp D a Z2 K U R C n (itemS (R 2) n Z p).2.2 (b2 (!(itemS (R 2) n Z p).1)) ∧ ((itemS (R 2) n Z p).1 = true → Z2 = (itemS (R 2) n Z p).2.1)) := by
  refine con_start (own := RX7) (by decide) rfl rfl (Nat.le_of_ble_eq_true rfl) ?_
  intro G hG hE hl hD
  subst hl
  subst hD
  have hN := hI.1
  have h1 := tE_rng (B := R 2) hp
  have h2 := tE_rng (B := R 2) (n := n) (p := tE (R 2) n p) (by omega)
  have h3 := tE_rng (B := R 2) (n := n) (p := tE (R 2) n (tE (R 2) n p)) (by omega)
  have h4 := tE_rng (B := R 2) (n := n) (p := tE (R 2) n (tE (R 2) n (tE (R 2) n p))) (by omega)
  have ht := tokM_rng (R 2) n p
  have ht1 := tokM_rng (R 2) n (tE (R 2) n p)
  have ht2 := tokM_rng (R 2) n (tE (R 2) n (tE (R 2) n p))
  have hv := tV_rng (R 2) n p
  have hv1 := tV_rng (R 2) n (tE (R 2) n p)
  have hv2 := tV_rng (R 2) n (tE (R 2) n (tE (R 2) n p))
  have hv3 := tV_rng (R 2) n (tE (R 2) n (tE (R 2) n (tE (R 2) n p)))
  by_cases k5 : (tokM (R 2) n p) ≤ 5
  · have e : itemS (R 2) n Z p = childS (R 2) n Z (tokM (R 2) n p) p := by unfold itemS; rw [if_neg (by omega), if_neg (by omega), if_neg (by omega), if_pos (by omega)]
    refine r_aload_n (i := 0) hG dX7_item_0 rfl rfl ?_
    refine r_get hG cX7_item_X7 0 7 rfl rfl (by decide) kX7_item_181 rfl dX7_item_1 ?_
    refine r_iconst hG dX7_item_4 ?_
    refine r_icmp_gt (tgt := 15) hG (by omega) (by omega) dX7_item_5 (by decide) (fun c5 => ?_) (fun c5 => ?_)
    · (exfalso; omega)
    · refine r_aload_n (i := 0) hG dX7_item_8 rfl rfl ?_
      refine r_callVv hG (c_X7_childItem (g_l G) (g_D G) a Z K U R C n p hB hn hp hI (by omega))  gX7_item_X7_childItem rfl hyX7_childItem rfl (by decide) (by decide) 0 rfl rfl rfl (Nat.le_of_ble_eq_true rfl) ⟨Nat.zero_le _, Nat.zero_le _⟩ dX7_item_9 ?_
      rintro w ⟨Z2, rfl, hz2⟩
      refine r_goto (tgt := 74) hG dX7_item_12 (by decide) ?_
      exact r_vret hG hE dX7_item_74 ⟨Z2, by rw [e], fun h => by rw [e] at h ⊢; exact hz2 h⟩
  · by_cases k8 : (tokM (R 2) n p) = 8
    · have e : itemS (R 2) n Z p = (true, upY Z 5 1 1, (tE (R 2) n p)) := by unfold itemS; rw [if_pos k8]
      refine r_aload_n (i := 0) hG dX7_item_0 rfl rfl ?_
      refine r_get hG cX7_item_X7 0 7 rfl rfl (by decide) kX7_item_181 rfl dX7_item_1 ?_
      refine r_iconst hG dX7_item_4 ?_
      refine r_icmp_gt (tgt := 15) hG (by omega) (by omega) dX7_item_5 (by decide) (fun c5 => ?_) (fun c5 => ?_)
      · refine r_aload_n (i := 0) hG dX7_item_15 rfl rfl ?_
        refine r_bipush hG dX7_item_16 rfl ?_
        refine r_callVi hG (c_X7_passes (g_l G) (g_D G) a (Z) K U R C n p hB hn (by omega) 8 (by omega) (by omega))  gX7_item_X7_passes rfl hyX7_passes rfl (by decide) (by decide) 0 rfl rfl rfl (Nat.le_of_ble_eq_true rfl) ⟨Nat.zero_le _, Nat.zero_le _⟩ dX7_item_18 ?_
        intro w hw
        subst hw
        refine V_top (x' := iI 1) rfl ?_
        refine r_if_eq (tgt := 34) hG (by omega) dX7_item_21 (by decide) (fun c21 => ?_) (fun c21 => ?_)
        · (exfalso; omega)
        · refine r_aload_n (i := 0) hG dX7_item_24 rfl rfl ?_
          refine r_get hG cX7_item_X7 0 0 rfl rfl (by decide) kX7_item_9 rfl dX7_item_25 ?_
          refine r_iconst hG dX7_item_28 ?_
          refine r_iconst hG dX7_item_29 ?_
          refine r_iast hG 1 rfl (by omega) (by decide) dX7_item_30 rfl ?_
          refine V_ia (g := mro (upY Z 5 1 1)) 1 rfl (fun j h0 h1 => mro_up5 Z (k := 1) (by omega) j h0) (ws' := mwp (g_D G) a (upY Z 5 1 1) K U R C n ((tE (R 2) n p)) (0)) rfl ?_
          refine r_goto (tgt := 74) hG dX7_item_31 (by decide) ?_
          exact r_vret hG hE dX7_item_74 ⟨upY Z 5 1 1, by rw [e]; rfl, fun _ => by rw [e]⟩
      · (exfalso; omega)
    · by_cases k9 : (tokM (R 2) n p) = 9
      · have e : itemS (R 2) n Z p = (true, upY Z 5 1 0, (tE (R 2) n p)) := by unfold itemS; rw [if_neg k8, if_pos k9]
        refine r_aload_n (i := 0) hG dX7_item_0 rfl rfl ?_
        refine r_get hG cX7_item_X7 0 7 rfl rfl (by decide) kX7_item_181 rfl dX7_item_1 ?_
        refine r_iconst hG dX7_item_4 ?_
        refine r_icmp_gt (tgt := 15) hG (by omega) (by omega) dX7_item_5 (by decide) (fun c5 => ?_) (fun c5 => ?_)
        · refine r_aload_n (i := 0) hG dX7_item_15 rfl rfl ?_
          refine r_bipush hG dX7_item_16 rfl ?_
          refine r_callVi hG (c_X7_passes_n (g_l G) (g_D G) a (Z) K U R C n p hB hn (by omega) (0) 8 (by omega) (by omega) (by omega))  gX7_item_X7_passes rfl hyX7_passes rfl (by decide) (by decide) 0 rfl rfl rfl (Nat.le_of_ble_eq_true rfl) ⟨Nat.zero_le _, Nat.zero_le _⟩ dX7_item_18 ?_
          intro w hw
          subst hw
          refine V_top (x' := iI 0) rfl ?_
          refine r_if_eq (tgt := 34) hG (by omega) dX7_item_21 (by decide) (fun c21 => ?_) (fun c21 => ?_)
          · refine r_aload_n (i := 0) hG dX7_item_34 rfl rfl ?_
            refine r_bipush hG dX7_item_35 rfl ?_
            refine r_callVi hG (c_X7_passes (g_l G) (g_D G) a (Z) K U R C n p hB hn (by omega) 9 (by omega) (by omega))  gX7_item_X7_passes rfl hyX7_passes rfl (by decide) (by decide) 0 rfl rfl rfl (Nat.le_of_ble_eq_true rfl) ⟨Nat.zero_le _, Nat.zero_le _⟩ dX7_item_37 ?_
            intro w hw
            subst hw
            refine V_top (x' := iI 1) rfl ?_
            refine r_if_eq (tgt := 53) hG (by omega) dX7_item_40 (by decide) (fun c40 => ?_) (fun c40 => ?_)
            · (exfalso; omega)
            · refine r_aload_n (i := 0) hG dX7_item_43 rfl rfl ?_
              refine r_get hG cX7_item_X7 0 0 rfl rfl (by decide) kX7_item_9 rfl dX7_item_44 ?_
              refine r_iconst hG dX7_item_47 ?_
              refine r_iconst hG dX7_item_48 ?_
              refine r_iast hG 1 rfl (by omega) (by decide) dX7_item_49 rfl ?_
              refine V_ia (g := mro (upY Z 5 1 0)) 1 rfl (fun j h0 h1 => mro_up5 Z (k := 1) (by omega) j h0) (ws' := mwp (g_D G) a (upY Z 5 1 0) K U R C n ((tE (R 2) n p)) (0)) rfl ?_
              refine r_goto (tgt := 74) hG dX7_item_50 (by decide) ?_
              exact r_vret hG hE dX7_item_74 ⟨upY Z 5 1 0, by rw [e]; rfl, fun _ => by rw [e]⟩
          · (exfalso; omega)
        · (exfalso; omega)
      · by_cases k10 : (tokM (R 2) n p) = 10
        · have e : itemS (R 2) n Z p = swapS (R 2) n Z (tE (R 2) n p) := by unfold itemS; rw [if_neg k8, if_neg k9, if_pos k10]
          refine r_aload_n (i := 0) hG dX7_item_0 rfl rfl ?_
          refine r_get hG cX7_item_X7 0 7 rfl rfl (by decide) kX7_item_181 rfl dX7_item_1 ?_
          refine r_iconst hG dX7_item_4 ?_
          refine r_icmp_gt (tgt := 15) hG (by omega) (by omega) dX7_item_5 (by decide) (fun c5 => ?_) (fun c5 => ?_)
          · refine r_aload_n (i := 0) hG dX7_item_15 rfl rfl ?_
            refine r_bipush hG dX7_item_16 rfl ?_
            refine r_callVi hG (c_X7_passes_n (g_l G) (g_D G) a (Z) K U R C n p hB hn (by omega) (0) 8 (by omega) (by omega) (by omega))  gX7_item_X7_passes rfl hyX7_passes rfl (by decide) (by decide) 0 rfl rfl rfl (Nat.le_of_ble_eq_true rfl) ⟨Nat.zero_le _, Nat.zero_le _⟩ dX7_item_18 ?_
            intro w hw
            subst hw
            refine V_top (x' := iI 0) rfl ?_
            refine r_if_eq (tgt := 34) hG (by omega) dX7_item_21 (by decide) (fun c21 => ?_) (fun c21 => ?_)
            · refine r_aload_n (i := 0) hG dX7_item_34 rfl rfl ?_
              refine r_bipush hG dX7_item_35 rfl ?_
              refine r_callVi hG (c_X7_passes_n (g_l G) (g_D G) a (Z) K U R C n p hB hn (by omega) (0) 9 (by omega) (by omega) (by omega))  gX7_item_X7_passes rfl hyX7_passes rfl (by decide) (by decide) 0 rfl rfl rfl (Nat.le_of_ble_eq_true rfl) ⟨Nat.zero_le _, Nat.zero_le _⟩ dX7_item_37 ?_
              intro w hw
              subst hw
              refine V_top (x' := iI 0) rfl ?_
              refine r_if_eq (tgt := 53) hG (by omega) dX7_item_40 (by decide) (fun c40 => ?_) (fun c40 => ?_)
              · refine r_aload_n (i := 0) hG dX7_item_53 rfl rfl ?_
                refine r_bipush hG dX7_item_54 rfl ?_
                refine r_callVi hG (c_X7_passes (g_l G) (g_D G) a (Z) K U R C n p hB hn (by omega) 10 (by omega) (by omega))  gX7_item_X7_passes rfl hyX7_passes rfl (by decide) (by decide) 0 rfl rfl rfl (Nat.le_of_ble_eq_true rfl) ⟨Nat.zero_le _, Nat.zero_le _⟩ dX7_item_56 ?_
                intro w hw
                subst hw
                refine V_top (x' := iI 1) rfl ?_
                refine r_if_eq (tgt := 69) hG (by omega) dX7_item_59 (by decide) (fun c59 => ?_) (fun c59 => ?_)
                · (exfalso; omega)
                · refine r_aload_n (i := 0) hG dX7_item_62 rfl rfl ?_
                  refine r_callVv hG (c_X7_swapItem (g_l G) (g_D G) a Z K U R C n (tE (R 2) n p) hB hn (by omega) hI)  gX7_item_X7_swapItem rfl hyX7_swapItem rfl (by decide) (by decide) 0 rfl rfl rfl (Nat.le_of_ble_eq_true rfl) ⟨Nat.zero_le _, Nat.zero_le _⟩ dX7_item_63 ?_
                  rintro w ⟨Z2, rfl, hz2⟩
                  refine r_goto (tgt := 74) hG dX7_item_66 (by decide) ?_
                  exact r_vret hG hE dX7_item_74 ⟨Z2, by rw [e], fun h => by rw [e] at h ⊢; exact hz2 h⟩
              · (exfalso; omega)
            · (exfalso; omega)
          · (exfalso; omega)
        · have e : itemS (R 2) n Z p = (false, Z, p) := by unfold itemS; rw [if_neg k8, if_neg k9, if_neg k10, if_neg (by omega)]
          refine r_aload_n (i := 0) hG dX7_item_0 rfl rfl ?_
          refine r_get hG cX7_item_X7 0 7 rfl rfl (by decide) kX7_item_181 rfl dX7_item_1 ?_
          refine r_iconst hG dX7_item_4 ?_
          refine r_icmp_gt (tgt := 15) hG (by omega) (by omega) dX7_item_5 (by decide) (fun c5 => ?_) (fun c5 => ?_)
          · refine r_aload_n (i := 0) hG dX7_item_15 rfl rfl ?_
            refine r_bipush hG dX7_item_16 rfl ?_
            refine r_callVi hG (c_X7_passes_n (g_l G) (g_D G) a (Z) K U R C n p hB hn (by omega) (0) 8 (by omega) (by omega) (by omega))  gX7_item_X7_passes rfl hyX7_passes rfl (by decide) (by decide) 0 rfl rfl rfl (Nat.le_of_ble_eq_true rfl) ⟨Nat.zero_le _, Nat.zero_le _⟩ dX7_item_18 ?_
            intro w hw
            subst hw
            refine V_top (x' := iI 0) rfl ?_
            refine r_if_eq (tgt := 34) hG (by omega) dX7_item_21 (by decide) (fun c21 => ?_) (fun c21 => ?_)
            · refine r_aload_n (i := 0) hG dX7_item_34 rfl rfl ?_
              refine r_bipush hG dX7_item_35 rfl ?_
              refine r_callVi hG (c_X7_passes_n (g_l G) (g_D G) a (Z) K U R C n p hB hn (by omega) (0) 9 (by omega) (by omega) (by omega))  gX7_item_X7_passes rfl hyX7_passes rfl (by decide) (by decide) 0 rfl rfl rfl (Nat.le_of_ble_eq_true rfl) ⟨Nat.zero_le _, Nat.zero_le _⟩ dX7_item_37 ?_
              intro w hw
              subst hw
              refine V_top (x' := iI 0) rfl ?_
              refine r_if_eq (tgt := 53) hG (by omega) dX7_item_40 (by decide) (fun c40 => ?_) (fun c40 => ?_)
              · refine r_aload_n (i := 0) hG dX7_item_53 rfl rfl ?_
                refine r_bipush hG dX7_item_54 rfl ?_
                refine r_callVi hG (c_X7_passes_n (g_l G) (g_D G) a (Z) K U R C n p hB hn (by omega) (0) 10 (by omega) (by omega) (by omega))  gX7_item_X7_passes rfl hyX7_passes rfl (by decide) (by decide) 0 rfl rfl rfl (Nat.le_of_ble_eq_true rfl) ⟨Nat.zero_le _, Nat.zero_le _⟩ dX7_item_56 ?_
                intro w hw
                subst hw
                refine V_top (x' := iI 0) rfl ?_
                refine r_if_eq (tgt := 69) hG (by omega) dX7_item_59 (by decide) (fun c59 => ?_) (fun c59 => ?_)
                · refine r_aload_n (i := 0) hG dX7_item_69 rfl rfl ?_
                  refine r_iconst hG dX7_item_70 ?_
                  refine r_put hG cX7_item_X7 0 11 tyX7 tyX7_ok nmX7 rfl rfl (by decide) kX7_item_187 rfl rfl rfl (Nat.le_of_ble_eq_true rfl) dX7_item_71 rfl ?_
                  exact r_vret hG hE dX7_item_74 ⟨Z, by rw [e]; rfl, fun h => by rw [e] at h; cases h⟩
                · (exfalso; omega)
              · (exfalso; omega)
            · (exfalso; omega)
          · (exfalso; omega)
