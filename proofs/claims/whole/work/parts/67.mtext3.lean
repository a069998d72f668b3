theorem kX7_passes_187 : Cond.fieldLink RX7 187 "BreakSwapsModel" "bad" "Z" ∈ wsX7_passes := List.mem_of_getElem? (i := 1) rfl
theorem kX7_passes_181 : Cond.fieldLink RX7 181 "BreakSwapsModel" "token" "I" ∈ wsX7_passes := List.mem_of_getElem? (i := 2) rfl
theorem cX7_passes_X7 : ∀ w ∈ wsX70, w ∈ wsX7_passes := fun _ h => List.mem_cons_of_mem _ (List.mem_append_right _ h)
theorem hyX7_passes : hyV yX7_passes RX7 1 := by decide +kernel
set_option maxHeartbeats 4000000 in
set_option maxRecDepth 100000 in
theorem c_X7_passes (l : Launch) (D : va_G) (a : Nat → Nat) (Z K U R : YS) (C : Int → Int64) (n p : Int) (hB : bytesOk (R 2)) (hn : 0 ≤ n ∧ n ≤ 120) (hp : 0 ≤ p ∧ p ≤ n) (wd : Int) (hw : 0 ≤ wd ∧ wd ≤ 30) (h : (tokM (R 2) n p) = wd) : Con l yX7_passes wsX7_passes 3 D (mwp D a (Z) K U R C n (p) (0)) [.ref (a 0), .int (iI wd)] (some (.int (iI (b2 true)))) (fun w => w = mwp D a (Z) K U R C n ((tE (R 2) n p)) (0)) := by
  refine con_start (own := RX7) (by decide) rfl rfl (Nat.le_of_ble_eq_true rfl) ?_
  intro G hG hE hl hD
  subst hl
  subst hD
  have h1 := tE_rng (B := R 2) hp
  have ht := tokM_rng (R 2) n p
  have hv := tV_rng (R 2) n p
  refine r_aload_n (i := 0) hG dX7_passes_0 rfl rfl ?_
  refine r_get hG cX7_passes_X7 0 11 rfl rfl (by decide) kX7_passes_187 rfl dX7_passes_1 ?_
  refine r_if_ne (tgt := 15) hG (by omega) dX7_passes_4 (by decide) (fun c4 => ?_) (fun c4 => ?_)
  · first
      | (exfalso; omega)
      | (refine r_iconst hG dX7_passes_15 ?_
         exact r_zret hG hE dX7_passes_16 rfl rfl)
  · first
      | (exfalso; omega)
      | (refine r_aload_n (i := 0) hG dX7_passes_7 rfl rfl ?_
         refine r_get hG cX7_passes_X7 0 7 rfl rfl (by decide) kX7_passes_181 rfl dX7_passes_8 ?_
         refine r_iload_n (i := 1) hG dX7_passes_11 rfl rfl ?_
         refine r_icmp_eq (tgt := 17) hG (by omega) (by omega) dX7_passes_12 (by decide) (fun c12 => ?_) (fun c12 => ?_)
         · first
             | (exfalso; omega)
             | (refine r_aload_n (i := 0) hG dX7_passes_17 rfl rfl ?_
                refine r_callVv hG (c_X7_reads (g_l G) (g_D G) a (Z) K U R C n (tokM (R 2) n p) (tS (R 2) n p) (tE (R 2) n p) (tV (R 2) n p) (0) hB hn (by omega))  gX7_passes_X7_reads rfl hyX7_reads rfl (by decide) (by decide) 0 rfl rfl rfl (Nat.le_of_ble_eq_true rfl) ⟨Nat.zero_le _, Nat.zero_le _⟩ dX7_passes_18 (fun w hw => ?_)
                subst hw
                refine r_iconst hG dX7_passes_21 ?_
                exact r_zret hG hE dX7_passes_22 rfl rfl)
         · first
             | (exfalso; omega)
             | (refine r_iconst hG dX7_passes_15 ?_
                exact r_zret hG hE dX7_passes_16 rfl rfl))
set_option maxHeartbeats 4000000 in
set_option maxRecDepth 100000 in
theorem c_X7_passes_n (l : Launch) (D : va_G) (a : Nat → Nat) (Z K U R : YS) (C : Int → Int64) (n p : Int) (hB : bytesOk (R 2)) (hn : 0 ≤ n ∧ n ≤ 120) (hp : 0 ≤ p ∧ p ≤ n) (bd wd : Int) (hbd : bd = 0 ∨ bd = 1) (hw : 0 ≤ wd ∧ wd ≤ 30) (h : ¬ (bd = 0 ∧ (tokM (R 2) n p) = wd)) : Con l yX7_passes wsX7_passes 3 D (mwp D a (Z) K U R C n (p) (bd)) [.ref (a 0), .int (iI wd)] (some (.int (iI (b2 false)))) (fun w => w = mwp D a (Z) K U R C n (p) (bd)) := by
  refine con_start (own := RX7) (by decide) rfl rfl (Nat.le_of_ble_eq_true rfl) ?_
  intro G hG hE hl hD
  subst hl
  subst hD
  have h1 := tE_rng (B := R 2) hp
  have ht := tokM_rng (R 2) n p
  have hv := tV_rng (R 2) n p
  refine r_aload_n (i := 0) hG dX7_passes_0 rfl rfl ?_
  refine r_get hG cX7_passes_X7 0 11 rfl rfl (by decide) kX7_passes_187 rfl dX7_passes_1 ?_
  refine r_if_ne (tgt := 15) hG (by omega) dX7_passes_4 (by decide) (fun c4 => ?_) (fun c4 => ?_)
  · refine r_iconst hG dX7_passes_15 ?_
    exact r_zret hG hE dX7_passes_16 rfl rfl
  · refine r_aload_n (i := 0) hG dX7_passes_7 rfl rfl ?_
    refine r_get hG cX7_passes_X7 0 7 rfl rfl (by decide) kX7_passes_181 rfl dX7_passes_8 ?_
    refine r_iload_n (i := 1) hG dX7_passes_11 rfl rfl ?_
    refine r_icmp_eq (tgt := 17) hG (by omega) (by omega) dX7_passes_12 (by decide) (fun c12 => ?_) (fun c12 => ?_)
    · (exfalso; omega)
    · refine r_iconst hG dX7_passes_15 ?_
      exact r_zret hG hE dX7_passes_16 rfl rfl
theorem kX7_number_178 : Cond.fieldLink RX7 178 "BreakSwapsModel" "value" "I" ∈ wsX7_number := List.mem_of_getElem? (i := 1) rfl
theorem kX7_number_187 : Cond.fieldLink RX7 187 "BreakSwapsModel" "bad" "Z" ∈ wsX7_number := List.mem_of_getElem? (i := 2) rfl
theorem kX7_number_181 : Cond.fieldLink RX7 181 "BreakSwapsModel" "token" "I" ∈ wsX7_number := List.mem_of_getElem? (i := 3) rfl
theorem cX7_number_X7 : ∀ w ∈ wsX70, w ∈ wsX7_number := fun _ h => List.mem_cons_of_mem _ (List.mem_append_right _ h)
theorem hyX7_number : hyV yX7_number RX7 2 := by decide +kernel
set_option maxHeartbeats 4000000 in
set_option maxRecDepth 100000 in
theorem c_X7_number (l : Launch) (D : va_G) (a : Nat → Nat) (Z K U R : YS) (C : Int → Int64) (n p : Int) (hB : bytesOk (R 2)) (hn : 0 ≤ n ∧ n ≤ 120) (hp : 0 ≤ p ∧ p ≤ n) (m : Int) (hm : -1 ≤ m ∧ m ≤ 1000) (h : (tK (R 2) n p) = 2 ∧ (tV (R 2) n p) ≤ m) : Con l yX7_number wsX7_number 3 D (mwp D a (Z) K U R C n (p) (0)) [.ref (a 0), .int (iI 0), .int (iI m)] (some (.int (iI (tV (R 2) n p)))) (fun w => w = mwp D a (Z) K U R C n ((tE (R 2) n p)) (0)) := by
  refine con_start (own := RX7) (by decide) rfl rfl (Nat.le_of_ble_eq_true rfl) ?_
  intro G hG hE hl hD
  subst hl
  subst hD
  have h1 := tE_rng (B := R 2) hp
  have ht := tokM_rng (R 2) n p
  have hv := tV_rng (R 2) n p
  refine r_aload_n (i := 0) hG dX7_number_0 rfl rfl ?_
  refine r_get hG cX7_number_X7 0 10 rfl rfl (by decide) kX7_number_178 rfl dX7_number_1 ?_
  refine r_istore_n (i := 3) hG dX7_number_4 rfl (by decide) rfl ?_
  refine r_aload_n (i := 0) hG dX7_number_5 rfl rfl ?_
  refine r_aload_n (i := 0) hG dX7_number_6 rfl rfl ?_
  refine r_get hG cX7_number_X7 0 11 rfl rfl (by decide) kX7_number_187 rfl dX7_number_7 ?_
  refine r_if_ne (tgt := 32) hG (by omega) dX7_number_10 (by decide) (fun c10 => ?_) (fun c10 => ?_)
  · first
      | (exfalso; first | omega | (simp only [decide_eq_true_eq, decide_eq_false_iff_not] at c10; omega))
      | (refine r_iconst hG dX7_number_32 ?_
         refine r_goto (tgt := 37) hG dX7_number_33 (by decide) ?_
         refine r_put hG cX7_number_X7 0 11 tyX7 tyX7_ok nmX7 rfl rfl (by decide) kX7_number_187 rfl rfl rfl (Nat.le_of_ble_eq_true rfl) dX7_number_37 rfl ?_
         refine r_aload_n (i := 0) hG dX7_number_40 rfl rfl ?_
         refine r_get hG cX7_number_X7 0 11 rfl rfl (by decide) kX7_number_187 rfl dX7_number_41 ?_
         refine r_if_ne (tgt := 51) hG (by omega) dX7_number_44 (by decide) (fun c44 => ?_) (fun c44 => ?_)
         · first
             | (exfalso; first | omega | (simp only [decide_eq_true_eq, decide_eq_false_iff_not] at c44; omega))
             | (refine r_iload_n (i := 3) hG dX7_number_51 rfl rfl ?_
                exact r_iret hG hE dX7_number_52 rfl rfl)
         · first
             | (exfalso; first | omega | (simp only [decide_eq_true_eq, decide_eq_false_iff_not] at c44; omega))
             | (refine r_aload_n (i := 0) hG dX7_number_47 rfl rfl ?_
                refine r_callVv hG (c_X7_reads (g_l G) (g_D G) a (Z) K U R C n (tokM (R 2) n p) (tS (R 2) n p) (tE (R 2) n p) (tV (R 2) n p) (0) hB hn (by omega))  gX7_number_X7_reads rfl hyX7_reads rfl (by decide) (by decide) 0 rfl rfl rfl (Nat.le_of_ble_eq_true rfl) ⟨Nat.zero_le _, Nat.zero_le _⟩ dX7_number_48 (fun w hw => ?_)
                subst hw
                refine r_iload_n (i := 3) hG dX7_number_51 rfl rfl ?_
                exact r_iret hG hE dX7_number_52 rfl rfl))
  · first
      | (exfalso; first | omega | (simp only [decide_eq_true_eq, decide_eq_false_iff_not] at c10; omega))
      | (refine r_aload_n (i := 0) hG dX7_number_13 rfl rfl ?_
         refine r_get hG cX7_number_X7 0 7 rfl rfl (by decide) kX7_number_181 rfl dX7_number_14 ?_
         refine r_bipush hG dX7_number_17 rfl ?_
         refine r_icmp_ne (tgt := 32) hG (by omega) (by omega) dX7_number_19 (by decide) (fun c19 => ?_) (fun c19 => ?_)
         · first
             | (exfalso; first | omega | (simp only [decide_eq_true_eq, decide_eq_false_iff_not] at c19; omega))
             | (refine r_iconst hG dX7_number_32 ?_
                refine r_goto (tgt := 37) hG dX7_number_33 (by decide) ?_
                refine r_put hG cX7_number_X7 0 11 tyX7 tyX7_ok nmX7 rfl rfl (by decide) kX7_number_187 rfl rfl rfl (Nat.le_of_ble_eq_true rfl) dX7_number_37 rfl ?_
                refine r_aload_n (i := 0) hG dX7_number_40 rfl rfl ?_
                refine r_get hG cX7_number_X7 0 11 rfl rfl (by decide) kX7_number_187 rfl dX7_number_41 ?_
                refine r_if_ne (tgt := 51) hG (by omega) dX7_number_44 (by decide) (fun c44 => ?_) (fun c44 => ?_)
                · first
                    | (exfalso; first | omega | (simp only [decide_eq_true_eq, decide_eq_false_iff_not] at c44; omega))
                    | (refine r_iload_n (i := 3) hG dX7_number_51 rfl rfl ?_
                       exact r_iret hG hE dX7_number_52 rfl rfl)
                · first
                    | (exfalso; first | omega | (simp only [decide_eq_true_eq, decide_eq_false_iff_not] at c44; omega))
                    | (refine r_aload_n (i := 0) hG dX7_number_47 rfl rfl ?_
                       refine r_callVv hG (c_X7_reads (g_l G) (g_D G) a (Z) K U R C n (tokM (R 2) n p) (tS (R 2) n p) (tE (R 2) n p) (tV (R 2) n p) (0) hB hn (by omega))  gX7_number_X7_reads rfl hyX7_reads rfl (by decide) (by decide) 0 rfl rfl rfl (Nat.le_of_ble_eq_true rfl) ⟨Nat.zero_le _, Nat.zero_le _⟩ dX7_number_48 (fun w hw => ?_)
                       subst hw
                       refine r_iload_n (i := 3) hG dX7_number_51 rfl rfl ?_
                       exact r_iret hG hE dX7_number_52 rfl rfl))
         · first
             | (exfalso; first | omega | (simp only [decide_eq_true_eq, decide_eq_false_iff_not] at c19; omega))
             | (refine r_iload_n (i := 3) hG dX7_number_22 rfl rfl ?_
                refine r_i2l hG dX7_number_23 ?_
                refine r_iload_n (i := 1) hG dX7_number_24 rfl rfl ?_
                refine r_iload_n (i := 2) hG dX7_number_25 rfl rfl ?_
                refine r_call0i hG (c_X7_inI (g_l G) (g_D G) _ _ _ (by omega) (by omega) (by omega))  gX7_number_X7_in rfl hyX7_in rfl (by decide) (by decide) rfl (Nat.le_of_ble_eq_true rfl) ⟨Nat.zero_le _, Nat.zero_le _⟩ dX7_number_26 ?_
                refine rb_if_ne (tgt := 36) hG dX7_number_29 (by decide) (fun c29 => ?_) (fun c29 => ?_)
                · first
                    | (exfalso; first | omega | (simp only [decide_eq_true_eq, decide_eq_false_iff_not] at c29; omega))
                    | (try simp only [decide_eq_true_eq, decide_eq_false_iff_not] at c29
                       refine r_iconst hG dX7_number_36 ?_
                       refine r_put hG cX7_number_X7 0 11 tyX7 tyX7_ok nmX7 rfl rfl (by decide) kX7_number_187 rfl rfl rfl (Nat.le_of_ble_eq_true rfl) dX7_number_37 rfl ?_
                       refine r_aload_n (i := 0) hG dX7_number_40 rfl rfl ?_
                       refine r_get hG cX7_number_X7 0 11 rfl rfl (by decide) kX7_number_187 rfl dX7_number_41 ?_
                       refine r_if_ne (tgt := 51) hG (by omega) dX7_number_44 (by decide) (fun c44 => ?_) (fun c44 => ?_)
                       · first
                           | (exfalso; first | omega | (simp only [decide_eq_true_eq, decide_eq_false_iff_not] at c44; omega))
                           | (refine r_iload_n (i := 3) hG dX7_number_51 rfl rfl ?_
                              exact r_iret hG hE dX7_number_52 rfl rfl)
                       · first
                           | (exfalso; first | omega | (simp only [decide_eq_true_eq, decide_eq_false_iff_not] at c44; omega))
                           | (refine r_aload_n (i := 0) hG dX7_number_47 rfl rfl ?_
                              refine r_callVv hG (c_X7_reads (g_l G) (g_D G) a (Z) K U R C n (tokM (R 2) n p) (tS (R 2) n p) (tE (R 2) n p) (tV (R 2) n p) (0) hB hn (by omega))  gX7_number_X7_reads rfl hyX7_reads rfl (by decide) (by decide) 0 rfl rfl rfl (Nat.le_of_ble_eq_true rfl) ⟨Nat.zero_le _, Nat.zero_le _⟩ dX7_number_48 (fun w hw => ?_)
                              subst hw
                              refine r_iload_n (i := 3) hG dX7_number_51 rfl rfl ?_
                              exact r_iret hG hE dX7_number_52 rfl rfl))
                · first
                    | (exfalso; first | omega | (simp only [decide_eq_true_eq, decide_eq_false_iff_not] at c29; omega))
                    | (try simp only [decide_eq_true_eq, decide_eq_false_iff_not] at c29
                       refine r_iconst hG dX7_number_32 ?_
                       refine r_goto (tgt := 37) hG dX7_number_33 (by decide) ?_
                       refine r_put hG cX7_number_X7 0 11 tyX7 tyX7_ok nmX7 rfl rfl (by decide) kX7_number_187 rfl rfl rfl (Nat.le_of_ble_eq_true rfl) dX7_number_37 rfl ?_
                       refine r_aload_n (i := 0) hG dX7_number_40 rfl rfl ?_
                       refine r_get hG cX7_number_X7 0 11 rfl rfl (by decide) kX7_number_187 rfl dX7_number_41 ?_
                       refine r_if_ne (tgt := 51) hG (by omega) dX7_number_44 (by decide) (fun c44 => ?_) (fun c44 => ?_)
                       · first
                           | (exfalso; first | omega | (simp only [decide_eq_true_eq, decide_eq_false_iff_not] at c44; omega))
                           | (refine r_iload_n (i := 3) hG dX7_number_51 rfl rfl ?_
                              exact r_iret hG hE dX7_number_52 rfl rfl)
                       · first
                           | (exfalso; first | omega | (simp only [decide_eq_true_eq, decide_eq_false_iff_not] at c44; omega))
                           | (refine r_aload_n (i := 0) hG dX7_number_47 rfl rfl ?_
                              refine r_callVv hG (c_X7_reads (g_l G) (g_D G) a (Z) K U R C n (tokM (R 2) n p) (tS (R 2) n p) (tE (R 2) n p) (tV (R 2) n p) (0) hB hn (by omega))  gX7_number_X7_reads rfl hyX7_reads rfl (by decide) (by decide) 0 rfl rfl rfl (Nat.le_of_ble_eq_true rfl) ⟨Nat.zero_le _, Nat.zero_le _⟩ dX7_number_48 (fun w hw => ?_)
                              subst hw
                              refine r_iload_n (i := 3) hG dX7_number_51 rfl rfl ?_
                              exact r_iret hG hE dX7_number_52 rfl rfl))))
set_option maxHeartbeats 4000000 in
set_option maxRecDepth 100000 in
theorem c_X7_number_n (l : Launch) (D : va_G) (a : Nat → Nat) (Z K U R : YS) (C : Int → Int64) (n p : Int) (hB : bytesOk (R 2)) (hn : 0 ≤ n ∧ n ≤ 120) (hp : 0 ≤ p ∧ p ≤ n) (bd m : Int) (hbd : bd = 0 ∨ bd = 1) (hm : -1 ≤ m ∧ m ≤ 1000) (h : ¬ (bd = 0 ∧ (tK (R 2) n p) = 2 ∧ (tV (R 2) n p) ≤ m)) : Con l yX7_number wsX7_number 3 D (mwp D a (Z) K U R C n (p) (bd)) [.ref (a 0), .int (iI 0), .int (iI m)] (some (.int (iI (tV (R 2) n p)))) (fun w => w = mwp D a (Z) K U R C n (p) (1)) := by
  refine con_start (own := RX7) (by decide) rfl rfl (Nat.le_of_ble_eq_true rfl) ?_
  intro G hG hE hl hD
  subst hl
  subst hD
  have h1 := tE_rng (B := R 2) hp
  have ht := tokM_rng (R 2) n p
  have hv := tV_rng (R 2) n p
  refine r_aload_n (i := 0) hG dX7_number_0 rfl rfl ?_
  refine r_get hG cX7_number_X7 0 10 rfl rfl (by decide) kX7_number_178 rfl dX7_number_1 ?_
  refine r_istore_n (i := 3) hG dX7_number_4 rfl (by decide) rfl ?_
  refine r_aload_n (i := 0) hG dX7_number_5 rfl rfl ?_
  refine r_aload_n (i := 0) hG dX7_number_6 rfl rfl ?_
  refine r_get hG cX7_number_X7 0 11 rfl rfl (by decide) kX7_number_187 rfl dX7_number_7 ?_
  refine r_if_ne (tgt := 32) hG (by omega) dX7_number_10 (by decide) (fun c10 => ?_) (fun c10 => ?_)
  · refine r_iconst hG dX7_number_32 ?_
    refine r_goto (tgt := 37) hG dX7_number_33 (by decide) ?_
    refine r_put hG cX7_number_X7 0 11 tyX7 tyX7_ok nmX7 rfl rfl (by decide) kX7_number_187 rfl rfl rfl (Nat.le_of_ble_eq_true rfl) dX7_number_37 rfl ?_
    refine r_aload_n (i := 0) hG dX7_number_40 rfl rfl ?_
    refine r_get hG cX7_number_X7 0 11 rfl rfl (by decide) kX7_number_187 rfl dX7_number_41 ?_
    refine r_if_ne (tgt := 51) hG (by omega) dX7_number_44 (by decide) (fun c44 => ?_) (fun c44 => ?_)
    · first
        | (exfalso; first | omega | (simp only [decide_eq_true_eq, decide_eq_false_iff_not] at c44; omega))
        | (refine r_iload_n (i := 3) hG dX7_number_51 rfl rfl ?_
           exact r_iret hG hE dX7_number_52 rfl rfl)
    · first
        | (exfalso; first | omega | (simp only [decide_eq_true_eq, decide_eq_false_iff_not] at c44; omega))
        | (refine r_aload_n (i := 0) hG dX7_number_47 rfl rfl ?_
           refine r_callVv hG (c_X7_reads (g_l G) (g_D G) a (Z) K U R C n (tokM (R 2) n p) (tS (R 2) n p) (tE (R 2) n p) (tV (R 2) n p) (0) hB hn (by omega))  gX7_number_X7_reads rfl hyX7_reads rfl (by decide) (by decide) 0 rfl rfl rfl (Nat.le_of_ble_eq_true rfl) ⟨Nat.zero_le _, Nat.zero_le _⟩ dX7_number_48 (fun w hw => ?_)
           subst hw
           refine r_iload_n (i := 3) hG dX7_number_51 rfl rfl ?_
           exact r_iret hG hE dX7_number_52 rfl rfl)
  · refine r_aload_n (i := 0) hG dX7_number_13 rfl rfl ?_
    refine r_get hG cX7_number_X7 0 7 rfl rfl (by decide) kX7_number_181 rfl dX7_number_14 ?_
    refine r_bipush hG dX7_number_17 rfl ?_
    refine r_icmp_ne (tgt := 32) hG (by omega) (by omega) dX7_number_19 (by decide) (fun c19 => ?_) (fun c19 => ?_)
    · refine r_iconst hG dX7_number_32 ?_
      refine r_goto (tgt := 37) hG dX7_number_33 (by decide) ?_
      refine r_put hG cX7_number_X7 0 11 tyX7 tyX7_ok nmX7 rfl rfl (by decide) kX7_number_187 rfl rfl rfl (Nat.le_of_ble_eq_true rfl) dX7_number_37 rfl ?_
      refine r_aload_n (i := 0) hG dX7_number_40 rfl rfl ?_
      refine r_get hG cX7_number_X7 0 11 rfl rfl (by decide) kX7_number_187 rfl dX7_number_41 ?_
      refine r_if_ne (tgt := 51) hG (by omega) dX7_number_44 (by decide) (fun c44 => ?_) (fun c44 => ?_)
      · first
          | (exfalso; first | omega | (simp only [decide_eq_true_eq, decide_eq_false_iff_not] at c44; omega))
          | (refine r_iload_n (i := 3) hG dX7_number_51 rfl rfl ?_
             exact r_iret hG hE dX7_number_52 rfl rfl)
      · first
          | (exfalso; first | omega | (simp only [decide_eq_true_eq, decide_eq_false_iff_not] at c44; omega))
          | (refine r_aload_n (i := 0) hG dX7_number_47 rfl rfl ?_
             refine r_callVv hG (c_X7_reads (g_l G) (g_D G) a (Z) K U R C n (tokM (R 2) n p) (tS (R 2) n p) (tE (R 2) n p) (tV (R 2) n p) (0) hB hn (by omega))  gX7_number_X7_reads rfl hyX7_reads rfl (by decide) (by decide) 0 rfl rfl rfl (Nat.le_of_ble_eq_true rfl) ⟨Nat.zero_le _, Nat.zero_le _⟩ dX7_number_48 (fun w hw => ?_)
             subst hw
             refine r_iload_n (i := 3) hG dX7_number_51 rfl rfl ?_
             exact r_iret hG hE dX7_number_52 rfl rfl)
    · refine r_iload_n (i := 3) hG dX7_number_22 rfl rfl ?_
      refine r_i2l hG dX7_number_23 ?_
      refine r_iload_n (i := 1) hG dX7_number_24 rfl rfl ?_
      refine r_iload_n (i := 2) hG dX7_number_25 rfl rfl ?_
      refine r_call0i hG (c_X7_inI (g_l G) (g_D G) _ _ _ (by omega) (by omega) (by omega))  gX7_number_X7_in rfl hyX7_in rfl (by decide) (by decide) rfl (Nat.le_of_ble_eq_true rfl) ⟨Nat.zero_le _, Nat.zero_le _⟩ dX7_number_26 ?_
      refine rb_if_ne (tgt := 36) hG dX7_number_29 (by decide) (fun c29 => ?_) (fun c29 => ?_)
      · try simp only [decide_eq_true_eq, decide_eq_false_iff_not] at c29
        (exfalso; omega)
      · try simp only [decide_eq_true_eq, decide_eq_false_iff_not] at c29
        refine r_iconst hG dX7_number_32 ?_
        refine r_goto (tgt := 37) hG dX7_number_33 (by decide) ?_
        refine r_put hG cX7_number_X7 0 11 tyX7 tyX7_ok nmX7 rfl rfl (by decide) kX7_number_187 rfl rfl rfl (Nat.le_of_ble_eq_true rfl) dX7_number_37 rfl ?_
        refine r_aload_n (i := 0) hG dX7_number_40 rfl rfl ?_
        refine r_get hG cX7_number_X7 0 11 rfl rfl (by decide) kX7_number_187 rfl dX7_number_41 ?_
        refine r_if_ne (tgt := 51) hG (by omega) dX7_number_44 (by decide) (fun c44 => ?_) (fun c44 => ?_)
        · first
            | (exfalso; first | omega | (simp only [decide_eq_true_eq, decide_eq_false_iff_not] at c44; omega))
            | (refine r_iload_n (i := 3) hG dX7_number_51 rfl rfl ?_
               exact r_iret hG hE dX7_number_52 rfl rfl)
        · first
            | (exfalso; first | omega | (simp only [decide_eq_true_eq, decide_eq_false_iff_not] at c44; omega))
            | (refine r_aload_n (i := 0) hG dX7_number_47 rfl rfl ?_
               refine r_callVv hG (c_X7_reads (g_l G) (g_D G) a (Z) K U R C n (tokM (R 2) n p) (tS (R 2) n p) (tE (R 2) n p) (tV (R 2) n p) (0) hB hn (by omega))  gX7_number_X7_reads rfl hyX7_reads rfl (by decide) (by decide) 0 rfl rfl rfl (Nat.le_of_ble_eq_true rfl) ⟨Nat.zero_le _, Nat.zero_le _⟩ dX7_number_48 (fun w hw => ?_)
               subst hw
               refine r_iload_n (i := 3) hG dX7_number_51 rfl rfl ?_
               exact r_iret hG hE dX7_number_52 rfl rfl)
theorem hyX7_perhaps : hyV yX7_perhaps RX7 4 := by decide +kernel
set_option maxHeartbeats 4000000 in
set_option maxRecDepth 100000 in
theorem c_X7_perhaps (l : Launch) (D : va_G) (a : Nat → Nat) (Z K U R : YS) (C : Int → Int64) (n p : Int) (hB : bytesOk (R 2)) (hn : 0 ≤ n ∧ n ≤ 120) (hp : 0 ≤ p ∧ p ≤ n) (wd m so : Int) (hw : 0 ≤ wd ∧ wd ≤ 30) (hm : -1 ≤ m ∧ m ≤ 1000) (h : (tokM (R 2) n p) = wd) (h9 : (tK (R 2) n (tE (R 2) n p)) = 2 ∧ (tV (R 2) n (tE (R 2) n p)) ≤ m) : Con l yX7_perhaps wsX7_perhaps 4 D (mwp D a (Z) K U R C n (p) (0)) [.ref (a 0), .int (iI wd), .int (iI 0), .int (iI m), .int (iI so)] (some (.int (iI (tV (R 2) n (tE (R 2) n p))))) (fun w => w = mwp D a (Z) K U R C n ((tE (R 2) n (tE (R 2) n p))) (0)) := by
  refine con_start (own := RX7) (by decide) rfl rfl (Nat.le_of_ble_eq_true rfl) ?_
  intro G hG hE hl hD
  subst hl
  subst hD
  have h1 := tE_rng (B := R 2) hp
  have ht := tokM_rng (R 2) n p
  have hv := tV_rng (R 2) n p
  have h2 := tE_rng (B := R 2) (n := n) (p := tE (R 2) n p) (by omega)
  refine r_aload_n (i := 0) hG dX7_perhaps_0 rfl rfl ?_
  refine r_iload_n (i := 1) hG dX7_perhaps_1 rfl rfl ?_
  refine r_callVi hG (c_X7_passes (g_l G) (g_D G) a (Z) K U R C n p hB hn (by omega) wd (by omega) (by omega))  gX7_perhaps_X7_passes rfl hyX7_passes rfl (by decide) (by decide) 0 rfl rfl rfl (Nat.le_of_ble_eq_true rfl) ⟨Nat.zero_le _, Nat.zero_le _⟩ dX7_perhaps_2 ?_
  intro w hw
  subst hw
  refine V_top (x' := iI 1) rfl ?_
  refine r_if_eq (tgt := 17) hG (by omega) dX7_perhaps_5 (by decide) (fun c5 => ?_) (fun c5 => ?_)
  · first
      | (exfalso; omega)
      | (refine r_iload hG dX7_perhaps_17 rfl ?_
         exact r_iret hG hE dX7_perhaps_19 rfl rfl)
  · first
      | (exfalso; omega)
      | (refine r_aload_n (i := 0) hG dX7_perhaps_8 rfl rfl ?_
         refine r_iload_n (i := 2) hG dX7_perhaps_9 rfl rfl ?_
         refine r_iload_n (i := 3) hG dX7_perhaps_10 rfl rfl ?_
         refine r_callVi hG (c_X7_number (g_l G) (g_D G) a (Z) K U R C n (tE (R 2) n p) hB hn (by omega) m (by omega) (by omega))  gX7_perhaps_X7_number rfl hyX7_number rfl (by decide) (by decide) 0 rfl rfl rfl (Nat.le_of_ble_eq_true rfl) ⟨Nat.zero_le _, Nat.zero_le _⟩ dX7_perhaps_11 (fun w hw => ?_)
         subst hw
         refine r_goto (tgt := 19) hG dX7_perhaps_14 (by decide) ?_
         exact r_iret hG hE dX7_perhaps_19 rfl rfl)
set_option maxHeartbeats 4000000 in
set_option maxRecDepth 100000 in
theorem c_X7_perhaps_b (l : Launch) (D : va_G) (a : Nat → Nat) (Z K U R : YS) (C : Int → Int64) (n p : Int) (hB : bytesOk (R 2)) (hn : 0 ≤ n ∧ n ≤ 120) (hp : 0 ≤ p ∧ p ≤ n) (wd m so : Int) (hw : 0 ≤ wd ∧ wd ≤ 30) (hm : -1 ≤ m ∧ m ≤ 1000) (h : (tokM (R 2) n p) = wd) (h9 : ¬ ((tK (R 2) n (tE (R 2) n p)) = 2 ∧ (tV (R 2) n (tE (R 2) n p)) ≤ m)) : Con l yX7_perhaps wsX7_perhaps 4 D (mwp D a (Z) K U R C n (p) (0)) [.ref (a 0), .int (iI wd), .int (iI 0), .int (iI m), .int (iI so)] (some (.int (iI (tV (R 2) n (tE (R 2) n p))))) (fun w => w = mwp D a (Z) K U R C n ((tE (R 2) n p)) (1)) := by
  refine con_start (own := RX7) (by decide) rfl rfl (Nat.le_of_ble_eq_true rfl) ?_
  intro G hG hE hl hD
  subst hl
  subst hD
  have h1 := tE_rng (B := R 2) hp
  have ht := tokM_rng (R 2) n p
  have hv := tV_rng (R 2) n p
  have h2 := tE_rng (B := R 2) (n := n) (p := tE (R 2) n p) (by omega)
  refine r_aload_n (i := 0) hG dX7_perhaps_0 rfl rfl ?_
  refine r_iload_n (i := 1) hG dX7_perhaps_1 rfl rfl ?_
  refine r_callVi hG (c_X7_passes (g_l G) (g_D G) a (Z) K U R C n p hB hn (by omega) wd (by omega) (by omega))  gX7_perhaps_X7_passes rfl hyX7_passes rfl (by decide) (by decide) 0 rfl rfl rfl (Nat.le_of_ble_eq_true rfl) ⟨Nat.zero_le _, Nat.zero_le _⟩ dX7_perhaps_2 ?_
  intro w hw
  subst hw
  refine V_top (x' := iI 1) rfl ?_
  refine r_if_eq (tgt := 17) hG (by omega) dX7_perhaps_5 (by decide) (fun c5 => ?_) (fun c5 => ?_)
  · first
      | (exfalso; omega)
      | (refine r_iload hG dX7_perhaps_17 rfl ?_
         exact r_iret hG hE dX7_perhaps_19 rfl rfl)
  · first
      | (exfalso; omega)
      | (refine r_aload_n (i := 0) hG dX7_perhaps_8 rfl rfl ?_
         refine r_iload_n (i := 2) hG dX7_perhaps_9 rfl rfl ?_
         refine r_iload_n (i := 3) hG dX7_perhaps_10 rfl rfl ?_
         refine r_callVi hG (c_X7_number_n (g_l G) (g_D G) a (Z) K U R C n (tE (R 2) n p) hB hn (by omega) (0) m (by omega) (by omega) (by omega))  gX7_perhaps_X7_number rfl hyX7_number rfl (by decide) (by decide) 0 rfl rfl rfl (Nat.le_of_ble_eq_true rfl) ⟨Nat.zero_le _, Nat.zero_le _⟩ dX7_perhaps_11 (fun w hw => ?_)
         subst hw
         refine r_goto (tgt := 19) hG dX7_perhaps_14 (by decide) ?_
         exact r_iret hG hE dX7_perhaps_19 rfl rfl)
set_option maxHeartbeats 4000000 in
set_option maxRecDepth 100000 in
theorem c_X7_perhaps_c (l : Launch) (D : va_G) (a : Nat → Nat) (Z K U R : YS) (C : Int → Int64) (n p : Int) (hB : bytesOk (R 2)) (hn : 0 ≤ n ∧ n ≤ 120) (hp : 0 ≤ p ∧ p ≤ n) (bd wd m so : Int) (hbd : bd = 0 ∨ bd = 1) (hw : 0 ≤ wd ∧ wd ≤ 30) (h : ¬ (bd = 0 ∧ (tokM (R 2) n p) = wd)) : Con l yX7_perhaps wsX7_perhaps 4 D (mwp D a (Z) K U R C n (p) (bd)) [.ref (a 0), .int (iI wd), .int (iI 0), .int (iI m), .int (iI so)] (some (.int (iI so))) (fun w => w = mwp D a (Z) K U R C n (p) (bd)) := by
  refine con_start (own := RX7) (by decide) rfl rfl (Nat.le_of_ble_eq_true rfl) ?_
  intro G hG hE hl hD
  subst hl
  subst hD
  have h1 := tE_rng (B := R 2) hp
  have ht := tokM_rng (R 2) n p
  have hv := tV_rng (R 2) n p
  refine r_aload_n (i := 0) hG dX7_perhaps_0 rfl rfl ?_
  refine r_iload_n (i := 1) hG dX7_perhaps_1 rfl rfl ?_
  refine r_callVi hG (c_X7_passes_n (g_l G) (g_D G) a (Z) K U R C n p hB hn (by omega) (bd) wd (by omega) (by omega) (by omega))  gX7_perhaps_X7_passes rfl hyX7_passes rfl (by decide) (by decide) 0 rfl rfl rfl (Nat.le_of_ble_eq_true rfl) ⟨Nat.zero_le _, Nat.zero_le _⟩ dX7_perhaps_2 ?_
  intro w hw
  subst hw
  refine V_top (x' := iI 0) rfl ?_
  refine r_if_eq (tgt := 17) hG (by omega) dX7_perhaps_5 (by decide) (fun c5 => ?_) (fun c5 => ?_)
  · first
      | (exfalso; omega)
      | (refine r_iload hG dX7_perhaps_17 rfl ?_
         exact r_iret hG hE dX7_perhaps_19 rfl rfl)
  · first
      | (exfalso; omega)
      | ((exfalso; omega))
