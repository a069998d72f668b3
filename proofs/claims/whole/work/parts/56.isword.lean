theorem kX3_isWord_19 : Cond.fieldLink RX3 19 "BreakSwaps$Tape" "token" "I" ∈ wsX3_isWord := List.mem_of_getElem? (i := 1) rfl
theorem kX3_isWord_25 : Cond.fieldLink RX3 25 "BreakSwaps$Tape" "end" "I" ∈ wsX3_isWord := List.mem_of_getElem? (i := 2) rfl
theorem kX3_isWord_22 : Cond.fieldLink RX3 22 "BreakSwaps$Tape" "start" "I" ∈ wsX3_isWord := List.mem_of_getElem? (i := 3) rfl
theorem kX3_isWord_9 : Cond.fieldLink RX3 9 "BreakSwaps$Tape" "bytes" "[I" ∈ wsX3_isWord := List.mem_of_getElem? (i := 4) rfl
theorem cX3_isWord_X3 : ∀ w ∈ wsX30, w ∈ wsX3_isWord := fun _ h => List.mem_cons_of_mem _ (List.mem_append_right _ h)
theorem hyX3_isWord : hyV yX3_isWord RX3 1 := by decide +kernel
set_option maxHeartbeats 4000000 in
set_option maxRecDepth 100000 in
theorem c_X3_isWord (l : Launch) (D : va_G) (a : Nat → Nat) (B : Int → Int) (n tk st en va : Int) (hB : bytesOk B) (hn : 0 ≤ n ∧ n ≤ 120) (hk : 0 ≤ tk ∧ tk ≤ 4) (hst : 0 ≤ st ∧ st ≤ en ∧ en ≤ n) (i : Nat) (hi : i < 11) : Con l yX3_isWord wsX3_isWord 4 D (tapew D a B n tk st en va) [.ref (a 0), .ref (D.2 200 i)] (some (.int (iI (b2 (decide (tk = 1) && decide (matchP B st en i)))))) (fun w => w = tapew D a B n tk st en va) := by
  refine con_start (own := RX3) (by decide) rfl rfl (Nat.le_of_ble_eq_true rfl) ?_
  intro G hG hE hl hD
  subst hl
  subst hD
  have h7 := sl_le ⟨i, hi⟩
  dsimp only at h7
  have L : tk = 1 → ((sLen.getD i 0 : Nat) : Int) = en - st → ∀ j : Nat, j ≤ sLen.getD i 0 → (∀ k : Nat, k < j → sbI i k = B (st + k)) → V G 0 0 (tapew (g_D G) a B n tk st en va) 28 [(0, .ref (a 0)), (1, .ref ((g_D G).2 200 i)), (2, .int (iI (j : Int)))] [] := by
    intro h1 h2
    refine down (fun j hj ih hf => ?_)
    have hbB : j < sLen.getD i 0 → 0 ≤ B (st + j) ∧ B (st + j) ≤ 255 := fun h => hB _ (by omega) (by omega)
    have hsb : j < sLen.getD i 0 → 0 ≤ sbI i j ∧ sbI i j ≤ 255 := fun h => sb_r ⟨i, hi⟩ ⟨j, by omega⟩
    refine r_iload_n (i := 2) hG dX3_isWord_28 rfl rfl ?_
    refine r_aload_n (i := 1) hG dX3_isWord_29 rfl rfl ?_
    refine r_call0Vi hG hi (c_J0_length_8abf5 (g_l G) (g_D G) i hi) gX3_isWord_J0_length_8abf5 rfl hyJ0_length_8abf5 rfl (by decide) (by decide) rfl (Nat.le_of_ble_eq_true rfl) ⟨Nat.zero_le _, Nat.zero_le _⟩ dX3_isWord_30 ?_
    refine r_icmp_ge (tgt := 63) hG (by omega) (by omega) dX3_isWord_33 (by decide) (fun c33 => ?_) (fun c33 => ?_)
    · refine r_iconst hG dX3_isWord_63 ?_
      have ej : j = sLen.getD i 0 := by omega
      subst ej
      exact r_zret hG hE dX3_isWord_64 (by rw [decide_eq_true h1, decide_eq_true (p := matchP B st en i) ⟨h2, hf⟩]; rfl) rfl
    · refine r_aload_n (i := 1) hG dX3_isWord_36 rfl rfl ?_
      refine r_iload_n (i := 2) hG dX3_isWord_37 rfl rfl ?_
      refine r_call0Vi hG hi (c_J0_charAt_5068e (g_l G) (g_D G) i (j : Int) hi (by omega)) gX3_isWord_J0_charAt_5068e rfl hyJ0_charAt_5068e rfl (by decide) (by decide) rfl (Nat.le_of_ble_eq_true rfl) ⟨Nat.zero_le _, Nat.zero_le _⟩ dX3_isWord_38 ?_
      refine V_top (x' := iI (sbI i j)) rfl ?_
      refine r_aload_n (i := 0) hG dX3_isWord_41 rfl rfl ?_
      refine r_get hG cX3_isWord_X3 0 0 rfl rfl (by decide) kX3_isWord_9 rfl dX3_isWord_42 ?_
      refine r_aload_n (i := 0) hG dX3_isWord_45 rfl rfl ?_
      refine r_get hG cX3_isWord_X3 0 3 rfl rfl (by decide) kX3_isWord_22 rfl dX3_isWord_46 ?_
      refine r_iload_n (i := 2) hG dX3_isWord_49 rfl rfl ?_
      refine r_iadd hG dX3_isWord_50 ?_
      refine r_iald hG 1 rfl (by omega) (by decide) dX3_isWord_51 ?_
      refine r_icmp_eq (tgt := 57) hG (by have := hsb (by omega); omega) (by have := hbB (by omega); omega) dX3_isWord_52 (by decide) (fun c52 => ?_) (fun c52 => ?_)
      · refine r_iinc hG dX3_isWord_57 rfl (by decide) rfl ?_
        refine r_goto (tgt := 28) hG dX3_isWord_60 (by decide) ?_
        exact V_lv (ih (by omega) (fun k hk => by
          by_cases e : k = j
          · subst e; exact c52
          · exact hf k (by omega))) ⟨rfl, rfl, rfl, trivial⟩
      · refine r_iconst hG dX3_isWord_55 ?_
        exact r_zret hG hE dX3_isWord_56 (by rw [decide_eq_false (p := matchP B st en i) (fun h => c52 (h.2 j (by omega))), Bool.and_false]; rfl) rfl
  refine r_aload_n (i := 0) hG dX3_isWord_0 rfl rfl ?_
  refine r_get hG cX3_isWord_X3 0 2 rfl rfl (by decide) kX3_isWord_19 rfl dX3_isWord_1 ?_
  refine r_iconst hG dX3_isWord_4 ?_
  refine r_icmp_ne (tgt := 24) hG (by omega) (by omega) dX3_isWord_5 (by decide) (fun c5 => ?_) (fun c5 => ?_)
  · refine r_iconst hG dX3_isWord_24 ?_
    first
      | exact r_zret hG hE dX3_isWord_25 (by rw [decide_eq_false (show ¬ tk = 1 by omega)]; rfl) rfl
      | exact r_zret hG hE dX3_isWord_25 (by rw [decide_eq_false (p := matchP B st en i) (fun h => c21 h.1), Bool.and_false]; rfl) rfl
  · refine r_aload_n (i := 1) hG dX3_isWord_8 rfl rfl ?_
    refine r_call0Vi hG hi (c_J0_length_8abf5 (g_l G) (g_D G) i hi) gX3_isWord_J0_length_8abf5 rfl hyJ0_length_8abf5 rfl (by decide) (by decide) rfl (Nat.le_of_ble_eq_true rfl) ⟨Nat.zero_le _, Nat.zero_le _⟩ dX3_isWord_9 ?_
    refine r_aload_n (i := 0) hG dX3_isWord_12 rfl rfl ?_
    refine r_get hG cX3_isWord_X3 0 4 rfl rfl (by decide) kX3_isWord_25 rfl dX3_isWord_13 ?_
    refine r_aload_n (i := 0) hG dX3_isWord_16 rfl rfl ?_
    refine r_get hG cX3_isWord_X3 0 3 rfl rfl (by decide) kX3_isWord_22 rfl dX3_isWord_17 ?_
    refine r_isub hG dX3_isWord_20 ?_
    refine r_icmp_eq (tgt := 26) hG (by omega) (by omega) dX3_isWord_21 (by decide) (fun c21 => ?_) (fun c21 => ?_)
    · refine r_iconst hG dX3_isWord_26 ?_
      refine r_istore_n (i := 2) hG dX3_isWord_27 rfl (by decide) rfl ?_
      exact V_lv (L (by omega) (by omega) 0 (by omega) (fun k hk => absurd hk (by omega))) ⟨rfl, rfl, rfl, trivial⟩
    · refine r_iconst hG dX3_isWord_24 ?_
      first
        | exact r_zret hG hE dX3_isWord_25 (by rw [decide_eq_false (show ¬ tk = 1 by omega)]; rfl) rfl
        | exact r_zret hG hE dX3_isWord_25 (by rw [decide_eq_false (p := matchP B st en i) (fun h => c21 h.1), Bool.and_false]; rfl) rfl
