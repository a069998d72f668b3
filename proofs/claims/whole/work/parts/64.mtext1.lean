theorem kX7_isByte_159 : Cond.fieldLink RX7 159 "BreakSwapsModel" "taped" "I" ∈ wsX7_isByte := List.mem_of_getElem? (i := 1) rfl
theorem kX7_isByte_22 : Cond.fieldLink RX7 22 "BreakSwapsModel" "tape" "[I" ∈ wsX7_isByte := List.mem_of_getElem? (i := 2) rfl
theorem cX7_isByte_X7 : ∀ w ∈ wsX70, w ∈ wsX7_isByte := fun _ h => List.mem_cons_of_mem _ (List.mem_append_right _ h)
theorem hyX7_isByte : hyV yX7_isByte RX7 3 := by decide +kernel
set_option maxHeartbeats 4000000 in
set_option maxRecDepth 100000 in
theorem c_X7_isByte (l : Launch) (D : va_G) (a : Nat → Nat) (Z K U R : YS) (C : Int → Int64) (n tk bg at_ va bd : Int) (hB : bytesOk (R 2)) (hn : 0 ≤ n ∧ n ≤ 120) (k lo hi : Int) (hk : 0 ≤ k ∧ k ≤ 120) (hl : 0 ≤ lo ∧ lo ≤ 255) (hh : 0 ≤ hi ∧ hi ≤ 255) : Con l yX7_isByte wsX7_isByte 1 D (mwt D a (Z) K U R C (n) (tk) (bg) (at_) (va) (bd)) [.ref (a 0), .int (iI k), .int (iI lo), .int (iI hi)] (some (.int (iI (b2 (decide (k < n ∧ lo ≤ R 2 k ∧ R 2 k ≤ hi)))))) (fun w => w = mwt D a (Z) K U R C (n) (tk) (bg) (at_) (va) (bd)) := by
  refine con_start (own := RX7) (by decide) rfl rfl (Nat.le_of_ble_eq_true rfl) ?_
  intro G hG hE hl hD
  subst hl
  subst hD
  have hb := fun h : k < n => hB k hk.1 (by omega)
  refine r_iload_n (i := 1) hG dX7_isByte_0 rfl rfl ?_
  refine r_aload_n (i := 0) hG dX7_isByte_1 rfl rfl ?_
  refine r_get hG cX7_isByte_X7 0 6 rfl rfl (by decide) kX7_isByte_159 rfl dX7_isByte_2 ?_
  refine r_icmp_ge (tgt := 27) hG (by omega) (by omega) dX7_isByte_5 (by decide) (fun c5 => ?_) (fun c5 => ?_)
  · refine r_iconst hG dX7_isByte_27 ?_
    first
      | exact r_zret hG hE dX7_isByte_28 (by rw [decide_eq_true (p := k < n ∧ lo ≤ R 2 k ∧ R 2 k ≤ hi) (by omega)]; rfl) rfl
      | exact r_zret hG hE dX7_isByte_28 (by rw [decide_eq_false (p := k < n ∧ lo ≤ R 2 k ∧ R 2 k ≤ hi) (by omega)]; rfl) rfl
  · refine r_aload_n (i := 0) hG dX7_isByte_8 rfl rfl ?_
    refine r_get hG cX7_isByte_X7 0 5 rfl rfl (by decide) kX7_isByte_22 rfl dX7_isByte_9 ?_
    refine r_iload_n (i := 1) hG dX7_isByte_12 rfl rfl ?_
    refine r_iald hG 5 rfl (by omega) (by decide) dX7_isByte_13 ?_
    refine r_i2l hG dX7_isByte_14 ?_
    refine r_iload_n (i := 2) hG dX7_isByte_15 rfl rfl ?_
    refine r_iload_n (i := 3) hG dX7_isByte_16 rfl rfl ?_
    refine r_call0i hG (c_X7_inI (g_l G) (g_D G) _ _ _ (by have := hb (by omega); omega) (by omega) (by omega))  gX7_isByte_X7_in rfl hyX7_in rfl (by decide) (by decide) rfl (Nat.le_of_ble_eq_true rfl) ⟨Nat.zero_le _, Nat.zero_le _⟩ dX7_isByte_17 ?_
    refine rb_if_eq (tgt := 27) hG dX7_isByte_20 (by decide) (fun c20 => ?_) (fun c20 => ?_)
    · try simp only [decide_eq_true_eq, decide_eq_false_iff_not] at c20
      refine r_iconst hG dX7_isByte_27 ?_
      first
        | exact r_zret hG hE dX7_isByte_28 (by rw [decide_eq_true (p := k < n ∧ lo ≤ R 2 k ∧ R 2 k ≤ hi) (by omega)]; rfl) rfl
        | exact r_zret hG hE dX7_isByte_28 (by rw [decide_eq_false (p := k < n ∧ lo ≤ R 2 k ∧ R 2 k ≤ hi) (by omega)]; rfl) rfl
    · try simp only [decide_eq_true_eq, decide_eq_false_iff_not] at c20
      refine r_iconst hG dX7_isByte_23 ?_
      refine r_goto (tgt := 28) hG dX7_isByte_24 (by decide) ?_
      first
        | exact r_zret hG hE dX7_isByte_28 (by rw [decide_eq_true (p := k < n ∧ lo ≤ R 2 k ∧ R 2 k ≤ hi) (by omega)]; rfl) rfl
        | exact r_zret hG hE dX7_isByte_28 (by rw [decide_eq_false (p := k < n ∧ lo ≤ R 2 k ∧ R 2 k ≤ hi) (by omega)]; rfl) rfl
theorem kX7_isName_163 : Cond.fieldLink RX7 163 "BreakSwapsModel" "NAMES" "[I" ∈ wsX7_isName := List.mem_of_getElem? (i := 1) rfl
theorem kX7_isName_22 : Cond.fieldLink RX7 22 "BreakSwapsModel" "tape" "[I" ∈ wsX7_isName := List.mem_of_getElem? (i := 2) rfl
theorem kX7_isName_166 : Cond.fieldLink RX7 166 "BreakSwapsModel" "begin" "I" ∈ wsX7_isName := List.mem_of_getElem? (i := 3) rfl
theorem cX7_isName_X7 : ∀ w ∈ wsX70, w ∈ wsX7_isName := fun _ h => List.mem_cons_of_mem _ (List.mem_append_right _ h)
theorem hyX7_isName : hyV yX7_isName RX7 2 := by decide +kernel
set_option maxHeartbeats 4000000 in
set_option maxRecDepth 100000 in
theorem c_X7_isName (l : Launch) (D : va_G) (a : Nat → Nat) (Z K U R : YS) (C : Int → Int64) (n tk bg at_ va bd : Int) (hB : bytesOk (R 2)) (hn : 0 ≤ n ∧ n ≤ 120) (w L : Nat) (hw : w < 11) (hb : 0 ≤ bg ∧ bg + L ≤ 120) : Con l yX7_isName wsX7_isName 0 D (mwt D a (Z) K U R C (n) (tk) (bg) (at_) (va) (bd)) [.ref (a 0), .int (iI (w : Int)), .int (iI (L : Int))] (some (.int (iI (b2 (decide (nmP (R 2) bg w L)))))) (fun ww => ww = mwt D a (Z) K U R C (n) (tk) (bg) (at_) (va) (bd)) := by
  refine con_start (own := RX7) (by decide) rfl rfl (Nat.le_of_ble_eq_true rfl) ?_
  intro G hG hE hl hD
  subst hl
  subst hD
  have hx : L ≤ 7 → (7 * (w : Int) + (L : Int)).toNat = 7 * w + L := fun _ => by omega
  have M : ∀ k : Nat, k ≤ L → ∀ s : Bool, (s = true → (L ≤ 7 ∧ (L = 7 ∨ nms (7 * w + L) = 0)) ∧ ∀ j : Nat, j < k → nms (7 * w + j) = R 2 (bg + j)) → (s = false → ¬ nmP (R 2) bg w L) → V G 0 0 (mwt (g_D G) a (Z) K U R C (n) (tk) (bg) (at_) (va) (bd)) 34 [(0, .ref (a 0)), (1, .int (iI (w : Int))), (2, .int (iI (L : Int))), (3, .int (iI (b2 s))), (4, .int (iI (k : Int)))] [] := by
    refine down (fun k hk ih s hs1 hs2 => ?_)
    have hbr := fun h : k < L => hB (bg + k) (by omega) (by omega)
    have hnr := nms_rng (7 * (w : Int) + (k : Int)).toNat
    have hkx : (7 * (w : Int) + (k : Int)).toNat = 7 * w + k := by omega
    have J76 : k < L → ∀ s2 : Bool, s = true → s2 = decide (nms (7 * (w : Int) + (k : Int)).toNat = R 2 (bg + k)) → V G 0 0 (mwt (g_D G) a (Z) K U R C (n) (tk) (bg) (at_) (va) (bd)) 76 [(0, .ref (a 0)), (1, .int (iI (w : Int))), (2, .int (iI (L : Int))), (3, .int (iI (b2 s2))), (4, .int (iI (k : Int)))] [] := by
      intro hkL s2 hst hs
      have ih2 := ih hkL s2 (fun h => ⟨(hs1 hst).1, fun j hj => by
        by_cases e : j = k
        · subst e
          rw [hs, hkx] at h
          exact of_decide_eq_true h
        · exact (hs1 hst).2 j (by omega)⟩) (fun h hn => by
        rw [hs, hkx] at h
        exact of_decide_eq_false h (hn.2 k hkL))
      refine r_iinc hG dX7_isName_76 rfl (by decide) rfl ?_
      refine r_goto (tgt := 34) hG dX7_isName_79 (by decide) ?_
      exact V_lv ih2 ⟨rfl, rfl, rfl, rfl, rfl, trivial⟩
    refine r_iload hG dX7_isName_34 rfl ?_
    refine r_iload_n (i := 2) hG dX7_isName_36 rfl rfl ?_
    refine r_icmp_ge (tgt := 82) hG (by omega) (by omega) dX7_isName_37 (by decide) (fun c37 => ?_) (fun c37 => ?_)
    · refine r_iload_n (i := 3) hG dX7_isName_82 rfl rfl ?_
      first
        | exact r_zret hG hE dX7_isName_83 (congrArg (fun z => iI (b2 z)) (by rw [c41]; exact (decide_eq_false (hs2 c41)).symm)) rfl
        | (cases s with
           | true => exact r_zret hG hE dX7_isName_83 (congrArg (fun z => iI (b2 z)) (decide_eq_true (p := nmP (R 2) bg w L) ⟨(hs1 rfl).1, fun j hj => (hs1 rfl).2 j (by omega)⟩).symm) rfl
           | false => exact r_zret hG hE dX7_isName_83 (congrArg (fun z => iI (b2 z)) (decide_eq_false (hs2 rfl)).symm) rfl)
    · refine r_iload_n (i := 3) hG dX7_isName_40 rfl rfl ?_
      refine rb_if_eq (tgt := 82) hG dX7_isName_41 (by decide) (fun c41 => ?_) (fun c41 => ?_)
      · refine r_iload_n (i := 3) hG dX7_isName_82 rfl rfl ?_
        first
          | exact r_zret hG hE dX7_isName_83 (congrArg (fun z => iI (b2 z)) (by rw [c41]; exact (decide_eq_false (hs2 c41)).symm)) rfl
          | (cases s with
             | true => exact r_zret hG hE dX7_isName_83 (congrArg (fun z => iI (b2 z)) (decide_eq_true (p := nmP (R 2) bg w L) ⟨(hs1 rfl).1, fun j hj => (hs1 rfl).2 j (by omega)⟩).symm) rfl
             | false => exact r_zret hG hE dX7_isName_83 (congrArg (fun z => iI (b2 z)) (decide_eq_false (hs2 rfl)).symm) rfl)
      · refine r_gets hG hG.sp.1.2.1 kX7_isName_163 dX7_isName_44 ?_
        refine r_bipush hG dX7_isName_47 rfl ?_
        refine r_iload_n (i := 1) hG dX7_isName_49 rfl rfl ?_
        refine r_imul hG dX7_isName_50 ?_
        refine r_iload hG dX7_isName_51 rfl ?_
        refine r_iadd hG dX7_isName_53 ?_
        refine r_ti hG hG.sp.1.2.2 (by have := (hs1 c41).1.1; omega) (by decide) dX7_isName_54 ?_
        refine r_aload_n (i := 0) hG dX7_isName_55 rfl rfl ?_
        refine r_get hG cX7_isName_X7 0 5 rfl rfl (by decide) kX7_isName_22 rfl dX7_isName_56 ?_
        refine r_aload_n (i := 0) hG dX7_isName_59 rfl rfl ?_
        refine r_get hG cX7_isName_X7 0 8 rfl rfl (by decide) kX7_isName_166 rfl dX7_isName_60 ?_
        refine r_iload hG dX7_isName_63 rfl ?_
        refine r_iadd hG dX7_isName_65 ?_
        refine r_iald hG 5 rfl (by omega) (by decide) dX7_isName_66 ?_
        refine r_icmp_ne (tgt := 74) hG (by omega) (by have := hbr (by omega); omega) dX7_isName_67 (by decide) (fun c67 => ?_) (fun c67 => ?_)
        · refine r_iconst hG dX7_isName_74 ?_
          refine r_istore_n (i := 3) hG dX7_isName_75 rfl (by decide) rfl ?_
          first
            | exact V_lv (J76 (by omega) true c41 (decide_eq_true (by omega)).symm) ⟨rfl, rfl, rfl, rfl, rfl, trivial⟩
            | exact V_lv (J76 (by omega) false c41 (decide_eq_false (by omega)).symm) ⟨rfl, rfl, rfl, rfl, rfl, trivial⟩
        · refine r_iconst hG dX7_isName_70 ?_
          refine r_goto (tgt := 75) hG dX7_isName_71 (by decide) ?_
          refine r_istore_n (i := 3) hG dX7_isName_75 rfl (by decide) rfl ?_
          first
            | exact V_lv (J76 (by omega) true c41 (decide_eq_true (by omega)).symm) ⟨rfl, rfl, rfl, rfl, rfl, trivial⟩
            | exact V_lv (J76 (by omega) false c41 (decide_eq_false (by omega)).symm) ⟨rfl, rfl, rfl, rfl, rfl, trivial⟩
  refine r_iload_n (i := 2) hG dX7_isName_0 rfl rfl ?_
  refine r_bipush hG dX7_isName_1 rfl ?_
  refine r_icmp_gt (tgt := 29) hG (by omega) (by omega) dX7_isName_3 (by decide) (fun c3 => ?_) (fun c3 => ?_)
  · refine r_iconst hG dX7_isName_29 ?_
    refine r_istore_n (i := 3) hG dX7_isName_30 rfl (by decide) rfl ?_
    refine r_iconst hG dX7_isName_31 ?_
    refine r_istore hG dX7_isName_32 (by decide) rfl ?_
    first
      | exact V_lv (M 0 (by omega) true (fun _ => ⟨by have := hx; omega, fun j hj => absurd hj (by omega)⟩) (fun h => by cases h)) ⟨rfl, rfl, rfl, rfl, rfl, trivial⟩
      | exact V_lv (M 0 (by omega) true (fun _ => ⟨⟨by omega, Or.inr (by rw [← hx (by omega)]; exact c22)⟩, fun j hj => absurd hj (by omega)⟩) (fun h => by cases h)) ⟨rfl, rfl, rfl, rfl, rfl, trivial⟩
      | exact V_lv (M 0 (by omega) false (fun h => by cases h) (fun _ hn => by have := hn.1.1; omega)) ⟨rfl, rfl, rfl, rfl, rfl, trivial⟩
      | exact V_lv (M 0 (by omega) false (fun h => by cases h) (fun _ hn => by have h5 := hn.1.2; rw [← hx (by omega)] at h5; omega)) ⟨rfl, rfl, rfl, rfl, rfl, trivial⟩
  · refine r_iload_n (i := 2) hG dX7_isName_6 rfl rfl ?_
    refine r_bipush hG dX7_isName_7 rfl ?_
    refine r_icmp_eq (tgt := 25) hG (by omega) (by omega) dX7_isName_9 (by decide) (fun c9 => ?_) (fun c9 => ?_)
    · refine r_iconst hG dX7_isName_25 ?_
      refine r_goto (tgt := 30) hG dX7_isName_26 (by decide) ?_
      refine r_istore_n (i := 3) hG dX7_isName_30 rfl (by decide) rfl ?_
      refine r_iconst hG dX7_isName_31 ?_
      refine r_istore hG dX7_isName_32 (by decide) rfl ?_
      first
        | exact V_lv (M 0 (by omega) true (fun _ => ⟨by have := hx; omega, fun j hj => absurd hj (by omega)⟩) (fun h => by cases h)) ⟨rfl, rfl, rfl, rfl, rfl, trivial⟩
        | exact V_lv (M 0 (by omega) true (fun _ => ⟨⟨by omega, Or.inr (by rw [← hx (by omega)]; exact c22)⟩, fun j hj => absurd hj (by omega)⟩) (fun h => by cases h)) ⟨rfl, rfl, rfl, rfl, rfl, trivial⟩
        | exact V_lv (M 0 (by omega) false (fun h => by cases h) (fun _ hn => by have := hn.1.1; omega)) ⟨rfl, rfl, rfl, rfl, rfl, trivial⟩
        | exact V_lv (M 0 (by omega) false (fun h => by cases h) (fun _ hn => by have h5 := hn.1.2; rw [← hx (by omega)] at h5; omega)) ⟨rfl, rfl, rfl, rfl, rfl, trivial⟩
    · refine r_gets hG hG.sp.1.2.1 kX7_isName_163 dX7_isName_12 ?_
      refine r_bipush hG dX7_isName_15 rfl ?_
      refine r_iload_n (i := 1) hG dX7_isName_17 rfl rfl ?_
      refine r_imul hG dX7_isName_18 ?_
      refine r_iload_n (i := 2) hG dX7_isName_19 rfl rfl ?_
      refine r_iadd hG dX7_isName_20 ?_
      refine r_ti hG hG.sp.1.2.2 (by omega) (by decide) dX7_isName_21 ?_
      refine r_if_ne (tgt := 29) hG (by have := nms_rng (7 * (w : Int) + (L : Int)).toNat; omega) dX7_isName_22 (by decide) (fun c22 => ?_) (fun c22 => ?_)
      · refine r_iconst hG dX7_isName_29 ?_
        refine r_istore_n (i := 3) hG dX7_isName_30 rfl (by decide) rfl ?_
        refine r_iconst hG dX7_isName_31 ?_
        refine r_istore hG dX7_isName_32 (by decide) rfl ?_
        first
          | exact V_lv (M 0 (by omega) true (fun _ => ⟨by have := hx; omega, fun j hj => absurd hj (by omega)⟩) (fun h => by cases h)) ⟨rfl, rfl, rfl, rfl, rfl, trivial⟩
          | exact V_lv (M 0 (by omega) true (fun _ => ⟨⟨by omega, Or.inr (by rw [← hx (by omega)]; exact c22)⟩, fun j hj => absurd hj (by omega)⟩) (fun h => by cases h)) ⟨rfl, rfl, rfl, rfl, rfl, trivial⟩
          | exact V_lv (M 0 (by omega) false (fun h => by cases h) (fun _ hn => by have := hn.1.1; omega)) ⟨rfl, rfl, rfl, rfl, rfl, trivial⟩
          | exact V_lv (M 0 (by omega) false (fun h => by cases h) (fun _ hn => by have h5 := hn.1.2; rw [← hx (by omega)] at h5; omega)) ⟨rfl, rfl, rfl, rfl, rfl, trivial⟩
      · refine r_iconst hG dX7_isName_25 ?_
        refine r_goto (tgt := 30) hG dX7_isName_26 (by decide) ?_
        refine r_istore_n (i := 3) hG dX7_isName_30 rfl (by decide) rfl ?_
        refine r_iconst hG dX7_isName_31 ?_
        refine r_istore hG dX7_isName_32 (by decide) rfl ?_
        first
          | exact V_lv (M 0 (by omega) true (fun _ => ⟨by have := hx; omega, fun j hj => absurd hj (by omega)⟩) (fun h => by cases h)) ⟨rfl, rfl, rfl, rfl, rfl, trivial⟩
          | exact V_lv (M 0 (by omega) true (fun _ => ⟨⟨by omega, Or.inr (by rw [← hx (by omega)]; exact c22)⟩, fun j hj => absurd hj (by omega)⟩) (fun h => by cases h)) ⟨rfl, rfl, rfl, rfl, rfl, trivial⟩
          | exact V_lv (M 0 (by omega) false (fun h => by cases h) (fun _ hn => by have := hn.1.1; omega)) ⟨rfl, rfl, rfl, rfl, rfl, trivial⟩
          | exact V_lv (M 0 (by omega) false (fun h => by cases h) (fun _ hn => by have h5 := hn.1.2; rw [← hx (by omega)] at h5; omega)) ⟨rfl, rfl, rfl, rfl, rfl, trivial⟩
theorem kX7_wordHere_169 : Cond.fieldLink RX7 169 "BreakSwapsModel" "at" "I" ∈ wsX7_wordHere := List.mem_of_getElem? (i := 1) rfl
theorem kX7_wordHere_166 : Cond.fieldLink RX7 166 "BreakSwapsModel" "begin" "I" ∈ wsX7_wordHere := List.mem_of_getElem? (i := 2) rfl
theorem cX7_wordHere_X7 : ∀ w ∈ wsX70, w ∈ wsX7_wordHere := fun _ h => List.mem_cons_of_mem _ (List.mem_append_right _ h)
theorem hyX7_wordHere : hyV yX7_wordHere RX7 0 := by decide +kernel
set_option maxHeartbeats 4000000 in
set_option maxRecDepth 100000 in
theorem c_X7_wordHere (l : Launch) (D : va_G) (a : Nat → Nat) (Z K U R : YS) (C : Int → Int64) (n tk bg at_ va bd : Int) (hB : bytesOk (R 2)) (hn : 0 ≤ n ∧ n ≤ 120) (hb : 0 ≤ bg ∧ bg ≤ at_ ∧ at_ ≤ 120) : Con l yX7_wordHere wsX7_wordHere 1 D (mwt D a (Z) K U R C (n) (tk) (bg) (at_) (va) (bd)) [.ref (a 0)] (some (.int (iI (wdM (R 2) bg at_)))) (fun ww => ww = mwt D a (Z) K U R C (n) (tk) (bg) (at_) (va) (bd)) := by
  refine con_start (own := RX7) (by decide) rfl rfl (Nat.le_of_ble_eq_true rfl) ?_
  intro G hG hE hl hD
  subst hl
  subst hD
  have M : ∀ k : Nat, k ≤ 11 → (∀ j : Nat, j < k → (fun w : Int => decide (nmP (R 2) bg w.toNat (at_ - bg).toNat)) j = false) → V G 0 0 (mwt (g_D G) a (Z) K U R C (n) (tk) (bg) (at_) (va) (bd)) 2 [(0, .ref (a 0)), (1, .int (iI (k : Int)))] [] := by
    refine down (fun k hk ih hf => ?_)
    refine r_iload_n (i := 1) hG dX7_wordHere_2 rfl rfl ?_
    refine r_bipush hG dX7_wordHere_3 rfl ?_
    refine r_icmp_ge (tgt := 31) hG (by omega) (by omega) dX7_wordHere_5 (by decide) (fun c5 => ?_) (fun c5 => ?_)
    · refine r_iload_n (i := 1) hG dX7_wordHere_31 rfl rfl ?_
      refine r_bipush hG dX7_wordHere_32 rfl ?_
      refine r_icmp_ge (tgt := 41) hG (by omega) (by omega) dX7_wordHere_34 (by decide) (fun c34 => ?_) (fun c34 => ?_)
      · first
          | (exfalso; omega)
          | (refine r_bipush hG dX7_wordHere_41 rfl ?_
             first
               | (have e1 := leastN_at (f := fun w : Int => decide (nmP (R 2) bg w.toNat (at_ - bg).toNat)) (i := k) hf c22 (n := 11) (by omega)
                  exact r_iret hG hE dX7_wordHere_43 (by unfold wdM; rw [e1, if_neg (by omega)]) rfl)
               | (have e1 := leastN_none (f := fun w : Int => decide (nmP (R 2) bg w.toNat (at_ - bg).toNat)) (n := 11) (fun j hj => hf j (by omega))
                  exact r_iret hG hE dX7_wordHere_43 (by unfold wdM; rw [e1, if_pos (by omega)]) rfl))
      · first
          | (exfalso; omega)
          | (refine r_iload_n (i := 1) hG dX7_wordHere_37 rfl rfl ?_
             refine r_goto (tgt := 43) hG dX7_wordHere_38 (by decide) ?_
             first
               | (have e1 := leastN_at (f := fun w : Int => decide (nmP (R 2) bg w.toNat (at_ - bg).toNat)) (i := k) hf c22 (n := 11) (by omega)
                  exact r_iret hG hE dX7_wordHere_43 (by unfold wdM; rw [e1, if_neg (by omega)]) rfl)
               | (have e1 := leastN_none (f := fun w : Int => decide (nmP (R 2) bg w.toNat (at_ - bg).toNat)) (n := 11) (fun j hj => hf j (by omega))
                  exact r_iret hG hE dX7_wordHere_43 (by unfold wdM; rw [e1, if_pos (by omega)]) rfl))
    · refine r_aload_n (i := 0) hG dX7_wordHere_8 rfl rfl ?_
      refine r_iload_n (i := 1) hG dX7_wordHere_9 rfl rfl ?_
      refine r_aload_n (i := 0) hG dX7_wordHere_10 rfl rfl ?_
      refine r_get hG cX7_wordHere_X7 0 9 rfl rfl (by decide) kX7_wordHere_169 rfl dX7_wordHere_11 ?_
      refine r_aload_n (i := 0) hG dX7_wordHere_14 rfl rfl ?_
      refine r_get hG cX7_wordHere_X7 0 8 rfl rfl (by decide) kX7_wordHere_166 rfl dX7_wordHere_15 ?_
      refine r_isub hG dX7_wordHere_18 ?_
      refine V_top (x' := iI (((at_ - bg).toNat : Nat) : Int)) (congrArg iI (by omega)) ?_
      refine r_callVi hG (c_X7_isName (g_l G) (g_D G) a Z K U R C n tk bg at_ va bd hB hn k (at_ - bg).toNat (by omega) (by omega))  gX7_wordHere_X7_isName rfl hyX7_isName rfl (by decide) (by decide) 0 rfl rfl rfl (Nat.le_of_ble_eq_true rfl) ⟨Nat.zero_le _, Nat.zero_le _⟩ dX7_wordHere_19 (fun w hw => ?_)
      subst hw
      refine rb_if_ne (tgt := 31) hG dX7_wordHere_22 (by decide) (fun c22 => ?_) (fun c22 => ?_)
      · refine r_iload_n (i := 1) hG dX7_wordHere_31 rfl rfl ?_
        refine r_bipush hG dX7_wordHere_32 rfl ?_
        refine r_icmp_ge (tgt := 41) hG (by omega) (by omega) dX7_wordHere_34 (by decide) (fun c34 => ?_) (fun c34 => ?_)
        · first
            | (exfalso; omega)
            | (refine r_bipush hG dX7_wordHere_41 rfl ?_
               first
                 | (have e1 := leastN_at (f := fun w : Int => decide (nmP (R 2) bg w.toNat (at_ - bg).toNat)) (i := k) hf c22 (n := 11) (by omega)
                    exact r_iret hG hE dX7_wordHere_43 (by unfold wdM; rw [e1, if_neg (by omega)]) rfl)
                 | (have e1 := leastN_none (f := fun w : Int => decide (nmP (R 2) bg w.toNat (at_ - bg).toNat)) (n := 11) (fun j hj => hf j (by omega))
                    exact r_iret hG hE dX7_wordHere_43 (by unfold wdM; rw [e1, if_pos (by omega)]) rfl))
        · first
            | (exfalso; omega)
            | (refine r_iload_n (i := 1) hG dX7_wordHere_37 rfl rfl ?_
               refine r_goto (tgt := 43) hG dX7_wordHere_38 (by decide) ?_
               first
                 | (have e1 := leastN_at (f := fun w : Int => decide (nmP (R 2) bg w.toNat (at_ - bg).toNat)) (i := k) hf c22 (n := 11) (by omega)
                    exact r_iret hG hE dX7_wordHere_43 (by unfold wdM; rw [e1, if_neg (by omega)]) rfl)
                 | (have e1 := leastN_none (f := fun w : Int => decide (nmP (R 2) bg w.toNat (at_ - bg).toNat)) (n := 11) (fun j hj => hf j (by omega))
                    exact r_iret hG hE dX7_wordHere_43 (by unfold wdM; rw [e1, if_pos (by omega)]) rfl))
      · refine r_iinc hG dX7_wordHere_25 rfl (by decide) rfl ?_
        refine r_goto (tgt := 2) hG dX7_wordHere_28 (by decide) ?_
        exact V_lv (ih (by omega) (fun j hj => by
          by_cases e : j = k
          · rw [e]; exact c22
          · exact hf j (by omega))) ⟨rfl, rfl, trivial⟩
  refine r_iconst hG dX7_wordHere_0 ?_
  refine r_istore_n (i := 1) hG dX7_wordHere_1 rfl (by decide) rfl ?_
  exact V_lv (M 0 (by omega) (fun j hj => absurd hj (by omega))) ⟨rfl, rfl, trivial⟩
