theorem item_step (B : Int → Int) {n : Int} {Y : YS} {p : Int} (hI : Inv Y) (hH : Hol Y) (hp : 0 ≤ p ∧ p ≤ n) (h1 : (itemS B n Y p).1 = true) (h2 : tK B n (itemS B n Y p).2.2 = 3) : p + 2 ≤ tE B n (itemS B n Y p).2.2 ∧ tE B n (itemS B n Y p).2.2 ≤ n := by
  have h := itemS_ok B hI hH hp
  have ha := h.1.2
  have hb := h.2 h1
  have hc := tE_more (B := B) (n := n) (p := (itemS B n Y p).2.2) (by omega) (by omega)
  have hd := tE_rng (B := B) (n := n) (p := (itemS B n Y p).2.2) (by omega)
  omega
theorem yard_end {B : Int → Int} {n : Int} {f : Nat} {i : Int} {Y : YS} {p : Int} {R0 : Int × YS} (he : parseS B n (f + 1) i Y p = R0) (hno : ¬ ((itemS B n Y p).1 = true ∧ tK B n (itemS B n Y p).2.2 = 3)) : R0 = if (itemS B n Y p).1 = true ∧ tK B n (itemS B n Y p).2.2 = 0 then (i, (itemS B n Y p).2.1) else (-1 - tS B n (itemS B n Y p).2.2, R0.2) := by
  rw [← he, parseS]
  by_cases h1 : (itemS B n Y p).1 = true
  · rw [if_pos h1]
    by_cases h2 : tK B n (itemS B n Y p).2.2 = 0
    · rw [if_pos h2, if_pos ⟨h1, h2⟩]
    · rw [if_neg h2, if_neg (fun q => hno ⟨h1, q⟩), if_neg (fun q => h2 q.2)]
  · rw [if_neg h1, if_neg (fun q => h1 q.1)]
theorem yard_next {B : Int → Int} {n : Int} {f : Nat} {i : Int} {Y : YS} {p : Int} {R0 : Int × YS} (he : parseS B n (f + 1) i Y p = R0) (h1 : (itemS B n Y p).1 = true) (h2 : tK B n (itemS B n Y p).2.2 = 3) : parseS B n f (i + 1) (itemS B n Y p).2.1 (tE B n (itemS B n Y p).2.2) = R0 := by
  rw [parseS, if_pos h1, if_neg (by omega), if_pos h2] at he
  exact he
theorem b2_01 (b : Bool) : b2 b = 0 ∨ b2 b = 1 := by cases b <;> decide
theorem no21 {B : Int → Int} {n p : Int} {b : Bool} (h : ¬ (b = true ∧ tK B n p = 3)) : ¬ (b2 (!b) = 0 ∧ tokM B n p = 21) := by
  have g3 := tokM_rng B n p
  cases b with
  | true => intro q; exact h ⟨rfl, by omega⟩
  | false => intro q; exact absurd q.1 (by decide)
theorem kX7_yard_169 : Cond.fieldLink RX7 169 "BreakSwapsModel" "at" "I" ∈ wsX7_yard := List.mem_of_getElem? (i := 1) rfl
theorem kX7_yard_187 : Cond.fieldLink RX7 187 "BreakSwapsModel" "bad" "Z" ∈ wsX7_yard := List.mem_of_getElem? (i := 2) rfl
theorem kX7_yard_181 : Cond.fieldLink RX7 181 "BreakSwapsModel" "token" "I" ∈ wsX7_yard := List.mem_of_getElem? (i := 3) rfl
theorem kX7_yard_159 : Cond.fieldLink RX7 159 "BreakSwapsModel" "taped" "I" ∈ wsX7_yard := List.mem_of_getElem? (i := 4) rfl
theorem kX7_yard_166 : Cond.fieldLink RX7 166 "BreakSwapsModel" "begin" "I" ∈ wsX7_yard := List.mem_of_getElem? (i := 5) rfl
theorem cX7_yard_X7 : ∀ w ∈ wsX70, w ∈ wsX7_yard := fun _ h => List.mem_cons_of_mem _ (List.mem_append_right _ h)
theorem hyX7_yard : hyV yX7_yard RX7 0 := by decide +kernel
set_option maxHeartbeats 4000000 in
set_option maxRecDepth 100000 in
theorem c_X7_yard (l : Launch) (D : va_G) (a : Nat → Nat) (Z K U R : YS) (C : Int → Int64) (hT : TI (Z, K, R, C)) : Con l yX7_yard wsX7_yard 7 D (mw D a Z K U R C) [.ref (a 0)] (some (.int (iI (s_yard (Z, K, R, C)).1))) (fun ww => ∃ U2 tk bg at_ va bd, ww = mw D a (s_yard (Z, K, R, C)).2.1 K U2 (mR R 0 tk bg at_ va bd) C) := by
  refine con_start (own := RX7) (by decide) rfl rfl (Nat.le_of_ble_eq_true rfl) ?_
  intro G hG hE hl hD
  subst hl
  subst hD
  have hI : Inv Z := hT.1.1
  have hH : Hol Z := hT.1.2.1
  have hB : bytesOk (R 2) := hT.2.2.1.2.2
  have hn0 : 0 ≤ R 0 1 ∧ R 0 1 ≤ 120 := hT.2.2.1.2.1
  obtain ⟨n, hnn⟩ : ∃ n : Int, n = R 0 1 := ⟨_, rfl⟩
  have hn : 0 ≤ n ∧ n ≤ 120 := by omega
  have e1 : (s_yard (Z, K, R, C)).1 = (parseS (R 2) n 120 1 Z 0).1 := by rw [hnn]; rfl
  have e2 : (s_yard (Z, K, R, C)).2.1 = if 0 ≤ (parseS (R 2) n 120 1 Z 0).1 then (parseS (R 2) n 120 1 Z 0).2 else Z := by rw [hnn]; rfl
  have K43 : ∀ (i : Int) (Z2 Y1 : YS) (p1 : Int), (0 ≤ p1 ∧ p1 ≤ n) → Inv Y1 → Hol Y1 → 0 ≤ i → ((itemS (R 2) n Y1 p1).1 = true → Z2 = (itemS (R 2) n Y1 p1).2.1) → ¬ ((itemS (R 2) n Y1 p1).1 = true ∧ tK (R 2) n (itemS (R 2) n Y1 p1).2.2 = 3) → (parseS (R 2) n 120 1 Z 0 = if (itemS (R 2) n Y1 p1).1 = true ∧ tK (R 2) n (itemS (R 2) n Y1 p1).2.2 = 0 then (i, (itemS (R 2) n Y1 p1).2.1) else (-1 - tS (R 2) n (itemS (R 2) n Y1 p1).2.2, (parseS (R 2) n 120 1 Z 0).2)) → V G 0 0 (mwp (g_D G) a (Z2) K Z R C n ((itemS (R 2) n Y1 p1).2.2) (b2 (!(itemS (R 2) n Y1 p1).1))) 43 [(0, .ref (a 0)), (1, .int (iI i))] [] := by
    intro i Z2 Y1 p1 hp1 hI1 hH1 hi0 hz hno he
    have hit := (itemS_ok (R 2) hI1 hH1 hp1).1.2
    have g1 := tE_rng (B := R 2) (n := n) (p := (itemS (R 2) n Y1 p1).2.2) (by omega)
    have g3 := tokM_rng (R 2) n (itemS (R 2) n Y1 p1).2.2
    have K68 : ∀ bd3 : Int, (bd3 = 0 ∧ ((itemS (R 2) n Y1 p1).1 = true ∧ tK (R 2) n (itemS (R 2) n Y1 p1).2.2 = 0)) ∨ (bd3 = 1 ∧ ¬ ((itemS (R 2) n Y1 p1).1 = true ∧ tK (R 2) n (itemS (R 2) n Y1 p1).2.2 = 0)) → V G 0 0 (mwp (g_D G) a (Z2) K Z R C n ((itemS (R 2) n Y1 p1).2.2) (bd3)) 68 [(0, .ref (a 0)), (1, .int (iI i))] [] := by
      intro bd3 h3
      rcases h3 with ⟨hb3, h3⟩ | ⟨hb3, h3⟩
      · subst hb3
        rw [if_pos h3] at he
        refine r_aload_n (i := 0) hG dX7_yard_68 rfl rfl ?_
        refine r_iconst hG dX7_yard_69 ?_
        refine r_put hG cX7_yard_X7 0 6 tyX7 tyX7_ok nmX7 rfl rfl (by decide) kX7_yard_159 rfl rfl rfl (Nat.le_of_ble_eq_true rfl) dX7_yard_70 rfl ?_
        skip
        refine r_aload_n (i := 0) hG dX7_yard_73 rfl rfl ?_
        refine r_get hG cX7_yard_X7 0 11 rfl rfl (by decide) kX7_yard_187 rfl dX7_yard_74 ?_
        refine r_if_ne (tgt := 82) hG (by omega) dX7_yard_77 (by decide) (fun c77 => ?_) (fun c77 => ?_)
        · exact absurd rfl c77
        · refine r_iload_n (i := 1) hG dX7_yard_80 rfl rfl ?_
          exact r_iret hG hE dX7_yard_81 (by rw [e1, he]) ⟨Z, _, _, _, _, _, by rw [e2, he, if_pos hi0, ← hz h3.1]; exact mwt_mw _ _ _ _ _ _ _ _ _ _ _ _ _⟩
      · subst hb3
        rw [if_neg h3] at he
        refine r_aload_n (i := 0) hG dX7_yard_68 rfl rfl ?_
        refine r_iconst hG dX7_yard_69 ?_
        refine r_put hG cX7_yard_X7 0 6 tyX7 tyX7_ok nmX7 rfl rfl (by decide) kX7_yard_159 rfl rfl rfl (Nat.le_of_ble_eq_true rfl) dX7_yard_70 rfl ?_
        skip
        refine r_aload_n (i := 0) hG dX7_yard_73 rfl rfl ?_
        refine r_get hG cX7_yard_X7 0 11 rfl rfl (by decide) kX7_yard_187 rfl dX7_yard_74 ?_
        refine r_if_ne (tgt := 82) hG (by omega) dX7_yard_77 (by decide) (fun c77 => ?_) (fun c77 => ?_)
        · refine r_aload_n (i := 0) hG dX7_yard_82 rfl rfl ?_
          refine r_callVv hG (c_X7_putsBack (g_l G) (g_D G) a Z2 K Z (mR R 0 (tokM (R 2) n (itemS (R 2) n Y1 p1).2.2) (tS (R 2) n (itemS (R 2) n Y1 p1).2.2) (tE (R 2) n (itemS (R 2) n Y1 p1).2.2) (tV (R 2) n (itemS (R 2) n Y1 p1).2.2) 1) C)  gX7_yard_X7_putsBack rfl hyX7_putsBack rfl (by decide) (by decide) 0 rfl rfl rfl (Nat.le_of_ble_eq_true rfl) ⟨Nat.zero_le _, Nat.zero_le _⟩ dX7_yard_83 ?_
          intro w hw
          subst hw
          refine V_ws (ws' := mwt (g_D G) a (Z) K Z R C (0) (tokM (R 2) n ((itemS (R 2) n Y1 p1).2.2)) (tS (R 2) n ((itemS (R 2) n Y1 p1).2.2)) (tE (R 2) n ((itemS (R 2) n Y1 p1).2.2)) (tV (R 2) n ((itemS (R 2) n Y1 p1).2.2)) (1)) rfl ?_
          refine r_iconst hG dX7_yard_86 ?_
          refine r_aload_n (i := 0) hG dX7_yard_87 rfl rfl ?_
          refine r_get hG cX7_yard_X7 0 8 rfl rfl (by decide) kX7_yard_166 rfl dX7_yard_88 ?_
          refine r_isub hG dX7_yard_91 ?_
          exact r_iret hG hE dX7_yard_92 (by rw [e1, he]) ⟨Z, _, _, _, _, _, by rw [e2, he, if_neg (by dsimp only; omega)]; exact mwt_mw _ _ _ _ _ _ _ _ _ _ _ _ _⟩
        · exact absurd c77 (by omega)
    cases hb : (itemS (R 2) n Y1 p1).1 with
    | false =>
      rw [hb] at hno
      refine V_ws (ws' := mwp (g_D G) a (Z2) K Z R C n ((itemS (R 2) n Y1 p1).2.2) (1)) rfl ?_
      have h5 : ¬ ((itemS (R 2) n Y1 p1).1 = true ∧ tK (R 2) n (itemS (R 2) n Y1 p1).2.2 = 0) := by rw [hb]; exact fun q => by cases q.1
      refine r_aload_n (i := 0) hG dX7_yard_43 rfl rfl ?_
      refine r_aload_n (i := 0) hG dX7_yard_44 rfl rfl ?_
      refine r_get hG cX7_yard_X7 0 11 rfl rfl (by decide) kX7_yard_187 rfl dX7_yard_45 ?_
      refine r_if_ne (tgt := 60) hG (by omega) dX7_yard_48 (by decide) (fun c48 => ?_) (fun c48 => ?_)
      · refine r_iconst hG dX7_yard_60 ?_
        refine r_goto (tgt := 65) hG dX7_yard_61 (by decide) ?_
        refine r_put hG cX7_yard_X7 0 11 tyX7 tyX7_ok nmX7 rfl rfl (by decide) kX7_yard_187 rfl rfl rfl (Nat.le_of_ble_eq_true rfl) dX7_yard_65 rfl ?_
        refine V_ws (ws' := mwp (g_D G) a (Z2) K Z R C n ((itemS (R 2) n Y1 p1).2.2) (1)) rfl ?_
        exact V_lv (K68 1 (Or.inr ⟨rfl, h5⟩)) ⟨rfl, rfl, trivial⟩
      · exact absurd c48 (by omega)
    | true =>
      refine V_ws (ws' := mwp (g_D G) a (Z2) K Z R C n ((itemS (R 2) n Y1 p1).2.2) (0)) rfl ?_
      have h5 : tK (R 2) n (itemS (R 2) n Y1 p1).2.2 = 0 → ((itemS (R 2) n Y1 p1).1 = true ∧ tK (R 2) n (itemS (R 2) n Y1 p1).2.2 = 0) := fun q => ⟨hb, q⟩
      have h6 : ¬ tK (R 2) n (itemS (R 2) n Y1 p1).2.2 = 0 → ¬ ((itemS (R 2) n Y1 p1).1 = true ∧ tK (R 2) n (itemS (R 2) n Y1 p1).2.2 = 0) := fun q w => q w.2
      refine r_aload_n (i := 0) hG dX7_yard_43 rfl rfl ?_
      refine r_aload_n (i := 0) hG dX7_yard_44 rfl rfl ?_
      refine r_get hG cX7_yard_X7 0 11 rfl rfl (by decide) kX7_yard_187 rfl dX7_yard_45 ?_
      refine r_if_ne (tgt := 60) hG (by omega) dX7_yard_48 (by decide) (fun c48 => ?_) (fun c48 => ?_)
      · refine r_iconst hG dX7_yard_60 ?_
        refine r_goto (tgt := 65) hG dX7_yard_61 (by decide) ?_
        refine r_put hG cX7_yard_X7 0 11 tyX7 tyX7_ok nmX7 rfl rfl (by decide) kX7_yard_187 rfl rfl rfl (Nat.le_of_ble_eq_true rfl) dX7_yard_65 rfl ?_
        first
          | (refine V_ws (ws' := mwp (g_D G) a (Z2) K Z R C n ((itemS (R 2) n Y1 p1).2.2) (0)) rfl ?_
             exact V_lv (K68 0 (Or.inl ⟨rfl, h5 (by omega)⟩)) ⟨rfl, rfl, trivial⟩)
          | (exfalso; omega)
          | (refine V_ws (ws' := mwp (g_D G) a (Z2) K Z R C n ((itemS (R 2) n Y1 p1).2.2) (1)) rfl ?_
             exact V_lv (K68 1 (Or.inr ⟨rfl, h6 (by omega)⟩)) ⟨rfl, rfl, trivial⟩)
      · refine r_aload_n (i := 0) hG dX7_yard_51 rfl rfl ?_
        refine r_get hG cX7_yard_X7 0 7 rfl rfl (by decide) kX7_yard_181 rfl dX7_yard_52 ?_
        refine r_bipush hG dX7_yard_55 rfl ?_
        refine r_icmp_eq (tgt := 64) hG (by omega) (by omega) dX7_yard_57 (by decide) (fun c57 => ?_) (fun c57 => ?_)
        · refine r_iconst hG dX7_yard_64 ?_
          refine r_put hG cX7_yard_X7 0 11 tyX7 tyX7_ok nmX7 rfl rfl (by decide) kX7_yard_187 rfl rfl rfl (Nat.le_of_ble_eq_true rfl) dX7_yard_65 rfl ?_
          first
            | (refine V_ws (ws' := mwp (g_D G) a (Z2) K Z R C n ((itemS (R 2) n Y1 p1).2.2) (0)) rfl ?_
               exact V_lv (K68 0 (Or.inl ⟨rfl, h5 (by omega)⟩)) ⟨rfl, rfl, trivial⟩)
            | (exfalso; omega)
            | (refine V_ws (ws' := mwp (g_D G) a (Z2) K Z R C n ((itemS (R 2) n Y1 p1).2.2) (1)) rfl ?_
               exact V_lv (K68 1 (Or.inr ⟨rfl, h6 (by omega)⟩)) ⟨rfl, rfl, trivial⟩)
        · refine r_iconst hG dX7_yard_60 ?_
          refine r_goto (tgt := 65) hG dX7_yard_61 (by decide) ?_
          refine r_put hG cX7_yard_X7 0 11 tyX7 tyX7_ok nmX7 rfl rfl (by decide) kX7_yard_187 rfl rfl rfl (Nat.le_of_ble_eq_true rfl) dX7_yard_65 rfl ?_
          first
            | (refine V_ws (ws' := mwp (g_D G) a (Z2) K Z R C n ((itemS (R 2) n Y1 p1).2.2) (0)) rfl ?_
               exact V_lv (K68 0 (Or.inl ⟨rfl, h5 (by omega)⟩)) ⟨rfl, rfl, trivial⟩)
            | (exfalso; omega)
            | (refine V_ws (ws' := mwp (g_D G) a (Z2) K Z R C n ((itemS (R 2) n Y1 p1).2.2) (1)) rfl ?_
               exact V_lv (K68 1 (Or.inr ⟨rfl, h6 (by omega)⟩)) ⟨rfl, rfl, trivial⟩)
  have L : ∀ f : Nat, ∀ (i : Int) (Z2 Y1 : YS) (p1 : Int), (0 ≤ p1 ∧ p1 ≤ n) → n - p1 ≤ 2 * f + 1 → Inv Y1 → Hol Y1 → 0 ≤ i → parseS (R 2) n (f + 1) i Y1 p1 = parseS (R 2) n 120 1 Z 0 → ((itemS (R 2) n Y1 p1).1 = true → Z2 = (itemS (R 2) n Y1 p1).2.1) → V G 0 0 (mwp (g_D G) a (Z2) K Z R C n ((itemS (R 2) n Y1 p1).2.2) (b2 (!(itemS (R 2) n Y1 p1).1))) 24 [(0, .ref (a 0)), (1, .int (iI i))] [] := by
    intro f
    induction f with
    | zero =>
      intro i Z2 Y1 p1 hp1 hf hI1 hH1 hi0 he hz
      have hit := (itemS_ok (R 2) hI1 hH1 hp1).1.2
      have g3 := tokM_rng (R 2) n (itemS (R 2) n Y1 p1).2.2
      have hno : ¬ ((itemS (R 2) n Y1 p1).1 = true ∧ tK (R 2) n (itemS (R 2) n Y1 p1).2.2 = 3) := fun q => by have := item_step (R 2) hI1 hH1 hp1 q.1 q.2; omega
      have he2 : parseS (R 2) n 120 1 Z 0 = if (itemS (R 2) n Y1 p1).1 = true ∧ tK (R 2) n (itemS (R 2) n Y1 p1).2.2 = 0 then (i, (itemS (R 2) n Y1 p1).2.1) else (-1 - tS (R 2) n (itemS (R 2) n Y1 p1).2.2, (parseS (R 2) n 120 1 Z 0).2) := yard_end he hno
      refine r_aload_n (i := 0) hG dX7_yard_24 rfl rfl ?_
      refine r_bipush hG dX7_yard_25 rfl ?_
      refine r_callVi hG (c_X7_passes_n (g_l G) (g_D G) a Z2 K Z R C n (itemS (R 2) n Y1 p1).2.2 hB hn (by omega) (b2 (!(itemS (R 2) n Y1 p1).1)) 21 (b2_01 _) (by omega) (no21 (by assumption)))  gX7_yard_X7_passes rfl hyX7_passes rfl (by decide) (by decide) 0 rfl rfl rfl (Nat.le_of_ble_eq_true rfl) ⟨Nat.zero_le _, Nat.zero_le _⟩ dX7_yard_27 ?_
      intro w hw
      subst hw
      refine V_top (x' := iI 0) rfl ?_
      refine r_if_eq (tgt := 43) hG (by omega) dX7_yard_30 (by decide) (fun c30 => ?_) (fun c30 => ?_)
      · exact V_lv (K43 i Z2 Y1 p1 hp1 hI1 hH1 hi0 hz hno he2) ⟨rfl, rfl, trivial⟩
      · exact absurd rfl c30
    | succ f ih =>
      intro i Z2 Y1 p1 hp1 hf hI1 hH1 hi0 he hz
      have hit := (itemS_ok (R 2) hI1 hH1 hp1).1
      have hit2 := hit.2
      have g3 := tokM_rng (R 2) n (itemS (R 2) n Y1 p1).2.2
      by_cases hyes : (itemS (R 2) n Y1 p1).1 = true ∧ tK (R 2) n (itemS (R 2) n Y1 p1).2.2 = 3
      · have hst := item_step (R 2) hI1 hH1 hp1 hyes.1 hyes.2
        have hz2 := hz hyes.1
        subst hz2
        have he3 : parseS (R 2) n (f + 1) (i + 1) (itemS (R 2) n Y1 p1).2.1 (tE (R 2) n (itemS (R 2) n Y1 p1).2.2) = parseS (R 2) n 120 1 Z 0 := yard_next he hyes.1 hyes.2
        refine V_ws (ws' := mwp (g_D G) a ((itemS (R 2) n Y1 p1).2.1) K Z R C n ((itemS (R 2) n Y1 p1).2.2) (0)) (by rw [hyes.1]; rfl) ?_
        refine r_aload_n (i := 0) hG dX7_yard_24 rfl rfl ?_
        refine r_bipush hG dX7_yard_25 rfl ?_
        refine r_callVi hG (c_X7_passes (g_l G) (g_D G) a (itemS (R 2) n Y1 p1).2.1 K Z R C n (itemS (R 2) n Y1 p1).2.2 hB hn (by omega) 21 (by omega) (by omega))  gX7_yard_X7_passes rfl hyX7_passes rfl (by decide) (by decide) 0 rfl rfl rfl (Nat.le_of_ble_eq_true rfl) ⟨Nat.zero_le _, Nat.zero_le _⟩ dX7_yard_27 ?_
        intro w hw
        subst hw
        refine V_top (x' := iI 1) rfl ?_
        refine r_if_eq (tgt := 43) hG (by omega) dX7_yard_30 (by decide) (fun c30 => ?_) (fun c30 => ?_)
        · exact absurd c30 (by omega)
        · refine r_aload_n (i := 0) hG dX7_yard_33 rfl rfl ?_
          refine r_callVv hG (c_X7_item (g_l G) (g_D G) a (itemS (R 2) n Y1 p1).2.1 K Z R C n (tE (R 2) n (itemS (R 2) n Y1 p1).2.2) hB hn (by omega) hit.1.1)  gX7_yard_X7_item rfl hyX7_item rfl (by decide) (by decide) 0 rfl rfl rfl (Nat.le_of_ble_eq_true rfl) ⟨Nat.zero_le _, Nat.zero_le _⟩ dX7_yard_34 ?_
          rintro w ⟨Z3, rfl, hz3⟩
          refine r_iinc hG dX7_yard_37 rfl (by decide) rfl ?_
          refine r_goto (tgt := 24) hG dX7_yard_40 (by decide) ?_
          exact V_lv (ih (i + 1) Z3 _ _ (by omega) (by omega) hit.1.1 hit.1.2.1 (by omega) he3 hz3) ⟨rfl, rfl, trivial⟩
      · have he2 : parseS (R 2) n 120 1 Z 0 = if (itemS (R 2) n Y1 p1).1 = true ∧ tK (R 2) n (itemS (R 2) n Y1 p1).2.2 = 0 then (i, (itemS (R 2) n Y1 p1).2.1) else (-1 - tS (R 2) n (itemS (R 2) n Y1 p1).2.2, (parseS (R 2) n 120 1 Z 0).2) := yard_end he hyes
        refine r_aload_n (i := 0) hG dX7_yard_24 rfl rfl ?_
        refine r_bipush hG dX7_yard_25 rfl ?_
        refine r_callVi hG (c_X7_passes_n (g_l G) (g_D G) a Z2 K Z R C n (itemS (R 2) n Y1 p1).2.2 hB hn (by omega) (b2 (!(itemS (R 2) n Y1 p1).1)) 21 (b2_01 _) (by omega) (no21 (by assumption)))  gX7_yard_X7_passes rfl hyX7_passes rfl (by decide) (by decide) 0 rfl rfl rfl (Nat.le_of_ble_eq_true rfl) ⟨Nat.zero_le _, Nat.zero_le _⟩ dX7_yard_27 ?_
        intro w hw
        subst hw
        refine V_top (x' := iI 0) rfl ?_
        refine r_if_eq (tgt := 43) hG (by omega) dX7_yard_30 (by decide) (fun c30 => ?_) (fun c30 => ?_)
        · exact V_lv (K43 i Z2 Y1 p1 hp1 hI1 hH1 hi0 hz hyes he2) ⟨rfl, rfl, trivial⟩
        · exact absurd rfl c30
  refine r_aload_n (i := 0) hG dX7_yard_0 rfl rfl ?_
  refine r_callVv hG (c_X7_thinks (g_l G) (g_D G) a Z K U R C)  gX7_yard_X7_thinks rfl hyX7_thinks rfl (by decide) (by decide) 0 rfl rfl rfl (Nat.le_of_ble_eq_true rfl) ⟨Nat.zero_le _, Nat.zero_le _⟩ dX7_yard_1 (fun w hw => ?_)
  subst hw
  refine r_aload_n (i := 0) hG dX7_yard_4 rfl rfl ?_
  refine r_iconst hG dX7_yard_5 ?_
  refine r_put hG cX7_yard_X7 0 9 tyX7 tyX7_ok nmX7 rfl rfl (by decide) kX7_yard_169 rfl rfl rfl (Nat.le_of_ble_eq_true rfl) dX7_yard_6 rfl ?_
  refine r_aload_n (i := 0) hG dX7_yard_9 rfl rfl ?_
  refine r_iconst hG dX7_yard_10 ?_
  refine r_put hG cX7_yard_X7 0 11 tyX7 tyX7_ok nmX7 rfl rfl (by decide) kX7_yard_187 rfl rfl rfl (Nat.le_of_ble_eq_true rfl) dX7_yard_11 rfl ?_
  refine r_aload_n (i := 0) hG dX7_yard_14 rfl rfl ?_
  refine V_ws (ws' := mwt (g_D G) a Z K Z R C n (R 0 2) (R 0 3) 0 (R 0 5) 0) (by rw [hnn]; rfl) ?_
  refine r_callVv hG (c_X7_reads (g_l G) (g_D G) a Z K Z R C n (R 0 2) (R 0 3) 0 (R 0 5) 0 hB hn (by omega))  gX7_yard_X7_reads rfl hyX7_reads rfl (by decide) (by decide) 0 rfl rfl rfl (Nat.le_of_ble_eq_true rfl) ⟨Nat.zero_le _, Nat.zero_le _⟩ dX7_yard_15 (fun w hw => ?_)
  subst hw
  refine r_aload_n (i := 0) hG dX7_yard_18 rfl rfl ?_
  refine r_callVv hG (c_X7_item (g_l G) (g_D G) a Z K Z R C n 0 hB hn (by omega) hI)  gX7_yard_X7_item rfl hyX7_item rfl (by decide) (by decide) 0 rfl rfl rfl (Nat.le_of_ble_eq_true rfl) ⟨Nat.zero_le _, Nat.zero_le _⟩ dX7_yard_19 ?_
  rintro w ⟨Z3, rfl, hz3⟩
  refine r_iconst hG dX7_yard_22 ?_
  refine r_istore_n (i := 1) hG dX7_yard_23 rfl (by decide) rfl ?_
  exact V_lv (L 119 1 Z3 Z 0 (by omega) (by omega) hI hH (by omega) rfl hz3) ⟨rfl, rfl, trivial⟩
