def cpF (C : Int → Int64) (p q k : Int) : Int → Int64 := fun j => if q ≤ j ∧ j < q + k then C (p + (j - q)) else C j
def cpB (C : Int → Int64) (p q n k : Int) : Int → Int64 := fun j => if q + n - k ≤ j ∧ j < q + n then C (p + (j - q)) else C j
theorem cpF_step {C : Int → Int64} {p q k : Int} (hk : 0 ≤ k) (h : ¬ (q ≤ p + k ∧ p + k < q + k)) (j : Int) : up1 (cpF C p q k) (q + k) (cpF C p q k (p + k)) j = cpF C p q (k + 1) j := by
  have e1 : cpF C p q k (p + k) = C (p + k) := by unfold cpF; rw [if_neg h]
  rw [e1]
  unfold up1 cpF
  by_cases e : j = q + k
  · rw [if_pos e, if_pos (by omega), e]; congr 1; omega
  · rw [if_neg e]
    by_cases e2 : q ≤ j ∧ j < q + k
    · rw [if_pos e2, if_pos (by omega)]
    · rw [if_neg e2, if_neg (by omega)]
theorem cpB_step {C : Int → Int64} {p q n k : Int} (hk : 0 ≤ k ∧ k < n) (h : ¬ (q + n - k ≤ p + (n - 1 - k) ∧ p + (n - 1 - k) < q + n)) (j : Int) : up1 (cpB C p q n k) (q + (n - 1 - k)) (cpB C p q n k (p + (n - 1 - k))) j = cpB C p q n (k + 1) j := by
  have e1 : cpB C p q n k (p + (n - 1 - k)) = C (p + (n - 1 - k)) := by unfold cpB; rw [if_neg h]
  rw [e1]
  unfold up1 cpB
  by_cases e : j = q + (n - 1 - k)
  · rw [if_pos e, if_pos (by omega), e]; congr 1; omega
  · rw [if_neg e]
    by_cases e2 : q + n - k ≤ j ∧ j < q + n
    · rw [if_pos e2, if_pos (by omega)]
    · rw [if_neg e2, if_neg (by omega)]
def ncp (R : YS) (s f t u n : Int) : Int := if (0 ≤ s ∧ s ≤ 3) ∧ 0 ≤ t ∧ t ≤ 3 then (if R 3 s = 0 ∨ R 3 t = 0 then -1000000006 else if ¬ R 3 s = R 3 t then -1000000003 else if (0 ≤ n ∧ 0 ≤ f ∧ 0 ≤ u) ∧ n ≤ R 4 s - f ∧ n ≤ R 4 t - u then 0 else -1000000001) else -1000000001
theorem kX7_notCopied_25 : Cond.fieldLink RX7 25 "BreakSwapsModel" "bitsOf" "[I" ∈ wsX7_notCopied := List.mem_of_getElem? (i := 2) rfl
theorem kX7_notCopied_28 : Cond.fieldLink RX7 28 "BreakSwapsModel" "sizeOf" "[I" ∈ wsX7_notCopied := List.mem_of_getElem? (i := 5) rfl
theorem cX7_notCopied_X7 : ∀ w ∈ wsX70, w ∈ wsX7_notCopied := fun _ h => List.mem_cons_of_mem _ (List.mem_append_right _ h)
theorem hyX7_notCopied : hyV yX7_notCopied RX7 5 := by decide +kernel
set_option maxHeartbeats 4000000 in
set_option maxRecDepth 100000 in
theorem c_X7_notCopied (l : Launch) (D : va_G) (a : Nat → Nat) (Z K U R : YS) (C : Int → Int64) (hS : ∀ s, 0 ≤ s → s < 4 → (R 3 s = 0 ∨ R 3 s = 8 ∨ R 3 s = 16 ∨ R 3 s = 64) ∧ 0 ≤ R 4 s ∧ R 4 s ≤ 40) (s f t u n : Int) (hs : -2147483648 ≤ s ∧ s < 2147483648) (hf : -2147483648 ≤ f ∧ f < 2147483648) (ht : -2147483648 ≤ t ∧ t < 2147483648) (hu : -2147483648 ≤ u ∧ u < 2147483648) (hn : -2147483648 ≤ n ∧ n < 2147483648) : Con l yX7_notCopied wsX7_notCopied 2 D (mw D a Z K U R C) [.ref (a 0), .int (iI s), .int (iI f), .int (iI t), .int (iI u), .int (iI n)] (some (.int (iI (ncp R s f t u n)))) (fun w => w = mw D a Z K U R C) := by
  refine con_start (own := RX7) (by decide) rfl rfl (Nat.le_of_ble_eq_true rfl) ?_
  intro G hG hE hl hD
  subst hl
  subst hD
  have hs3 : 0 ≤ s ∧ s ≤ 3 → _ := fun h => hS s h.1 (by omega)
  have ht3 : 0 ≤ t ∧ t ≤ 3 → _ := fun h => hS t h.1 (by omega)
  have K109 : ((0 ≤ s ∧ s ≤ 3) ∧ 0 ≤ t ∧ t ≤ 3) → ¬ (R 3 s = 0 ∨ R 3 t = 0) → R 3 s = R 3 t → ((0 ≤ n ∧ 0 ≤ f ∧ 0 ≤ u) ∧ n ≤ R 4 s - f ∧ n ≤ R 4 t - u) → V G 0 0 (mw (g_D G) a Z K U R C) 109 [(0, .ref (a 0)), (1, .int (iI s)), (2, .int (iI f)), (3, .int (iI t)), (4, .int (iI u)), (5, .int (iI n))] [] := by
    intro h1 h2 h3 h4
    refine r_iconst hG dX7_notCopied_109 ?_
    refine r_goto (tgt := 115) hG dX7_notCopied_110 (by decide) ?_
    exact r_iret hG hE dX7_notCopied_115 (by unfold ncp; (repeat (first | rw [if_pos (by omega)] | rw [if_neg (by omega)]))) rfl
  have K113 : ((0 ≤ s ∧ s ≤ 3) ∧ 0 ≤ t ∧ t ≤ 3) → ¬ (R 3 s = 0 ∨ R 3 t = 0) → R 3 s = R 3 t → ¬ ((0 ≤ n ∧ 0 ≤ f ∧ 0 ≤ u) ∧ n ≤ R 4 s - f ∧ n ≤ R 4 t - u) → V G 0 0 (mw (g_D G) a Z K U R C) 113 [(0, .ref (a 0)), (1, .int (iI s)), (2, .int (iI f)), (3, .int (iI t)), (4, .int (iI u)), (5, .int (iI n))] [] := by
    intro h1 h2 h3 h4
    refine r_ldc (n := -1000000001) hG (List.mem_of_getElem? (i := 1) rfl) rfl dX7_notCopied_113 ?_
    exact r_iret hG hE dX7_notCopied_115 (by unfold ncp; (repeat (first | rw [if_pos (by omega)] | rw [if_neg (by omega)]))) rfl
  refine r_iload_n (i := 1) hG dX7_notCopied_0 rfl rfl ?_
  refine r_call0i hG (c_X7_isSheet (g_l G) (g_D G) _ (by omega))  gX7_notCopied_X7_isSheet rfl hyX7_isSheet rfl (by decide) (by decide) rfl (Nat.le_of_ble_eq_true rfl) ⟨Nat.zero_le _, Nat.zero_le _⟩ dX7_notCopied_1 ?_
  refine rb_if_eq (tgt := 14) hG dX7_notCopied_4 (by decide) (fun c4 => ?_) (fun c4 => ?_)
  · try simp only [decide_eq_true_eq, decide_eq_false_iff_not] at c4
    refine r_ldc (n := -1000000001) hG (List.mem_of_getElem? (i := 1) rfl) rfl dX7_notCopied_14 ?_
    exact r_iret hG hE dX7_notCopied_16 (by unfold ncp; (repeat (first | rw [if_pos (by omega)] | rw [if_neg (by omega)]))) rfl
  · try simp only [decide_eq_true_eq, decide_eq_false_iff_not] at c4
    refine r_iload_n (i := 3) hG dX7_notCopied_7 rfl rfl ?_
    refine r_call0i hG (c_X7_isSheet (g_l G) (g_D G) _ (by omega))  gX7_notCopied_X7_isSheet rfl hyX7_isSheet rfl (by decide) (by decide) rfl (Nat.le_of_ble_eq_true rfl) ⟨Nat.zero_le _, Nat.zero_le _⟩ dX7_notCopied_8 ?_
    refine rb_if_ne (tgt := 17) hG dX7_notCopied_11 (by decide) (fun c11 => ?_) (fun c11 => ?_)
    · try simp only [decide_eq_true_eq, decide_eq_false_iff_not] at c11
      refine r_aload_n (i := 0) hG dX7_notCopied_17 rfl rfl ?_
      refine r_get hG cX7_notCopied_X7 0 12 rfl rfl (by decide) kX7_notCopied_25 rfl dX7_notCopied_18 ?_
      refine r_iload_n (i := 1) hG dX7_notCopied_21 rfl rfl ?_
      refine r_iald hG 6 rfl (by omega) (by decide) dX7_notCopied_22 ?_
      refine r_if_eq (tgt := 35) hG (by have := hs3 (by omega); have := ht3 (by omega); omega) dX7_notCopied_23 (by decide) (fun c23 => ?_) (fun c23 => ?_)
      · refine r_ldc (n := -1000000006) hG (List.mem_of_getElem? (i := 3) rfl) rfl dX7_notCopied_35 ?_
        exact r_iret hG hE dX7_notCopied_37 (by unfold ncp; (repeat (first | rw [if_pos (by omega)] | rw [if_neg (by omega)]))) rfl
      · refine r_aload_n (i := 0) hG dX7_notCopied_26 rfl rfl ?_
        refine r_get hG cX7_notCopied_X7 0 12 rfl rfl (by decide) kX7_notCopied_25 rfl dX7_notCopied_27 ?_
        refine r_iload_n (i := 3) hG dX7_notCopied_30 rfl rfl ?_
        refine r_iald hG 6 rfl (by omega) (by decide) dX7_notCopied_31 ?_
        refine r_if_ne (tgt := 38) hG (by have := hs3 (by omega); have := ht3 (by omega); omega) dX7_notCopied_32 (by decide) (fun c32 => ?_) (fun c32 => ?_)
        · refine r_aload_n (i := 0) hG dX7_notCopied_38 rfl rfl ?_
          refine r_get hG cX7_notCopied_X7 0 12 rfl rfl (by decide) kX7_notCopied_25 rfl dX7_notCopied_39 ?_
          refine r_iload_n (i := 1) hG dX7_notCopied_42 rfl rfl ?_
          refine r_iald hG 6 rfl (by omega) (by decide) dX7_notCopied_43 ?_
          refine r_aload_n (i := 0) hG dX7_notCopied_44 rfl rfl ?_
          refine r_get hG cX7_notCopied_X7 0 12 rfl rfl (by decide) kX7_notCopied_25 rfl dX7_notCopied_45 ?_
          refine r_iload_n (i := 3) hG dX7_notCopied_48 rfl rfl ?_
          refine r_iald hG 6 rfl (by omega) (by decide) dX7_notCopied_49 ?_
          refine r_icmp_eq (tgt := 56) hG (by have := hs3 (by omega); have := ht3 (by omega); omega) (by have := hs3 (by omega); have := ht3 (by omega); omega) dX7_notCopied_50 (by decide) (fun c50 => ?_) (fun c50 => ?_)
          · refine r_iload hG dX7_notCopied_56 rfl ?_
            refine r_if_lt (tgt := 101) hG (by omega) dX7_notCopied_58 (by decide) (fun c58 => ?_) (fun c58 => ?_)
            · refine r_iconst hG dX7_notCopied_101 ?_
              refine r_istore hG dX7_notCopied_102 (by decide) rfl ?_
              refine r_iload hG dX7_notCopied_104 rfl ?_
              refine r_if_eq (tgt := 113) hG (by omega) dX7_notCopied_106 (by decide) (fun c106 => ?_) (fun c106 => ?_)
              · first
                  | exact absurd c106 (by decide)
                  | exact V_lv (K113 (by omega) (by omega) (by omega) (by omega)) ⟨rfl, rfl, rfl, rfl, rfl, rfl, trivial⟩
              · first
                  | exact absurd rfl c106
                  | exact V_lv (K109 (by omega) (by omega) (by omega) (by omega)) ⟨rfl, rfl, rfl, rfl, rfl, rfl, trivial⟩
            · refine r_iload_n (i := 2) hG dX7_notCopied_61 rfl rfl ?_
              refine r_if_lt (tgt := 101) hG (by omega) dX7_notCopied_62 (by decide) (fun c62 => ?_) (fun c62 => ?_)
              · refine r_iconst hG dX7_notCopied_101 ?_
                refine r_istore hG dX7_notCopied_102 (by decide) rfl ?_
                refine r_iload hG dX7_notCopied_104 rfl ?_
                refine r_if_eq (tgt := 113) hG (by omega) dX7_notCopied_106 (by decide) (fun c106 => ?_) (fun c106 => ?_)
                · first
                    | exact absurd c106 (by decide)
                    | exact V_lv (K113 (by omega) (by omega) (by omega) (by omega)) ⟨rfl, rfl, rfl, rfl, rfl, rfl, trivial⟩
                · first
                    | exact absurd rfl c106
                    | exact V_lv (K109 (by omega) (by omega) (by omega) (by omega)) ⟨rfl, rfl, rfl, rfl, rfl, rfl, trivial⟩
              · refine r_iload hG dX7_notCopied_65 rfl ?_
                refine r_if_lt (tgt := 101) hG (by omega) dX7_notCopied_67 (by decide) (fun c67 => ?_) (fun c67 => ?_)
                · refine r_iconst hG dX7_notCopied_101 ?_
                  refine r_istore hG dX7_notCopied_102 (by decide) rfl ?_
                  refine r_iload hG dX7_notCopied_104 rfl ?_
                  refine r_if_eq (tgt := 113) hG (by omega) dX7_notCopied_106 (by decide) (fun c106 => ?_) (fun c106 => ?_)
                  · first
                      | exact absurd c106 (by decide)
                      | exact V_lv (K113 (by omega) (by omega) (by omega) (by omega)) ⟨rfl, rfl, rfl, rfl, rfl, rfl, trivial⟩
                  · first
                      | exact absurd rfl c106
                      | exact V_lv (K109 (by omega) (by omega) (by omega) (by omega)) ⟨rfl, rfl, rfl, rfl, rfl, rfl, trivial⟩
                · refine r_iload hG dX7_notCopied_70 rfl ?_
                  refine r_aload_n (i := 0) hG dX7_notCopied_72 rfl rfl ?_
                  refine r_get hG cX7_notCopied_X7 0 13 rfl rfl (by decide) kX7_notCopied_28 rfl dX7_notCopied_73 ?_
                  refine r_iload_n (i := 1) hG dX7_notCopied_76 rfl rfl ?_
                  refine r_iald hG 7 rfl (by omega) (by decide) dX7_notCopied_77 ?_
                  refine r_iload_n (i := 2) hG dX7_notCopied_78 rfl rfl ?_
                  refine r_isub hG dX7_notCopied_79 ?_
                  refine r_icmp_gt (tgt := 101) hG (by have := hs3 (by omega); have := ht3 (by omega); omega) (by have := hs3 (by omega); have := ht3 (by omega); omega) dX7_notCopied_80 (by decide) (fun c80 => ?_) (fun c80 => ?_)
                  · refine r_iconst hG dX7_notCopied_101 ?_
                    refine r_istore hG dX7_notCopied_102 (by decide) rfl ?_
                    refine r_iload hG dX7_notCopied_104 rfl ?_
                    refine r_if_eq (tgt := 113) hG (by omega) dX7_notCopied_106 (by decide) (fun c106 => ?_) (fun c106 => ?_)
                    · first
                        | exact absurd c106 (by decide)
                        | exact V_lv (K113 (by omega) (by omega) (by omega) (by omega)) ⟨rfl, rfl, rfl, rfl, rfl, rfl, trivial⟩
                    · first
                        | exact absurd rfl c106
                        | exact V_lv (K109 (by omega) (by omega) (by omega) (by omega)) ⟨rfl, rfl, rfl, rfl, rfl, rfl, trivial⟩
                  · refine r_iload hG dX7_notCopied_83 rfl ?_
                    refine r_aload_n (i := 0) hG dX7_notCopied_85 rfl rfl ?_
                    refine r_get hG cX7_notCopied_X7 0 13 rfl rfl (by decide) kX7_notCopied_28 rfl dX7_notCopied_86 ?_
                    refine r_iload_n (i := 3) hG dX7_notCopied_89 rfl rfl ?_
                    refine r_iald hG 7 rfl (by omega) (by decide) dX7_notCopied_90 ?_
                    refine r_iload hG dX7_notCopied_91 rfl ?_
                    refine r_isub hG dX7_notCopied_93 ?_
                    refine r_icmp_gt (tgt := 101) hG (by have := hs3 (by omega); have := ht3 (by omega); omega) (by have := hs3 (by omega); have := ht3 (by omega); omega) dX7_notCopied_94 (by decide) (fun c94 => ?_) (fun c94 => ?_)
                    · refine r_iconst hG dX7_notCopied_101 ?_
                      refine r_istore hG dX7_notCopied_102 (by decide) rfl ?_
                      refine r_iload hG dX7_notCopied_104 rfl ?_
                      refine r_if_eq (tgt := 113) hG (by omega) dX7_notCopied_106 (by decide) (fun c106 => ?_) (fun c106 => ?_)
                      · first
                          | exact absurd c106 (by decide)
                          | exact V_lv (K113 (by omega) (by omega) (by omega) (by omega)) ⟨rfl, rfl, rfl, rfl, rfl, rfl, trivial⟩
                      · first
                          | exact absurd rfl c106
                          | exact V_lv (K109 (by omega) (by omega) (by omega) (by omega)) ⟨rfl, rfl, rfl, rfl, rfl, rfl, trivial⟩
                    · refine r_iconst hG dX7_notCopied_97 ?_
                      refine r_goto (tgt := 102) hG dX7_notCopied_98 (by decide) ?_
                      refine r_istore hG dX7_notCopied_102 (by decide) rfl ?_
                      refine r_iload hG dX7_notCopied_104 rfl ?_
                      refine r_if_eq (tgt := 113) hG (by omega) dX7_notCopied_106 (by decide) (fun c106 => ?_) (fun c106 => ?_)
                      · first
                          | exact absurd c106 (by decide)
                          | exact V_lv (K113 (by omega) (by omega) (by omega) (by omega)) ⟨rfl, rfl, rfl, rfl, rfl, rfl, trivial⟩
                      · first
                          | exact absurd rfl c106
                          | exact V_lv (K109 (by omega) (by omega) (by omega) (by omega)) ⟨rfl, rfl, rfl, rfl, rfl, rfl, trivial⟩
          · refine r_ldc (n := -1000000003) hG (List.mem_of_getElem? (i := 4) rfl) rfl dX7_notCopied_53 ?_
            exact r_iret hG hE dX7_notCopied_55 (by unfold ncp; (repeat (first | rw [if_pos (by omega)] | rw [if_neg (by omega)]))) rfl
        · refine r_ldc (n := -1000000006) hG (List.mem_of_getElem? (i := 3) rfl) rfl dX7_notCopied_35 ?_
          exact r_iret hG hE dX7_notCopied_37 (by unfold ncp; (repeat (first | rw [if_pos (by omega)] | rw [if_neg (by omega)]))) rfl
    · try simp only [decide_eq_true_eq, decide_eq_false_iff_not] at c11
      refine r_ldc (n := -1000000001) hG (List.mem_of_getElem? (i := 1) rfl) rfl dX7_notCopied_14 ?_
      exact r_iret hG hE dX7_notCopied_16 (by unfold ncp; (repeat (first | rw [if_pos (by omega)] | rw [if_neg (by omega)]))) rfl
theorem kX7_copy_31 : Cond.fieldLink RX7 31 "BreakSwapsModel" "cells" "[J" ∈ wsX7_copy := List.mem_of_getElem? (i := 1) rfl
theorem cX7_copy_X7 : ∀ w ∈ wsX70, w ∈ wsX7_copy := fun _ h => List.mem_cons_of_mem _ (List.mem_append_right _ h)
theorem hyX7_copy : hyV yX7_copy RX7 5 := by decide +kernel
set_option maxHeartbeats 4000000 in
set_option maxRecDepth 100000 in
theorem c_X7_copy (l : Launch) (D : va_G) (a : Nat → Nat) (Z K U R : YS) (C : Int → Int64) (hT : TI (Z, K, R, C)) (s f t u n : Int) (hs : -2147483648 ≤ s ∧ s < 2147483648) (hf : -2147483648 ≤ f ∧ f < 2147483648) (ht : -2147483648 ≤ t ∧ t < 2147483648) (hu : -2147483648 ≤ u ∧ u < 2147483648) (hn : -2147483648 ≤ n ∧ n < 2147483648) : Con l yX7_copy wsX7_copy 3 D (mw D a Z K U R C) [.ref (a 0), .int (iI s), .int (iI f), .int (iI t), .int (iI u), .int (iI n)] (some (.int (iI ((s_copy (Z, K, R, C) s f t u n).1)))) (fun ww => ∃ U2, ww = mwT D a (s_copy (Z, K, R, C) s f t u n).2 U2) := by
  refine con_start (own := RX7) (by decide) rfl rfl (Nat.le_of_ble_eq_true rfl) ?_
  intro G hG hE hl hD
  subst hl
  subst hD
  have hI : Inv Z := hT.1.1
  have hN := hI.1
  have hr0 := hI.2.1
  have hu5 := hI.2.2.1
  have hrd : Z 5 0 ≤ 99999 := hT.1.2.2
  have hS : ∀ s, 0 ≤ s → s < 4 → (R 3 s = 0 ∨ R 3 s = 8 ∨ R 3 s = 16 ∨ R 3 s = 64) ∧ 0 ≤ R 4 s ∧ R 4 s ≤ 40 := hT.2.2.2
  have hs3 : 0 ≤ s ∧ s ≤ 3 → _ := fun h => hS s h.1 (by omega)
  have ht3 : 0 ≤ t ∧ t ≤ 3 → _ := fun h => hS t h.1 (by omega)
  by_cases h1 : (0 ≤ s ∧ s ≤ 3) ∧ 0 ≤ t ∧ t ≤ 3
  · by_cases h2 : R 3 s = 0 ∨ R 3 t = 0
    · skip
      refine r_aload_n (i := 0) hG dX7_copy_0 rfl rfl ?_
      refine r_iload_n (i := 1) hG dX7_copy_1 rfl rfl ?_
      refine r_iload_n (i := 2) hG dX7_copy_2 rfl rfl ?_
      refine r_iload_n (i := 3) hG dX7_copy_3 rfl rfl ?_
      refine r_iload hG dX7_copy_4 rfl ?_
      refine r_iload hG dX7_copy_6 rfl ?_
      refine r_callVi hG (c_X7_notCopied (g_l G) (g_D G) a Z K U R C hS _ _ _ _ _ hs hf ht hu hn)  gX7_copy_X7_notCopied rfl hyX7_notCopied rfl (by decide) (by decide) 0 rfl rfl rfl (Nat.le_of_ble_eq_true rfl) ⟨Nat.zero_le _, Nat.zero_le _⟩ dX7_copy_8 (fun w hw => ?_)
      subst hw
      refine V_top (x' := iI (-1000000006)) (congrArg iI (by unfold ncp; (repeat (first | rw [if_pos (by omega)] | rw [if_neg (by omega)])))) ?_
      refine r_istore hG dX7_copy_11 (by decide) rfl ?_
      refine r_iload hG dX7_copy_13 rfl ?_
      refine r_if_eq (tgt := 25) hG (by omega) dX7_copy_15 (by decide) (fun c15 => ?_) (fun c15 => ?_)
      · (exfalso; omega)
      · refine r_aload_n (i := 0) hG dX7_copy_18 rfl rfl ?_
        refine r_iload hG dX7_copy_19 rfl ?_
        refine r_callVi hG (c_X7_finds (g_l G) (g_D G) a Z K U R C (-1000000006) 5 (by omega) (by omega))  gX7_copy_X7_finds rfl hyX7_finds rfl (by decide) (by decide) 0 rfl rfl rfl (Nat.le_of_ble_eq_true rfl) ⟨Nat.zero_le _, Nat.zero_le _⟩ dX7_copy_21 (fun w hw => ?_)
        subst hw
        exact r_iret hG hE dX7_copy_24 (by unfold s_copy; (try dsimp only); (repeat (first | rw [if_pos (by omega)] | rw [if_neg (by omega)])) <;> (first | rfl | skip)) ⟨U, by unfold s_copy; (try dsimp only); (repeat (first | rw [if_pos (by omega)] | rw [if_neg (by omega)])) <;> (first | rfl | skip)⟩
    · by_cases h3 : ¬ R 3 s = R 3 t
      · skip
        refine r_aload_n (i := 0) hG dX7_copy_0 rfl rfl ?_
        refine r_iload_n (i := 1) hG dX7_copy_1 rfl rfl ?_
        refine r_iload_n (i := 2) hG dX7_copy_2 rfl rfl ?_
        refine r_iload_n (i := 3) hG dX7_copy_3 rfl rfl ?_
        refine r_iload hG dX7_copy_4 rfl ?_
        refine r_iload hG dX7_copy_6 rfl ?_
        refine r_callVi hG (c_X7_notCopied (g_l G) (g_D G) a Z K U R C hS _ _ _ _ _ hs hf ht hu hn)  gX7_copy_X7_notCopied rfl hyX7_notCopied rfl (by decide) (by decide) 0 rfl rfl rfl (Nat.le_of_ble_eq_true rfl) ⟨Nat.zero_le _, Nat.zero_le _⟩ dX7_copy_8 (fun w hw => ?_)
        subst hw
        refine V_top (x' := iI (-1000000003)) (congrArg iI (by unfold ncp; (repeat (first | rw [if_pos (by omega)] | rw [if_neg (by omega)])))) ?_
        refine r_istore hG dX7_copy_11 (by decide) rfl ?_
        refine r_iload hG dX7_copy_13 rfl ?_
        refine r_if_eq (tgt := 25) hG (by omega) dX7_copy_15 (by decide) (fun c15 => ?_) (fun c15 => ?_)
        · (exfalso; omega)
        · refine r_aload_n (i := 0) hG dX7_copy_18 rfl rfl ?_
          refine r_iload hG dX7_copy_19 rfl ?_
          refine r_callVi hG (c_X7_finds (g_l G) (g_D G) a Z K U R C (-1000000003) 2 (by omega) (by omega))  gX7_copy_X7_finds rfl hyX7_finds rfl (by decide) (by decide) 0 rfl rfl rfl (Nat.le_of_ble_eq_true rfl) ⟨Nat.zero_le _, Nat.zero_le _⟩ dX7_copy_21 (fun w hw => ?_)
          subst hw
          exact r_iret hG hE dX7_copy_24 (by unfold s_copy; (try dsimp only); (repeat (first | rw [if_pos (by omega)] | rw [if_neg (by omega)])) <;> (first | rfl | skip)) ⟨U, by unfold s_copy; (try dsimp only); (repeat (first | rw [if_pos (by omega)] | rw [if_neg (by omega)])) <;> (first | rfl | skip)⟩
      · by_cases h4 : (0 ≤ n ∧ 0 ≤ f ∧ 0 ≤ u) ∧ n ≤ R 4 s - f ∧ n ≤ R 4 t - u
        · have e0 : s_copy (Z, K, R, C) s f t u n = (n, (Z, K, R, cpyC C (40 * s + f) (40 * t + u) n)) := by
            unfold s_copy; (try dsimp only); rw [if_pos h1, if_neg h2, if_neg h3, if_pos h4]
          have ha := hs3 h1.1
          have hb := ht3 h1.2
          have LF : ¬ f < u → ∀ i : Nat, i ≤ n.toNat → V G 0 0 (mw (g_D G) a Z K U R (cpF C (40 * s + f) (40 * t + u) (i : Int))) 28 [(0, .ref (a 0)), (1, .int (iI s)), (2, .int (iI f)), (3, .int (iI t)), (4, .int (iI u)), (5, .int (iI n)), (7, .int (iI (i : Int)))] [] := by
            intro hfu
            refine down (fun i hi ih => ?_)
            refine r_iload hG dX7_copy_28 rfl ?_
            refine r_iload hG dX7_copy_30 rfl ?_
            refine r_icmp_ge (tgt := 90) hG (by omega) (by omega) dX7_copy_32 (by decide) (fun c32 => ?_) (fun c32 => ?_)
            · refine r_iload hG dX7_copy_90 rfl ?_
              exact r_iret hG hE dX7_copy_92 (by rw [e0]) ⟨U, by rw [e0, show (i : Int) = n by omega]; rfl⟩
            · refine r_iload_n (i := 2) hG dX7_copy_35 rfl rfl ?_
              refine r_iload hG dX7_copy_36 rfl ?_
              refine r_icmp_ge (tgt := 51) hG (by omega) (by omega) dX7_copy_38 (by decide) (fun c38 => ?_) (fun c38 => ?_)
              · refine r_iload hG dX7_copy_51 rfl ?_
                refine r_istore hG dX7_copy_53 (by decide) rfl ?_
                refine r_aload_n (i := 0) hG dX7_copy_55 rfl rfl ?_
                refine r_get hG cX7_copy_X7 0 14 rfl rfl (by decide) kX7_copy_31 rfl dX7_copy_56 ?_
                refine r_bipush hG dX7_copy_59 rfl ?_
                refine r_iload_n (i := 3) hG dX7_copy_61 rfl rfl ?_
                refine r_imul hG dX7_copy_62 ?_
                refine r_iload hG dX7_copy_63 rfl ?_
                refine r_iadd hG dX7_copy_65 ?_
                refine r_iload hG dX7_copy_66 rfl ?_
                refine r_iadd hG dX7_copy_68 ?_
                refine r_aload_n (i := 0) hG dX7_copy_69 rfl rfl ?_
                refine r_get hG cX7_copy_X7 0 14 rfl rfl (by decide) kX7_copy_31 rfl dX7_copy_70 ?_
                refine r_bipush hG dX7_copy_73 rfl ?_
                refine r_iload_n (i := 1) hG dX7_copy_75 rfl rfl ?_
                refine r_imul hG dX7_copy_76 ?_
                refine r_iload_n (i := 2) hG dX7_copy_77 rfl rfl ?_
                refine r_iadd hG dX7_copy_78 ?_
                refine r_iload hG dX7_copy_79 rfl ?_
                refine r_iadd hG dX7_copy_81 ?_
                refine r_lald hG 8 rfl (by omega) (by decide) dX7_copy_82 ?_
                refine r_last hG 8 rfl (by omega) (by decide) dX7_copy_83 rfl ?_
                refine V_la (g := cpF C (40 * s + f) (40 * t + u) ((i : Int) + 1)) 8 rfl (fun j h0 h1' => by
                  rw [show 40 * t + u + (i : Int) = 40 * t + u + i by omega]
                  exact cpF_step (by omega) (by omega) j) rfl ?_
                refine r_iinc hG dX7_copy_84 rfl (by decide) rfl ?_
                refine r_goto (tgt := 28) hG dX7_copy_87 (by decide) ?_
                exact V_ws (ws' := mw (g_D G) a Z K U R (cpF C (40 * s + f) (40 * t + u) ((i + 1 : Nat) : Int))) rfl (V_lv (ih (by omega)) ⟨rfl, rfl, rfl, rfl, rfl, rfl, rfl, trivial⟩)
              · (exfalso; omega)
          have LB : f < u → ∀ i : Nat, i ≤ n.toNat → V G 0 0 (mw (g_D G) a Z K U R (cpB C (40 * s + f) (40 * t + u) n (i : Int))) 28 [(0, .ref (a 0)), (1, .int (iI s)), (2, .int (iI f)), (3, .int (iI t)), (4, .int (iI u)), (5, .int (iI n)), (7, .int (iI (i : Int)))] [] := by
            intro hfu
            refine down (fun i hi ih => ?_)
            refine r_iload hG dX7_copy_28 rfl ?_
            refine r_iload hG dX7_copy_30 rfl ?_
            refine r_icmp_ge (tgt := 90) hG (by omega) (by omega) dX7_copy_32 (by decide) (fun c32 => ?_) (fun c32 => ?_)
            · refine V_la (g := cpyC C (40 * s + f) (40 * t + u) n) 8 rfl (fun j h0 h1' => by
                unfold cpB cpyC
                by_cases e2 : 40 * t + u ≤ j ∧ j < 40 * t + u + n
                · rw [if_pos (by omega), if_pos e2]
                · rw [if_neg (by omega), if_neg e2]) rfl ?_
              refine r_iload hG dX7_copy_90 rfl ?_
              exact r_iret hG hE dX7_copy_92 (by rw [e0]) ⟨U, by rw [e0]; rfl⟩
            · refine r_iload_n (i := 2) hG dX7_copy_35 rfl rfl ?_
              refine r_iload hG dX7_copy_36 rfl ?_
              refine r_icmp_ge (tgt := 51) hG (by omega) (by omega) dX7_copy_38 (by decide) (fun c38 => ?_) (fun c38 => ?_)
              · (exfalso; omega)
              · refine r_iload hG dX7_copy_41 rfl ?_
                refine r_iconst hG dX7_copy_43 ?_
                refine r_isub hG dX7_copy_44 ?_
                refine r_iload hG dX7_copy_45 rfl ?_
                refine r_isub hG dX7_copy_47 ?_
                refine r_goto (tgt := 53) hG dX7_copy_48 (by decide) ?_
                refine r_istore hG dX7_copy_53 (by decide) rfl ?_
                refine r_aload_n (i := 0) hG dX7_copy_55 rfl rfl ?_
                refine r_get hG cX7_copy_X7 0 14 rfl rfl (by decide) kX7_copy_31 rfl dX7_copy_56 ?_
                refine r_bipush hG dX7_copy_59 rfl ?_
                refine r_iload_n (i := 3) hG dX7_copy_61 rfl rfl ?_
                refine r_imul hG dX7_copy_62 ?_
                refine r_iload hG dX7_copy_63 rfl ?_
                refine r_iadd hG dX7_copy_65 ?_
                refine r_iload hG dX7_copy_66 rfl ?_
                refine r_iadd hG dX7_copy_68 ?_
                refine r_aload_n (i := 0) hG dX7_copy_69 rfl rfl ?_
                refine r_get hG cX7_copy_X7 0 14 rfl rfl (by decide) kX7_copy_31 rfl dX7_copy_70 ?_
                refine r_bipush hG dX7_copy_73 rfl ?_
                refine r_iload_n (i := 1) hG dX7_copy_75 rfl rfl ?_
                refine r_imul hG dX7_copy_76 ?_
                refine r_iload_n (i := 2) hG dX7_copy_77 rfl rfl ?_
                refine r_iadd hG dX7_copy_78 ?_
                refine r_iload hG dX7_copy_79 rfl ?_
                refine r_iadd hG dX7_copy_81 ?_
                refine r_lald hG 8 rfl (by omega) (by decide) dX7_copy_82 ?_
                refine r_last hG 8 rfl (by omega) (by decide) dX7_copy_83 rfl ?_
                refine V_la (g := cpB C (40 * s + f) (40 * t + u) n ((i : Int) + 1)) 8 rfl (fun j h0 h1' => cpB_step (by omega) (by omega) j) rfl ?_
                refine r_iinc hG dX7_copy_84 rfl (by decide) rfl ?_
                refine r_goto (tgt := 28) hG dX7_copy_87 (by decide) ?_
                exact V_ws (ws' := mw (g_D G) a Z K U R (cpB C (40 * s + f) (40 * t + u) n ((i + 1 : Nat) : Int))) rfl (V_lv (ih (by omega)) ⟨rfl, rfl, rfl, rfl, rfl, rfl, rfl, trivial⟩)
          by_cases hfu : f < u
          · skip
            refine r_aload_n (i := 0) hG dX7_copy_0 rfl rfl ?_
            refine r_iload_n (i := 1) hG dX7_copy_1 rfl rfl ?_
            refine r_iload_n (i := 2) hG dX7_copy_2 rfl rfl ?_
            refine r_iload_n (i := 3) hG dX7_copy_3 rfl rfl ?_
            refine r_iload hG dX7_copy_4 rfl ?_
            refine r_iload hG dX7_copy_6 rfl ?_
            refine r_callVi hG (c_X7_notCopied (g_l G) (g_D G) a Z K U R C hS _ _ _ _ _ hs hf ht hu hn)  gX7_copy_X7_notCopied rfl hyX7_notCopied rfl (by decide) (by decide) 0 rfl rfl rfl (Nat.le_of_ble_eq_true rfl) ⟨Nat.zero_le _, Nat.zero_le _⟩ dX7_copy_8 (fun w hw => ?_)
            subst hw
            refine V_top (x' := iI (0)) (congrArg iI (by unfold ncp; (repeat (first | rw [if_pos (by omega)] | rw [if_neg (by omega)])))) ?_
            refine r_istore hG dX7_copy_11 (by decide) rfl ?_
            refine r_iload hG dX7_copy_13 rfl ?_
            refine r_if_eq (tgt := 25) hG (by omega) dX7_copy_15 (by decide) (fun c15 => ?_) (fun c15 => ?_)
            · refine r_iconst hG dX7_copy_25 ?_
              refine r_istore hG dX7_copy_26 (by decide) rfl ?_
              exact V_la (g := cpB C (40 * s + f) (40 * t + u) n ((0 : Nat) : Int)) 8 rfl (fun j h0 h1' => by unfold cpB; rw [if_neg (by omega)]) rfl (V_lv (LB hfu 0 (by omega)) ⟨rfl, rfl, rfl, rfl, rfl, rfl, rfl, trivial⟩)
            · exact absurd rfl c15
          · skip
            refine r_aload_n (i := 0) hG dX7_copy_0 rfl rfl ?_
            refine r_iload_n (i := 1) hG dX7_copy_1 rfl rfl ?_
            refine r_iload_n (i := 2) hG dX7_copy_2 rfl rfl ?_
            refine r_iload_n (i := 3) hG dX7_copy_3 rfl rfl ?_
            refine r_iload hG dX7_copy_4 rfl ?_
            refine r_iload hG dX7_copy_6 rfl ?_
            refine r_callVi hG (c_X7_notCopied (g_l G) (g_D G) a Z K U R C hS _ _ _ _ _ hs hf ht hu hn)  gX7_copy_X7_notCopied rfl hyX7_notCopied rfl (by decide) (by decide) 0 rfl rfl rfl (Nat.le_of_ble_eq_true rfl) ⟨Nat.zero_le _, Nat.zero_le _⟩ dX7_copy_8 (fun w hw => ?_)
            subst hw
            refine V_top (x' := iI (0)) (congrArg iI (by unfold ncp; (repeat (first | rw [if_pos (by omega)] | rw [if_neg (by omega)])))) ?_
            refine r_istore hG dX7_copy_11 (by decide) rfl ?_
            refine r_iload hG dX7_copy_13 rfl ?_
            refine r_if_eq (tgt := 25) hG (by omega) dX7_copy_15 (by decide) (fun c15 => ?_) (fun c15 => ?_)
            · refine r_iconst hG dX7_copy_25 ?_
              refine r_istore hG dX7_copy_26 (by decide) rfl ?_
              exact V_la (g := cpF C (40 * s + f) (40 * t + u) ((0 : Nat) : Int)) 8 rfl (fun j h0 h1' => by unfold cpF; rw [if_neg (by omega)]) rfl (V_lv (LF hfu 0 (by omega)) ⟨rfl, rfl, rfl, rfl, rfl, rfl, rfl, trivial⟩)
            · exact absurd rfl c15
        · skip
          refine r_aload_n (i := 0) hG dX7_copy_0 rfl rfl ?_
          refine r_iload_n (i := 1) hG dX7_copy_1 rfl rfl ?_
          refine r_iload_n (i := 2) hG dX7_copy_2 rfl rfl ?_
          refine r_iload_n (i := 3) hG dX7_copy_3 rfl rfl ?_
          refine r_iload hG dX7_copy_4 rfl ?_
          refine r_iload hG dX7_copy_6 rfl ?_
          refine r_callVi hG (c_X7_notCopied (g_l G) (g_D G) a Z K U R C hS _ _ _ _ _ hs hf ht hu hn)  gX7_copy_X7_notCopied rfl hyX7_notCopied rfl (by decide) (by decide) 0 rfl rfl rfl (Nat.le_of_ble_eq_true rfl) ⟨Nat.zero_le _, Nat.zero_le _⟩ dX7_copy_8 (fun w hw => ?_)
          subst hw
          refine V_top (x' := iI (-1000000001)) (congrArg iI (by unfold ncp; (repeat (first | rw [if_pos (by omega)] | rw [if_neg (by omega)])))) ?_
          refine r_istore hG dX7_copy_11 (by decide) rfl ?_
          refine r_iload hG dX7_copy_13 rfl ?_
          refine r_if_eq (tgt := 25) hG (by omega) dX7_copy_15 (by decide) (fun c15 => ?_) (fun c15 => ?_)
          · (exfalso; omega)
          · refine r_aload_n (i := 0) hG dX7_copy_18 rfl rfl ?_
            refine r_iload hG dX7_copy_19 rfl ?_
            refine r_callVi hG (c_X7_finds (g_l G) (g_D G) a Z K U R C (-1000000001) 0 (by omega) (by omega))  gX7_copy_X7_finds rfl hyX7_finds rfl (by decide) (by decide) 0 rfl rfl rfl (Nat.le_of_ble_eq_true rfl) ⟨Nat.zero_le _, Nat.zero_le _⟩ dX7_copy_21 (fun w hw => ?_)
            subst hw
            exact r_iret hG hE dX7_copy_24 (by unfold s_copy; (try dsimp only); (repeat (first | rw [if_pos (by omega)] | rw [if_neg (by omega)])) <;> (first | rfl | skip)) ⟨U, by unfold s_copy; (try dsimp only); (repeat (first | rw [if_pos (by omega)] | rw [if_neg (by omega)])) <;> (first | rfl | skip)⟩
  · skip
    refine r_aload_n (i := 0) hG dX7_copy_0 rfl rfl ?_
    refine r_iload_n (i := 1) hG dX7_copy_1 rfl rfl ?_
    refine r_iload_n (i := 2) hG dX7_copy_2 rfl rfl ?_
    refine r_iload_n (i := 3) hG dX7_copy_3 rfl rfl ?_
    refine r_iload hG dX7_copy_4 rfl ?_
    refine r_iload hG dX7_copy_6 rfl ?_
    refine r_callVi hG (c_X7_notCopied (g_l G) (g_D G) a Z K U R C hS _ _ _ _ _ hs hf ht hu hn)  gX7_copy_X7_notCopied rfl hyX7_notCopied rfl (by decide) (by decide) 0 rfl rfl rfl (Nat.le_of_ble_eq_true rfl) ⟨Nat.zero_le _, Nat.zero_le _⟩ dX7_copy_8 (fun w hw => ?_)
    subst hw
    refine V_top (x' := iI (-1000000001)) (congrArg iI (by unfold ncp; (repeat (first | rw [if_pos (by omega)] | rw [if_neg (by omega)])))) ?_
    refine r_istore hG dX7_copy_11 (by decide) rfl ?_
    refine r_iload hG dX7_copy_13 rfl ?_
    refine r_if_eq (tgt := 25) hG (by omega) dX7_copy_15 (by decide) (fun c15 => ?_) (fun c15 => ?_)
    · (exfalso; omega)
    · refine r_aload_n (i := 0) hG dX7_copy_18 rfl rfl ?_
      refine r_iload hG dX7_copy_19 rfl ?_
      refine r_callVi hG (c_X7_finds (g_l G) (g_D G) a Z K U R C (-1000000001) 0 (by omega) (by omega))  gX7_copy_X7_finds rfl hyX7_finds rfl (by decide) (by decide) 0 rfl rfl rfl (Nat.le_of_ble_eq_true rfl) ⟨Nat.zero_le _, Nat.zero_le _⟩ dX7_copy_21 (fun w hw => ?_)
      subst hw
      exact r_iret hG hE dX7_copy_24 (by unfold s_copy; (try dsimp only); (repeat (first | rw [if_pos (by omega)] | rw [if_neg (by omega)])) <;> (first | rfl | skip)) ⟨U, by unfold s_copy; (try dsimp only); (repeat (first | rw [if_pos (by omega)] | rw [if_neg (by omega)])) <;> (first | rfl | skip)⟩
