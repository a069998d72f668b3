theorem kX6_mates_10 : Cond.fieldLink RX6 10 "BreakSwaps" "live" "LBreakSwaps$Yard;" ∈ wsX6_mates := List.mem_of_getElem? (i := 1) rfl
theorem kX6_mates_158 : Cond.fieldLink RX6 158 "BreakSwaps$Yard" "size" "I" ∈ wsX6_mates := List.mem_of_getElem? (i := 2) rfl
theorem cX6_mates_X4 : ∀ w ∈ wsX40, w ∈ wsX6_mates := fun _ h => List.mem_cons_of_mem _ (List.mem_append_right _ h)
theorem cX6_mates_X6 : ∀ w ∈ wsX60, w ∈ wsX6_mates := fun _ h => List.mem_cons_of_mem _ (List.mem_append_left _ (List.mem_append_right _ h))
theorem hyX6_mates : hyV yX6_mates RX6 1 := by decide +kernel
set_option maxHeartbeats 4000000 in
set_option maxRecDepth 100000 in
theorem c_X6_mates (l : Launch) (D : va_G) (a : Nat → Nat) (Z K R : YS) (C : Int → Int64) (YT : YS) (J : Nat → Int) (hT : TI (Z, K, R, C)) (c : Int) (hc : -2147483648 ≤ c ∧ c < 2147483648) : Con l yX6_mates wsX6_mates 6 D (bw D a Z K R C YT J) [.ref (a 0), .int (iI c)] (some (.int (iI ((s_mates (Z, K, R, C) c).1)))) (fun ww => ∃ Y2 J2, ww = bwT D a (s_mates (Z, K, R, C) c).2 Y2 J2) := by
  refine con_start (own := RX6) (by decide) rfl rfl (Nat.le_of_ble_eq_true rfl) ?_
  intro G hG hE hl hD
  subst hl
  subst hD
  have hI : Inv Z := hT.1.1
  have hH : Hol Z := hT.1.2.1
  have hN := hI.1
  have hr0 := hI.2.1
  have hu5 := hI.2.2.1
  have hrd : Z 5 0 ≤ 99999 := hT.1.2.2
  have L : (0 ≤ c ∧ c < Z 5 2) → ∀ i : Nat, i ≤ (Z 5 2).toNat → V G 0 0 (bw (g_D G) a Z K R C YT J) 18 [(0, .ref (a 0)), (1, .int (iI c)), (2, .int (iI (maskN (wsw Z c) i))), (3, .int (iI (i : Int)))] [] := by
    intro hc0
    refine down (fun i hi ih => ?_)
    have hJ : ∀ x : Int32, i < (Z 5 2).toNat → x = iI (maskN (wsw Z c) (i + 1)) → V G 0 0 (bw (g_D G) a Z K R C YT J) 47 [(0, .ref (a 0)), (1, .int (iI c)), (2, .int x), (3, .int (iI (i : Int)))] [] := by
      intro x hi2 hx
      subst hx
      refine r_iinc hG dX6_mates_47 rfl (by decide) rfl ?_
      refine r_goto (tgt := 18) hG dX6_mates_50 (by decide) ?_
      exact V_lv (ih hi2) ⟨rfl, rfl, rfl, rfl, trivial⟩
    refine r_iload_n (i := 3) hG dX6_mates_18 rfl rfl ?_
    refine r_aload_n (i := 0) hG dX6_mates_19 rfl rfl ?_
    refine r_get hG cX6_mates_X6 0 0 rfl rfl (by decide) kX6_mates_10 rfl dX6_mates_20 ?_
    refine r_get hG cX6_mates_X4 2 2 rfl rfl (by decide) kX6_mates_158 rfl dX6_mates_23 ?_
    refine r_icmp_ge (tgt := 53) hG (by omega) (by omega) dX6_mates_26 (by decide) (fun c26 => ?_) (fun c26 => ?_)
    · refine r_iload_n (i := 2) hG dX6_mates_53 rfl rfl ?_
      have ei : i = (Z 5 2).toNat := by omega
      subst ei
      exact r_iret hG hE dX6_mates_54 (by unfold s_mates; dsimp only; rw [if_pos (by omega)]) ⟨YT, J, by unfold s_mates; dsimp only; rw [if_pos (by omega)]; rfl⟩
    · refine r_aload_n (i := 0) hG dX6_mates_29 rfl rfl ?_
      refine r_get hG cX6_mates_X6 0 0 rfl rfl (by decide) kX6_mates_10 rfl dX6_mates_30 ?_
      refine r_iload_n (i := 1) hG dX6_mates_33 rfl rfl ?_
      refine r_iload_n (i := 3) hG dX6_mates_34 rfl rfl ?_
      refine r_midi hG (c_X4_wouldSwap (g_l G) (g_D G) (fun i => a (2 + i)) (Z) ((J) 0) ((J) 1) ((J) 2) hI hH _ _ (by omega) (by omega)) (bobj (g_D G) a (R)) (yw (g_D G) (fun i => a (10 + i)) (K) ((J) 3) ((J) 4) ((J) 5) ++ (yw (g_D G) (fun i => a (18 + i)) (YT) ((J) 6) ((J) 7) ((J) 8) ++ (bestw (a 26) ((J) 9) ((J) 10) ++ (btxt (g_D G) a (R) (J) ++ bshs (g_D G) a (R) (C))))) rfl gX6_mates_X4_wouldSwap rfl hyX4_wouldSwap rfl (by decide) (by decide) 0 rfl rfl rfl (Nat.le_of_ble_eq_true rfl) ⟨Nat.zero_le _, Nat.zero_le _⟩ dX6_mates_35 ?_
      intro w hw
      subst hw
      refine V_ws (ws' := bw (g_D G) a (Z) (K) (R) (C) (YT) (J)) rfl ?_
      refine rb_if_eq (tgt := 47) hG dX6_mates_38 (by decide) (fun c38 => ?_) (fun c38 => ?_)
      · try simp only [decide_eq_true_eq, decide_eq_false_iff_not] at c38
        first
          | exact V_lv (hJ _ (by omega) (mask_step_t (by omega) c38)) ⟨rfl, rfl, rfl, rfl, trivial⟩
          | exact V_lv (hJ _ (by omega) (by rw [maskN, c38]; simp)) ⟨rfl, rfl, rfl, rfl, trivial⟩
      · try simp only [decide_eq_true_eq, decide_eq_false_iff_not] at c38
        refine r_iload_n (i := 2) hG dX6_mates_41 rfl rfl ?_
        refine r_iconst hG dX6_mates_42 ?_
        refine r_iload_n (i := 3) hG dX6_mates_43 rfl rfl ?_
        refine rr_ishl hG dX6_mates_44 ?_
        refine rr_ior hG dX6_mates_45 ?_
        refine r_istore_n (i := 2) hG dX6_mates_46 rfl (by decide) rfl ?_
        first
          | exact V_lv (hJ _ (by omega) (mask_step_t (by omega) c38)) ⟨rfl, rfl, rfl, rfl, trivial⟩
          | exact V_lv (hJ _ (by omega) (by rw [maskN, c38]; simp)) ⟨rfl, rfl, rfl, rfl, trivial⟩
  refine r_aload_n (i := 0) hG dX6_mates_0 rfl rfl ?_
  refine r_iload_n (i := 1) hG dX6_mates_1 rfl rfl ?_
  refine r_callVi hG (c_X6_isThere (g_l G) (g_D G) a Z K R C YT J hI _ (by omega))  gX6_mates_X6_isThere rfl hyX6_isThere rfl (by decide) (by decide) 0 rfl rfl rfl (Nat.le_of_ble_eq_true rfl) ⟨Nat.zero_le _, Nat.zero_le _⟩ dX6_mates_2 (fun w hw => ?_)
  subst hw
  refine rb_if_ne (tgt := 14) hG dX6_mates_5 (by decide) (fun c5 => ?_) (fun c5 => ?_)
  · try simp only [decide_eq_true_eq, decide_eq_false_iff_not] at c5
    refine r_iconst hG dX6_mates_14 ?_
    refine r_istore_n (i := 2) hG dX6_mates_15 rfl (by decide) rfl ?_
    refine r_iconst hG dX6_mates_16 ?_
    refine r_istore_n (i := 3) hG dX6_mates_17 rfl (by decide) rfl ?_
    exact V_lv (L (by omega) 0 (by omega)) ⟨rfl, rfl, rfl, rfl, trivial⟩
  · try simp only [decide_eq_true_eq, decide_eq_false_iff_not] at c5
    refine r_aload_n (i := 0) hG dX6_mates_8 rfl rfl ?_
    refine r_iconst hG dX6_mates_9 ?_
    refine r_callVi hG (c_X6_finding (g_l G) (g_D G) a (Z) (K) (R) (C) (YT) (J) 0 (by omega))  gX6_mates_X6_finding rfl hyX6_finding rfl (by decide) (by decide) 0 rfl rfl rfl (Nat.le_of_ble_eq_true rfl) ⟨Nat.zero_le _, Nat.zero_le _⟩ dX6_mates_10 (fun w hw => ?_)
    subst hw
    exact r_iret hG hE dX6_mates_13 (by unfold s_mates; (try dsimp only); (repeat (first | rw [if_pos (by omega)] | rw [if_neg (by omega)])) <;> (first | rfl | skip)) ⟨YT, J, (by unfold s_mates; (try dsimp only); (repeat (first | rw [if_pos (by omega)] | rw [if_neg (by omega)])) <;> (first | rfl | skip))⟩
theorem kX6_ring_10 : Cond.fieldLink RX6 10 "BreakSwaps" "live" "LBreakSwaps$Yard;" ∈ wsX6_ring := List.mem_of_getElem? (i := 1) rfl
theorem kX6_ring_158 : Cond.fieldLink RX6 158 "BreakSwaps$Yard" "size" "I" ∈ wsX6_ring := List.mem_of_getElem? (i := 2) rfl
theorem cX6_ring_X4 : ∀ w ∈ wsX40, w ∈ wsX6_ring := fun _ h => List.mem_cons_of_mem _ (List.mem_append_right _ h)
theorem cX6_ring_X6 : ∀ w ∈ wsX60, w ∈ wsX6_ring := fun _ h => List.mem_cons_of_mem _ (List.mem_append_left _ (List.mem_append_right _ h))
theorem hyX6_ring : hyV yX6_ring RX6 0 := by decide +kernel
set_option maxHeartbeats 4000000 in
set_option maxRecDepth 100000 in
theorem c_X6_ring (l : Launch) (D : va_G) (a : Nat → Nat) (Z K R : YS) (C : Int → Int64) (YT : YS) (J : Nat → Int) (hT : TI (Z, K, R, C))  : Con l yX6_ring wsX6_ring 6 D (bw D a Z K R C YT J) [.ref (a 0)] (some (.int (iI ((s_ring (Z, K, R, C)).1)))) (fun ww => ∃ Y2 J2, ww = bwT D a (s_ring (Z, K, R, C)).2 Y2 J2) := by
  refine con_start (own := RX6) (by decide) rfl rfl (Nat.le_of_ble_eq_true rfl) ?_
  intro G hG hE hl hD
  subst hl
  subst hD
  have hI : Inv Z := hT.1.1
  have hH : Hol Z := hT.1.2.1
  have hN := hI.1
  have hr0 := hI.2.1
  have hu5 := hI.2.2.1
  have hrd : Z 5 0 ≤ 99999 := hT.1.2.2
  have L : ∀ i : Nat, i ≤ (Z 5 2).toNat → (∀ j : Nat, (j : Int) < ((i : Int) * Z 5 2 + (0 : Nat)) * Z 5 2 → ringF Z j = false) → V G 0 0 (bw (g_D G) a Z K R C YT J) 2 [(0, .ref (a 0)), (1, .int (iI (i : Int)))] [] := by
    refine down (fun i hi ih hf => ?_)
    have M : i < (Z 5 2).toNat → ∀ k : Nat, k ≤ (Z 5 2).toNat → (∀ j : Nat, (j : Int) < ((i : Int) * Z 5 2 + k) * Z 5 2 → ringF Z j = false) → V G 0 0 (bw (g_D G) a Z K R C YT J) 15 [(0, .ref (a 0)), (1, .int (iI (i : Int))), (2, .int (iI (k : Int)))] [] := by
      intro hiN
      refine down (fun k hk ihk hfk => ?_)
      have hJ : k < (Z 5 2).toNat → ∀ x : Int, ((x = -1 ∧ ∀ z : Nat, (z : Int) < Z 5 2 → ringP Z i k z = false) ∨ ∃ z : Nat, (z : Int) < Z 5 2 ∧ x = z ∧ ringP Z i k z = true ∧ ∀ j : Nat, j < z → ringP Z i k j = false) → V G 0 0 (bw (g_D G) a Z K R C YT J) 51 [(0, .ref (a 0)), (1, .int (iI (i : Int))), (2, .int (iI (k : Int)))] [.int (iI x)] := by
        intro hkN x hx
        rcases hx with ⟨e, hx⟩ | ⟨z, hz, e, hp, hx⟩
        · subst e
          refine r_istore_n (i := 3) hG dX6_ring_51 rfl (by decide) rfl ?_
          refine r_iload_n (i := 3) hG dX6_ring_52 rfl rfl ?_
          refine r_if_lt (tgt := 68) hG (by omega) dX6_ring_53 (by decide) (fun c53 => ?_) (fun c53 => ?_)
          · refine r_iinc hG dX6_ring_68 rfl (by decide) rfl ?_
            refine r_goto (tgt := 15) hG dX6_ring_71 (by decide) ?_
            exact V_lv (ihk hkN (ring_more (by omega) hfk hx)) ⟨rfl, rfl, rfl, trivial⟩
          · refine r_bipush hG dX6_ring_56 rfl ?_
            refine r_iload_n (i := 1) hG dX6_ring_58 rfl rfl ?_
            refine r_imul hG dX6_ring_59 ?_
            refine r_bipush hG dX6_ring_60 rfl ?_
            refine r_iload_n (i := 2) hG dX6_ring_62 rfl rfl ?_
            refine r_imul hG dX6_ring_63 ?_
            refine r_iadd hG dX6_ring_64 ?_
            refine r_iload_n (i := 3) hG dX6_ring_65 rfl rfl ?_
            refine r_iadd hG dX6_ring_66 ?_
            exact absurd c53 (by omega)
        · subst e
          have e1 := ring_found hI (by omega) (by omega) hz hfk hx hp
          refine r_istore_n (i := 3) hG dX6_ring_51 rfl (by decide) rfl ?_
          refine r_iload_n (i := 3) hG dX6_ring_52 rfl rfl ?_
          refine r_if_lt (tgt := 68) hG (by omega) dX6_ring_53 (by decide) (fun c53 => ?_) (fun c53 => ?_)
          · refine r_iinc hG dX6_ring_68 rfl (by decide) rfl ?_
            refine r_goto (tgt := 15) hG dX6_ring_71 (by decide) ?_
            exact absurd c53 (by omega)
          · refine r_bipush hG dX6_ring_56 rfl ?_
            refine r_iload_n (i := 1) hG dX6_ring_58 rfl rfl ?_
            refine r_imul hG dX6_ring_59 ?_
            refine r_bipush hG dX6_ring_60 rfl ?_
            refine r_iload_n (i := 2) hG dX6_ring_62 rfl rfl ?_
            refine r_imul hG dX6_ring_63 ?_
            refine r_iadd hG dX6_ring_64 ?_
            refine r_iload_n (i := 3) hG dX6_ring_65 rfl rfl ?_
            refine r_iadd hG dX6_ring_66 ?_
            exact r_iret hG hE dX6_ring_67 (by unfold s_ring; dsimp only; rw [if_neg e1.1, e1.2]) ⟨YT, J, by unfold s_ring; dsimp only; rw [if_neg e1.1]; rfl⟩
      have hn0 : wants Z i k = false → ∀ z : Nat, (z : Int) < Z 5 2 → ringP Z i k z = false := fun h z _ => by unfold ringP; rw [h]; rfl
      have hn1 : wants Z i k = true → ∀ z : Nat, ringP Z i k z = (wants Z k z && wants Z z i) := fun h z => by unfold ringP; rw [h]; rfl
      have hc1 : wants Z i k = true → ((leastN (fun c => wants Z k c && wants Z c i) (Z 5 2).toNat = -1 ∧ ∀ z : Nat, (z : Int) < Z 5 2 → ringP Z i k z = false) ∨ ∃ z : Nat, (z : Int) < Z 5 2 ∧ leastN (fun c => wants Z k c && wants Z c i) (Z 5 2).toNat = z ∧ ringP Z i k z = true ∧ ∀ j : Nat, j < z → ringP Z i k j = false) := by
        intro h
        rcases leastN_cases (fun c => wants Z k c && wants Z c i) (Z 5 2).toNat with ⟨h1, h2⟩ | ⟨z, h1, h2, h3, h4⟩
        · exact Or.inl ⟨h1, fun z hz => by rw [hn1 h z]; exact h2 z (by omega)⟩
        · exact Or.inr ⟨z, by omega, h2, by rw [hn1 h z]; exact h3, fun j hj => by rw [hn1 h j]; exact h4 j hj⟩
      refine r_iload_n (i := 2) hG dX6_ring_15 rfl rfl ?_
      refine r_aload_n (i := 0) hG dX6_ring_16 rfl rfl ?_
      refine r_get hG cX6_ring_X6 0 0 rfl rfl (by decide) kX6_ring_10 rfl dX6_ring_17 ?_
      refine r_get hG cX6_ring_X4 2 2 rfl rfl (by decide) kX6_ring_158 rfl dX6_ring_20 ?_
      refine r_icmp_ge (tgt := 74) hG (by omega) (by omega) dX6_ring_23 (by decide) (fun c23 => ?_) (fun c23 => ?_)
      · refine r_iinc hG dX6_ring_74 rfl (by decide) rfl ?_
        refine r_goto (tgt := 2) hG dX6_ring_77 (by decide) ?_
        have ek : k = (Z 5 2).toNat := by omega
        subst ek
        exact V_lv (ih hiN (fun j hj => hfk j (by rw [show (((Z 5 2).toNat : Nat) : Int) = Z 5 2 by omega]; rw [show ((i + 1 : Nat) : Int) * Z 5 2 + ((0 : Nat) : Int) = (i : Int) * Z 5 2 + Z 5 2 by rw [Int.natCast_add, Int.add_mul]; simp] at hj; exact hj))) ⟨rfl, rfl, trivial⟩
      · refine r_aload_n (i := 0) hG dX6_ring_26 rfl rfl ?_
        refine r_get hG cX6_ring_X6 0 0 rfl rfl (by decide) kX6_ring_10 rfl dX6_ring_27 ?_
        refine r_iload_n (i := 1) hG dX6_ring_30 rfl rfl ?_
        refine r_iload_n (i := 2) hG dX6_ring_31 rfl rfl ?_
        refine r_midi hG (c_X4_wants (g_l G) (g_D G) (fun i => a (2 + i)) (Z) ((J) 0) ((J) 1) ((J) 2) hI hH _ _ (by omega) (by omega)) (bobj (g_D G) a (R)) (yw (g_D G) (fun i => a (10 + i)) (K) ((J) 3) ((J) 4) ((J) 5) ++ (yw (g_D G) (fun i => a (18 + i)) (YT) ((J) 6) ((J) 7) ((J) 8) ++ (bestw (a 26) ((J) 9) ((J) 10) ++ (btxt (g_D G) a (R) (J) ++ bshs (g_D G) a (R) (C))))) rfl gX6_ring_X4_wants rfl hyX4_wants rfl (by decide) (by decide) 0 rfl rfl rfl (Nat.le_of_ble_eq_true rfl) ⟨Nat.zero_le _, Nat.zero_le _⟩ dX6_ring_32 ?_
        intro w hw
        subst hw
        refine V_ws (ws' := bw (g_D G) a (Z) (K) (R) (C) (YT) (J)) rfl ?_
        refine rb_if_eq (tgt := 50) hG dX6_ring_35 (by decide) (fun c35 => ?_) (fun c35 => ?_)
        · try simp only [decide_eq_true_eq, decide_eq_false_iff_not] at c35
          refine r_iconst hG dX6_ring_50 ?_
          first
            | exact hJ (by omega) _ (hc1 c35)
            | exact hJ (by omega) _ (Or.inl ⟨rfl, hn0 c35⟩)
        · try simp only [decide_eq_true_eq, decide_eq_false_iff_not] at c35
          refine r_aload_n (i := 0) hG dX6_ring_38 rfl rfl ?_
          refine r_get hG cX6_ring_X6 0 0 rfl rfl (by decide) kX6_ring_10 rfl dX6_ring_39 ?_
          refine r_iload_n (i := 1) hG dX6_ring_42 rfl rfl ?_
          refine r_iload_n (i := 2) hG dX6_ring_43 rfl rfl ?_
          refine r_midi hG (c_X4_closesRing (g_l G) (g_D G) (fun i => a (2 + i)) (Z) ((J) 0) ((J) 1) ((J) 2) hI hH _ _ (by omega) (by omega)) (bobj (g_D G) a (R)) (yw (g_D G) (fun i => a (10 + i)) (K) ((J) 3) ((J) 4) ((J) 5) ++ (yw (g_D G) (fun i => a (18 + i)) (YT) ((J) 6) ((J) 7) ((J) 8) ++ (bestw (a 26) ((J) 9) ((J) 10) ++ (btxt (g_D G) a (R) (J) ++ bshs (g_D G) a (R) (C))))) rfl gX6_ring_X4_closesRing rfl hyX4_closesRing rfl (by decide) (by decide) 0 rfl rfl rfl (Nat.le_of_ble_eq_true rfl) ⟨Nat.zero_le _, Nat.zero_le _⟩ dX6_ring_44 ?_
          intro w hw
          subst hw
          refine V_ws (ws' := bw (g_D G) a (Z) (K) (R) (C) (YT) (J)) rfl ?_
          refine r_goto (tgt := 51) hG dX6_ring_47 (by decide) ?_
          first
            | exact hJ (by omega) _ (hc1 c35)
            | exact hJ (by omega) _ (Or.inl ⟨rfl, hn0 c35⟩)
    refine r_iload_n (i := 1) hG dX6_ring_2 rfl rfl ?_
    refine r_aload_n (i := 0) hG dX6_ring_3 rfl rfl ?_
    refine r_get hG cX6_ring_X6 0 0 rfl rfl (by decide) kX6_ring_10 rfl dX6_ring_4 ?_
    refine r_get hG cX6_ring_X4 2 2 rfl rfl (by decide) kX6_ring_158 rfl dX6_ring_7 ?_
    refine r_icmp_ge (tgt := 80) hG (by omega) (by omega) dX6_ring_10 (by decide) (fun c10 => ?_) (fun c10 => ?_)
    · refine r_aload_n (i := 0) hG dX6_ring_80 rfl rfl ?_
      refine r_iconst hG dX6_ring_81 ?_
      refine r_callVi hG (c_X6_finding (g_l G) (g_D G) a (Z) (K) (R) (C) (YT) (J) 3 (by omega))  gX6_ring_X6_finding rfl hyX6_finding rfl (by decide) (by decide) 0 rfl rfl rfl (Nat.le_of_ble_eq_true rfl) ⟨Nat.zero_le _, Nat.zero_le _⟩ dX6_ring_82 (fun w hw => ?_)
      subst hw
      have ei : i = (Z 5 2).toNat := by omega
      subst ei
      have e1 := leastN_none (f := ringF Z) (n := (Z 5 2 * Z 5 2 * Z 5 2).toNat) (fun j hj => hf j (by rw [show (((Z 5 2).toNat : Nat) : Int) = Z 5 2 by omega]; simp only [Int.natCast_zero, Int.add_zero]; have := (sq_rng hI.1).2.1; omega))
      exact r_iret hG hE dX6_ring_85 (by unfold s_ring; dsimp only; rw [e1, if_pos (by omega)]; rfl) ⟨YT, J, by unfold s_ring; dsimp only; rw [e1, if_pos (by omega)]; rfl⟩
    · refine r_iconst hG dX6_ring_13 ?_
      refine r_istore_n (i := 2) hG dX6_ring_14 rfl (by decide) rfl ?_
      exact V_lv (M (by omega) 0 (by omega) hf) ⟨rfl, rfl, rfl, trivial⟩
  refine r_iconst hG dX6_ring_0 ?_
  refine r_istore_n (i := 1) hG dX6_ring_1 rfl (by decide) rfl ?_
  exact V_lv (L 0 (by omega) (fun j hj => absurd hj (by simp))) ⟨rfl, rfl, trivial⟩
