theorem qN_succ (Y : YS) (n : Nat) : qN Y (n + 1) = (qN Y n && decide (partner (turnsN Y n) (n : Int) < 0)) := rfl
theorem asksK_rng (k r : Int) : 0 ≤ asksK k r ∧ asksK k r ≤ 7 := by
  unfold asksK
  split
  · omega
  · split
    · split <;> omega
    · split
      · split <;> omega
      · omega
theorem kX4_takeTurn_21 : Cond.fieldLink RX4 21 "BreakSwaps$Yard" "kinds" "[I" ∈ wsX4_takeTurn := List.mem_of_getElem? (i := 1) rfl
theorem kX4_takeTurn_9 : Cond.fieldLink RX4 9 "BreakSwaps$Yard" "round" "I" ∈ wsX4_takeTurn := List.mem_of_getElem? (i := 2) rfl
theorem kX4_takeTurn_25 : Cond.fieldLink RX4 25 "BreakSwaps$Yard" "has" "[I" ∈ wsX4_takeTurn := List.mem_of_getElem? (i := 3) rfl
theorem cX4_takeTurn_X4 : ∀ w ∈ wsX40, w ∈ wsX4_takeTurn := fun _ h => List.mem_cons_of_mem _ (List.mem_append_left _ (List.mem_append_right _ h))
theorem hyX4_takeTurn : hyV yX4_takeTurn RX4 1 := by decide +kernel
set_option maxHeartbeats 4000000 in
set_option maxRecDepth 100000 in
theorem c_X4_takeTurn (l : Launch) (D : va_G) (a : Nat → Nat) (Y : YS) (x z q : Int) (hI : Inv Y) (hH : Hol Y) (hr : Y 5 0 < 2000000000) (c : Int) (hc : 0 ≤ c ∧ c < 8) : Con l yX4_takeTurn wsX4_takeTurn 3 D (yw D a Y x z q) [.ref (a 0), .int (iI c)] (some (.int (iI (b2 (decide (0 ≤ partner Y c)))))) (fun w => ∃ x2 z2, w = yw D a (turnZ Y c) x2 z2 q) := by
  refine con_start (own := RX4) (by decide) rfl rfl (Nat.le_of_ble_eq_true rfl) ?_
  intro G hG hE hl hD
  subst hl
  subst hD
  have hN := hI.1
  have hr0 := hI.2.1
  have hc1 := Inv_c hI hc
  have hk := asksK_rng (Y 0 c) (Y 5 0)
  have L : ∀ (n : Nat) (asked : Int32) (x z : Int), n ≤ 7 → turnO Y c n asked = partner Y c → V G 0 0 (yw (g_D G) a Y x z q) 16 [(0, .ref (a 0)), (1, .int (iI c)), (2, .int asked), (3, .int (iI (n : Int)))] [] := by
    intro n
    induction n with
    | zero =>
      intro asked x z hn hp
      have hp1 : partner Y c = -1 := hp.symm
      refine r_iload_n (i := 3) hG dX4_takeTurn_16 rfl rfl ?_
      refine r_if_le (tgt := 87) hG (by omega) dX4_takeTurn_17 (by decide) (fun c17 => ?_) (fun c17 => ?_)
      · refine r_iconst hG dX4_takeTurn_87 ?_
        exact r_zret hG hE dX4_takeTurn_88 (by rw [hp1]; rfl) ⟨x, z, by unfold turnZ; rw [if_pos (by omega)]⟩
      · exact absurd c17 (by simp)
    | succ n ih =>
      intro asked x z hn hp
      have hx := nextZ_rng hI c asked
      have hpo : nextZ Y c asked < 0 → partner Y c = -1 := fun h => by
        rw [← hp]; unfold turnO; rw [if_pos h]
      have hpt : ¬ nextZ Y c asked < 0 → (agree Y c (Y 1 (nextZ Y c asked)) && agree Y (nextZ Y c asked) (Y 1 c)) = true → partner Y c = nextZ Y c asked := fun h h2 => by
        rw [← hp]; unfold turnO; rw [if_neg h, if_pos h2]
      have hpn : ¬ nextZ Y c asked < 0 → (agree Y c (Y 1 (nextZ Y c asked)) && agree Y (nextZ Y c asked) (Y 1 c)) = false → turnO Y c n (asked ||| (iI 1 <<< (iI (nextZ Y c asked) &&& 31))) = partner Y c := fun h h2 => by
        rw [← hp]
        show _ = turnO Y c (n + 1) asked
        rw [turnO, if_neg h, h2]
        rfl
      have ho1 : ¬ nextZ Y c asked < 0 → _ := fun h => Inv_c hI (c := nextZ Y c asked) (by omega)
      refine r_iload_n (i := 3) hG dX4_takeTurn_16 rfl rfl ?_
      refine r_if_le (tgt := 87) hG (by omega) dX4_takeTurn_17 (by decide) (fun c17 => ?_) (fun c17 => ?_)
      · exact absurd c17 (by omega)
      · refine r_aload_n (i := 0) hG dX4_takeTurn_20 rfl rfl ?_
        refine r_iload_n (i := 1) hG dX4_takeTurn_21 rfl rfl ?_
        refine r_iload_n (i := 2) hG dX4_takeTurn_22 rfl rfl ?_
        refine r_callVi hG (c_X4_nextToAsk (g_l G) (g_D G) a Y x z q hI hH c asked hc)  gX4_takeTurn_X4_nextToAsk rfl hyX4_nextToAsk rfl (by decide) (by decide) 0 rfl rfl rfl (Nat.le_of_ble_eq_true rfl) ⟨Nat.zero_le _, Nat.zero_le _⟩ dX4_takeTurn_23 ?_
        rintro w ⟨m2, hw⟩
        subst hw
        refine r_istore hG dX4_takeTurn_26 (by decide) rfl ?_
        refine r_iload hG dX4_takeTurn_28 rfl ?_
        refine r_if_ge (tgt := 35) hG (by omega) dX4_takeTurn_30 (by decide) (fun c30 => ?_) (fun c30 => ?_)
        · refine r_aload_n (i := 0) hG dX4_takeTurn_35 rfl rfl ?_
          refine r_iload_n (i := 1) hG dX4_takeTurn_36 rfl rfl ?_
          refine r_aload_n (i := 0) hG dX4_takeTurn_37 rfl rfl ?_
          refine r_get hG cX4_takeTurn_X4 0 4 rfl rfl (by decide) kX4_takeTurn_25 rfl dX4_takeTurn_38 ?_
          refine r_iload hG dX4_takeTurn_41 rfl ?_
          refine r_iald hG 2 rfl (by omega) (by decide) dX4_takeTurn_43 ?_
          refine r_callVi hG (c_X4_agreesTo (g_l G) (g_D G) a Y (nextZ Y c asked) m2 q hI hH _ _ (by omega) (by have := ho1 (by omega); omega))  gX4_takeTurn_X4_agreesTo rfl hyX4_agreesTo rfl (by decide) (by decide) 0 rfl rfl rfl (Nat.le_of_ble_eq_true rfl) ⟨Nat.zero_le _, Nat.zero_le _⟩ dX4_takeTurn_44 (fun w hw => ?_)
          subst hw
          refine rb_if_eq (tgt := 74) hG dX4_takeTurn_47 (by decide) (fun c47 => ?_) (fun c47 => ?_)
          · refine r_iload_n (i := 2) hG dX4_takeTurn_74 rfl rfl ?_
            refine r_iconst hG dX4_takeTurn_75 ?_
            refine r_iload hG dX4_takeTurn_76 rfl ?_
            refine rr_ishl hG dX4_takeTurn_78 ?_
            refine rr_ior hG dX4_takeTurn_79 ?_
            refine r_istore_n (i := 2) hG dX4_takeTurn_80 rfl (by decide) rfl ?_
            refine r_iinc hG dX4_takeTurn_81 rfl (by decide) rfl ?_
            refine r_goto (tgt := 16) hG dX4_takeTurn_84 (by decide) ?_
            exact V_lv (ih _ _ _ (by omega) (hpn (by omega) (by simp_all))) ⟨rfl, rfl, rfl, (congrArg (fun v => some (Value.int (iI v))) (by omega)), trivial⟩
          · refine r_aload_n (i := 0) hG dX4_takeTurn_50 rfl rfl ?_
            refine r_iload hG dX4_takeTurn_51 rfl ?_
            refine r_aload_n (i := 0) hG dX4_takeTurn_53 rfl rfl ?_
            refine r_get hG cX4_takeTurn_X4 0 4 rfl rfl (by decide) kX4_takeTurn_25 rfl dX4_takeTurn_54 ?_
            refine r_iload_n (i := 1) hG dX4_takeTurn_57 rfl rfl ?_
            refine r_iald hG 2 rfl (by omega) (by decide) dX4_takeTurn_58 ?_
            refine r_callVi hG (c_X4_agreesTo (g_l G) (g_D G) a Y (nextZ Y c asked) m2 q hI hH _ _ (by omega) (by omega))  gX4_takeTurn_X4_agreesTo rfl hyX4_agreesTo rfl (by decide) (by decide) 0 rfl rfl rfl (Nat.le_of_ble_eq_true rfl) ⟨Nat.zero_le _, Nat.zero_le _⟩ dX4_takeTurn_59 (fun w hw => ?_)
            subst hw
            refine rb_if_eq (tgt := 74) hG dX4_takeTurn_62 (by decide) (fun c62 => ?_) (fun c62 => ?_)
            · refine r_iload_n (i := 2) hG dX4_takeTurn_74 rfl rfl ?_
              refine r_iconst hG dX4_takeTurn_75 ?_
              refine r_iload hG dX4_takeTurn_76 rfl ?_
              refine rr_ishl hG dX4_takeTurn_78 ?_
              refine rr_ior hG dX4_takeTurn_79 ?_
              refine r_istore_n (i := 2) hG dX4_takeTurn_80 rfl (by decide) rfl ?_
              refine r_iinc hG dX4_takeTurn_81 rfl (by decide) rfl ?_
              refine r_goto (tgt := 16) hG dX4_takeTurn_84 (by decide) ?_
              exact V_lv (ih _ _ _ (by omega) (hpn (by omega) (by simp_all))) ⟨rfl, rfl, rfl, (congrArg (fun v => some (Value.int (iI v))) (by omega)), trivial⟩
            · refine r_aload_n (i := 0) hG dX4_takeTurn_65 rfl rfl ?_
              refine r_iload_n (i := 1) hG dX4_takeTurn_66 rfl rfl ?_
              refine r_iload hG dX4_takeTurn_67 rfl ?_
              refine r_callVv hG (c_X4_exchange (g_l G) (g_D G) a Y (nextZ Y c asked) m2 q hI _ _ (by omega) (by omega))  gX4_takeTurn_X4_exchange rfl hyX4_exchange rfl (by decide) (by decide) 0 rfl rfl rfl (Nat.le_of_ble_eq_true rfl) ⟨Nat.zero_le _, Nat.zero_le _⟩ dX4_takeTurn_69 (fun w hw => ?_)
              subst hw
              refine r_iconst hG dX4_takeTurn_72 ?_
              exact r_zret hG hE dX4_takeTurn_73 (by rw [hpt (by omega) (by simp_all), decide_eq_true (by omega)]; rfl) ⟨_, m2, by unfold turnZ; rw [hpt (by omega) (by simp_all), if_neg (by omega)]⟩
        · refine r_iconst hG dX4_takeTurn_33 ?_
          exact r_zret hG hE dX4_takeTurn_34 (by rw [hpo (by omega)]; rfl) ⟨_, m2, by unfold turnZ; rw [if_pos (by rw [hpo (by omega)]; decide)]⟩
  refine r_iconst hG dX4_takeTurn_0 ?_
  refine r_istore_n (i := 2) hG dX4_takeTurn_1 rfl (by decide) rfl ?_
  refine r_aload_n (i := 0) hG dX4_takeTurn_2 rfl rfl ?_
  refine r_get hG cX4_takeTurn_X4 0 3 rfl rfl (by decide) kX4_takeTurn_21 rfl dX4_takeTurn_3 ?_
  refine r_iload_n (i := 1) hG dX4_takeTurn_6 rfl rfl ?_
  refine r_iald hG 1 rfl (by omega) (by decide) dX4_takeTurn_7 ?_
  refine r_aload_n (i := 0) hG dX4_takeTurn_8 rfl rfl ?_
  refine r_get hG cX4_takeTurn_X4 0 0 rfl rfl (by decide) kX4_takeTurn_9 rfl dX4_takeTurn_9 ?_
  refine r_call0i hG (c_X1_asksOf (g_l G) (g_D G) _ _ (by exact hc1.1) (by omega))  gX4_takeTurn_X1_asksOf rfl hyX1_asksOf rfl (by decide) (by decide) rfl (Nat.le_of_ble_eq_true rfl) ⟨Nat.zero_le _, Nat.zero_le _⟩ dX4_takeTurn_12 ?_
  refine r_istore_n (i := 3) hG dX4_takeTurn_15 rfl (by decide) rfl ?_
  exact V_lv (L (asksK (Y 0 c) (Y 5 0)).toNat (iI 0) x z (by omega) rfl) ⟨rfl, rfl, rfl, (congrArg (fun v => some (Value.int (iI v))) (by omega)), trivial⟩
theorem kX4_playRound_47 : Cond.fieldLink RX4 47 "BreakSwaps$Yard" "quiet" "I" ∈ wsX4_playRound := List.mem_of_getElem? (i := 1) rfl
theorem kX4_playRound_18 : Cond.fieldLink RX4 18 "BreakSwaps$Yard" "size" "I" ∈ wsX4_playRound := List.mem_of_getElem? (i := 2) rfl
theorem kX4_playRound_9 : Cond.fieldLink RX4 9 "BreakSwaps$Yard" "round" "I" ∈ wsX4_playRound := List.mem_of_getElem? (i := 3) rfl
theorem cX4_playRound_X4 : ∀ w ∈ wsX40, w ∈ wsX4_playRound := fun _ h => List.mem_cons_of_mem _ (List.mem_append_left _ (List.mem_append_right _ h))
theorem hyX4_playRound : hyV yX4_playRound RX4 0 := by decide +kernel
set_option maxHeartbeats 4000000 in
set_option maxRecDepth 100000 in
theorem c_X4_playRound (l : Launch) (D : va_G) (a : Nat → Nat) (Y : YS) (x z q : Int) (hI : Inv Y) (hH : Hol Y) (hr : Y 5 0 < 2000000000) (hq : QI Y q) : Con l yX4_playRound wsX4_playRound 4 D (yw D a Y x z q) [.ref (a 0)] (none) (fun w => ∃ x2 z2 q2, w = yw D a (roundZ Y) x2 z2 q2 ∧ QI (roundZ Y) q2) := by
  refine con_start (own := RX4) (by decide) rfl rfl (Nat.le_of_ble_eq_true rfl) ?_
  intro G hG hE hl hD
  subst hl
  subst hD
  have hN := hI.1
  have hr0 := hI.2.1
  have hq0 : 0 ≤ q ∧ q ≤ 2 := by
    rcases hq with h | h | h
    · omega
    · omega
    · omega
  have J54 : ∀ (Y2 : YS) (x2 z2 q2 : Int), upY Y2 5 0 (Y2 5 0 + 1) = roundZ Y → QI (roundZ Y) q2 → V G 0 0 (yw (g_D G) a Y2 x2 z2 q2) 54 [(0, .ref (a 0))] [] := by
    intro Y2 x2 z2 q2 hY hQ
    refine r_aload_n (i := 0) hG dX4_playRound_54 rfl rfl ?_
    refine r_dup hG dX4_playRound_55 rfl ?_
    refine r_get hG cX4_playRound_X4 0 0 rfl rfl (by decide) kX4_playRound_9 rfl dX4_playRound_56 ?_
    refine r_iconst hG dX4_playRound_59 ?_
    refine r_iadd hG dX4_playRound_60 ?_
    refine r_put hG cX4_playRound_X4 0 0 tyX4 tyX4_ok nmX4 rfl rfl (by decide) kX4_playRound_9 rfl rfl rfl (Nat.le_of_ble_eq_true rfl) dX4_playRound_61 rfl ?_
    exact r_vret hG hE dX4_playRound_64 ⟨x2, z2, q2, by rw [← hY]; rfl, hQ⟩
  have K36 : q < 2 → ∀ x2 z2, V G 0 0 (yw (g_D G) a (turnsN Y (Y 5 2).toNat) x2 z2 q) 36 [(0, .ref (a 0)), (1, .int (iI (b2 (qN Y (Y 5 2).toNat))))] [] := by
    intro hq2 x2 z2
    have h5 : upY (turnsN Y (Y 5 2).toNat) 5 0 ((turnsN Y (Y 5 2).toNat) 5 0 + 1) = roundZ Y := by
      rw [(turnsN_ok hI (Y 5 2).toNat (by omega)).2.1]; rfl
    refine r_aload_n (i := 0) hG dX4_playRound_36 rfl rfl ?_
    refine r_iload_n (i := 1) hG dX4_playRound_37 rfl rfl ?_
    refine rb_if_eq (tgt := 50) hG dX4_playRound_38 (by decide) (fun c38 => ?_) (fun c38 => ?_)
    · refine r_iconst hG dX4_playRound_50 ?_
      refine r_put hG cX4_playRound_X4 0 10 tyX4 tyX4_ok nmX4 rfl rfl (by decide) kX4_playRound_47 rfl rfl rfl (Nat.le_of_ble_eq_true rfl) dX4_playRound_51 rfl ?_
      first
        | exact V_ws (ws' := yw (g_D G) a (turnsN Y (Y 5 2).toNat) x2 z2 (q + 1)) rfl (V_lv (J54 _ x2 z2 (q + 1) h5 (QI_step hI hq (by omega) c38)) ⟨rfl, trivial⟩)
        | exact V_ws (ws' := yw (g_D G) a (turnsN Y (Y 5 2).toNat) x2 z2 0) rfl (V_lv (J54 _ x2 z2 0 h5 (Or.inl rfl)) ⟨rfl, trivial⟩)
    · refine r_aload_n (i := 0) hG dX4_playRound_41 rfl rfl ?_
      refine r_get hG cX4_playRound_X4 0 10 rfl rfl (by decide) kX4_playRound_47 rfl dX4_playRound_42 ?_
      refine r_iconst hG dX4_playRound_45 ?_
      refine r_iadd hG dX4_playRound_46 ?_
      refine r_goto (tgt := 51) hG dX4_playRound_47 (by decide) ?_
      refine r_put hG cX4_playRound_X4 0 10 tyX4 tyX4_ok nmX4 rfl rfl (by decide) kX4_playRound_47 rfl rfl rfl (Nat.le_of_ble_eq_true rfl) dX4_playRound_51 rfl ?_
      first
        | exact V_ws (ws' := yw (g_D G) a (turnsN Y (Y 5 2).toNat) x2 z2 (q + 1)) rfl (V_lv (J54 _ x2 z2 (q + 1) h5 (QI_step hI hq (by omega) c38)) ⟨rfl, trivial⟩)
        | exact V_ws (ws' := yw (g_D G) a (turnsN Y (Y 5 2).toNat) x2 z2 0) rfl (V_lv (J54 _ x2 z2 0 h5 (Or.inl rfl)) ⟨rfl, trivial⟩)
  have L : q < 2 → ∀ i, i ≤ (Y 5 2).toNat → ∀ x2 z2, V G 0 0 (yw (g_D G) a (turnsN Y i) x2 z2 q) 12 [(0, .ref (a 0)), (1, .int (iI (b2 (qN Y i)))), (2, .int (iI (i : Int)))] [] := by
    intro hq2
    refine down (fun i hi ih x2 z2 => ?_)
    have hok := turnsN_ok hI i (by omega)
    have h52 : (turnsN Y i) 5 2 = Y 5 2 := by rw [hok.2.1]
    have h50 : (turnsN Y i) 5 0 = Y 5 0 := by rw [hok.2.1]
    have J30 : ∀ (x2 z2 : Int) (b : Bool), b = qN Y (i + 1) → i < (Y 5 2).toNat → V G 0 0 (yw (g_D G) a (turnsN Y (i + 1)) x2 z2 q) 30 [(0, .ref (a 0)), (1, .int (iI (b2 b))), (2, .int (iI (i : Int)))] [] := by
      intro x2 z2 b hb hiN
      subst hb
      refine r_iinc hG dX4_playRound_30 rfl (by decide) rfl ?_
      refine r_goto (tgt := 12) hG dX4_playRound_33 (by decide) ?_
      exact V_lv (ih hiN _ _) ⟨rfl, rfl, rfl, trivial⟩
    refine r_iload_n (i := 2) hG dX4_playRound_12 rfl rfl ?_
    refine r_aload_n (i := 0) hG dX4_playRound_13 rfl rfl ?_
    refine r_get hG cX4_playRound_X4 0 2 rfl rfl (by decide) kX4_playRound_18 rfl dX4_playRound_14 ?_
    refine r_icmp_ge (tgt := 36) hG (by omega) (by omega) dX4_playRound_17 (by decide) (fun c17 => ?_) (fun c17 => ?_)
    · have e : i = (Y 5 2).toNat := by omega
      subst e
      exact V_lv (K36 hq2 x2 z2) ⟨rfl, rfl, trivial⟩
    · refine r_aload_n (i := 0) hG dX4_playRound_20 rfl rfl ?_
      refine r_iload_n (i := 2) hG dX4_playRound_21 rfl rfl ?_
      refine r_callVi hG (c_X4_takeTurn (g_l G) (g_D G) a (turnsN Y i) x2 z2 q hok.1 (hok.2.2.2.2 hH) (by omega) _ (by omega))  gX4_playRound_X4_takeTurn rfl hyX4_takeTurn rfl (by decide) (by decide) 0 rfl rfl rfl (Nat.le_of_ble_eq_true rfl) ⟨Nat.zero_le _, Nat.zero_le _⟩ dX4_playRound_22 ?_
      rintro w ⟨x3, z3, hw⟩
      subst hw
      refine rb_if_eq (tgt := 30) hG dX4_playRound_25 (by decide) (fun c25 => ?_) (fun c25 => ?_)
      · first
          | exact V_lv (J30 x3 z3 (qN Y i) (by rw [qN_succ]; simp_all) (by omega)) ⟨rfl, rfl, rfl, trivial⟩
          | exact V_lv (J30 x3 z3 false (by rw [qN_succ]; simp_all) (by omega)) ⟨rfl, rfl, rfl, trivial⟩
      · refine r_iconst hG dX4_playRound_28 ?_
        refine r_istore_n (i := 1) hG dX4_playRound_29 rfl (by decide) rfl ?_
        first
          | exact V_lv (J30 x3 z3 (qN Y i) (by rw [qN_succ]; simp_all) (by omega)) ⟨rfl, rfl, rfl, trivial⟩
          | exact V_lv (J30 x3 z3 false (by rw [qN_succ]; simp_all) (by omega)) ⟨rfl, rfl, rfl, trivial⟩
  refine r_aload_n (i := 0) hG dX4_playRound_0 rfl rfl ?_
  refine r_get hG cX4_playRound_X4 0 10 rfl rfl (by decide) kX4_playRound_47 rfl dX4_playRound_1 ?_
  refine r_iconst hG dX4_playRound_4 ?_
  refine r_icmp_ge (tgt := 54) hG (by omega) (by omega) dX4_playRound_5 (by decide) (fun c5 => ?_) (fun c5 => ?_)
  · have e : q = 2 := by omega
    subst e
    obtain ⟨e1, e2⟩ := QI_2 hI hq
    exact V_lv (J54 Y x z 2 e1.symm e2) ⟨rfl, trivial⟩
  · refine r_iconst hG dX4_playRound_8 ?_
    refine r_istore_n (i := 1) hG dX4_playRound_9 rfl (by decide) rfl ?_
    refine r_iconst hG dX4_playRound_10 ?_
    refine r_istore_n (i := 2) hG dX4_playRound_11 rfl (by decide) rfl ?_
    exact V_lv (L (by omega) 0 (by omega) x z) ⟨rfl, rfl, rfl, trivial⟩
theorem kX4_goOn_47 : Cond.fieldLink RX4 47 "BreakSwaps$Yard" "quiet" "I" ∈ wsX4_goOn := List.mem_of_getElem? (i := 1) rfl
theorem cX4_goOn_X4 : ∀ w ∈ wsX40, w ∈ wsX4_goOn := fun _ h => List.mem_cons_of_mem _ (List.mem_append_left _ (List.mem_append_right _ h))
theorem hyX4_goOn : hyV yX4_goOn RX4 1 := by decide +kernel
set_option maxHeartbeats 4000000 in
set_option maxRecDepth 100000 in
theorem c_X4_goOn (l : Launch) (D : va_G) (a : Nat → Nat) (Y : YS) (x z q : Int) (hI : Inv Y) (hH : Hol Y) (n : Int) (hn : 0 ≤ n ∧ n < 1000000000) (hr : Y 5 0 + n < 2000000000) : Con l yX4_goOn wsX4_goOn 5 D (yw D a Y x z q) [.ref (a 0), .int (iI n)] (none) (fun w => ∃ x2 z2 q2, w = yw D a (goZ Y n.toNat) x2 z2 q2) := by
  refine con_start (own := RX4) (by decide) rfl rfl (Nat.le_of_ble_eq_true rfl) ?_
  intro G hG hE hl hD
  subst hl
  subst hD
  have L : ∀ i, i ≤ n.toNat → ∀ x z q, QI (goZ Y i) q → V G 0 0 (yw (g_D G) a (goZ Y i) x z q) 7 [(0, .ref (a 0)), (1, .int (iI n)), (2, .int (iI (i : Int)))] [] := by
    refine down (fun i hi ih x z q hq => ?_)
    have hg := goZ_ok hI i
    have h50 := hg.2.2.2.1
    refine r_iload_n (i := 2) hG dX4_goOn_7 rfl rfl ?_
    refine r_iload_n (i := 1) hG dX4_goOn_8 rfl rfl ?_
    refine r_icmp_ge (tgt := 22) hG (by omega) (by omega) dX4_goOn_9 (by decide) (fun c9 => ?_) (fun c9 => ?_)
    · exact r_vret hG hE dX4_goOn_22 ⟨x, z, q, by rw [show i = n.toNat by omega]⟩
    · refine r_aload_n (i := 0) hG dX4_goOn_12 rfl rfl ?_
      refine r_callVv hG (c_X4_playRound (g_l G) (g_D G) a (goZ Y i) x z q hg.1 (hg.2.2.2.2.2.2 hH) (by omega) hq)  gX4_goOn_X4_playRound rfl hyX4_playRound rfl (by decide) (by decide) 0 rfl rfl rfl (Nat.le_of_ble_eq_true rfl) ⟨Nat.zero_le _, Nat.zero_le _⟩ dX4_goOn_13 ?_
      rintro w ⟨x3, z3, q3, hw, hq3⟩
      subst hw
      refine r_iinc hG dX4_goOn_16 rfl (by decide) rfl ?_
      refine r_goto (tgt := 7) hG dX4_goOn_19 (by decide) ?_
      exact V_lv (ih (by omega) _ _ _ hq3) ⟨rfl, rfl, rfl, trivial⟩
  refine r_aload_n (i := 0) hG dX4_goOn_0 rfl rfl ?_
  refine r_iconst hG dX4_goOn_1 ?_
  refine r_put hG cX4_goOn_X4 0 10 tyX4 tyX4_ok nmX4 rfl rfl (by decide) kX4_goOn_47 rfl rfl rfl (Nat.le_of_ble_eq_true rfl) dX4_goOn_2 rfl ?_
  refine r_iconst hG dX4_goOn_5 ?_
  refine r_istore_n (i := 2) hG dX4_goOn_6 rfl (by decide) rfl ?_
  exact V_ws (ws' := yw (g_D G) a (goZ Y 0) x z 0) rfl (V_lv (L 0 (by omega) x z 0 (Or.inl rfl)) ⟨rfl, rfl, rfl, trivial⟩)
def sheetw (D : va_G) (s : Nat → Nat) (S : Int → Int64) (bi n : Int) : va_W := [(s 0, .inr (1, [.ref (s 1), .int (iI bi), .int (iI n)])), (s 1, .inl (D.1 101, 40, .inr (.inl (la S))))]
def asBooked (Y : YS) (c : Int) (S : Int → Int64) : Nat → Bool
  | 0 => true
  | n + 1 => asBooked Y c S n && decide (S (n : Int) = (iI (goZ Y n 1 c)).toInt64)
theorem asB_true {Y : YS} {c : Int} {S : Int → Int64} : ∀ {n : Nat}, (∀ j : Nat, j < n → S j = (iI (goZ Y j 1 c)).toInt64) → asBooked Y c S n = true
  | 0, _ => rfl
  | n + 1, h => by
    unfold asBooked
    rw [asB_true (fun j hj => h j (by omega)), decide_eq_true (h n (by omega))]
    rfl
theorem asB_false {Y : YS} {c : Int} {S : Int → Int64} {i : Nat} (h : ¬ S i = (iI (goZ Y i 1 c)).toInt64) : ∀ {n : Nat}, i < n → asBooked Y c S n = false
  | 0, hn => absurd hn (by omega)
  | n + 1, hn => by
    unfold asBooked
    by_cases e : i = n
    · subst e
      rw [decide_eq_false h]
      exact Bool.and_false _
    · rw [asB_false h (by omega)]
      rfl
theorem kX4_goesAsBooked_132 : Cond.fieldLink RX4 132 "BreakSwaps$Sheet" "length" "I" ∈ wsX4_goesAsBooked := List.mem_of_getElem? (i := 1) rfl
theorem kX4_goesAsBooked_137 : Cond.fieldLink RX4 137 "BreakSwaps$Sheet" "row" "[J" ∈ wsX4_goesAsBooked := List.mem_of_getElem? (i := 2) rfl
theorem kX4_goesAsBooked_25 : Cond.fieldLink RX4 25 "BreakSwaps$Yard" "has" "[I" ∈ wsX4_goesAsBooked := List.mem_of_getElem? (i := 3) rfl
theorem cX4_goesAsBooked_X2 : ∀ w ∈ wsX20, w ∈ wsX4_goesAsBooked := fun _ h => List.mem_cons_of_mem _ (List.mem_append_left _ (List.mem_append_left _ (List.mem_append_right _ h)))
theorem cX4_goesAsBooked_X4 : ∀ w ∈ wsX40, w ∈ wsX4_goesAsBooked := fun _ h => List.mem_cons_of_mem _ (List.mem_append_left _ (List.mem_append_right _ h))
theorem hyX4_goesAsBooked : hyV yX4_goesAsBooked RX4 2 := by decide +kernel
set_option maxHeartbeats 4000000 in
set_option maxRecDepth 100000 in
theorem c_X4_goesAsBooked (l : Launch) (D : va_G) (a s : Nat → Nat) (Y : YS) (x z q : Int) (S : Int → Int64) (bi n : Int) (hI : Inv Y) (hH : Hol Y) (hn : 0 ≤ n ∧ n ≤ 40) (hr : Y 5 0 + n < 2000000000) (hq : QI Y q) (c : Int) (hc : 0 ≤ c ∧ c < 8) : Con l yX4_goesAsBooked wsX4_goesAsBooked 5 D (yw D a Y x z q ++ sheetw D s S bi n) [.ref (a 0), .int (iI c), .ref (s 0)] (some (.int (iI (b2 (asBooked Y c S n.toNat))))) (fun w => ∃ Y2 x2 z2 q2, w = yw D a Y2 x2 z2 q2 ++ sheetw D s S bi n) := by
  refine con_start (own := RX4) (by decide) rfl rfl (Nat.le_of_ble_eq_true rfl) ?_
  intro G hG hE hl hD
  subst hl
  subst hD
  have L : ∀ i, i ≤ n.toNat → (∀ j : Nat, j < i → S j = (iI (goZ Y j 1 c)).toInt64) → ∀ x z q, QI (goZ Y i) q → V G 0 0 (yw (g_D G) a (goZ Y i) x z q ++ sheetw (g_D G) s S bi n) 2 [(0, .ref (a 0)), (1, .int (iI c)), (2, .ref (s 0)), (3, .int (iI (i : Int)))] [] := by
    refine down (fun i hi ih hF x z q hq => ?_)
    have hg := goZ_ok hI i
    have h50 := hg.2.2.2.1
    have hc1 := Inv_c hg.1 hc
    refine r_iload_n (i := 3) hG dX4_goesAsBooked_2 rfl rfl ?_
    refine r_aload_n (i := 2) hG dX4_goesAsBooked_3 rfl rfl ?_
    refine r_get hG cX4_goesAsBooked_X2 8 2 rfl rfl (by decide) kX4_goesAsBooked_132 rfl dX4_goesAsBooked_4 ?_
    refine r_icmp_ge (tgt := 39) hG (by omega) (by omega) dX4_goesAsBooked_7 (by decide) (fun c7 => ?_) (fun c7 => ?_)
    · refine r_iconst hG dX4_goesAsBooked_39 ?_
      exact r_zret hG hE dX4_goesAsBooked_40 (by rw [asB_true (fun j hj => hF j (by omega))]; rfl) ⟨_, x, z, q, rfl⟩
    · refine r_aload_n (i := 2) hG dX4_goesAsBooked_10 rfl rfl ?_
      refine r_get hG cX4_goesAsBooked_X2 8 0 rfl rfl (by decide) kX4_goesAsBooked_137 rfl dX4_goesAsBooked_11 ?_
      refine r_iload_n (i := 3) hG dX4_goesAsBooked_14 rfl rfl ?_
      refine r_lald hG 9 rfl (by omega) (by decide) dX4_goesAsBooked_15 ?_
      refine r_aload_n (i := 0) hG dX4_goesAsBooked_16 rfl rfl ?_
      refine r_get hG cX4_goesAsBooked_X4 0 4 rfl rfl (by decide) kX4_goesAsBooked_25 rfl dX4_goesAsBooked_17 ?_
      refine r_iload_n (i := 1) hG dX4_goesAsBooked_20 rfl rfl ?_
      refine r_iald hG 2 rfl (by omega) (by decide) dX4_goesAsBooked_21 ?_
      refine r_i2l hG dX4_goesAsBooked_22 ?_
      refine r_lcmp hG dX4_goesAsBooked_23 ?_
      refine rr_if_eq (tgt := 29) hG dX4_goesAsBooked_24 (by decide) (fun c24 => ?_) (fun c24 => ?_)
      · refine r_aload_n (i := 0) hG dX4_goesAsBooked_29 rfl rfl ?_
        refine r_callVvF hG (c_X4_playRound (g_l G) (g_D G) a (goZ Y i) x z q hg.1 (hg.2.2.2.2.2.2 hH) (by omega) hq) [0, 1, 2, 3, 4, 5, 6, 7] [8, 9] (sheetw (g_D G) s S bi n) rfl rfl rfl rfl (by decide) gX4_goesAsBooked_X4_playRound rfl hyX4_playRound rfl (by decide) (by decide) 0 rfl rfl rfl (Nat.le_of_ble_eq_true rfl) ⟨Nat.zero_le _, Nat.zero_le _⟩ dX4_goesAsBooked_30 ?_
        rintro w ⟨x3, z3, q3, hw, hq3⟩
        subst hw
        refine V_sub (ws' := yw (g_D G) a (goZ Y (i + 1)) x3 z3 q3 ++ sheetw (g_D G) s S bi n) [2, 3, 4, 5, 6, 7, 8, 9, 0, 1] rfl rfl ?_
        refine r_iinc hG dX4_goesAsBooked_33 rfl (by decide) rfl ?_
        refine r_goto (tgt := 2) hG dX4_goesAsBooked_36 (by decide) ?_
        exact V_lv (ih (by omega) (lt_s hF ((lg_cmp_eq _ _).mp c24)) _ _ _ hq3) ⟨rfl, rfl, rfl, rfl, trivial⟩
      · refine r_iconst hG dX4_goesAsBooked_27 ?_
        exact r_zret hG hE dX4_goesAsBooked_28 (by rw [asB_false (fun h => c24 ((lg_cmp_eq _ _).mpr h)) (show i < n.toNat by omega)]; rfl) ⟨_, x, z, q, rfl⟩
  refine r_iconst hG dX4_goesAsBooked_0 ?_
  refine r_istore_n (i := 3) hG dX4_goesAsBooked_1 rfl (by decide) rfl ?_
  exact V_lv (L 0 (by omega) (fun j hj => absurd hj (by omega)) x z q hq) ⟨rfl, rfl, rfl, rfl, trivial⟩
