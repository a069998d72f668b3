theorem hyX7_asks : hyV yX7_asks RX7 1 := by decide +kernel
set_option maxHeartbeats 4000000 in
set_option maxRecDepth 100000 in
theorem c_X7_asks (l : Launch) (D : va_G) (a : Nat → Nat) (Z K U R : YS) (C : Int → Int64) (hI : Inv Z) (hr : Z 5 0 < 2000000000) (c : Int) (hc : 0 ≤ c ∧ c < 8) : Con l yX7_asks wsX7_asks 6 D (mw D a Z K U R C) [.ref (a 0), .int (iI c)] (none) (fun w => w = mw D a (turnZ Z c) K U R C) := by
  refine con_start (own := RX7) (by decide) rfl rfl (Nat.le_of_ble_eq_true rfl) ?_
  intro G hG hE hl hD
  subst hl
  subst hD
  have hN := hI.1
  have hr0 := hI.2.1
  have hc1 := Inv_c hI hc
  have hk := asksK_rng (Z 0 c) (Z 5 0)
  have L : ∀ (n : Nat) (asked : Int32), n ≤ 7 → turnO Z c n asked = partner Z c → V G 0 0 (mw (g_D G) a Z K U R C) 8 [(0, .ref (a 0)), (1, .int (iI c)), (2, .int asked), (3, .int (iI (n : Int)))] [] := by
    intro n
    induction n with
    | zero =>
      intro asked hn hp
      have hp1 : partner Z c = -1 := hp.symm
      refine r_iload_n (i := 3) hG dX7_asks_8 rfl rfl ?_
      refine r_if_le (tgt := 57) hG (by omega) dX7_asks_9 (by decide) (fun c9 => ?_) (fun c9 => ?_)
      · exact r_vret hG hE dX7_asks_57 (by unfold turnZ; rw [if_pos (by omega)])
      · exact absurd c9 (by simp)
    | succ n ih =>
      intro asked hn hp
      have hx := nextZ_rng hI c asked
      have hpo : nextZ Z c asked < 0 → partner Z c = -1 := fun h => by
        rw [← hp]; unfold turnO; rw [if_pos h]
      have hne : ¬ nextZ Z c asked < 0 → Z 1 (nextZ Z c asked) ≠ Z 1 c := fun h => opn_ne (nextN_opn (by unfold nextZ at h; omega))
      have hpt : ¬ nextZ Z c asked < 0 → wsw Z c (nextZ Z c asked) = true → partner Z c = nextZ Z c asked := fun h h2 => by
        rw [← hp]; unfold turnO; rw [if_neg h, if_pos (by unfold wsw wants at h2; simp at h2; simp [h2])]
      have hpn : ¬ nextZ Z c asked < 0 → wsw Z c (nextZ Z c asked) = false → turnO Z c n (asked ||| (iI 1 <<< (iI (nextZ Z c asked) &&& 31))) = partner Z c := fun h h2 => by
        rw [← hp]
        show _ = turnO Z c (n + 1) asked
        rw [turnO, if_neg h, if_neg]
        intro h3
        rw [Bool.and_eq_true] at h3
        have h4 := hne h
        unfold wsw wants at h2
        rw [h3.1, h3.2] at h2
        simp at h2
        exact h4 (h2 (fun e => h4 e.symm))
      refine r_iload_n (i := 3) hG dX7_asks_8 rfl rfl ?_
      refine r_if_le (tgt := 57) hG (by omega) dX7_asks_9 (by decide) (fun c9 => ?_) (fun c9 => ?_)
      · exact absurd c9 (by omega)
      · refine r_aload_n (i := 0) hG dX7_asks_12 rfl rfl ?_
        refine r_iload_n (i := 1) hG dX7_asks_13 rfl rfl ?_
        refine r_iload_n (i := 2) hG dX7_asks_14 rfl rfl ?_
        refine r_callVi hG (c_X7_askedNext (g_l G) (g_D G) a Z K U R C hI c asked hc)  gX7_asks_X7_askedNext rfl hyX7_askedNext rfl (by decide) (by decide) 0 rfl rfl rfl (Nat.le_of_ble_eq_true rfl) ⟨Nat.zero_le _, Nat.zero_le _⟩ dX7_asks_15 (fun w hw => ?_)
        subst hw
        refine r_istore hG dX7_asks_18 (by decide) rfl ?_
        refine r_iload hG dX7_asks_20 rfl ?_
        refine r_if_ge (tgt := 26) hG (by omega) dX7_asks_22 (by decide) (fun c22 => ?_) (fun c22 => ?_)
        · refine r_iload_n (i := 2) hG dX7_asks_26 rfl rfl ?_
          refine r_iconst hG dX7_asks_27 ?_
          refine r_iload hG dX7_asks_28 rfl ?_
          refine rr_ishl hG dX7_asks_30 ?_
          refine rr_ior hG dX7_asks_31 ?_
          refine r_istore_n (i := 2) hG dX7_asks_32 rfl (by decide) rfl ?_
          refine r_aload_n (i := 0) hG dX7_asks_33 rfl rfl ?_
          refine r_iload_n (i := 1) hG dX7_asks_34 rfl rfl ?_
          refine r_iload hG dX7_asks_35 rfl ?_
          refine r_callVi hG (c_X7_wouldSwap (g_l G) (g_D G) a Z K U R C hI _ _ (by omega) (by omega))  gX7_asks_X7_wouldSwap rfl hyX7_wouldSwap rfl (by decide) (by decide) 0 rfl rfl rfl (Nat.le_of_ble_eq_true rfl) ⟨Nat.zero_le _, Nat.zero_le _⟩ dX7_asks_37 (fun w hw => ?_)
          subst hw
          refine rb_if_eq (tgt := 51) hG dX7_asks_40 (by decide) (fun c40 => ?_) (fun c40 => ?_)
          · refine r_iinc hG dX7_asks_51 rfl (by decide) rfl ?_
            refine r_goto (tgt := 8) hG dX7_asks_54 (by decide) ?_
            exact V_lv (ih _ (by omega) (hpn (by omega) c40)) ⟨rfl, rfl, rfl, (congrArg (fun v => some (Value.int (iI v))) (by omega)), trivial⟩
          · refine r_aload_n (i := 0) hG dX7_asks_43 rfl rfl ?_
            refine r_iload_n (i := 1) hG dX7_asks_44 rfl rfl ?_
            refine r_iload hG dX7_asks_45 rfl ?_
            refine r_callVv hG (c_X7_swaps (g_l G) (g_D G) a Z K U R C hI _ _ (by omega) (by omega))  gX7_asks_X7_swaps rfl hyX7_swaps rfl (by decide) (by decide) 0 rfl rfl rfl (Nat.le_of_ble_eq_true rfl) ⟨Nat.zero_le _, Nat.zero_le _⟩ dX7_asks_47 (fun w hw => ?_)
            subst hw
            exact r_vret hG hE dX7_asks_50 (by unfold turnZ; rw [hpt (by omega) c40, if_neg (by omega)])
        · exact r_vret hG hE dX7_asks_25 (by unfold turnZ; rw [if_pos (by rw [hpo (by omega)]; decide)])
  refine r_iconst hG dX7_asks_0 ?_
  refine r_istore_n (i := 2) hG dX7_asks_1 rfl (by decide) rfl ?_
  refine r_aload_n (i := 0) hG dX7_asks_2 rfl rfl ?_
  refine r_iload_n (i := 1) hG dX7_asks_3 rfl rfl ?_
  refine r_callVi hG (c_X7_asksOf (g_l G) (g_D G) a Z K U R C hI hr _ (by omega))  gX7_asks_X7_asksOf rfl hyX7_asksOf rfl (by decide) (by decide) 0 rfl rfl rfl (Nat.le_of_ble_eq_true rfl) ⟨Nat.zero_le _, Nat.zero_le _⟩ dX7_asks_4 (fun w hw => ?_)
  subst hw
  refine r_istore_n (i := 3) hG dX7_asks_7 rfl (by decide) rfl ?_
  exact V_lv (L (asksK (Z 0 c) (Z 5 0)).toNat (iI 0) (by omega) rfl) ⟨rfl, rfl, rfl, (congrArg (fun v => some (Value.int (iI v))) (by omega)), trivial⟩
theorem kX7_goes_9 : Cond.fieldLink RX7 9 "BreakSwapsModel" "m" "[I" ∈ wsX7_goes := List.mem_of_getElem? (i := 1) rfl
theorem cX7_goes_X7 : ∀ w ∈ wsX70, w ∈ wsX7_goes := fun _ h => List.mem_cons_of_mem _ (List.mem_append_right _ h)
theorem hyX7_goes : hyV yX7_goes RX7 0 := by decide +kernel
set_option maxHeartbeats 4000000 in
set_option maxRecDepth 100000 in
theorem c_X7_goes (l : Launch) (D : va_G) (a : Nat → Nat) (Z K U R : YS) (C : Int → Int64) (hI : Inv Z) (hr : Z 5 0 < 2000000000) : Con l yX7_goes wsX7_goes 7 D (mw D a Z K U R C) [.ref (a 0)] (none) (fun w => w = mw D a (roundZ Z) K U R C) := by
  refine con_start (own := RX7) (by decide) rfl rfl (Nat.le_of_ble_eq_true rfl) ?_
  intro G hG hE hl hD
  subst hl
  subst hD
  have hN := hI.1
  have L : ∀ i : Nat, i ≤ (Z 5 2).toNat → V G 0 0 (mw (g_D G) a (turnsN Z i) K U R C) 2 [(0, .ref (a 0)), (1, .int (iI (i : Int)))] [] := by
    refine down (fun i hi ih => ?_)
    have hok := turnsN_ok hI i (by omega)
    have h52 : (turnsN Z i) 5 2 = Z 5 2 := by rw [hok.2.1]
    have h50 : (turnsN Z i) 5 0 = Z 5 0 := by rw [hok.2.1]
    refine r_iload_n (i := 1) hG dX7_goes_2 rfl rfl ?_
    refine r_aload_n (i := 0) hG dX7_goes_3 rfl rfl ?_
    refine r_get hG cX7_goes_X7 0 0 rfl rfl (by decide) kX7_goes_9 rfl dX7_goes_4 ?_
    refine r_iconst hG dX7_goes_7 ?_
    refine r_iald hG 1 rfl (by omega) (by decide) dX7_goes_8 ?_
    refine V_top (x' := iI ((turnsN Z i) 5 2)) (congrArg iI (mro_2 (turnsN Z i))) ?_
    refine r_icmp_ge (tgt := 23) hG (by omega) (by omega) dX7_goes_9 (by decide) (fun c9 => ?_) (fun c9 => ?_)
    · refine r_aload_n (i := 0) hG dX7_goes_23 rfl rfl ?_
      refine r_get hG cX7_goes_X7 0 0 rfl rfl (by decide) kX7_goes_9 rfl dX7_goes_24 ?_
      refine r_iconst hG dX7_goes_27 ?_
      refine r_dup2 hG dX7_goes_28 rfl rfl ?_
      refine r_iald hG 1 rfl (by omega) (by decide) dX7_goes_29 ?_
      refine V_top (x' := iI ((turnsN Z i) 5 0)) (congrArg iI (mro_0 (turnsN Z i))) ?_
      refine r_iconst hG dX7_goes_30 ?_
      refine r_iadd hG dX7_goes_31 ?_
      refine r_iast hG 1 rfl (by omega) (by decide) dX7_goes_32 rfl ?_
      refine V_ia (g := mro (upY (turnsN Z i) 5 0 ((turnsN Z i) 5 0 + 1))) 1 rfl (fun j h0 h1 => mro_up5 _ (by omega) j h0) rfl ?_
      exact r_vret hG hE dX7_goes_33 (by unfold roundZ; rw [← h50, show i = (Z 5 2).toNat by omega]; rfl)
    · refine r_aload_n (i := 0) hG dX7_goes_12 rfl rfl ?_
      refine r_iload_n (i := 1) hG dX7_goes_13 rfl rfl ?_
      refine r_callVv hG (c_X7_asks (g_l G) (g_D G) a (turnsN Z i) K U R C hok.1 (by omega) _ (by omega))  gX7_goes_X7_asks rfl hyX7_asks rfl (by decide) (by decide) 0 rfl rfl rfl (Nat.le_of_ble_eq_true rfl) ⟨Nat.zero_le _, Nat.zero_le _⟩ dX7_goes_14 (fun w hw => ?_)
      subst hw
      refine r_iinc hG dX7_goes_17 rfl (by decide) rfl ?_
      refine r_goto (tgt := 2) hG dX7_goes_20 (by decide) ?_
      exact V_lv (ih (by omega)) ⟨rfl, rfl, trivial⟩
  refine r_iconst hG dX7_goes_0 ?_
  refine r_istore_n (i := 1) hG dX7_goes_1 rfl (by decide) rfl ?_
  exact V_lv (L 0 (by omega)) ⟨rfl, rfl, trivial⟩
theorem hyX7_goesFor : hyV yX7_goesFor RX7 1 := by decide +kernel
set_option maxHeartbeats 4000000 in
set_option maxRecDepth 100000 in
theorem c_X7_goesFor (l : Launch) (D : va_G) (a : Nat → Nat) (Z K U R : YS) (C : Int → Int64) (hI : Inv Z) (n : Int) (hn : 0 ≤ n ∧ n < 1000000000) (hr : Z 5 0 + n < 2000000000) : Con l yX7_goesFor wsX7_goesFor 8 D (mw D a Z K U R C) [.ref (a 0), .int (iI n)] (none) (fun w => w = mw D a (goZ Z n.toNat) K U R C) := by
  refine con_start (own := RX7) (by decide) rfl rfl (Nat.le_of_ble_eq_true rfl) ?_
  intro G hG hE hl hD
  subst hl
  subst hD
  have L : ∀ i : Nat, i ≤ n.toNat → V G 0 0 (mw (g_D G) a (goZ Z i) K U R C) 2 [(0, .ref (a 0)), (1, .int (iI n)), (2, .int (iI (i : Int)))] [] := by
    refine down (fun i hi ih => ?_)
    have hg := goZ_ok hI i
    have h50 := hg.2.2.2.1
    refine r_iload_n (i := 2) hG dX7_goesFor_2 rfl rfl ?_
    refine r_iload_n (i := 1) hG dX7_goesFor_3 rfl rfl ?_
    refine r_icmp_ge (tgt := 17) hG (by omega) (by omega) dX7_goesFor_4 (by decide) (fun c4 => ?_) (fun c4 => ?_)
    · exact r_vret hG hE dX7_goesFor_17 (by rw [show i = n.toNat by omega])
    · refine r_aload_n (i := 0) hG dX7_goesFor_7 rfl rfl ?_
      refine r_callVv hG (c_X7_goes (g_l G) (g_D G) a (goZ Z i) K U R C hg.1 (by omega))  gX7_goesFor_X7_goes rfl hyX7_goes rfl (by decide) (by decide) 0 rfl rfl rfl (Nat.le_of_ble_eq_true rfl) ⟨Nat.zero_le _, Nat.zero_le _⟩ dX7_goesFor_8 (fun w hw => ?_)
      subst hw
      refine r_iinc hG dX7_goesFor_11 rfl (by decide) rfl ?_
      refine r_goto (tgt := 2) hG dX7_goesFor_14 (by decide) ?_
      exact V_lv (ih (by omega)) ⟨rfl, rfl, rfl, trivial⟩
  refine r_iconst hG dX7_goesFor_0 ?_
  refine r_istore_n (i := 2) hG dX7_goesFor_1 rfl (by decide) rfl ?_
  exact V_lv (L 0 (by omega)) ⟨rfl, rfl, rfl, trivial⟩
theorem kX7_thinks_9 : Cond.fieldLink RX7 9 "BreakSwapsModel" "m" "[I" ∈ wsX7_thinks := List.mem_of_getElem? (i := 1) rfl
theorem kX7_thinks_16 : Cond.fieldLink RX7 16 "BreakSwapsModel" "was" "[I" ∈ wsX7_thinks := List.mem_of_getElem? (i := 2) rfl
theorem cX7_thinks_X7 : ∀ w ∈ wsX70, w ∈ wsX7_thinks := fun _ h => List.mem_cons_of_mem _ (List.mem_append_right _ h)
theorem hyX7_thinks : hyV yX7_thinks RX7 0 := by decide +kernel
set_option maxHeartbeats 4000000 in
set_option maxRecDepth 100000 in
theorem c_X7_thinks (l : Launch) (D : va_G) (a : Nat → Nat) (Z K U R : YS) (C : Int → Int64) : Con l yX7_thinks wsX7_thinks 1 D (mw D a Z K U R C) [.ref (a 0)] (none) (fun w => w = mw D a Z K Z R C) := by
  refine con_start (own := RX7) (by decide) rfl rfl (Nat.le_of_ble_eq_true rfl) ?_
  intro G hG hE hl hD
  subst hl
  subst hD
  refine r_aload_n (i := 0) hG dX7_thinks_0 rfl rfl ?_
  refine r_get hG cX7_thinks_X7 0 0 rfl rfl (by decide) kX7_thinks_9 rfl dX7_thinks_1 ?_
  refine r_aload_n (i := 0) hG dX7_thinks_4 rfl rfl ?_
  refine r_get hG cX7_thinks_X7 0 2 rfl rfl (by decide) kX7_thinks_16 rfl dX7_thinks_5 ?_
  refine r_callSvF hG (c_X7_copyAll (g_l G) (g_D G) (a 1) (a 3) (mro Z) (mro U)) [1, 3] [0, 2, 4, 5, 6, 7, 8] ([0, 2, 4, 5, 6, 7, 8].filterMap (fun i => (mw (g_D G) a Z K U R C)[i]?)) rfl rfl rfl rfl (by decide) gX7_thinks_X7_copyAll rfl hyX7_copyAll rfl (by decide) (by decide) rfl (Nat.le_of_ble_eq_true rfl) ⟨Nat.zero_le _, Nat.zero_le _⟩ dX7_thinks_8 ?_
  intro w hw
  subst hw
  refine V_sub (ws' := mw (g_D G) a Z K Z R C) [0, 7, 1, 8, 2, 3, 4, 5, 6] rfl rfl ?_
  exact r_vret hG hE dX7_thinks_11 rfl
theorem kX7_putsBack_16 : Cond.fieldLink RX7 16 "BreakSwapsModel" "was" "[I" ∈ wsX7_putsBack := List.mem_of_getElem? (i := 1) rfl
theorem kX7_putsBack_9 : Cond.fieldLink RX7 9 "BreakSwapsModel" "m" "[I" ∈ wsX7_putsBack := List.mem_of_getElem? (i := 2) rfl
theorem cX7_putsBack_X7 : ∀ w ∈ wsX70, w ∈ wsX7_putsBack := fun _ h => List.mem_cons_of_mem _ (List.mem_append_right _ h)
theorem hyX7_putsBack : hyV yX7_putsBack RX7 0 := by decide +kernel
set_option maxHeartbeats 4000000 in
set_option maxRecDepth 100000 in
theorem c_X7_putsBack (l : Launch) (D : va_G) (a : Nat → Nat) (Z K U R : YS) (C : Int → Int64) : Con l yX7_putsBack wsX7_putsBack 1 D (mw D a Z K U R C) [.ref (a 0)] (none) (fun w => w = mw D a U K U R C) := by
  refine con_start (own := RX7) (by decide) rfl rfl (Nat.le_of_ble_eq_true rfl) ?_
  intro G hG hE hl hD
  subst hl
  subst hD
  refine r_aload_n (i := 0) hG dX7_putsBack_0 rfl rfl ?_
  refine r_get hG cX7_putsBack_X7 0 2 rfl rfl (by decide) kX7_putsBack_16 rfl dX7_putsBack_1 ?_
  refine r_aload_n (i := 0) hG dX7_putsBack_4 rfl rfl ?_
  refine r_get hG cX7_putsBack_X7 0 0 rfl rfl (by decide) kX7_putsBack_9 rfl dX7_putsBack_5 ?_
  refine r_callSvF hG (c_X7_copyAll (g_l G) (g_D G) (a 3) (a 1) (mro U) (mro Z)) [3, 1] [0, 2, 4, 5, 6, 7, 8] ([0, 2, 4, 5, 6, 7, 8].filterMap (fun i => (mw (g_D G) a Z K U R C)[i]?)) rfl rfl rfl rfl (by decide) gX7_putsBack_X7_copyAll rfl hyX7_copyAll rfl (by decide) (by decide) rfl (Nat.le_of_ble_eq_true rfl) ⟨Nat.zero_le _, Nat.zero_le _⟩ dX7_putsBack_8 ?_
  intro w hw
  subst hw
  refine V_sub (ws' := mw (g_D G) a U K U R C) [0, 8, 1, 7, 2, 3, 4, 5, 6] rfl rfl ?_
  exact r_vret hG hE dX7_putsBack_11 rfl
theorem hyX7_orNone : hyV yX7_orNone RX7 1 := by decide +kernel
set_option maxHeartbeats 4000000 in
set_option maxRecDepth 100000 in
theorem c_X7_orNone (l : Launch) (D : va_G) (a : Nat → Nat) (Z K U R : YS) (C : Int → Int64) (v : Int) (hv : -2147483648 ≤ v ∧ v < 2147483648) : Con l yX7_orNone wsX7_orNone 1 D (mw D a Z K U R C) [.ref (a 0), .int (iI v)] (some (.int (iI (if v < 0 then -1000000004 else v)))) (fun w => w = mw D a Z K U (if v < 0 then upY R 1 3 (R 1 3 + 1) else R) C) := by
  refine con_start (own := RX7) (by decide) rfl rfl (Nat.le_of_ble_eq_true rfl) ?_
  intro G hG hE hl hD
  subst hl
  subst hD
  refine r_iload_n (i := 1) hG dX7_orNone_0 rfl rfl ?_
  refine r_if_ge (tgt := 13) hG (by omega) dX7_orNone_1 (by decide) (fun c1 => ?_) (fun c1 => ?_)
  · refine r_iload_n (i := 1) hG dX7_orNone_13 rfl rfl ?_
    first
      | exact r_iret hG hE dX7_orNone_14 (by rw [if_pos (by omega)]) (by rw [if_pos (by omega)])
      | exact r_iret hG hE dX7_orNone_14 (by rw [if_neg (by omega)]) (by rw [if_neg (by omega)])
  · refine r_aload_n (i := 0) hG dX7_orNone_4 rfl rfl ?_
    refine r_ldc (n := -1000000004) hG (List.mem_of_getElem? (i := 1) rfl) rfl dX7_orNone_5 ?_
    refine r_callVi hG (c_X7_finds (g_l G) (g_D G) a Z K U R C (-1000000004) 3 (by omega) (by omega))  gX7_orNone_X7_finds rfl hyX7_finds rfl (by decide) (by decide) 0 rfl rfl rfl (Nat.le_of_ble_eq_true rfl) ⟨Nat.zero_le _, Nat.zero_le _⟩ dX7_orNone_7 (fun w hw => ?_)
    subst hw
    refine r_goto (tgt := 14) hG dX7_orNone_10 (by decide) ?_
    first
      | exact r_iret hG hE dX7_orNone_14 (by rw [if_pos (by omega)]) (by rw [if_pos (by omega)])
      | exact r_iret hG hE dX7_orNone_14 (by rw [if_neg (by omega)]) (by rw [if_neg (by omega)])
theorem hyX7_gladOn : hyV yX7_gladOn RX7 2 := by decide +kernel
set_option maxHeartbeats 4000000 in
set_option maxRecDepth 100000 in
theorem c_X7_gladOn (l : Launch) (D : va_G) (a : Nat → Nat) (Z K U R : YS) (C : Int → Int64) (hI : Inv Z) (n : Int) (hn : 0 ≤ n ∧ n < 1000000000) (hr : Z 5 0 + n < 2000000000) (c : Int) (hc : 0 ≤ c ∧ c < 8) : Con l yX7_gladOn wsX7_gladOn 9 D (mw D a Z K U R C) [.ref (a 0), .int (iI c), .int (iI n)] (some (.int (iI (glad (goZ Z n.toNat) c)))) (fun w => w = mw D a U K U R C) := by
  refine con_start (own := RX7) (by decide) rfl rfl (Nat.le_of_ble_eq_true rfl) ?_
  intro G hG hE hl hD
  subst hl
  subst hD
  have hg := goZ_ok hI n.toNat
  refine r_aload_n (i := 0) hG dX7_gladOn_0 rfl rfl ?_
  refine r_iload_n (i := 2) hG dX7_gladOn_1 rfl rfl ?_
  refine r_callVv hG (c_X7_goesFor (g_l G) (g_D G) a Z K U R C hI _ hn hr)  gX7_gladOn_X7_goesFor rfl hyX7_goesFor rfl (by decide) (by decide) 0 rfl rfl rfl (Nat.le_of_ble_eq_true rfl) ⟨Nat.zero_le _, Nat.zero_le _⟩ dX7_gladOn_2 (fun w hw => ?_)
  subst hw
  refine r_aload_n (i := 0) hG dX7_gladOn_5 rfl rfl ?_
  refine r_iload_n (i := 1) hG dX7_gladOn_6 rfl rfl ?_
  refine r_callVi hG (c_X7_gladness (g_l G) (g_D G) a (goZ Z n.toNat) K U R C hg.1 _ hc)  gX7_gladOn_X7_gladness rfl hyX7_gladness rfl (by decide) (by decide) 0 rfl rfl rfl (Nat.le_of_ble_eq_true rfl) ⟨Nat.zero_le _, Nat.zero_le _⟩ dX7_gladOn_7 (fun w hw => ?_)
  subst hw
  refine r_istore_n (i := 3) hG dX7_gladOn_10 rfl (by decide) rfl ?_
  refine r_aload_n (i := 0) hG dX7_gladOn_11 rfl rfl ?_
  refine r_callVv hG (c_X7_putsBack (g_l G) (g_D G) a (goZ Z n.toNat) K U R C)  gX7_gladOn_X7_putsBack rfl hyX7_putsBack rfl (by decide) (by decide) 0 rfl rfl rfl (Nat.le_of_ble_eq_true rfl) ⟨Nat.zero_le _, Nat.zero_le _⟩ dX7_gladOn_12 (fun w hw => ?_)
  subst hw
  refine r_iload_n (i := 3) hG dX7_gladOn_15 rfl rfl ?_
  exact r_iret hG hE dX7_gladOn_16 rfl rfl
