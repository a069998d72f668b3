def tw0 (D : va_G) (x b : Nat → Nat) (Y : YS) (xx zz q : Int) (B : Int → Int) (n tk st en va : Int) : va_W := ((x 0, .inr (4, [.ref (x 1)])) :: tapew D (fun i => x (1 + i)) B n tk st en va) ++ yw D b Y xx zz q
theorem kX5_readInto_12 : Cond.fieldLink RX5 12 "BreakSwaps$YardText" "tape" "LBreakSwaps$Tape;" ∈ wsX5_readInto := List.mem_of_getElem? (i := 1) rfl
theorem kX5_readInto_25 : Cond.fieldLink RX5 25 "BreakSwaps$Tape" "token" "I" ∈ wsX5_readInto := List.mem_of_getElem? (i := 2) rfl
theorem kX5_readInto_32 : Cond.fieldLink RX5 32 "BreakSwaps$Tape" "start" "I" ∈ wsX5_readInto := List.mem_of_getElem? (i := 3) rfl
theorem cX5_readInto_X3 : ∀ w ∈ wsX30, w ∈ wsX5_readInto := fun _ h => List.mem_cons_of_mem _ (List.mem_append_left _ (List.mem_append_right _ h))
theorem cX5_readInto_X5 : ∀ w ∈ wsX50, w ∈ wsX5_readInto := fun _ h => List.mem_cons_of_mem _ (List.mem_append_left _ (List.mem_append_left _ (List.mem_append_right _ h)))
theorem hyX5_readInto : hyV yX5_readInto RX5 1 := by decide +kernel
set_option maxHeartbeats 4000000 in
set_option maxRecDepth 100000 in
theorem c_X5_readInto (l : Launch) (D : va_G) (x b : Nat → Nat) (Y : YS) (xx zz q : Int) (B : Int → Int) (n tk st en va : Int) (hB : bytesOk B) (hn : 0 ≤ n ∧ n ≤ 120) (hva : -2147483648 ≤ va ∧ va < 2147483648) (hI : Inv Y) (hH : Hol Y) : Con l yX5_readInto wsX5_readInto 7 D (tw0 D x b Y xx zz q B n tk st en va) [.ref (x 0), .ref (b 0)] (some (.int (iI (parseS B n 120 1 Y 0).1))) (fun w => ∃ Y2 tk2 st2 en2 va2, w = tw0 D x b Y2 xx zz q B n tk2 st2 en2 va2 ∧ (0 ≤ (parseS B n 120 1 Y 0).1 → Y2 = (parseS B n 120 1 Y 0).2)) := by
  refine con_start (own := RX5) (by decide) rfl rfl (Nat.le_of_ble_eq_true rfl) ?_
  intro G hG hE hl hD
  subst hl
  subst hD
  have K65 : ∀ (Y1 : YS) (p1 v1 : Int), (0 ≤ p1 ∧ p1 ≤ n) → (parseS B n 120 1 Y 0).1 = -1 - tS B n p1 → V G 0 0 (tw (g_D G) x b (Y1) xx zz q B n (p1) v1) 65 [(0, .ref (x 0)), (1, .ref (b 0))] [] := by
    intro Y1 p1 v1 hp1 e1
    have g1 := tE_rng (B := B) hp1
    refine r_iconst hG dX5_readInto_65 ?_
    refine r_aload_n (i := 0) hG dX5_readInto_66 rfl rfl ?_
    refine r_get hG cX5_readInto_X5 0 0 rfl rfl (by decide) kX5_readInto_12 rfl dX5_readInto_67 ?_
    refine r_get hG cX5_readInto_X3 1 3 rfl rfl (by decide) kX5_readInto_32 rfl dX5_readInto_70 ?_
    refine r_isub hG dX5_readInto_73 ?_
    exact r_iret hG hE dX5_readInto_74 (by rw [e1]) ⟨Y1, tK B n p1, tS B n p1, tE B n p1, v1, rfl, fun h => absurd h (by omega)⟩
  have L : ∀ k : Nat, k ≤ 120 → ∀ (Y1 : YS) (p1 v1 : Int), Inv Y1 → Hol Y1 → (0 ≤ p1 ∧ p1 ≤ n) → vok B n p1 v1 → parseS B n (120 - k) ((k : Int) + 1) Y1 p1 = parseS B n 120 1 Y 0 → V G 0 0 (tw (g_D G) x b (Y1) xx zz q B n (p1) v1) 9 [(0, .ref (x 0)), (1, .ref (b 0)), (2, .int (iI ((k : Int) + 1)))] [] := by
    refine down (fun k hk ih Y1 p1 v1 hI1 hH1 hp1 ho1 he => ?_)
    have hit := (itemS_ok B hI1 hH1 hp1).1
    have hit2 := hit.2
    obtain ⟨r, hr⟩ : ∃ r, r = itemS B n Y1 p1 := ⟨_, rfl⟩
    rw [← hr] at hit hit2
    have g1 := tE_rng (B := B) (n := n) (p := r.2.2) (by omega)
    have hkr := tK_rng B n r.2.2
    have eS : k < 120 → parseS B n 120 1 Y 0 = if r.1 = true then (if tK B n r.2.2 = 0 then ((k : Int) + 1, r.2.1) else if tK B n r.2.2 = 3 then parseS B n (120 - (k + 1)) ((k : Int) + 1 + 1) r.2.1 (tE B n r.2.2) else (-1 - tS B n r.2.2, Y1)) else (-1 - tS B n r.2.2, Y1) := by
      intro h4
      rw [← he, hr, show 120 - k = (120 - (k + 1)) + 1 by omega]
      rfl
    have e120 : k = 120 → (parseS B n 120 1 Y 0).1 = -1 - tS B n p1 := fun h4 => by rw [← he, h4]; rfl
    refine r_iload_n (i := 2) hG dX5_readInto_9 rfl rfl ?_
    refine r_bipush hG dX5_readInto_10 rfl ?_
    refine r_icmp_gt (tgt := 65) hG (by omega) (by omega) dX5_readInto_12 (by decide) (fun c12 => ?_) (fun c12 => ?_)
    · first
        | exact V_lv (K65 Y1 p1 v1 hp1 (e120 (by omega))) ⟨rfl, rfl, trivial⟩
        | (have e5 := eS (by omega)
           rw [c20] at e5
           exact V_lv (K65 r.2.1 r.2.2 vr (by omega) (by rw [e5]; rfl)) ⟨rfl, rfl, trivial⟩)
        | (have e5 := eS (by omega)
           rw [if_pos c20, if_neg (by omega), if_neg (by omega)] at e5
           exact V_lv (K65 r.2.1 r.2.2 vr (by omega) (by rw [e5])) ⟨rfl, rfl, trivial⟩)
    · refine r_aload_n (i := 0) hG dX5_readInto_15 rfl rfl ?_
      refine r_aload_n (i := 1) hG dX5_readInto_16 rfl rfl ?_
      refine r_callVi hG (c_X5_readItem (g_l G) (g_D G) x b Y1 xx zz q B n p1 v1 hB hn hp1 ho1 hI1 hH1)  gX5_readInto_X5_readItem rfl hyX5_readItem rfl (by decide) (by decide) 0 rfl rfl rfl (Nat.le_of_ble_eq_true rfl) ⟨Nat.zero_le _, Nat.zero_le _⟩ dX5_readInto_17 ?_
      rintro w ⟨vr, hw, ovr⟩
      rw [← hr] at hw ovr
      subst hw
      have ovr2 := ovr.2
      rw [← hr]
      refine rb_if_ne (tgt := 26) hG dX5_readInto_20 (by decide) (fun c20 => ?_) (fun c20 => ?_)
      · try simp only [decide_eq_true_eq, decide_eq_false_iff_not] at c20
        refine r_aload_n (i := 0) hG dX5_readInto_26 rfl rfl ?_
        refine r_get hG cX5_readInto_X5 0 0 rfl rfl (by decide) kX5_readInto_12 rfl dX5_readInto_27 ?_
        refine r_get hG cX5_readInto_X3 1 2 rfl rfl (by decide) kX5_readInto_25 rfl dX5_readInto_30 ?_
        refine r_if_ne (tgt := 38) hG (by omega) dX5_readInto_33 (by decide) (fun c33 => ?_) (fun c33 => ?_)
        · refine r_aload_n (i := 0) hG dX5_readInto_38 rfl rfl ?_
          refine r_get hG cX5_readInto_X5 0 0 rfl rfl (by decide) kX5_readInto_12 rfl dX5_readInto_39 ?_
          refine r_get hG cX5_readInto_X3 1 2 rfl rfl (by decide) kX5_readInto_25 rfl dX5_readInto_42 ?_
          refine r_iconst hG dX5_readInto_45 ?_
          refine r_icmp_eq (tgt := 52) hG (by omega) (by omega) dX5_readInto_46 (by decide) (fun c46 => ?_) (fun c46 => ?_)
          · refine r_aload_n (i := 0) hG dX5_readInto_52 rfl rfl ?_
            refine r_get hG cX5_readInto_X5 0 0 rfl rfl (by decide) kX5_readInto_12 rfl dX5_readInto_53 ?_
            refine r_midv hG (c_X3_advance (g_l G) (g_D G) (fun i => x (1 + i)) B n (tK B n r.2.2) (tS B n r.2.2) (tE B n r.2.2) vr hB hn (by omega)) [(x 0, .inr (4, [.ref (x 1)]))] (yw (g_D G) b (r.2.1) xx zz q) rfl gX5_readInto_X3_advance rfl hyX3_advance rfl (by decide) (by decide) 0 rfl rfl rfl (Nat.le_of_ble_eq_true rfl) ⟨Nat.zero_le _, Nat.zero_le _⟩ dX5_readInto_56 ?_
            intro w hw
            subst hw
            obtain ⟨vn, hvn⟩ : ∃ vn : Int, vn = if tK B n (tE B n r.2.2) = 2 then tV B n (tE B n r.2.2) else vr := ⟨_, rfl⟩
            have ovn : vok B n (tE B n r.2.2) vn := by rw [hvn]; exact vok_next B (by omega)
            have ovn1 := ovn.1
            have ovn2 := ovn.2
            refine V_ws (ws' := tw (g_D G) x b (r.2.1) xx zz q B n ((tE B n r.2.2)) vn) (by rw [hvn]; rfl) ?_
            refine r_iinc hG dX5_readInto_59 rfl (by decide) rfl ?_
            refine r_goto (tgt := 9) hG dX5_readInto_62 (by decide) ?_
            have e5 := eS (by omega)
            rw [if_pos c20, if_neg (by omega), if_pos (by omega)] at e5
            exact V_lv (ih (by omega) r.2.1 (tE B n r.2.2) vn hit.1.1 hit.1.2.1 (by omega) ovn e5.symm) ⟨rfl, rfl, rfl, trivial⟩
          · refine r_goto (tgt := 65) hG dX5_readInto_49 (by decide) ?_
            first
              | exact V_lv (K65 Y1 p1 v1 hp1 (e120 (by omega))) ⟨rfl, rfl, trivial⟩
              | (have e5 := eS (by omega)
                 rw [c20] at e5
                 exact V_lv (K65 r.2.1 r.2.2 vr (by omega) (by rw [e5]; rfl)) ⟨rfl, rfl, trivial⟩)
              | (have e5 := eS (by omega)
                 rw [if_pos c20, if_neg (by omega), if_neg (by omega)] at e5
                 exact V_lv (K65 r.2.1 r.2.2 vr (by omega) (by rw [e5])) ⟨rfl, rfl, trivial⟩)
        · refine r_iload_n (i := 2) hG dX5_readInto_36 rfl rfl ?_
          have e5 := eS (by omega)
          rw [if_pos c20, if_pos (by omega)] at e5
          exact r_iret hG hE dX5_readInto_37 (by rw [e5]) ⟨r.2.1, tK B n r.2.2, tS B n r.2.2, tE B n r.2.2, vr, rfl, fun _ => by rw [e5]⟩
      · try simp only [decide_eq_true_eq, decide_eq_false_iff_not] at c20
        refine r_goto (tgt := 65) hG dX5_readInto_23 (by decide) ?_
        first
          | exact V_lv (K65 Y1 p1 v1 hp1 (e120 (by omega))) ⟨rfl, rfl, trivial⟩
          | (have e5 := eS (by omega)
             rw [c20] at e5
             exact V_lv (K65 r.2.1 r.2.2 vr (by omega) (by rw [e5]; rfl)) ⟨rfl, rfl, trivial⟩)
          | (have e5 := eS (by omega)
             rw [if_pos c20, if_neg (by omega), if_neg (by omega)] at e5
             exact V_lv (K65 r.2.1 r.2.2 vr (by omega) (by rw [e5])) ⟨rfl, rfl, trivial⟩)
  refine r_aload_n (i := 0) hG dX5_readInto_0 rfl rfl ?_
  refine r_get hG cX5_readInto_X5 0 0 rfl rfl (by decide) kX5_readInto_12 rfl dX5_readInto_1 ?_
  refine r_midv hG (c_X3_rewind (g_l G) (g_D G) (fun i => x (1 + i)) B n tk st en va hB hn) [(x 0, .inr (4, [.ref (x 1)]))] (yw (g_D G) b (Y) xx zz q) rfl gX5_readInto_X3_rewind rfl hyX3_rewind rfl (by decide) (by decide) 0 rfl rfl rfl (Nat.le_of_ble_eq_true rfl) ⟨Nat.zero_le _, Nat.zero_le _⟩ dX5_readInto_4 ?_
  intro w hw
  subst hw
  obtain ⟨vz, hvz⟩ : ∃ vz : Int, vz = if tK B n 0 = 2 then tV B n 0 else va := ⟨_, rfl⟩
  have ovz : vok B n 0 vz := by rw [hvz]; exact vok_next B (by omega)
  refine V_ws (ws' := tw (g_D G) x b (Y) xx zz q B n (0) vz) (by rw [hvz]; rfl) ?_
  refine r_iconst hG dX5_readInto_7 ?_
  refine r_istore_n (i := 2) hG dX5_readInto_8 rfl (by decide) rfl ?_
  exact V_lv (L 0 (by omega) Y 0 vz hI hH (by omega) ovz rfl) ⟨rfl, rfl, rfl, trivial⟩
