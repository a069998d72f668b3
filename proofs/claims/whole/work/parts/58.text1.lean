theorem kX5_readSwap_12 : Cond.fieldLink RX5 12 "BreakSwaps$YardText" "tape" "LBreakSwaps$Tape;" ∈ wsX5_readSwap := List.mem_of_getElem? (i := 1) rfl
theorem kX5_readSwap_64 : Cond.fieldLink RX5 64 "BreakSwaps$Yard" "size" "I" ∈ wsX5_readSwap := List.mem_of_getElem? (i := 2) rfl
theorem kX5_readSwap_95 : Cond.fieldLink RX5 95 "BreakSwaps$Tape" "value" "I" ∈ wsX5_readSwap := List.mem_of_getElem? (i := 3) rfl
theorem cX5_readSwap_X3 : ∀ w ∈ wsX30, w ∈ wsX5_readSwap := fun _ h => List.mem_cons_of_mem _ (List.mem_append_right _ h)
theorem cX5_readSwap_X4 : ∀ w ∈ wsX40, w ∈ wsX5_readSwap := fun _ h => List.mem_cons_of_mem _ (List.mem_append_left _ (List.mem_append_right _ h))
theorem cX5_readSwap_X5 : ∀ w ∈ wsX50, w ∈ wsX5_readSwap := fun _ h => List.mem_cons_of_mem _ (List.mem_append_left _ (List.mem_append_left _ (List.mem_append_right _ h)))
theorem hyX5_readSwap : hyV yX5_readSwap RX5 1 := by decide +kernel
set_option maxHeartbeats 4000000 in
set_option maxRecDepth 100000 in
theorem c_X5_readSwap (l : Launch) (D : va_G) (x b : Nat → Nat) (Y : YS) (xx zz q : Int) (B : Int → Int) (n p v : Int) (hB : bytesOk B) (hn : 0 ≤ n ∧ n ≤ 120) (hp : 0 ≤ p ∧ p ≤ n) (hvo : vok B n p v) (hI : Inv Y) : Con l yX5_readSwap wsX5_readSwap 3 D (tw D x b Y xx zz q B n p v) [.ref (x 0), .ref (b 0)] (some (.int (iI (b2 (swapS B n Y (tE B n p)).1)))) (fun w => ∃ v2, w = tw D x b (swapS B n Y (tE B n p)).2.1 xx zz q B n (swapS B n Y (tE B n p)).2.2 v2 ∧ vok B n (swapS B n Y (tE B n p)).2.2 v2) := by
  refine con_start (own := RX5) (by decide) rfl rfl (Nat.le_of_ble_eq_true rfl) ?_
  intro G hG hE hl hD
  subst hl
  subst hD
  have hvo1 := hvo.1
  have hvo2 := hvo.2
  have h1 := tE_rng (B := B) hp
  have h2 := tE_rng (B := B) (n := n) (p := tE B n p) (by omega)
  have h3 := tE_rng (B := B) (n := n) (p := tE B n (tE B n p)) (by omega)
  have hv1 := tV_rng B n p
  have hv2 := tV_rng B n (tE B n p)
  have hv3 := tV_rng B n (tE B n (tE B n p))
  have hN := hI.1
  refine r_aload_n (i := 0) hG dX5_readSwap_0 rfl rfl ?_
  refine r_get hG cX5_readSwap_X5 0 0 rfl rfl (by decide) kX5_readSwap_12 rfl dX5_readSwap_1 ?_
  refine r_midv hG (c_X3_advance (g_l G) (g_D G) (fun i => x (1 + i)) B n (tK B n p) (tS B n p) (tE B n p) v hB hn (by omega)) [(x 0, .inr (4, [.ref (x 1)]))] (yw (g_D G) b (Y) xx zz q) rfl gX5_readSwap_X3_advance rfl hyX3_advance rfl (by decide) (by decide) 0 rfl rfl rfl (Nat.le_of_ble_eq_true rfl) ⟨Nat.zero_le _, Nat.zero_le _⟩ dX5_readSwap_4 ?_
  intro w hw
  subst hw
  obtain ⟨va, hva⟩ : ∃ va : Int, va = if tK B n (tE B n p) = 2 then tV B n (tE B n p) else v := ⟨_, rfl⟩
  have ova : vok B n (tE B n p) va := by rw [hva]; exact vok_next B (by omega)
  have ova1 := ova.1
  have ova2 := ova.2
  refine V_ws (ws' := tw (g_D G) x b (Y) xx zz q B n ((tE B n p)) va) (by rw [hva]; rfl) ?_
  refine r_aload_n (i := 0) hG dX5_readSwap_7 rfl rfl ?_
  refine r_get hG cX5_readSwap_X5 0 0 rfl rfl (by decide) kX5_readSwap_12 rfl dX5_readSwap_8 ?_
  refine r_aload_n (i := 1) hG dX5_readSwap_11 rfl rfl ?_
  refine r_get hG cX5_readSwap_X4 3 2 rfl rfl (by decide) kX5_readSwap_64 rfl dX5_readSwap_12 ?_
  refine r_iconst hG dX5_readSwap_15 ?_
  refine r_isub hG dX5_readSwap_16 ?_
  refine r_midi hG (c_X3_isNumberUpTo (g_l G) (g_D G) (fun i => x (1 + i)) B n (tK B n (tE B n p)) (tS B n (tE B n p)) (tE B n (tE B n p)) va (tK_rng B n (tE B n p)) (by omega) _ (by omega)) [(x 0, .inr (4, [.ref (x 1)]))] (yw (g_D G) b (Y) xx zz q) rfl gX5_readSwap_X3_isNumberUpTo rfl hyX3_isNumberUpTo rfl (by decide) (by decide) 0 rfl rfl rfl (Nat.le_of_ble_eq_true rfl) ⟨Nat.zero_le _, Nat.zero_le _⟩ dX5_readSwap_17 ?_
  intro w hw
  subst hw
  refine V_ws (ws' := tw (g_D G) x b (Y) xx zz q B n ((tE B n p)) va) rfl ?_
  refine rb_if_ne (tgt := 25) hG dX5_readSwap_20 (by decide) (fun c20 => ?_) (fun c20 => ?_)
  · try simp only [decide_eq_true_eq, decide_eq_false_iff_not] at c20
    refine r_aload_n (i := 0) hG dX5_readSwap_25 rfl rfl ?_
    refine r_get hG cX5_readSwap_X5 0 0 rfl rfl (by decide) kX5_readSwap_12 rfl dX5_readSwap_26 ?_
    refine r_get hG cX5_readSwap_X3 1 5 rfl rfl (by decide) kX5_readSwap_95 rfl dX5_readSwap_29 ?_
    refine r_istore_n (i := 2) hG dX5_readSwap_32 rfl (by decide) rfl ?_
    refine V_lv (lv' := [(0, .ref (x 0)), (1, .ref (b 0)), (2, .int (iI (tV B n (tE B n p))))]) ?_ ⟨rfl, rfl, congrArg (fun z => some (Value.int (iI z))) (by omega), trivial⟩
    refine r_aload_n (i := 0) hG dX5_readSwap_33 rfl rfl ?_
    refine r_get hG cX5_readSwap_X5 0 0 rfl rfl (by decide) kX5_readSwap_12 rfl dX5_readSwap_34 ?_
    refine r_midv hG (c_X3_advance (g_l G) (g_D G) (fun i => x (1 + i)) B n (tK B n (tE B n p)) (tS B n (tE B n p)) (tE B n (tE B n p)) va hB hn (by omega)) [(x 0, .inr (4, [.ref (x 1)]))] (yw (g_D G) b (Y) xx zz q) rfl gX5_readSwap_X3_advance rfl hyX3_advance rfl (by decide) (by decide) 0 rfl rfl rfl (Nat.le_of_ble_eq_true rfl) ⟨Nat.zero_le _, Nat.zero_le _⟩ dX5_readSwap_37 ?_
    intro w hw
    subst hw
    obtain ⟨vb, hvb⟩ : ∃ vb : Int, vb = if tK B n (tE B n (tE B n p)) = 2 then tV B n (tE B n (tE B n p)) else va := ⟨_, rfl⟩
    have ovb : vok B n (tE B n (tE B n p)) vb := by rw [hvb]; exact vok_next B (by omega)
    have ovb1 := ovb.1
    have ovb2 := ovb.2
    refine V_ws (ws' := tw (g_D G) x b (Y) xx zz q B n ((tE B n (tE B n p))) vb) (by rw [hvb]; rfl) ?_
    refine r_aload_n (i := 0) hG dX5_readSwap_40 rfl rfl ?_
    refine r_get hG cX5_readSwap_X5 0 0 rfl rfl (by decide) kX5_readSwap_12 rfl dX5_readSwap_41 ?_
    refine r_aload_n (i := 1) hG dX5_readSwap_44 rfl rfl ?_
    refine r_get hG cX5_readSwap_X4 3 2 rfl rfl (by decide) kX5_readSwap_64 rfl dX5_readSwap_45 ?_
    refine r_iconst hG dX5_readSwap_48 ?_
    refine r_isub hG dX5_readSwap_49 ?_
    refine r_midi hG (c_X3_isNumberUpTo (g_l G) (g_D G) (fun i => x (1 + i)) B n (tK B n (tE B n (tE B n p))) (tS B n (tE B n (tE B n p))) (tE B n (tE B n (tE B n p))) vb (tK_rng B n (tE B n (tE B n p))) (by omega) _ (by omega)) [(x 0, .inr (4, [.ref (x 1)]))] (yw (g_D G) b (Y) xx zz q) rfl gX5_readSwap_X3_isNumberUpTo rfl hyX3_isNumberUpTo rfl (by decide) (by decide) 0 rfl rfl rfl (Nat.le_of_ble_eq_true rfl) ⟨Nat.zero_le _, Nat.zero_le _⟩ dX5_readSwap_50 ?_
    intro w hw
    subst hw
    refine V_ws (ws' := tw (g_D G) x b (Y) xx zz q B n ((tE B n (tE B n p))) vb) rfl ?_
    refine rb_if_eq (tgt := 67) hG dX5_readSwap_53 (by decide) (fun c53 => ?_) (fun c53 => ?_)
    · try simp only [decide_eq_true_eq, decide_eq_false_iff_not] at c53
      refine r_iconst hG dX5_readSwap_67 ?_
      have e9 : swapS B n Y (tE B n p) = (false, Y, (tE B n (tE B n p))) := by unfold swapS; (repeat (first | rw [if_pos (by omega)] | rw [if_neg (by omega)]))
      exact r_zret hG hE dX5_readSwap_68 (by rw [e9]; rfl) ⟨vb, by rw [e9], by rw [e9]; exact ovb⟩
    · try simp only [decide_eq_true_eq, decide_eq_false_iff_not] at c53
      refine r_aload_n (i := 0) hG dX5_readSwap_56 rfl rfl ?_
      refine r_get hG cX5_readSwap_X5 0 0 rfl rfl (by decide) kX5_readSwap_12 rfl dX5_readSwap_57 ?_
      refine r_get hG cX5_readSwap_X3 1 5 rfl rfl (by decide) kX5_readSwap_95 rfl dX5_readSwap_60 ?_
      refine r_iload_n (i := 2) hG dX5_readSwap_63 rfl rfl ?_
      refine r_icmp_ne (tgt := 69) hG (by omega) (by omega) dX5_readSwap_64 (by decide) (fun c64 => ?_) (fun c64 => ?_)
      · refine r_aload_n (i := 1) hG dX5_readSwap_69 rfl rfl ?_
        refine r_iload_n (i := 2) hG dX5_readSwap_70 rfl rfl ?_
        refine r_aload_n (i := 0) hG dX5_readSwap_71 rfl rfl ?_
        refine r_get hG cX5_readSwap_X5 0 0 rfl rfl (by decide) kX5_readSwap_12 rfl dX5_readSwap_72 ?_
        refine r_get hG cX5_readSwap_X3 1 5 rfl rfl (by decide) kX5_readSwap_95 rfl dX5_readSwap_75 ?_
        refine V_top (x' := iI (tV B n (tE B n (tE B n p)))) (congrArg iI (by omega)) ?_
        refine r_midv hG (c_X4_exchange (g_l G) (g_D G) b Y xx zz q hI (tV B n (tE B n p)) (tV B n (tE B n (tE B n p))) (by omega) (by omega)) ((x 0, .inr (4, [.ref (x 1)])) :: tapew (g_D G) (fun i => x (1 + i)) B n (tK B n (tE B n (tE B n p))) (tS B n (tE B n (tE B n p))) (tE B n (tE B n (tE B n p))) vb) [] rfl gX5_readSwap_X4_exchange rfl hyX4_exchange rfl (by decide) (by decide) 0 rfl rfl rfl (Nat.le_of_ble_eq_true rfl) ⟨Nat.zero_le _, Nat.zero_le _⟩ dX5_readSwap_78 ?_
        intro w hw
        subst hw
        refine V_ws (ws' := tw (g_D G) x b (swapZ Y (tV B n (tE B n p)) (tV B n (tE B n (tE B n p)))) xx zz q B n ((tE B n (tE B n p))) vb) rfl ?_
        refine r_aload_n (i := 0) hG dX5_readSwap_81 rfl rfl ?_
        refine r_get hG cX5_readSwap_X5 0 0 rfl rfl (by decide) kX5_readSwap_12 rfl dX5_readSwap_82 ?_
        refine r_midv hG (c_X3_advance (g_l G) (g_D G) (fun i => x (1 + i)) B n (tK B n (tE B n (tE B n p))) (tS B n (tE B n (tE B n p))) (tE B n (tE B n (tE B n p))) vb hB hn (by omega)) [(x 0, .inr (4, [.ref (x 1)]))] (yw (g_D G) b (swapZ Y (tV B n (tE B n p)) (tV B n (tE B n (tE B n p)))) xx zz q) rfl gX5_readSwap_X3_advance rfl hyX3_advance rfl (by decide) (by decide) 0 rfl rfl rfl (Nat.le_of_ble_eq_true rfl) ⟨Nat.zero_le _, Nat.zero_le _⟩ dX5_readSwap_85 ?_
        intro w hw
        subst hw
        obtain ⟨vc, hvc⟩ : ∃ vc : Int, vc = if tK B n (tE B n (tE B n (tE B n p))) = 2 then tV B n (tE B n (tE B n (tE B n p))) else vb := ⟨_, rfl⟩
        have ovc : vok B n (tE B n (tE B n (tE B n p))) vc := by rw [hvc]; exact vok_next B (by omega)
        have ovc1 := ovc.1
        have ovc2 := ovc.2
        refine V_ws (ws' := tw (g_D G) x b (swapZ Y (tV B n (tE B n p)) (tV B n (tE B n (tE B n p)))) xx zz q B n ((tE B n (tE B n (tE B n p)))) vc) (by rw [hvc]; rfl) ?_
        refine r_iconst hG dX5_readSwap_88 ?_
        have e9 : swapS B n Y (tE B n p) = (true, swapZ Y (tV B n (tE B n p)) (tV B n (tE B n (tE B n p))), (tE B n (tE B n (tE B n p)))) := by unfold swapS; (repeat (first | rw [if_pos (by omega)] | rw [if_neg (by omega)]))
        exact r_zret hG hE dX5_readSwap_89 (by rw [e9]; rfl) ⟨vc, by rw [e9], by rw [e9]; exact ovc⟩
      · refine r_iconst hG dX5_readSwap_67 ?_
        have e9 : swapS B n Y (tE B n p) = (false, Y, (tE B n (tE B n p))) := by unfold swapS; (repeat (first | rw [if_pos (by omega)] | rw [if_neg (by omega)]))
        exact r_zret hG hE dX5_readSwap_68 (by rw [e9]; rfl) ⟨vb, by rw [e9], by rw [e9]; exact ovb⟩
  · try simp only [decide_eq_true_eq, decide_eq_false_iff_not] at c20
    refine r_iconst hG dX5_readSwap_23 ?_
    have e9 : swapS B n Y (tE B n p) = (false, Y, (tE B n p)) := by unfold swapS; (repeat (first | rw [if_pos (by omega)] | rw [if_neg (by omega)]))
    exact r_zret hG hE dX5_readSwap_24 (by rw [e9]; rfl) ⟨va, by rw [e9], by rw [e9]; exact ova⟩
def childA (B : Int → Int) (n : Int) (Y : YS) (k p : Int) : Bool × YS × Int := if tK B n (tE B n p) = 2 ∧ tV B n (tE B n p) ≤ 9 then (true, addY Y k (tV B n (tE B n p)), tE B n (tE B n p)) else (false, Y, tE B n p)
theorem kX5_readChild_12 : Cond.fieldLink RX5 12 "BreakSwaps$YardText" "tape" "LBreakSwaps$Tape;" ∈ wsX5_readChild := List.mem_of_getElem? (i := 1) rfl
theorem kX5_readChild_95 : Cond.fieldLink RX5 95 "BreakSwaps$Tape" "value" "I" ∈ wsX5_readChild := List.mem_of_getElem? (i := 2) rfl
theorem cX5_readChild_X3 : ∀ w ∈ wsX30, w ∈ wsX5_readChild := fun _ h => List.mem_cons_of_mem _ (List.mem_append_left _ (List.mem_append_right _ h))
theorem cX5_readChild_X5 : ∀ w ∈ wsX50, w ∈ wsX5_readChild := fun _ h => List.mem_cons_of_mem _ (List.mem_append_left _ (List.mem_append_left _ (List.mem_append_right _ h)))
theorem hyX5_readChild : hyV yX5_readChild RX5 2 := by decide +kernel
set_option maxHeartbeats 4000000 in
set_option maxRecDepth 100000 in
theorem c_X5_readChild (l : Launch) (D : va_G) (x b : Nat → Nat) (Y : YS) (xx zz q : Int) (B : Int → Int) (n p v : Int) (hB : bytesOk B) (hn : 0 ≤ n ∧ n ≤ 120) (hp : 0 ≤ p ∧ p ≤ n) (hvo : vok B n p v) (hI : Inv Y) (hf : Y 5 2 < 8) (k : Int) : Con l yX5_readChild wsX5_readChild 3 D (tw D x b Y xx zz q B n p v) [.ref (x 0), .ref (b 0), .int (iI k)] (some (.int (iI (b2 (childA B n Y k p).1)))) (fun w => ∃ v2, w = tw D x b (childA B n Y k p).2.1 xx zz q B n (childA B n Y k p).2.2 v2 ∧ vok B n (childA B n Y k p).2.2 v2) := by
  refine con_start (own := RX5) (by decide) rfl rfl (Nat.le_of_ble_eq_true rfl) ?_
  intro G hG hE hl hD
  subst hl
  subst hD
  have hvo1 := hvo.1
  have hvo2 := hvo.2
  have h1 := tE_rng (B := B) hp
  have h2 := tE_rng (B := B) (n := n) (p := tE B n p) (by omega)
  have h3 := tE_rng (B := B) (n := n) (p := tE B n (tE B n p)) (by omega)
  have hv1 := tV_rng B n p
  have hv2 := tV_rng B n (tE B n p)
  have hv3 := tV_rng B n (tE B n (tE B n p))
  refine r_aload_n (i := 0) hG dX5_readChild_0 rfl rfl ?_
  refine r_get hG cX5_readChild_X5 0 0 rfl rfl (by decide) kX5_readChild_12 rfl dX5_readChild_1 ?_
  refine r_midv hG (c_X3_advance (g_l G) (g_D G) (fun i => x (1 + i)) B n (tK B n p) (tS B n p) (tE B n p) v hB hn (by omega)) [(x 0, .inr (4, [.ref (x 1)]))] (yw (g_D G) b (Y) xx zz q) rfl gX5_readChild_X3_advance rfl hyX3_advance rfl (by decide) (by decide) 0 rfl rfl rfl (Nat.le_of_ble_eq_true rfl) ⟨Nat.zero_le _, Nat.zero_le _⟩ dX5_readChild_4 ?_
  intro w hw
  subst hw
  obtain ⟨va, hva⟩ : ∃ va : Int, va = if tK B n (tE B n p) = 2 then tV B n (tE B n p) else v := ⟨_, rfl⟩
  have ova : vok B n (tE B n p) va := by rw [hva]; exact vok_next B (by omega)
  have ova1 := ova.1
  have ova2 := ova.2
  refine V_ws (ws' := tw (g_D G) x b (Y) xx zz q B n ((tE B n p)) va) (by rw [hva]; rfl) ?_
  refine r_aload_n (i := 0) hG dX5_readChild_7 rfl rfl ?_
  refine r_get hG cX5_readChild_X5 0 0 rfl rfl (by decide) kX5_readChild_12 rfl dX5_readChild_8 ?_
  refine r_bipush hG dX5_readChild_11 rfl ?_
  refine r_midi hG (c_X3_isNumberUpTo (g_l G) (g_D G) (fun i => x (1 + i)) B n (tK B n (tE B n p)) (tS B n (tE B n p)) (tE B n (tE B n p)) va (tK_rng B n (tE B n p)) (by omega) _ (by omega)) [(x 0, .inr (4, [.ref (x 1)]))] (yw (g_D G) b (Y) xx zz q) rfl gX5_readChild_X3_isNumberUpTo rfl hyX3_isNumberUpTo rfl (by decide) (by decide) 0 rfl rfl rfl (Nat.le_of_ble_eq_true rfl) ⟨Nat.zero_le _, Nat.zero_le _⟩ dX5_readChild_13 ?_
  intro w hw
  subst hw
  refine V_ws (ws' := tw (g_D G) x b (Y) xx zz q B n ((tE B n p)) va) rfl ?_
  refine rb_if_ne (tgt := 21) hG dX5_readChild_16 (by decide) (fun c16 => ?_) (fun c16 => ?_)
  · try simp only [decide_eq_true_eq, decide_eq_false_iff_not] at c16
    refine r_aload_n (i := 1) hG dX5_readChild_21 rfl rfl ?_
    refine r_iload_n (i := 2) hG dX5_readChild_22 rfl rfl ?_
    refine r_aload_n (i := 0) hG dX5_readChild_23 rfl rfl ?_
    refine r_get hG cX5_readChild_X5 0 0 rfl rfl (by decide) kX5_readChild_12 rfl dX5_readChild_24 ?_
    refine r_get hG cX5_readChild_X3 1 5 rfl rfl (by decide) kX5_readChild_95 rfl dX5_readChild_27 ?_
    refine V_top (x' := iI (tV B n (tE B n p))) (congrArg iI (by omega)) ?_
    refine r_midi hG (c_X4_addOne (g_l G) (g_D G) b Y xx zz q hI hf k (tV B n (tE B n p)) (by omega)) ((x 0, .inr (4, [.ref (x 1)])) :: tapew (g_D G) (fun i => x (1 + i)) B n (tK B n (tE B n p)) (tS B n (tE B n p)) (tE B n (tE B n p)) va) [] rfl gX5_readChild_X4_addOne rfl hyX4_addOne rfl (by decide) (by decide) 0 rfl rfl rfl (Nat.le_of_ble_eq_true rfl) ⟨Nat.zero_le _, Nat.zero_le _⟩ dX5_readChild_30 ?_
    intro w hw
    subst hw
    refine V_ws (ws' := tw (g_D G) x b (addY Y k (tV B n (tE B n p))) xx zz q B n ((tE B n p)) va) rfl ?_
    refine r_pop hG dX5_readChild_33 rfl ?_
    refine r_aload_n (i := 0) hG dX5_readChild_34 rfl rfl ?_
    refine r_get hG cX5_readChild_X5 0 0 rfl rfl (by decide) kX5_readChild_12 rfl dX5_readChild_35 ?_
    refine r_midv hG (c_X3_advance (g_l G) (g_D G) (fun i => x (1 + i)) B n (tK B n (tE B n p)) (tS B n (tE B n p)) (tE B n (tE B n p)) va hB hn (by omega)) [(x 0, .inr (4, [.ref (x 1)]))] (yw (g_D G) b (addY Y k (tV B n (tE B n p))) xx zz q) rfl gX5_readChild_X3_advance rfl hyX3_advance rfl (by decide) (by decide) 0 rfl rfl rfl (Nat.le_of_ble_eq_true rfl) ⟨Nat.zero_le _, Nat.zero_le _⟩ dX5_readChild_38 ?_
    intro w hw
    subst hw
    obtain ⟨vb, hvb⟩ : ∃ vb : Int, vb = if tK B n (tE B n (tE B n p)) = 2 then tV B n (tE B n (tE B n p)) else va := ⟨_, rfl⟩
    have ovb : vok B n (tE B n (tE B n p)) vb := by rw [hvb]; exact vok_next B (by omega)
    have ovb1 := ovb.1
    have ovb2 := ovb.2
    refine V_ws (ws' := tw (g_D G) x b (addY Y k (tV B n (tE B n p))) xx zz q B n ((tE B n (tE B n p))) vb) (by rw [hvb]; rfl) ?_
    refine r_iconst hG dX5_readChild_41 ?_
    have e9 : childA B n Y k p = (true, addY Y k (tV B n (tE B n p)), (tE B n (tE B n p))) := by unfold childA; (repeat (first | rw [if_pos (by omega)] | rw [if_neg (by omega)]))
    exact r_zret hG hE dX5_readChild_42 (by rw [e9]; rfl) ⟨vb, by rw [e9], by rw [e9]; exact ovb⟩
  · try simp only [decide_eq_true_eq, decide_eq_false_iff_not] at c16
    refine r_iconst hG dX5_readChild_19 ?_
    have e9 : childA B n Y k p = (false, Y, (tE B n p)) := by unfold childA; (repeat (first | rw [if_pos (by omega)] | rw [if_neg (by omega)]))
    exact r_zret hG hE dX5_readChild_20 (by rw [e9]; rfl) ⟨va, by rw [e9], by rw [e9]; exact ova⟩
theorem kX5_readTrust_12 : Cond.fieldLink RX5 12 "BreakSwaps$YardText" "tape" "LBreakSwaps$Tape;" ∈ wsX5_readTrust := List.mem_of_getElem? (i := 1) rfl
theorem kX5_readTrust_108 : Cond.fieldLink RX5 108 "BreakSwaps$Yard" "trusts" "[I" ∈ wsX5_readTrust := List.mem_of_getElem? (i := 2) rfl
theorem kX5_readTrust_95 : Cond.fieldLink RX5 95 "BreakSwaps$Tape" "value" "I" ∈ wsX5_readTrust := List.mem_of_getElem? (i := 3) rfl
theorem cX5_readTrust_X3 : ∀ w ∈ wsX30, w ∈ wsX5_readTrust := fun _ h => List.mem_cons_of_mem _ (List.mem_append_right _ h)
theorem cX5_readTrust_X4 : ∀ w ∈ wsX40, w ∈ wsX5_readTrust := fun _ h => List.mem_cons_of_mem _ (List.mem_append_left _ (List.mem_append_right _ h))
theorem cX5_readTrust_X5 : ∀ w ∈ wsX50, w ∈ wsX5_readTrust := fun _ h => List.mem_cons_of_mem _ (List.mem_append_left _ (List.mem_append_left _ (List.mem_append_right _ h)))
theorem hyX5_readTrust : hyV yX5_readTrust RX5 2 := by decide +kernel
set_option maxHeartbeats 4000000 in
set_option maxRecDepth 100000 in
theorem c_X5_readTrust (l : Launch) (D : va_G) (x b : Nat → Nat) (Y : YS) (xx zz q : Int) (B : Int → Int) (n p v : Int) (hB : bytesOk B) (hn : 0 ≤ n ∧ n ≤ 120) (hp : 0 ≤ p ∧ p ≤ n) (hvo : vok B n p v) (c : Int) (hc : 0 ≤ c ∧ c < 8) : Con l yX5_readTrust wsX5_readTrust 5 D (tw D x b Y xx zz q B n p v) [.ref (x 0), .ref (b 0), .int (iI c)] (some (.int (iI (b2 (trustS B n Y c p).1)))) (fun w => ∃ v2, w = tw D x b (trustS B n Y c p).2.1 xx zz q B n (trustS B n Y c p).2.2 v2 ∧ vok B n (trustS B n Y c p).2.2 v2) := by
  refine con_start (own := RX5) (by decide) rfl rfl (Nat.le_of_ble_eq_true rfl) ?_
  intro G hG hE hl hD
  subst hl
  subst hD
  have hvo1 := hvo.1
  have hvo2 := hvo.2
  have h1 := tE_rng (B := B) hp
  have h2 := tE_rng (B := B) (n := n) (p := tE B n p) (by omega)
  have h3 := tE_rng (B := B) (n := n) (p := tE B n (tE B n p)) (by omega)
  have hv1 := tV_rng B n p
  have hv2 := tV_rng B n (tE B n p)
  have hv3 := tV_rng B n (tE B n (tE B n p))
  refine r_aload_n (i := 0) hG dX5_readTrust_0 rfl rfl ?_
  refine r_get hG cX5_readTrust_X5 0 0 rfl rfl (by decide) kX5_readTrust_12 rfl dX5_readTrust_1 ?_
  refine r_ldcS hG 9 (by omega) rfl dX5_readTrust_4 ?_
  refine r_midi hG (c_X3_isWord (g_l G) (g_D G) (fun i => x (1 + i)) B n (tK B n p) (tS B n p) (tE B n p) v hB hn (tK_rng B n p) (by omega) 9 (by omega)) [(x 0, .inr (4, [.ref (x 1)]))] (yw (g_D G) b (Y) xx zz q) rfl gX5_readTrust_X3_isWord rfl hyX3_isWord rfl (by decide) (by decide) 0 rfl rfl rfl (Nat.le_of_ble_eq_true rfl) ⟨Nat.zero_le _, Nat.zero_le _⟩ dX5_readTrust_6 ?_
  intro w hw
  subst hw
  refine V_ws (ws' := tw (g_D G) x b (Y) xx zz q B n (p) v) rfl ?_
  refine V_top (x' := iI (b2 (decide (tokM B n p = 6)))) (congrArg (fun z => iI (b2 z)) (word_tok (i := 9) (by omega))) ?_
  refine rb_if_ne (tgt := 14) hG dX5_readTrust_9 (by decide) (fun c9 => ?_) (fun c9 => ?_)
  · try simp only [decide_eq_true_eq, decide_eq_false_iff_not] at c9
    refine r_aload_n (i := 0) hG dX5_readTrust_14 rfl rfl ?_
    refine r_get hG cX5_readTrust_X5 0 0 rfl rfl (by decide) kX5_readTrust_12 rfl dX5_readTrust_15 ?_
    refine r_midv hG (c_X3_advance (g_l G) (g_D G) (fun i => x (1 + i)) B n (tK B n p) (tS B n p) (tE B n p) v hB hn (by omega)) [(x 0, .inr (4, [.ref (x 1)]))] (yw (g_D G) b (Y) xx zz q) rfl gX5_readTrust_X3_advance rfl hyX3_advance rfl (by decide) (by decide) 0 rfl rfl rfl (Nat.le_of_ble_eq_true rfl) ⟨Nat.zero_le _, Nat.zero_le _⟩ dX5_readTrust_18 ?_
    intro w hw
    subst hw
    obtain ⟨va, hva⟩ : ∃ va : Int, va = if tK B n (tE B n p) = 2 then tV B n (tE B n p) else v := ⟨_, rfl⟩
    have ova : vok B n (tE B n p) va := by rw [hva]; exact vok_next B (by omega)
    have ova1 := ova.1
    have ova2 := ova.2
    refine V_ws (ws' := tw (g_D G) x b (Y) xx zz q B n ((tE B n p)) va) (by rw [hva]; rfl) ?_
    refine r_aload_n (i := 0) hG dX5_readTrust_21 rfl rfl ?_
    refine r_get hG cX5_readTrust_X5 0 0 rfl rfl (by decide) kX5_readTrust_12 rfl dX5_readTrust_22 ?_
    refine r_bipush hG dX5_readTrust_25 rfl ?_
    refine r_midi hG (c_X3_isNumberUpTo (g_l G) (g_D G) (fun i => x (1 + i)) B n (tK B n (tE B n p)) (tS B n (tE B n p)) (tE B n (tE B n p)) va (tK_rng B n (tE B n p)) (by omega) _ (by omega)) [(x 0, .inr (4, [.ref (x 1)]))] (yw (g_D G) b (Y) xx zz q) rfl gX5_readTrust_X3_isNumberUpTo rfl hyX3_isNumberUpTo rfl (by decide) (by decide) 0 rfl rfl rfl (Nat.le_of_ble_eq_true rfl) ⟨Nat.zero_le _, Nat.zero_le _⟩ dX5_readTrust_27 ?_
    intro w hw
    subst hw
    refine V_ws (ws' := tw (g_D G) x b (Y) xx zz q B n ((tE B n p)) va) rfl ?_
    refine rb_if_ne (tgt := 35) hG dX5_readTrust_30 (by decide) (fun c30 => ?_) (fun c30 => ?_)
    · try simp only [decide_eq_true_eq, decide_eq_false_iff_not] at c30
      refine r_aload_n (i := 1) hG dX5_readTrust_35 rfl rfl ?_
      refine r_get hG cX5_readTrust_X4 3 6 rfl rfl (by decide) kX5_readTrust_108 rfl dX5_readTrust_36 ?_
      refine r_iload_n (i := 2) hG dX5_readTrust_39 rfl rfl ?_
      refine r_aload_n (i := 0) hG dX5_readTrust_40 rfl rfl ?_
      refine r_get hG cX5_readTrust_X5 0 0 rfl rfl (by decide) kX5_readTrust_12 rfl dX5_readTrust_41 ?_
      refine r_get hG cX5_readTrust_X3 1 5 rfl rfl (by decide) kX5_readTrust_95 rfl dX5_readTrust_44 ?_
      refine V_top (x' := iI (tV B n (tE B n p))) (congrArg iI (by omega)) ?_
      refine r_iast hG 7 rfl (by omega) (by decide) dX5_readTrust_47 rfl ?_
      refine V_ws (ws' := tw (g_D G) x b (upY Y 3 c (tV B n (tE B n p))) xx zz q B n ((tE B n p)) va) rfl ?_
      refine r_aload_n (i := 0) hG dX5_readTrust_48 rfl rfl ?_
      refine r_get hG cX5_readTrust_X5 0 0 rfl rfl (by decide) kX5_readTrust_12 rfl dX5_readTrust_49 ?_
      refine r_midv hG (c_X3_advance (g_l G) (g_D G) (fun i => x (1 + i)) B n (tK B n (tE B n p)) (tS B n (tE B n p)) (tE B n (tE B n p)) va hB hn (by omega)) [(x 0, .inr (4, [.ref (x 1)]))] (yw (g_D G) b (upY Y 3 c (tV B n (tE B n p))) xx zz q) rfl gX5_readTrust_X3_advance rfl hyX3_advance rfl (by decide) (by decide) 0 rfl rfl rfl (Nat.le_of_ble_eq_true rfl) ⟨Nat.zero_le _, Nat.zero_le _⟩ dX5_readTrust_52 ?_
      intro w hw
      subst hw
      obtain ⟨vb, hvb⟩ : ∃ vb : Int, vb = if tK B n (tE B n (tE B n p)) = 2 then tV B n (tE B n (tE B n p)) else va := ⟨_, rfl⟩
      have ovb : vok B n (tE B n (tE B n p)) vb := by rw [hvb]; exact vok_next B (by omega)
      have ovb1 := ovb.1
      have ovb2 := ovb.2
      refine V_ws (ws' := tw (g_D G) x b (upY Y 3 c (tV B n (tE B n p))) xx zz q B n ((tE B n (tE B n p))) vb) (by rw [hvb]; rfl) ?_
      refine r_iconst hG dX5_readTrust_55 ?_
      have e9 : trustS B n Y c p = (true, upY Y 3 c (tV B n (tE B n p)), (tE B n (tE B n p))) := by unfold trustS; (repeat (first | rw [if_pos (by omega)] | rw [if_neg (by omega)]))
      exact r_zret hG hE dX5_readTrust_56 (by rw [e9]; rfl) ⟨vb, by rw [e9], by rw [e9]; exact ovb⟩
    · try simp only [decide_eq_true_eq, decide_eq_false_iff_not] at c30
      refine r_iconst hG dX5_readTrust_33 ?_
      have e9 : trustS B n Y c p = (false, Y, (tE B n p)) := by unfold trustS; (repeat (first | rw [if_pos (by omega)] | rw [if_neg (by omega)]))
      exact r_zret hG hE dX5_readTrust_34 (by rw [e9]; rfl) ⟨va, by rw [e9], by rw [e9]; exact ova⟩
  · try simp only [decide_eq_true_eq, decide_eq_false_iff_not] at c9
    refine r_iconst hG dX5_readTrust_12 ?_
    have e9 : trustS B n Y c p = (true, Y, p) := by unfold trustS; (repeat (first | rw [if_pos (by omega)] | rw [if_neg (by omega)]))
    exact r_zret hG hE dX5_readTrust_13 (by rw [e9]; rfl) ⟨v, by rw [e9], by rw [e9]; exact hvo⟩
theorem kX5_readLikes_12 : Cond.fieldLink RX5 12 "BreakSwaps$YardText" "tape" "LBreakSwaps$Tape;" ∈ wsX5_readLikes := List.mem_of_getElem? (i := 1) rfl
theorem kX5_readLikes_25 : Cond.fieldLink RX5 25 "BreakSwaps$Tape" "token" "I" ∈ wsX5_readLikes := List.mem_of_getElem? (i := 2) rfl
theorem kX5_readLikes_95 : Cond.fieldLink RX5 95 "BreakSwaps$Tape" "value" "I" ∈ wsX5_readLikes := List.mem_of_getElem? (i := 3) rfl
theorem cX5_readLikes_X3 : ∀ w ∈ wsX30, w ∈ wsX5_readLikes := fun _ h => List.mem_cons_of_mem _ (List.mem_append_left _ (List.mem_append_right _ h))
theorem cX5_readLikes_X5 : ∀ w ∈ wsX50, w ∈ wsX5_readLikes := fun _ h => List.mem_cons_of_mem _ (List.mem_append_left _ (List.mem_append_left _ (List.mem_append_right _ h)))
theorem hyX5_readLikes : hyV yX5_readLikes RX5 2 := by decide +kernel
set_option maxHeartbeats 4000000 in
set_option maxRecDepth 100000 in
theorem c_X5_readLikes (l : Launch) (D : va_G) (x b : Nat → Nat) (Y : YS) (xx zz q : Int) (B : Int → Int) (n p v : Int) (hB : bytesOk B) (hn : 0 ≤ n ∧ n ≤ 120) (hp : 0 ≤ p ∧ p ≤ n) (hvo : vok B n p v) (c : Int) (hc : 0 ≤ c ∧ c < 8) : Con l yX5_readLikes wsX5_readLikes 5 D (tw D x b Y xx zz q B n p v) [.ref (x 0), .ref (b 0), .int (iI c)] (some (.int (iI (b2 (likesS B n Y c p).1)))) (fun w => ∃ v2, w = tw D x b (likesS B n Y c p).2.1 xx zz q B n (likesS B n Y c p).2.2 v2 ∧ vok B n (likesS B n Y c p).2.2 v2) := by
  refine con_start (own := RX5) (by decide) rfl rfl (Nat.le_of_ble_eq_true rfl) ?_
  intro G hG hE hl hD
  subst hl
  subst hD
  have hvo1 := hvo.1
  have hvo2 := hvo.2
  have h1 := tE_rng (B := B) hp
  have h2 := tE_rng (B := B) (n := n) (p := tE B n p) (by omega)
  have h3 := tE_rng (B := B) (n := n) (p := tE B n (tE B n p)) (by omega)
  have hv1 := tV_rng B n p
  have hv2 := tV_rng B n (tE B n p)
  have hv3 := tV_rng B n (tE B n (tE B n p))
  have L : tokM B n p = 7 → ∀ k : Nat, k ≤ 4 → ∀ (Y1 : YS) (p1 v1 : Int), (0 ≤ p1 ∧ p1 ≤ n) → vok B n p1 v1 → likeS B n c (4 - k) (k : Int) Y1 p1 = likesS B n Y c p → V G 0 0 (tw (g_D G) x b (Y1) xx zz q B n (p1) v1) 23 [(0, .ref (x 0)), (1, .ref (b 0)), (2, .int (iI c)), (3, .int (iI (k : Int)))] [] := by
    intro ht
    refine down (fun k hk ih Y1 p1 v1 hp1 hvo1' he => ?_)
    have w1 := hvo1'.1
    have w2 := hvo1'.2
    have g1 := tE_rng (B := B) hp1
    have g2 := tV_rng B n p1
    have eS : k < 4 → likesS B n Y c p = if 0 < (k : Int) ∧ ¬ tK B n p1 = 2 then (true, Y1, p1) else if tK B n p1 = 2 ∧ tV B n p1 ≤ 20 then likeS B n c (4 - (k + 1)) ((k : Int) + 1) (upY Y1 4 (c * 10 + (k : Int)) (tV B n p1)) (tE B n p1) else (false, Y1, p1) := by
      intro h4
      rw [← he, show 4 - k = (4 - (k + 1)) + 1 by omega]
      rfl
    have K45 : k < 4 → ¬ (0 < (k : Int) ∧ ¬ tK B n p1 = 2) → V G 0 0 (tw (g_D G) x b (Y1) xx zz q B n (p1) v1) 45 [(0, .ref (x 0)), (1, .ref (b 0)), (2, .int (iI c)), (3, .int (iI (k : Int)))] [] := by
      intro h4 hno
      have eS' := eS h4
      rw [if_neg hno] at eS'
      refine r_aload_n (i := 0) hG dX5_readLikes_45 rfl rfl ?_
      refine r_get hG cX5_readLikes_X5 0 0 rfl rfl (by decide) kX5_readLikes_12 rfl dX5_readLikes_46 ?_
      refine r_bipush hG dX5_readLikes_49 rfl ?_
      refine r_midi hG (c_X3_isNumberUpTo (g_l G) (g_D G) (fun i => x (1 + i)) B n (tK B n p1) (tS B n p1) (tE B n p1) v1 (tK_rng B n p1) (by omega) _ (by omega)) [(x 0, .inr (4, [.ref (x 1)]))] (yw (g_D G) b (Y1) xx zz q) rfl gX5_readLikes_X3_isNumberUpTo rfl hyX3_isNumberUpTo rfl (by decide) (by decide) 0 rfl rfl rfl (Nat.le_of_ble_eq_true rfl) ⟨Nat.zero_le _, Nat.zero_le _⟩ dX5_readLikes_51 ?_
      intro w hw
      subst hw
      refine V_ws (ws' := tw (g_D G) x b (Y1) xx zz q B n (p1) v1) rfl ?_
      refine rb_if_ne (tgt := 59) hG dX5_readLikes_54 (by decide) (fun c54 => ?_) (fun c54 => ?_)
      · try simp only [decide_eq_true_eq, decide_eq_false_iff_not] at c54
        refine r_aload_n (i := 1) hG dX5_readLikes_59 rfl rfl ?_
        refine r_iload_n (i := 2) hG dX5_readLikes_60 rfl rfl ?_
        refine r_iload_n (i := 3) hG dX5_readLikes_61 rfl rfl ?_
        refine r_aload_n (i := 0) hG dX5_readLikes_62 rfl rfl ?_
        refine r_get hG cX5_readLikes_X5 0 0 rfl rfl (by decide) kX5_readLikes_12 rfl dX5_readLikes_63 ?_
        refine r_get hG cX5_readLikes_X3 1 5 rfl rfl (by decide) kX5_readLikes_95 rfl dX5_readLikes_66 ?_
        refine V_top (x' := iI (tV B n p1)) (congrArg iI (by omega)) ?_
        refine r_midv hG (c_X4_makeLike (g_l G) (g_D G) b Y1 xx zz q c (k : Int) (tV B n p1) (by omega) (by omega)) ((x 0, .inr (4, [.ref (x 1)])) :: tapew (g_D G) (fun i => x (1 + i)) B n (tK B n p1) (tS B n p1) (tE B n p1) v1) [] rfl gX5_readLikes_X4_makeLike rfl hyX4_makeLike rfl (by decide) (by decide) 0 rfl rfl rfl (Nat.le_of_ble_eq_true rfl) ⟨Nat.zero_le _, Nat.zero_le _⟩ dX5_readLikes_69 ?_
        intro w hw
        subst hw
        refine V_ws (ws' := tw (g_D G) x b (upY Y1 4 (c * 10 + (k : Int)) (tV B n p1)) xx zz q B n (p1) v1) rfl ?_
        refine r_aload_n (i := 0) hG dX5_readLikes_72 rfl rfl ?_
        refine r_get hG cX5_readLikes_X5 0 0 rfl rfl (by decide) kX5_readLikes_12 rfl dX5_readLikes_73 ?_
        refine r_midv hG (c_X3_advance (g_l G) (g_D G) (fun i => x (1 + i)) B n (tK B n p1) (tS B n p1) (tE B n p1) v1 hB hn (by omega)) [(x 0, .inr (4, [.ref (x 1)]))] (yw (g_D G) b (upY Y1 4 (c * 10 + (k : Int)) (tV B n p1)) xx zz q) rfl gX5_readLikes_X3_advance rfl hyX3_advance rfl (by decide) (by decide) 0 rfl rfl rfl (Nat.le_of_ble_eq_true rfl) ⟨Nat.zero_le _, Nat.zero_le _⟩ dX5_readLikes_76 ?_
        intro w hw
        subst hw
        obtain ⟨va, hva⟩ : ∃ va : Int, va = if tK B n (tE B n p1) = 2 then tV B n (tE B n p1) else v1 := ⟨_, rfl⟩
        have ova : vok B n (tE B n p1) va := by rw [hva]; exact vok_next B (by omega)
        have ova1 := ova.1
        have ova2 := ova.2
        refine V_ws (ws' := tw (g_D G) x b (upY Y1 4 (c * 10 + (k : Int)) (tV B n p1)) xx zz q B n ((tE B n p1)) va) (by rw [hva]; rfl) ?_
        refine r_iinc hG dX5_readLikes_79 rfl (by decide) rfl ?_
        refine r_goto (tgt := 23) hG dX5_readLikes_82 (by decide) ?_
        rw [if_pos (by omega)] at eS'
        exact V_lv (ih h4 _ _ va (by omega) ova eS'.symm) ⟨rfl, rfl, rfl, rfl, trivial⟩
      · try simp only [decide_eq_true_eq, decide_eq_false_iff_not] at c54
        refine r_iconst hG dX5_readLikes_57 ?_
        rw [if_neg (by omega)] at eS'
        exact r_zret hG hE dX5_readLikes_58 (by rw [eS']; rfl) ⟨v1, by rw [eS'], by rw [eS']; exact hvo1'⟩
    refine r_iload_n (i := 3) hG dX5_readLikes_23 rfl rfl ?_
    refine r_iconst hG dX5_readLikes_24 ?_
    refine r_icmp_ge (tgt := 85) hG (by omega) (by omega) dX5_readLikes_25 (by decide) (fun c25 => ?_) (fun c25 => ?_)
    · refine r_iconst hG dX5_readLikes_85 ?_
      have ek : k = 4 := by omega
      subst ek
      exact r_zret hG hE dX5_readLikes_86 (by rw [← he]; rfl) ⟨v1, by rw [← he]; rfl, by rw [← he]; exact hvo1'⟩
    · refine r_iload_n (i := 3) hG dX5_readLikes_28 rfl rfl ?_
      refine r_if_le (tgt := 45) hG (by omega) dX5_readLikes_29 (by decide) (fun c29 => ?_) (fun c29 => ?_)
      · exact V_lv (K45 (by omega) (by omega)) ⟨rfl, rfl, rfl, rfl, trivial⟩
      · refine r_aload_n (i := 0) hG dX5_readLikes_32 rfl rfl ?_
        refine r_get hG cX5_readLikes_X5 0 0 rfl rfl (by decide) kX5_readLikes_12 rfl dX5_readLikes_33 ?_
        refine r_get hG cX5_readLikes_X3 1 2 rfl rfl (by decide) kX5_readLikes_25 rfl dX5_readLikes_36 ?_
        refine r_iconst hG dX5_readLikes_39 ?_
        refine r_icmp_eq (tgt := 45) hG (by have := tK_rng B n p1; omega) (by have := tK_rng B n p1; omega) dX5_readLikes_40 (by decide) (fun c40 => ?_) (fun c40 => ?_)
        · exact V_lv (K45 (by omega) (by omega)) ⟨rfl, rfl, rfl, rfl, trivial⟩
        · refine r_iconst hG dX5_readLikes_43 ?_
          have eS' := eS (by omega)
          rw [if_pos (by omega)] at eS'
          exact r_zret hG hE dX5_readLikes_44 (by rw [eS']; rfl) ⟨v1, by rw [eS'], by rw [eS']; exact hvo1'⟩
  refine r_aload_n (i := 0) hG dX5_readLikes_0 rfl rfl ?_
  refine r_get hG cX5_readLikes_X5 0 0 rfl rfl (by decide) kX5_readLikes_12 rfl dX5_readLikes_1 ?_
  refine r_ldcS hG 10 (by omega) rfl dX5_readLikes_4 ?_
  refine r_midi hG (c_X3_isWord (g_l G) (g_D G) (fun i => x (1 + i)) B n (tK B n p) (tS B n p) (tE B n p) v hB hn (tK_rng B n p) (by omega) 10 (by omega)) [(x 0, .inr (4, [.ref (x 1)]))] (yw (g_D G) b (Y) xx zz q) rfl gX5_readLikes_X3_isWord rfl hyX3_isWord rfl (by decide) (by decide) 0 rfl rfl rfl (Nat.le_of_ble_eq_true rfl) ⟨Nat.zero_le _, Nat.zero_le _⟩ dX5_readLikes_6 ?_
  intro w hw
  subst hw
  refine V_ws (ws' := tw (g_D G) x b (Y) xx zz q B n (p) v) rfl ?_
  refine V_top (x' := iI (b2 (decide (tokM B n p = 7)))) (congrArg (fun z => iI (b2 z)) (word_tok (i := 10) (by omega))) ?_
  refine rb_if_ne (tgt := 14) hG dX5_readLikes_9 (by decide) (fun c9 => ?_) (fun c9 => ?_)
  · try simp only [decide_eq_true_eq, decide_eq_false_iff_not] at c9
    refine r_aload_n (i := 0) hG dX5_readLikes_14 rfl rfl ?_
    refine r_get hG cX5_readLikes_X5 0 0 rfl rfl (by decide) kX5_readLikes_12 rfl dX5_readLikes_15 ?_
    refine r_midv hG (c_X3_advance (g_l G) (g_D G) (fun i => x (1 + i)) B n (tK B n p) (tS B n p) (tE B n p) v hB hn (by omega)) [(x 0, .inr (4, [.ref (x 1)]))] (yw (g_D G) b (Y) xx zz q) rfl gX5_readLikes_X3_advance rfl hyX3_advance rfl (by decide) (by decide) 0 rfl rfl rfl (Nat.le_of_ble_eq_true rfl) ⟨Nat.zero_le _, Nat.zero_le _⟩ dX5_readLikes_18 ?_
    intro w hw
    subst hw
    obtain ⟨va, hva⟩ : ∃ va : Int, va = if tK B n (tE B n p) = 2 then tV B n (tE B n p) else v := ⟨_, rfl⟩
    have ova : vok B n (tE B n p) va := by rw [hva]; exact vok_next B (by omega)
    have ova1 := ova.1
    have ova2 := ova.2
    refine V_ws (ws' := tw (g_D G) x b (Y) xx zz q B n ((tE B n p)) va) (by rw [hva]; rfl) ?_
    refine r_iconst hG dX5_readLikes_21 ?_
    refine r_istore_n (i := 3) hG dX5_readLikes_22 rfl (by decide) rfl ?_
    exact V_lv (L (by omega) 0 (by omega) Y (tE B n p) va (by omega) ova (by unfold likesS; rw [if_pos (by omega)]; rfl)) ⟨rfl, rfl, rfl, rfl, trivial⟩
  · try simp only [decide_eq_true_eq, decide_eq_false_iff_not] at c9
    refine r_iconst hG dX5_readLikes_12 ?_
    have e9 : likesS B n Y c p = (true, Y, p) := by unfold likesS; (repeat (first | rw [if_pos (by omega)] | rw [if_neg (by omega)]))
    exact r_zret hG hE dX5_readLikes_13 (by rw [e9]; rfl) ⟨v, by rw [e9], by rw [e9]; exact hvo⟩
