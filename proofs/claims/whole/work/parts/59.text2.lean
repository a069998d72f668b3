theorem cm3 : ∀ k : Fin 6, cm (3 + k.val) = k.val := by decide +kernel
theorem item_none {B : Int → Int} {n p : Int} {Y : YS} (h1 : ¬ tokM B n p = 8) (h2 : ¬ tokM B n p = 9) (h3 : ¬ tokM B n p = 10) (h4 : ¬ (0 ≤ tokM B n p ∧ tokM B n p ≤ 5)) : itemS B n Y p = (false, Y, p) := by
  unfold itemS
  rw [if_neg h1, if_neg h2, if_neg h3, if_neg h4]
theorem item_full {B : Int → Int} {n p : Int} {Y : YS} (h4 : 0 ≤ tokM B n p ∧ tokM B n p ≤ 5) (h : ¬ Y 5 2 < 8) : itemS B n Y p = (false, Y, p) := by
  unfold itemS childS
  rw [if_neg (by omega), if_neg (by omega), if_neg (by omega), if_pos h4, if_neg h]
theorem item_child {B : Int → Int} {n p : Int} {Y : YS} (h4 : 0 ≤ tokM B n p ∧ tokM B n p ≤ 5) (h : Y 5 2 < 8) (h5 : (childA B n Y (tokM B n p) p).1 = false) : itemS B n Y p = childA B n Y (tokM B n p) p := by
  unfold itemS childS
  rw [if_neg (by omega), if_neg (by omega), if_neg (by omega), if_pos h4, if_pos h]
  unfold childA at h5 ⊢
  split at h5
  · cases h5
  · rename_i h6
    rw [if_neg h6, if_neg h6]
theorem item_born {B : Int → Int} {n p : Int} {Y : YS} (h4 : 0 ≤ tokM B n p ∧ tokM B n p ≤ 5) (h : Y 5 2 < 8) (h5 : (childA B n Y (tokM B n p) p).1 = true) : itemS B n Y p = bornS B n Y (Y 5 2) (trustS B n (childA B n Y (tokM B n p) p).2.1 (Y 5 2) (childA B n Y (tokM B n p) p).2.2) ∧ (childA B n Y (tokM B n p) p).2.1 5 2 = Y 5 2 + 1 := by
  unfold itemS childS
  rw [if_neg (by omega), if_neg (by omega), if_neg (by omega), if_pos h4, if_pos h]
  unfold childA at h5 ⊢
  split at h5
  · rename_i h6
    rw [if_pos h6, if_pos h6]
    exact ⟨rfl, (add_5 Y (tokM B n p) (tV B n (tE B n p))).2.2⟩
  · cases h5
theorem childA_rng (B : Int → Int) {n p : Int} (Y : YS) (k : Int) (hp : 0 ≤ p ∧ p ≤ n) : 0 ≤ (childA B n Y k p).2.2 ∧ (childA B n Y k p).2.2 ≤ n := by
  have h1 := tE_rng (B := B) hp
  have h2 := tE_rng (B := B) (n := n) (p := tE B n p) (by omega)
  unfold childA
  split <;> (dsimp only; omega)
theorem trustS_rng (B : Int → Int) {n p : Int} (Y : YS) (c : Int) (hp : 0 ≤ p ∧ p ≤ n) : 0 ≤ (trustS B n Y c p).2.2 ∧ (trustS B n Y c p).2.2 ≤ n := by
  have h1 := tE_rng (B := B) hp
  have h2 := tE_rng (B := B) (n := n) (p := tE B n p) (by omega)
  unfold trustS
  (repeat' split) <;> (dsimp only; omega)
theorem hyX5_nameOf : hyS yX5_nameOf 1 := by decide +kernel
set_option maxHeartbeats 4000000 in
set_option maxRecDepth 100000 in
theorem c_X5_nameOf (l : Launch) (D : va_G) (k : Int) (hk : 0 ≤ k ∧ k ≤ 5) : Con l yX5_nameOf wsX5_nameOf 0 D [] [.int (iI k)] (some (.ref (D.2 200 (3 + k.toNat)))) (fun w => w = []) := by
  refine con_start (own := RX5) (by decide) rfl rfl (Nat.le_of_ble_eq_true rfl) ?_
  intro G hG hE hl hD
  subst hl
  subst hD
  refine r_iload_n (i := 0) hG dX5_nameOf_0 rfl rfl ?_
  rcases (show k = 0 ∨ k = 1 ∨ k = 2 ∨ k = 3 ∨ k = 4 ∨ (k < 0 ∨ 4 < k) by omega) with c1 | c1 | c1 | c1 | c1 | c1
  · refine r_tsIn (tgt := 36) hG 0 c1 dX5_nameOf_1 (by omega) rfl (by decide) ?_
    refine r_ldcS hG 3 (by omega) rfl dX5_nameOf_36 ?_
    subst c1
    exact r_aret hG hE dX5_nameOf_38 rfl
  · refine r_tsIn (tgt := 39) hG 1 c1 dX5_nameOf_1 (by omega) rfl (by decide) ?_
    refine r_ldcS hG 4 (by omega) rfl dX5_nameOf_39 ?_
    subst c1
    exact r_aret hG hE dX5_nameOf_41 rfl
  · refine r_tsIn (tgt := 42) hG 2 c1 dX5_nameOf_1 (by omega) rfl (by decide) ?_
    refine r_ldcS hG 5 (by omega) rfl dX5_nameOf_42 ?_
    subst c1
    exact r_aret hG hE dX5_nameOf_44 rfl
  · refine r_tsIn (tgt := 45) hG 3 c1 dX5_nameOf_1 (by omega) rfl (by decide) ?_
    refine r_ldcS hG 6 (by omega) rfl dX5_nameOf_45 ?_
    subst c1
    exact r_aret hG hE dX5_nameOf_47 rfl
  · refine r_tsIn (tgt := 48) hG 4 c1 dX5_nameOf_1 (by omega) rfl (by decide) ?_
    refine r_ldcS hG 7 (by omega) rfl dX5_nameOf_48 ?_
    subst c1
    exact r_aret hG hE dX5_nameOf_50 rfl
  · refine r_tsOut (tgt := 51) hG (by omega) dX5_nameOf_1 c1 (by decide) ?_
    refine r_ldcS hG 8 (by omega) rfl dX5_nameOf_51 ?_
    have e5 : k = 5 := by omega
    subst e5
    exact r_aret hG hE dX5_nameOf_53 rfl
theorem kX5_kindNamed_12 : Cond.fieldLink RX5 12 "BreakSwaps$YardText" "tape" "LBreakSwaps$Tape;" ∈ wsX5_kindNamed := List.mem_of_getElem? (i := 1) rfl
theorem cX5_kindNamed_X5 : ∀ w ∈ wsX50, w ∈ wsX5_kindNamed := fun _ h => List.mem_cons_of_mem _ (List.mem_append_left _ (List.mem_append_right _ h))
theorem hyX5_kindNamed : hyV yX5_kindNamed RX5 0 := by decide +kernel
set_option maxHeartbeats 4000000 in
set_option maxRecDepth 100000 in
theorem c_X5_kindNamed (l : Launch) (D : va_G) (x b : Nat → Nat) (Y : YS) (xx zz q : Int) (B : Int → Int) (n p v : Int) (hB : bytesOk B) (hn : 0 ≤ n ∧ n ≤ 120) (hp : 0 ≤ p ∧ p ≤ n) (hvo : vok B n p v) : Con l yX5_kindNamed wsX5_kindNamed 5 D (tw D x b Y xx zz q B n p v) [.ref (x 0)] (some (.int (iI (if 0 ≤ tokM B n p ∧ tokM B n p ≤ 5 then tokM B n p else -1)))) (fun w => w = tw D x b Y xx zz q B n p v) := by
  refine con_start (own := RX5) (by decide) rfl rfl (Nat.le_of_ble_eq_true rfl) ?_
  intro G hG hE hl hD
  subst hl
  subst hD
  have hvo1 := hvo.1
  have hvo2 := hvo.2
  have h1 := tE_rng (B := B) hp
  have h2 := tE_rng (B := B) (n := n) (p := tE B n p) (by omega)
  have h3 := tE_rng (B := B) (n := n) (p := tE B n (tE B n p)) (by omega)
  have hv1 := tV_rng B n p
  have hv2 := tV_rng B n (tE B n p)
  have hv3 := tV_rng B n (tE B n (tE B n p))
  have L : ∀ k : Nat, k ≤ 6 → (∀ j : Nat, j < k → ¬ tokM B n p = j) → V G 0 0 (tw (g_D G) x b (Y) xx zz q B n (p) v) 2 [(0, .ref (x 0)), (1, .int (iI (k : Int)))] [] := by
    refine down (fun k hk ih hf => ?_)
    have e3 : k < 6 → cm (3 + k) = k := fun h => cm3 ⟨k, h⟩
    refine r_iload_n (i := 1) hG dX5_kindNamed_2 rfl rfl ?_
    refine r_bipush hG dX5_kindNamed_3 rfl ?_
    refine r_icmp_ge (tgt := 30) hG (by omega) (by omega) dX5_kindNamed_5 (by decide) (fun c5 => ?_) (fun c5 => ?_)
    · refine r_iconst hG dX5_kindNamed_30 ?_
      have hno : ¬ (0 ≤ tokM B n p ∧ tokM B n p ≤ 5) := fun h => hf (tokM B n p).toNat (by omega) (by omega)
      exact r_iret hG hE dX5_kindNamed_31 (by rw [if_neg hno]) rfl
    · refine r_aload_n (i := 0) hG dX5_kindNamed_8 rfl rfl ?_
      refine r_get hG cX5_kindNamed_X5 0 0 rfl rfl (by decide) kX5_kindNamed_12 rfl dX5_kindNamed_9 ?_
      refine r_iload_n (i := 1) hG dX5_kindNamed_12 rfl rfl ?_
      refine r_call0i hG (c_X5_nameOf (g_l G) (g_D G) _ (by omega))  gX5_kindNamed_X5_nameOf rfl hyX5_nameOf rfl (by decide) (by decide) rfl (Nat.le_of_ble_eq_true rfl) ⟨Nat.zero_le _, Nat.zero_le _⟩ dX5_kindNamed_13 ?_
      refine r_midi hG (c_X3_isWord (g_l G) (g_D G) (fun i => x (1 + i)) B n (tK B n p) (tS B n p) (tE B n p) v hB hn (tK_rng B n p) (by omega) (3 + ((k : Int)).toNat) (by omega)) [(x 0, .inr (4, [.ref (x 1)]))] (yw (g_D G) b (Y) xx zz q) rfl gX5_kindNamed_X3_isWord rfl hyX3_isWord rfl (by decide) (by decide) 0 rfl rfl rfl (Nat.le_of_ble_eq_true rfl) ⟨Nat.zero_le _, Nat.zero_le _⟩ dX5_kindNamed_16 ?_
      intro w hw
      subst hw
      refine V_ws (ws' := tw (g_D G) x b (Y) xx zz q B n (p) v) rfl ?_
      refine V_top (x' := iI (b2 (decide (tokM B n p = (k : Int))))) (congrArg (fun z => iI (b2 z)) (by
        have h0 := word_tok (B := B) (n := n) (p := p) (i := 3 + k) (by omega)
        rw [e3 (by omega)] at h0
        exact h0)) ?_
      refine rb_if_eq (tgt := 24) hG dX5_kindNamed_19 (by decide) (fun c19 => ?_) (fun c19 => ?_)
      · try simp only [decide_eq_true_eq, decide_eq_false_iff_not] at c19
        refine r_iinc hG dX5_kindNamed_24 rfl (by decide) rfl ?_
        refine r_goto (tgt := 2) hG dX5_kindNamed_27 (by decide) ?_
        exact V_lv (ih (by omega) (fun j hj => by
          by_cases e : j = k
          · rw [e]; exact c19
          · exact hf j (by omega))) ⟨rfl, rfl, trivial⟩
      · try simp only [decide_eq_true_eq, decide_eq_false_iff_not] at c19
        refine r_iload_n (i := 1) hG dX5_kindNamed_22 rfl rfl ?_
        exact r_iret hG hE dX5_kindNamed_23 (by rw [if_pos (by omega)]; exact congrArg iI (by omega)) rfl
  refine r_iconst hG dX5_kindNamed_0 ?_
  refine r_istore_n (i := 1) hG dX5_kindNamed_1 rfl (by decide) rfl ?_
  exact V_lv (L 0 (by omega) (fun j hj => absurd hj (by omega))) ⟨rfl, rfl, trivial⟩
theorem kX5_readItem_12 : Cond.fieldLink RX5 12 "BreakSwaps$YardText" "tape" "LBreakSwaps$Tape;" ∈ wsX5_readItem := List.mem_of_getElem? (i := 1) rfl
theorem kX5_readItem_43 : Cond.fieldLink RX5 43 "BreakSwaps$Yard" "teacher" "I" ∈ wsX5_readItem := List.mem_of_getElem? (i := 2) rfl
theorem kX5_readItem_64 : Cond.fieldLink RX5 64 "BreakSwaps$Yard" "size" "I" ∈ wsX5_readItem := List.mem_of_getElem? (i := 3) rfl
theorem cX5_readItem_X4 : ∀ w ∈ wsX40, w ∈ wsX5_readItem := fun _ h => List.mem_cons_of_mem _ (List.mem_append_left _ (List.mem_append_right _ h))
theorem cX5_readItem_X5 : ∀ w ∈ wsX50, w ∈ wsX5_readItem := fun _ h => List.mem_cons_of_mem _ (List.mem_append_left _ (List.mem_append_left _ (List.mem_append_right _ h)))
theorem hyX5_readItem : hyV yX5_readItem RX5 1 := by decide +kernel
set_option maxHeartbeats 4000000 in
set_option maxRecDepth 100000 in
theorem c_X5_readItem (l : Launch) (D : va_G) (x b : Nat → Nat) (Y : YS) (xx zz q : Int) (B : Int → Int) (n p v : Int) (hB : bytesOk B) (hn : 0 ≤ n ∧ n ≤ 120) (hp : 0 ≤ p ∧ p ≤ n) (hvo : vok B n p v) (hI : Inv Y) (hH : Hol Y) : Con l yX5_readItem wsX5_readItem 6 D (tw D x b Y xx zz q B n p v) [.ref (x 0), .ref (b 0)] (some (.int (iI (b2 (itemS B n Y p).1)))) (fun w => ∃ v2, w = tw D x b (itemS B n Y p).2.1 xx zz q B n (itemS B n Y p).2.2 v2 ∧ vok B n (itemS B n Y p).2.2 v2) := by
  refine con_start (own := RX5) (by decide) rfl rfl (Nat.le_of_ble_eq_true rfl) ?_
  intro G hG hE hl hD
  subst hl
  subst hD
  have hvo1 := hvo.1
  have hvo2 := hvo.2
  have h1 := tE_rng (B := B) hp
  have h2 := tE_rng (B := B) (n := n) (p := tE B n p) (by omega)
  have h3 := tE_rng (B := B) (n := n) (p := tE B n (tE B n p)) (by omega)
  have hv1 := tV_rng B n p
  have hv2 := tV_rng B n (tE B n p)
  have hv3 := tV_rng B n (tE B n (tE B n p))
  have hN := hI.1
  have K42 : ∀ z : Int, (tokM B n p = 8 ∧ z = 1) ∨ (tokM B n p = 9 ∧ z = 0) → V G 0 0 (tw (g_D G) x b (Y) xx zz q B n (p) v) 42 [(0, .ref (x 0)), (1, .ref (b 0))] [.int (iI z), .ref (b 0)] := by
    intro z hz
    refine r_put hG cX5_readItem_X4 3 1 tyX4 tyX4_ok nmX4 rfl rfl (by decide) kX5_readItem_43 rfl rfl rfl (Nat.le_of_ble_eq_true rfl) dX5_readItem_42 rfl ?_
    refine r_aload_n (i := 0) hG dX5_readItem_45 rfl rfl ?_
    refine r_get hG cX5_readItem_X5 0 0 rfl rfl (by decide) kX5_readItem_12 rfl dX5_readItem_46 ?_
    refine r_midv hG (c_X3_advance (g_l G) (g_D G) (fun i => x (1 + i)) B n (tK B n p) (tS B n p) (tE B n p) v hB hn (by omega)) [(x 0, .inr (4, [.ref (x 1)]))] (yw (g_D G) b (upY Y 5 1 z) xx zz q) rfl gX5_readItem_X3_advance rfl hyX3_advance rfl (by decide) (by decide) 0 rfl rfl rfl (Nat.le_of_ble_eq_true rfl) ⟨Nat.zero_le _, Nat.zero_le _⟩ dX5_readItem_49 ?_
    intro w hw
    subst hw
    obtain ⟨va, hva⟩ : ∃ va : Int, va = if tK B n (tE B n p) = 2 then tV B n (tE B n p) else v := ⟨_, rfl⟩
    have ova : vok B n (tE B n p) va := by rw [hva]; exact vok_next B (by omega)
    have ova1 := ova.1
    have ova2 := ova.2
    refine V_ws (ws' := tw (g_D G) x b (upY Y 5 1 z) xx zz q B n ((tE B n p)) va) (by rw [hva]; rfl) ?_
    refine r_iconst hG dX5_readItem_52 ?_
    have e9 : itemS B n Y p = (true, upY Y 5 1 z, tE B n p) := by
      unfold itemS
      rcases hz with ⟨h4, h5⟩ | ⟨h4, h5⟩
      · rw [if_pos h4, h5]
      · rw [if_neg (by omega), if_pos h4, h5]
    exact r_zret hG hE dX5_readItem_53 (by rw [e9]; rfl) ⟨va, by rw [e9], by rw [e9]; exact ova⟩
  have K97 : ∀ (r : Bool × YS × Int) (v1 : Int), itemS B n Y p = r → r.1 = false → vok B n r.2.2 v1 → V G 0 0 (tw (g_D G) x b (r.2.1) xx zz q B n (r.2.2) v1) 97 [(0, .ref (x 0)), (1, .ref (b 0))] [] := by
    intro r v1 e9 e8 ho
    refine r_iconst hG dX5_readItem_97 ?_
    exact r_zret hG hE dX5_readItem_98 (by rw [e9, e8]; rfl) ⟨v1, by rw [e9], by rw [e9]; exact ho⟩
  have K128 : ∀ (r : Bool × YS × Int) (v1 : Int), itemS B n Y p = r → r.1 = false → vok B n r.2.2 v1 → V G 0 0 (tw (g_D G) x b (r.2.1) xx zz q B n (r.2.2) v1) 128 [(0, .ref (x 0)), (1, .ref (b 0))] [] := by
    intro r v1 e9 e8 ho
    refine r_iconst hG dX5_readItem_128 ?_
    exact r_zret hG hE dX5_readItem_129 (by rw [e9, e8]; rfl) ⟨v1, by rw [e9], by rw [e9]; exact ho⟩
  have K72 : ¬ tokM B n p = 8 → ¬ tokM B n p = 9 → ¬ tokM B n p = 10 → V G 0 0 (tw (g_D G) x b (Y) xx zz q B n (p) v) 72 [(0, .ref (x 0)), (1, .ref (b 0))] [] := by
    intro g8 g9 g10
    obtain ⟨kd, hkd⟩ : ∃ kd : Int, kd = if 0 ≤ tokM B n p ∧ tokM B n p ≤ 5 then tokM B n p else -1 := ⟨_, rfl⟩
    have hk1 : ((0 ≤ kd ∧ kd ≤ 5) ∧ kd = tokM B n p) ∨ (kd = -1 ∧ ¬ (0 ≤ tokM B n p ∧ tokM B n p ≤ 5)) := by
      by_cases h4 : 0 ≤ tokM B n p ∧ tokM B n p ≤ 5
      · rw [if_pos h4] at hkd; exact Or.inl ⟨by omega, hkd⟩
      · rw [if_neg h4] at hkd; exact Or.inr ⟨hkd, h4⟩
    have hA1 : (0 ≤ kd ∧ kd ≤ 5) → Y 5 2 < 8 → (childA B n Y kd p).1 = false → itemS B n Y p = childA B n Y kd p := fun h5 h6 h7 => by
      have e : kd = tokM B n p := by omega
      rw [e] at h7 ⊢
      exact item_child (by omega) h6 h7
    have hA2 : (0 ≤ kd ∧ kd ≤ 5) → Y 5 2 < 8 → (childA B n Y kd p).1 = true → itemS B n Y p = bornS B n Y (Y 5 2) (trustS B n (childA B n Y kd p).2.1 (Y 5 2) (childA B n Y kd p).2.2) ∧ (childA B n Y kd p).2.1 5 2 = Y 5 2 + 1 := fun h5 h6 h7 => by
      have e : kd = tokM B n p := by omega
      rw [e] at h7 ⊢
      exact item_born (by omega) h6 h7
    have hrA := childA_rng B Y kd hp
    have hrT := trustS_rng B (childA B n Y kd p).2.1 (Y 5 2) hrA
    have K99 : (0 ≤ kd ∧ kd ≤ 5) → Y 5 2 < 8 → (childA B n Y kd p).1 = true → ∀ v1, vok B n (childA B n Y kd p).2.2 v1 → V G 0 0 (tw (g_D G) x b ((childA B n Y kd p).2.1) xx zz q B n ((childA B n Y kd p).2.2) v1) 99 [(0, .ref (x 0)), (1, .ref (b 0)), (2, .int (iI kd))] [] := by
      intro h5 h6 h7 v1 ho1
      obtain ⟨e9, e52⟩ := hA2 h5 h6 h7
      refine r_aload_n (i := 1) hG dX5_readItem_99 rfl rfl ?_
      refine r_get hG cX5_readItem_X4 3 2 rfl rfl (by decide) kX5_readItem_64 rfl dX5_readItem_100 ?_
      refine r_iconst hG dX5_readItem_103 ?_
      refine r_isub hG dX5_readItem_104 ?_
      refine r_istore_n (i := 3) hG dX5_readItem_105 rfl (by decide) rfl ?_
      refine V_lv (lv' := [(0, .ref (x 0)), (1, .ref (b 0)), (3, .int (iI (Y 5 2)))]) ?_ ⟨rfl, rfl, congrArg (fun z => some (Value.int (iI z))) (by omega), trivial⟩
      refine r_aload_n (i := 0) hG dX5_readItem_106 rfl rfl ?_
      refine r_aload_n (i := 1) hG dX5_readItem_107 rfl rfl ?_
      refine r_iload_n (i := 3) hG dX5_readItem_108 rfl rfl ?_
      refine r_callVi hG (c_X5_readTrust (g_l G) (g_D G) x b (childA B n Y kd p).2.1 xx zz q B n (childA B n Y kd p).2.2 v1 hB hn hrA ho1 (Y 5 2) (by omega))  gX5_readItem_X5_readTrust rfl hyX5_readTrust rfl (by decide) (by decide) 0 rfl rfl rfl (Nat.le_of_ble_eq_true rfl) ⟨Nat.zero_le _, Nat.zero_le _⟩ dX5_readItem_109 ?_
      rintro w ⟨vt, rfl, ot⟩
      refine rb_if_eq (tgt := 128) hG dX5_readItem_112 (by decide) (fun c112 => ?_) (fun c112 => ?_)
      · try simp only [decide_eq_true_eq, decide_eq_false_iff_not] at c112
        first
          | exact V_lv (K128 (trustS B n (childA B n Y kd p).2.1 (Y 5 2) (childA B n Y kd p).2.2) vt (by rw [e9]; unfold bornS; rw [c112]; rfl) c112 ot) ⟨rfl, rfl, trivial⟩
          | exact V_lv (K128 (likesS B n (trustS B n (childA B n Y kd p).2.1 (Y 5 2) (childA B n Y kd p).2.2).2.1 (Y 5 2) (trustS B n (childA B n Y kd p).2.1 (Y 5 2) (childA B n Y kd p).2.2).2.2) vl (by rw [e9]; unfold bornS; rw [if_pos c112]) c121 ol) ⟨rfl, rfl, trivial⟩
      · try simp only [decide_eq_true_eq, decide_eq_false_iff_not] at c112
        refine r_aload_n (i := 0) hG dX5_readItem_115 rfl rfl ?_
        refine r_aload_n (i := 1) hG dX5_readItem_116 rfl rfl ?_
        refine r_iload_n (i := 3) hG dX5_readItem_117 rfl rfl ?_
        refine r_callVi hG (c_X5_readLikes (g_l G) (g_D G) x b (trustS B n (childA B n Y kd p).2.1 (Y 5 2) (childA B n Y kd p).2.2).2.1 xx zz q B n (trustS B n (childA B n Y kd p).2.1 (Y 5 2) (childA B n Y kd p).2.2).2.2 vt hB hn hrT ot (Y 5 2) (by omega))  gX5_readItem_X5_readLikes rfl hyX5_readLikes rfl (by decide) (by decide) 0 rfl rfl rfl (Nat.le_of_ble_eq_true rfl) ⟨Nat.zero_le _, Nat.zero_le _⟩ dX5_readItem_118 ?_
        rintro w ⟨vl, rfl, ol⟩
        refine rb_if_eq (tgt := 128) hG dX5_readItem_121 (by decide) (fun c121 => ?_) (fun c121 => ?_)
        · try simp only [decide_eq_true_eq, decide_eq_false_iff_not] at c121
          first
            | exact V_lv (K128 (trustS B n (childA B n Y kd p).2.1 (Y 5 2) (childA B n Y kd p).2.2) vt (by rw [e9]; unfold bornS; rw [c112]; rfl) c112 ot) ⟨rfl, rfl, trivial⟩
            | exact V_lv (K128 (likesS B n (trustS B n (childA B n Y kd p).2.1 (Y 5 2) (childA B n Y kd p).2.2).2.1 (Y 5 2) (trustS B n (childA B n Y kd p).2.1 (Y 5 2) (childA B n Y kd p).2.2).2.2) vl (by rw [e9]; unfold bornS; rw [if_pos c112]) c121 ol) ⟨rfl, rfl, trivial⟩
        · try simp only [decide_eq_true_eq, decide_eq_false_iff_not] at c121
          refine r_iconst hG dX5_readItem_124 ?_
          refine r_goto (tgt := 129) hG dX5_readItem_125 (by decide) ?_
          have e10 : itemS B n Y p = likesS B n (trustS B n (childA B n Y kd p).2.1 (Y 5 2) (childA B n Y kd p).2.2).2.1 (Y 5 2) (trustS B n (childA B n Y kd p).2.1 (Y 5 2) (childA B n Y kd p).2.2).2.2 := by rw [e9]; unfold bornS; rw [if_pos c112]
          exact r_zret hG hE dX5_readItem_129 (by rw [e10, c121]; rfl) ⟨vl, by rw [e10], by rw [e10]; exact ol⟩
    refine r_aload_n (i := 0) hG dX5_readItem_72 rfl rfl ?_
    refine r_callVi hG (c_X5_kindNamed (g_l G) (g_D G) x b Y xx zz q B n p v hB hn hp hvo)  gX5_readItem_X5_kindNamed rfl hyX5_kindNamed rfl (by decide) (by decide) 0 rfl rfl rfl (Nat.le_of_ble_eq_true rfl) ⟨Nat.zero_le _, Nat.zero_le _⟩ dX5_readItem_73 ?_
    intro w hw
    subst hw
    refine V_top (x' := iI kd) (congrArg iI hkd.symm) ?_
    refine r_istore_n (i := 2) hG dX5_readItem_76 rfl (by decide) rfl ?_
    refine r_iload_n (i := 2) hG dX5_readItem_77 rfl rfl ?_
    refine r_if_lt (tgt := 97) hG (by omega) dX5_readItem_78 (by decide) (fun c78 => ?_) (fun c78 => ?_)
    · first
        | exact V_lv (K97 (false, Y, p) v (item_none g8 g9 g10 (by omega)) rfl hvo) ⟨rfl, rfl, trivial⟩
        | exact V_lv (K97 (false, Y, p) v (item_full (by omega) (by omega)) rfl hvo) ⟨rfl, rfl, trivial⟩
        | exact V_lv (K97 (childA B n Y kd p) vc (hA1 (by omega) (by omega) c94) c94 oc) ⟨rfl, rfl, trivial⟩
    · refine r_aload_n (i := 1) hG dX5_readItem_81 rfl rfl ?_
      refine r_midi hG (c_X4_isFull (g_l G) (g_D G) b Y xx zz q hI) ((x 0, .inr (4, [.ref (x 1)])) :: tapew (g_D G) (fun i => x (1 + i)) B n (tK B n p) (tS B n p) (tE B n p) v) [] rfl gX5_readItem_X4_isFull rfl hyX4_isFull rfl (by decide) (by decide) 0 rfl rfl rfl (Nat.le_of_ble_eq_true rfl) ⟨Nat.zero_le _, Nat.zero_le _⟩ dX5_readItem_82 ?_
      intro w hw
      subst hw
      refine V_ws (ws' := tw (g_D G) x b (Y) xx zz q B n (p) v) rfl ?_
      refine rb_if_ne (tgt := 97) hG dX5_readItem_85 (by decide) (fun c85 => ?_) (fun c85 => ?_)
      · try simp only [decide_eq_true_eq, decide_eq_false_iff_not] at c85
        first
          | exact V_lv (K97 (false, Y, p) v (item_none g8 g9 g10 (by omega)) rfl hvo) ⟨rfl, rfl, trivial⟩
          | exact V_lv (K97 (false, Y, p) v (item_full (by omega) (by omega)) rfl hvo) ⟨rfl, rfl, trivial⟩
          | exact V_lv (K97 (childA B n Y kd p) vc (hA1 (by omega) (by omega) c94) c94 oc) ⟨rfl, rfl, trivial⟩
      · try simp only [decide_eq_true_eq, decide_eq_false_iff_not] at c85
        refine r_aload_n (i := 0) hG dX5_readItem_88 rfl rfl ?_
        refine r_aload_n (i := 1) hG dX5_readItem_89 rfl rfl ?_
        refine r_iload_n (i := 2) hG dX5_readItem_90 rfl rfl ?_
        refine r_callVi hG (c_X5_readChild (g_l G) (g_D G) x b Y xx zz q B n p v hB hn hp hvo hI (by omega) kd)  gX5_readItem_X5_readChild rfl hyX5_readChild rfl (by decide) (by decide) 0 rfl rfl rfl (Nat.le_of_ble_eq_true rfl) ⟨Nat.zero_le _, Nat.zero_le _⟩ dX5_readItem_91 ?_
        rintro w ⟨vc, rfl, oc⟩
        refine rb_if_ne (tgt := 99) hG dX5_readItem_94 (by decide) (fun c94 => ?_) (fun c94 => ?_)
        · try simp only [decide_eq_true_eq, decide_eq_false_iff_not] at c94
          exact V_lv (K99 (by omega) (by omega) c94 vc oc) ⟨rfl, rfl, rfl, trivial⟩
        · try simp only [decide_eq_true_eq, decide_eq_false_iff_not] at c94
          first
            | exact V_lv (K97 (false, Y, p) v (item_none g8 g9 g10 (by omega)) rfl hvo) ⟨rfl, rfl, trivial⟩
            | exact V_lv (K97 (false, Y, p) v (item_full (by omega) (by omega)) rfl hvo) ⟨rfl, rfl, trivial⟩
            | exact V_lv (K97 (childA B n Y kd p) vc (hA1 (by omega) (by omega) c94) c94 oc) ⟨rfl, rfl, trivial⟩
  refine r_aload_n (i := 0) hG dX5_readItem_0 rfl rfl ?_
  refine r_get hG cX5_readItem_X5 0 0 rfl rfl (by decide) kX5_readItem_12 rfl dX5_readItem_1 ?_
  refine r_ldcS hG 0 (by omega) rfl dX5_readItem_4 ?_
  refine r_midi hG (c_X3_isWord (g_l G) (g_D G) (fun i => x (1 + i)) B n (tK B n p) (tS B n p) (tE B n p) v hB hn (tK_rng B n p) (by omega) 0 (by omega)) [(x 0, .inr (4, [.ref (x 1)]))] (yw (g_D G) b (Y) xx zz q) rfl gX5_readItem_X3_isWord rfl hyX3_isWord rfl (by decide) (by decide) 0 rfl rfl rfl (Nat.le_of_ble_eq_true rfl) ⟨Nat.zero_le _, Nat.zero_le _⟩ dX5_readItem_6 ?_
  intro w hw
  subst hw
  refine V_ws (ws' := tw (g_D G) x b (Y) xx zz q B n (p) v) rfl ?_
  refine V_top (x' := iI (b2 (decide (tokM B n p = 8)))) (congrArg (fun z => iI (b2 z)) (word_tok (i := 0) (by omega))) ?_
  refine rb_if_ne (tgt := 24) hG dX5_readItem_9 (by decide) (fun c9 => ?_) (fun c9 => ?_)
  · try simp only [decide_eq_true_eq, decide_eq_false_iff_not] at c9
    refine r_aload_n (i := 1) hG dX5_readItem_24 rfl rfl ?_
    refine r_aload_n (i := 0) hG dX5_readItem_25 rfl rfl ?_
    refine r_get hG cX5_readItem_X5 0 0 rfl rfl (by decide) kX5_readItem_12 rfl dX5_readItem_26 ?_
    refine r_ldcS hG 0 (by omega) rfl dX5_readItem_29 ?_
    refine r_midi hG (c_X3_isWord (g_l G) (g_D G) (fun i => x (1 + i)) B n (tK B n p) (tS B n p) (tE B n p) v hB hn (tK_rng B n p) (by omega) 0 (by omega)) [(x 0, .inr (4, [.ref (x 1)]))] (yw (g_D G) b (Y) xx zz q) rfl gX5_readItem_X3_isWord rfl hyX3_isWord rfl (by decide) (by decide) 0 rfl rfl rfl (Nat.le_of_ble_eq_true rfl) ⟨Nat.zero_le _, Nat.zero_le _⟩ dX5_readItem_31 ?_
    intro w hw
    subst hw
    refine V_ws (ws' := tw (g_D G) x b (Y) xx zz q B n (p) v) rfl ?_
    refine V_top (x' := iI (b2 (decide (tokM B n p = 8)))) (congrArg (fun z => iI (b2 z)) (word_tok (i := 0) (by omega))) ?_
    refine rb_if_eq (tgt := 41) hG dX5_readItem_34 (by decide) (fun c34 => ?_) (fun c34 => ?_)
    · first
        | (exfalso; (try simp only [decide_eq_true_eq, decide_eq_false_iff_not] at c34); omega)
        | (try simp only [decide_eq_true_eq, decide_eq_false_iff_not] at c34
           refine r_iconst hG dX5_readItem_41 ?_
           exact K42 _ (by omega))
    · first
        | (exfalso; (try simp only [decide_eq_true_eq, decide_eq_false_iff_not] at c34); omega)
        | (try simp only [decide_eq_true_eq, decide_eq_false_iff_not] at c34
           refine r_iconst hG dX5_readItem_37 ?_
           refine r_goto (tgt := 42) hG dX5_readItem_38 (by decide) ?_
           exact K42 _ (by omega))
  · try simp only [decide_eq_true_eq, decide_eq_false_iff_not] at c9
    refine r_aload_n (i := 0) hG dX5_readItem_12 rfl rfl ?_
    refine r_get hG cX5_readItem_X5 0 0 rfl rfl (by decide) kX5_readItem_12 rfl dX5_readItem_13 ?_
    refine r_ldcS hG 1 (by omega) rfl dX5_readItem_16 ?_
    refine r_midi hG (c_X3_isWord (g_l G) (g_D G) (fun i => x (1 + i)) B n (tK B n p) (tS B n p) (tE B n p) v hB hn (tK_rng B n p) (by omega) 1 (by omega)) [(x 0, .inr (4, [.ref (x 1)]))] (yw (g_D G) b (Y) xx zz q) rfl gX5_readItem_X3_isWord rfl hyX3_isWord rfl (by decide) (by decide) 0 rfl rfl rfl (Nat.le_of_ble_eq_true rfl) ⟨Nat.zero_le _, Nat.zero_le _⟩ dX5_readItem_18 ?_
    intro w hw
    subst hw
    refine V_ws (ws' := tw (g_D G) x b (Y) xx zz q B n (p) v) rfl ?_
    refine V_top (x' := iI (b2 (decide (tokM B n p = 9)))) (congrArg (fun z => iI (b2 z)) (word_tok (i := 1) (by omega))) ?_
    refine rb_if_eq (tgt := 54) hG dX5_readItem_21 (by decide) (fun c21 => ?_) (fun c21 => ?_)
    · try simp only [decide_eq_true_eq, decide_eq_false_iff_not] at c21
      refine r_aload_n (i := 0) hG dX5_readItem_54 rfl rfl ?_
      refine r_get hG cX5_readItem_X5 0 0 rfl rfl (by decide) kX5_readItem_12 rfl dX5_readItem_55 ?_
      refine r_ldcS hG 2 (by omega) rfl dX5_readItem_58 ?_
      refine r_midi hG (c_X3_isWord (g_l G) (g_D G) (fun i => x (1 + i)) B n (tK B n p) (tS B n p) (tE B n p) v hB hn (tK_rng B n p) (by omega) 2 (by omega)) [(x 0, .inr (4, [.ref (x 1)]))] (yw (g_D G) b (Y) xx zz q) rfl gX5_readItem_X3_isWord rfl hyX3_isWord rfl (by decide) (by decide) 0 rfl rfl rfl (Nat.le_of_ble_eq_true rfl) ⟨Nat.zero_le _, Nat.zero_le _⟩ dX5_readItem_60 ?_
      intro w hw
      subst hw
      refine V_ws (ws' := tw (g_D G) x b (Y) xx zz q B n (p) v) rfl ?_
      refine V_top (x' := iI (b2 (decide (tokM B n p = 10)))) (congrArg (fun z => iI (b2 z)) (word_tok (i := 2) (by omega))) ?_
      refine rb_if_eq (tgt := 72) hG dX5_readItem_63 (by decide) (fun c63 => ?_) (fun c63 => ?_)
      · try simp only [decide_eq_true_eq, decide_eq_false_iff_not] at c63
        exact V_lv (K72 (by omega) (by omega) (by omega)) ⟨rfl, rfl, trivial⟩
      · try simp only [decide_eq_true_eq, decide_eq_false_iff_not] at c63
        refine r_aload_n (i := 0) hG dX5_readItem_66 rfl rfl ?_
        refine r_aload_n (i := 1) hG dX5_readItem_67 rfl rfl ?_
        refine r_callVi hG (c_X5_readSwap (g_l G) (g_D G) x b Y xx zz q B n p v hB hn hp hvo hI)  gX5_readItem_X5_readSwap rfl hyX5_readSwap rfl (by decide) (by decide) 0 rfl rfl rfl (Nat.le_of_ble_eq_true rfl) ⟨Nat.zero_le _, Nat.zero_le _⟩ dX5_readItem_68 ?_
        rintro w ⟨vs, rfl, os⟩
        have e9 : itemS B n Y p = swapS B n Y (tE B n p) := by unfold itemS; rw [if_neg (by omega), if_neg (by omega), if_pos (by omega)]
        exact r_zret hG hE dX5_readItem_71 (by rw [e9]) ⟨vs, by rw [e9], by rw [e9]; exact os⟩
    · try simp only [decide_eq_true_eq, decide_eq_false_iff_not] at c21
      refine r_aload_n (i := 1) hG dX5_readItem_24 rfl rfl ?_
      refine r_aload_n (i := 0) hG dX5_readItem_25 rfl rfl ?_
      refine r_get hG cX5_readItem_X5 0 0 rfl rfl (by decide) kX5_readItem_12 rfl dX5_readItem_26 ?_
      refine r_ldcS hG 0 (by omega) rfl dX5_readItem_29 ?_
      refine r_midi hG (c_X3_isWord (g_l G) (g_D G) (fun i => x (1 + i)) B n (tK B n p) (tS B n p) (tE B n p) v hB hn (tK_rng B n p) (by omega) 0 (by omega)) [(x 0, .inr (4, [.ref (x 1)]))] (yw (g_D G) b (Y) xx zz q) rfl gX5_readItem_X3_isWord rfl hyX3_isWord rfl (by decide) (by decide) 0 rfl rfl rfl (Nat.le_of_ble_eq_true rfl) ⟨Nat.zero_le _, Nat.zero_le _⟩ dX5_readItem_31 ?_
      intro w hw
      subst hw
      refine V_ws (ws' := tw (g_D G) x b (Y) xx zz q B n (p) v) rfl ?_
      refine V_top (x' := iI (b2 (decide (tokM B n p = 8)))) (congrArg (fun z => iI (b2 z)) (word_tok (i := 0) (by omega))) ?_
      refine rb_if_eq (tgt := 41) hG dX5_readItem_34 (by decide) (fun c34 => ?_) (fun c34 => ?_)
      · first
          | (exfalso; (try simp only [decide_eq_true_eq, decide_eq_false_iff_not] at c34); omega)
          | (try simp only [decide_eq_true_eq, decide_eq_false_iff_not] at c34
             refine r_iconst hG dX5_readItem_41 ?_
             exact K42 _ (by omega))
      · first
          | (exfalso; (try simp only [decide_eq_true_eq, decide_eq_false_iff_not] at c34); omega)
          | (try simp only [decide_eq_true_eq, decide_eq_false_iff_not] at c34
             refine r_iconst hG dX5_readItem_37 ?_
             refine r_goto (tgt := 42) hG dX5_readItem_38 (by decide) ?_
             exact K42 _ (by omega))
