theorem hyX7_in : hyS yX7_in 3 := by decide +kernel
set_option maxHeartbeats 4000000 in
set_option maxRecDepth 100000 in
theorem c_X7_in (l : Launch) (D : va_G) (v : Int64) (x y : Int) (hx : -2147483648 ≤ x ∧ x < 2147483648) (hy : -2147483648 ≤ y ∧ y < 2147483648) : Con l yX7_in wsX7_in 0 D [] [.long v, .int (iI x), .int (iI y)] (some (.int (iI (b2 (decide (x ≤ v.toInt ∧ v.toInt ≤ y)))))) (fun w => w = []) := by
  refine con_start (own := RX7) (by decide) rfl rfl (Nat.le_of_ble_eq_true rfl) ?_
  intro G hG hE hl hD
  subst hl
  subst hD
  have e1 := inL_lt (v := v) hx
  have e2 := inL_gt (v := v) hy
  refine r_lload_n (i := 0) hG dX7_in_0 rfl rfl ?_
  refine r_iload_n (i := 2) hG dX7_in_1 rfl rfl ?_
  refine r_i2l hG dX7_in_2 ?_
  refine r_lcmp hG dX7_in_3 ?_
  refine rr_if_lt (tgt := 18) hG dX7_in_4 (by decide) (fun c4 => ?_) (fun c4 => ?_)
  · refine r_iconst hG dX7_in_18 ?_
    exact r_zret hG hE dX7_in_19 (by congr 1; unfold b2; (repeat' split) <;> (try simp_all) <;> (try omega)) rfl
  · refine r_lload_n (i := 0) hG dX7_in_7 rfl rfl ?_
    refine r_iload_n (i := 3) hG dX7_in_8 rfl rfl ?_
    refine r_i2l hG dX7_in_9 ?_
    refine r_lcmp hG dX7_in_10 ?_
    refine rr_if_gt (tgt := 18) hG dX7_in_11 (by decide) (fun c11 => ?_) (fun c11 => ?_)
    · refine r_iconst hG dX7_in_18 ?_
      exact r_zret hG hE dX7_in_19 (by congr 1; unfold b2; (repeat' split) <;> (try simp_all) <;> (try omega)) rfl
    · refine r_iconst hG dX7_in_14 ?_
      refine r_goto (tgt := 19) hG dX7_in_15 (by decide) ?_
      exact r_zret hG hE dX7_in_19 (by congr 1; unfold b2; (repeat' split) <;> (try simp_all) <;> (try omega)) rfl
theorem c_X7_inI (l : Launch) (D : va_G) (v x y : Int) (hv : -2147483648 ≤ v ∧ v < 2147483648) (hx : -2147483648 ≤ x ∧ x < 2147483648) (hy : -2147483648 ≤ y ∧ y < 2147483648) : Con l yX7_in wsX7_in 0 D [] [.long (iI v).toInt64, .int (iI x), .int (iI y)] (some (.int (iI (b2 (decide (x ≤ v ∧ v ≤ y)))))) (fun w => w = []) := by
  have h := c_X7_in l D (iI v).toInt64 x y hx hy
  rw [Int32.toInt_toInt64, iI_toInt hv] at h
  exact h
theorem hyX7_held : hyS yX7_held 3 := by decide +kernel
set_option maxHeartbeats 4000000 in
set_option maxRecDepth 100000 in
theorem c_X7_held (l : Launch) (D : va_G) (v x y : Int) (hv : -2147483648 ≤ v ∧ v < 2147483648) (hx : -2147483648 ≤ x ∧ x < 2147483648) (hy : -2147483648 ≤ y ∧ y < 2147483648) : Con l yX7_held wsX7_held 0 D [] [.int (iI v), .int (iI x), .int (iI y)] (some (.int (iI (if v < x then x else if y < v then y else v)))) (fun w => w = []) := by
  refine con_start (own := RX7) (by decide) rfl rfl (Nat.le_of_ble_eq_true rfl) ?_
  intro G hG hE hl hD
  subst hl
  subst hD
  refine r_iload_n (i := 0) hG dX7_held_0 rfl rfl ?_
  refine r_iload_n (i := 1) hG dX7_held_1 rfl rfl ?_
  refine r_icmp_ge (tgt := 9) hG (by omega) (by omega) dX7_held_2 (by decide) (fun c2 => ?_) (fun c2 => ?_)
  · refine r_iload_n (i := 0) hG dX7_held_9 rfl rfl ?_
    refine r_iload_n (i := 2) hG dX7_held_10 rfl rfl ?_
    refine r_icmp_le (tgt := 18) hG (by omega) (by omega) dX7_held_11 (by decide) (fun c11 => ?_) (fun c11 => ?_)
    · refine r_iload_n (i := 0) hG dX7_held_18 rfl rfl ?_
      exact r_iret hG hE dX7_held_19 (by congr 1; (repeat' split) <;> (try omega)) rfl
    · refine r_iload_n (i := 2) hG dX7_held_14 rfl rfl ?_
      refine r_goto (tgt := 19) hG dX7_held_15 (by decide) ?_
      exact r_iret hG hE dX7_held_19 (by congr 1; (repeat' split) <;> (try omega)) rfl
  · refine r_iload_n (i := 1) hG dX7_held_5 rfl rfl ?_
    refine r_goto (tgt := 19) hG dX7_held_6 (by decide) ?_
    exact r_iret hG hE dX7_held_19 (by congr 1; (repeat' split) <;> (try omega)) rfl
theorem hyX7_bits : hyS yX7_bits 1 := by decide +kernel
set_option maxHeartbeats 4000000 in
set_option maxRecDepth 100000 in
theorem c_X7_bits (l : Launch) (D : va_G) (k : Nat) (hk : k < 1024) : Con l yX7_bits wsX7_bits 0 D [] [.int (iI (k : Int))] (some (.int (iI (pop k : Int)))) (fun w => w = []) := by
  refine con_start (own := RX7) (by decide) rfl rfl (Nat.le_of_ble_eq_true rfl) ?_
  intro G hG hE hl hD
  subst hl
  subst hD
  have L : ∀ (n j m : Nat), j ≤ n → j < 1024 → m + pop j = pop k → V G 0 0 [] 4 [(1, .int (iI (m : Int))), (2, .int (iI (j : Int)))] [] := by
    intro n
    induction n with
    | zero =>
      intro j m h1 h2 h3
      have hj : j = 0 := by omega
      subst hj
      have hp : pop 0 = 0 := rfl
      refine r_iload_n (i := 2) hG dX7_bits_4 rfl rfl ?_
      refine r_if_eq (tgt := 20) hG (by omega) dX7_bits_5 (by decide) (fun c5 => ?_) (fun c5 => ?_)
      · refine r_iload_n (i := 1) hG dX7_bits_20 rfl rfl ?_
        exact r_iret hG hE dX7_bits_21 (by rw [show m = pop k by omega]) rfl
      · exact absurd rfl c5
    | succ n ih =>
      intro j m h1 h2 h3
      have hp : pop 0 = 0 := rfl
      refine r_iload_n (i := 2) hG dX7_bits_4 rfl rfl ?_
      refine r_if_eq (tgt := 20) hG (by omega) dX7_bits_5 (by decide) (fun c5 => ?_) (fun c5 => ?_)
      · refine r_iload_n (i := 1) hG dX7_bits_20 rfl rfl ?_
        exact r_iret hG hE dX7_bits_21 (by rw [show m = pop k by rw [show j = 0 by omega] at h3; omega]) rfl
      · refine r_iinc hG dX7_bits_8 rfl (by decide) rfl ?_
        refine r_iload_n (i := 2) hG dX7_bits_11 rfl rfl ?_
        refine r_iload_n (i := 2) hG dX7_bits_12 rfl rfl ?_
        refine r_iconst hG dX7_bits_13 ?_
        refine r_isub hG dX7_bits_14 ?_
        refine rr_iand hG dX7_bits_15 ?_
        refine r_istore_n (i := 2) hG dX7_bits_16 rfl (by decide) rfl ?_
        refine r_goto (tgt := 4) hG dX7_bits_17 (by decide) ?_
        rcases pop_drop ⟨j, h2⟩ with h | ⟨⟨j2, h2'⟩, e1, e2, e3⟩
        · exact absurd h (by simp at c5; simp; omega)
        · exact V_lv (ih j2 (m + 1) (by simp at e2; omega) h2' (by simp at e3; omega)) ⟨rfl, (congrArg (fun x => some (Value.int x)) (by rw [← iI_sub]; exact e1)), trivial⟩
  refine r_iconst hG dX7_bits_0 ?_
  refine r_istore_n (i := 1) hG dX7_bits_1 rfl (by decide) rfl ?_
  refine r_iload_n (i := 0) hG dX7_bits_2 rfl rfl ?_
  refine r_istore_n (i := 2) hG dX7_bits_3 rfl (by decide) rfl ?_
  exact V_lv (L k k 0 (Nat.le_refl _) hk (by omega)) ⟨rfl, rfl, trivial⟩
def arr2 (D : va_G) (p q : Nat) (f g : Int → Int) : va_W := [(p, .inl (D.1 100, 115, .inl (ia f))), (q, .inl (D.1 100, 115, .inl (ia g)))]
def mixN (f g : Int → Int) (i : Int) : Int → Int := fun j => if j < i then f j else g j
theorem hyX7_copyAll : hyS yX7_copyAll 2 := by decide +kernel
set_option maxHeartbeats 4000000 in
set_option maxRecDepth 100000 in
theorem c_X7_copyAll (l : Launch) (D : va_G) (p q : Nat) (f g : Int → Int) : Con l yX7_copyAll wsX7_copyAll 0 D (arr2 D p q f g) [.ref p, .ref q] none (fun w => w = arr2 D p q f f) := by
  refine con_start (own := RX7) (by decide) rfl rfl (Nat.le_of_ble_eq_true rfl) ?_
  intro G hG hE hl hD
  subst hl
  subst hD
  have L : ∀ i : Nat, i ≤ 115 → V G 0 0 (arr2 (g_D G) p q f (mixN f g i)) 2 [(0, .ref p), (1, .ref q), (2, .int (iI (i : Int)))] [] := by
    refine down (fun i hi ih => ?_)
    refine r_iload_n (i := 2) hG dX7_copyAll_2 rfl rfl ?_
    refine r_bipush hG dX7_copyAll_3 rfl ?_
    refine r_icmp_ge (tgt := 20) hG (by omega) (by omega) dX7_copyAll_5 (by decide) (fun c5 => ?_) (fun c5 => ?_)
    · refine V_ia (g := f) 1 rfl (fun j h0 h1 => by unfold mixN; rw [if_pos (by omega)]) rfl ?_
      exact r_vret hG hE dX7_copyAll_20 rfl
    · refine r_aload_n (i := 1) hG dX7_copyAll_8 rfl rfl ?_
      refine r_iload_n (i := 2) hG dX7_copyAll_9 rfl rfl ?_
      refine r_aload_n (i := 0) hG dX7_copyAll_10 rfl rfl ?_
      refine r_iload_n (i := 2) hG dX7_copyAll_11 rfl rfl ?_
      refine r_iald hG 0 rfl (by omega) (by decide) dX7_copyAll_12 ?_
      refine r_iast hG 1 rfl (by omega) (by decide) dX7_copyAll_13 rfl ?_
      refine V_ia (g := mixN f g ((i + 1 : Nat) : Int)) 1 rfl (fun j h0 h1 => by
        unfold up1 mixN
        by_cases e : j = (i : Int)
        · rw [if_pos e, if_pos (by omega), e]
        · rw [if_neg e]
          by_cases e2 : j < (i : Int)
          · rw [if_pos e2, if_pos (by omega)]
          · rw [if_neg e2, if_neg (by omega)]) rfl ?_
      refine r_iinc hG dX7_copyAll_14 rfl (by decide) rfl ?_
      refine r_goto (tgt := 2) hG dX7_copyAll_17 (by decide) ?_
      exact V_lv (ih (by omega)) ⟨rfl, rfl, rfl, trivial⟩
  refine r_iconst hG dX7_copyAll_0 ?_
  refine r_istore_n (i := 2) hG dX7_copyAll_1 rfl (by decide) rfl ?_
  exact V_ia (g := mixN f g ((0 : Nat) : Int)) 1 rfl (fun j h0 h1 => by unfold mixN; rw [if_neg (by omega)]) rfl (V_lv (L 0 (by omega)) ⟨rfl, rfl, rfl, trivial⟩)
theorem hyX7_isThing : hyS yX7_isThing 1 := by decide +kernel
set_option maxHeartbeats 4000000 in
set_option maxRecDepth 100000 in
theorem c_X7_isThing (l : Launch) (D : va_G) (t : Int) (ht : -2147483648 ≤ t ∧ t < 2147483648) : Con l yX7_isThing wsX7_isThing 1 D [] [.int (iI t)] (some (.int (iI (b2 (decide (0 ≤ t ∧ t ≤ 9)))))) (fun w => w = []) := by
  refine con_start (own := RX7) (by decide) rfl rfl (Nat.le_of_ble_eq_true rfl) ?_
  intro G hG hE hl hD
  subst hl
  subst hD
  refine r_iload_n (i := 0) hG dX7_isThing_0 rfl rfl ?_
  refine r_i2l hG dX7_isThing_1 ?_
  refine r_iconst hG dX7_isThing_2 ?_
  refine r_bipush hG dX7_isThing_3 rfl ?_
  refine r_call0i hG (c_X7_inI (g_l G) (g_D G) _ _ _ (by omega) (by omega) (by omega))  gX7_isThing_X7_in rfl hyX7_in rfl (by decide) (by decide) rfl (Nat.le_of_ble_eq_true rfl) ⟨Nat.zero_le _, Nat.zero_le _⟩ dX7_isThing_5 ?_
  exact r_zret hG hE dX7_isThing_8 rfl rfl
theorem kX7_becomes_9 : Cond.fieldLink RX7 9 "BreakSwapsModel" "m" "[I" ∈ wsX7_becomes := List.mem_of_getElem? (i := 1) rfl
theorem cX7_becomes_X7 : ∀ w ∈ wsX70, w ∈ wsX7_becomes := fun _ h => List.mem_cons_of_mem _ (List.mem_append_right _ h)
theorem hyX7_becomes : hyV yX7_becomes RX7 2 := by decide +kernel
set_option maxHeartbeats 4000000 in
set_option maxRecDepth 100000 in
theorem c_X7_becomes (l : Launch) (D : va_G) (a : Nat → Nat) (Z K U R : YS) (C : Int → Int64) (i v r : Int) (hi : 0 ≤ i ∧ i < 115) (hr : mro Z i = r) (Z2 : YS) (hZ : ∀ j, 0 ≤ j → up1 (mro Z) i v j = mro Z2 j) : Con l yX7_becomes wsX7_becomes 0 D (mw D a Z K U R C) [.ref (a 0), .int (iI i), .int (iI v)] (some (.int (iI (r)))) (fun w => w = mw D a Z2 K U R C) := by
  refine con_start (own := RX7) (by decide) rfl rfl (Nat.le_of_ble_eq_true rfl) ?_
  intro G hG hE hl hD
  subst hl
  subst hD
  refine r_aload_n (i := 0) hG dX7_becomes_0 rfl rfl ?_
  refine r_get hG cX7_becomes_X7 0 0 rfl rfl (by decide) kX7_becomes_9 rfl dX7_becomes_1 ?_
  refine r_iload_n (i := 1) hG dX7_becomes_4 rfl rfl ?_
  refine r_iald hG 1 rfl (by omega) (by decide) dX7_becomes_5 ?_
  refine r_istore_n (i := 3) hG dX7_becomes_6 rfl (by decide) rfl ?_
  refine r_aload_n (i := 0) hG dX7_becomes_7 rfl rfl ?_
  refine r_get hG cX7_becomes_X7 0 0 rfl rfl (by decide) kX7_becomes_9 rfl dX7_becomes_8 ?_
  refine r_iload_n (i := 1) hG dX7_becomes_11 rfl rfl ?_
  refine r_iload_n (i := 2) hG dX7_becomes_12 rfl rfl ?_
  refine r_iast hG 1 rfl (by omega) (by decide) dX7_becomes_13 rfl ?_
  refine V_ia (g := mro Z2) 1 rfl (fun j h0 h1 => hZ j h0) rfl ?_
  refine r_iload_n (i := 3) hG dX7_becomes_14 rfl rfl ?_
  exact r_iret hG hE dX7_becomes_15 (by rw [hr]) rfl
theorem kX7_it_9 : Cond.fieldLink RX7 9 "BreakSwapsModel" "m" "[I" ∈ wsX7_it := List.mem_of_getElem? (i := 1) rfl
theorem cX7_it_X7 : ∀ w ∈ wsX70, w ∈ wsX7_it := fun _ h => List.mem_cons_of_mem _ (List.mem_append_right _ h)
theorem hyX7_it : hyV yX7_it RX7 2 := by decide +kernel
set_option maxHeartbeats 4000000 in
set_option maxRecDepth 100000 in
theorem c_X7_it (l : Launch) (D : va_G) (a : Nat → Nat) (Z K U R : YS) (C : Int → Int64) (c wh r : Int) (hi : 0 ≤ 3 + 14 * c + wh ∧ 3 + 14 * c + wh < 115) (hr : mro Z (3 + 14 * c + wh) = r) : Con l yX7_it wsX7_it 0 D (mw D a Z K U R C) [.ref (a 0), .int (iI c), .int (iI wh)] (some (.int (iI (r)))) (fun w => w = mw D a Z K U R C) := by
  refine con_start (own := RX7) (by decide) rfl rfl (Nat.le_of_ble_eq_true rfl) ?_
  intro G hG hE hl hD
  subst hl
  subst hD
  refine r_aload_n (i := 0) hG dX7_it_0 rfl rfl ?_
  refine r_get hG cX7_it_X7 0 0 rfl rfl (by decide) kX7_it_9 rfl dX7_it_1 ?_
  refine r_iconst hG dX7_it_4 ?_
  refine r_bipush hG dX7_it_5 rfl ?_
  refine r_iload_n (i := 1) hG dX7_it_7 rfl rfl ?_
  refine r_imul hG dX7_it_8 ?_
  refine r_iadd hG dX7_it_9 ?_
  refine r_iload_n (i := 2) hG dX7_it_10 rfl rfl ?_
  refine r_iadd hG dX7_it_11 ?_
  refine r_iald hG 1 rfl (by omega) (by decide) dX7_it_12 ?_
  exact r_iret hG hE dX7_it_13 (by rw [hr]) rfl
theorem kX7_put_9 : Cond.fieldLink RX7 9 "BreakSwapsModel" "m" "[I" ∈ wsX7_put := List.mem_of_getElem? (i := 1) rfl
theorem cX7_put_X7 : ∀ w ∈ wsX70, w ∈ wsX7_put := fun _ h => List.mem_cons_of_mem _ (List.mem_append_right _ h)
theorem hyX7_put : hyV yX7_put RX7 3 := by decide +kernel
set_option maxHeartbeats 4000000 in
set_option maxRecDepth 100000 in
theorem c_X7_put (l : Launch) (D : va_G) (a : Nat → Nat) (Z K U R : YS) (C : Int → Int64) (c wh v : Int) (hi : 0 ≤ 3 + 14 * c + wh ∧ 3 + 14 * c + wh < 115) (Z2 : YS) (hZ : ∀ j, 0 ≤ j → up1 (mro Z) (3 + 14 * c + wh) v j = mro Z2 j) : Con l yX7_put wsX7_put 0 D (mw D a Z K U R C) [.ref (a 0), .int (iI c), .int (iI wh), .int (iI v)] (none) (fun w => w = mw D a Z2 K U R C) := by
  refine con_start (own := RX7) (by decide) rfl rfl (Nat.le_of_ble_eq_true rfl) ?_
  intro G hG hE hl hD
  subst hl
  subst hD
  refine r_aload_n (i := 0) hG dX7_put_0 rfl rfl ?_
  refine r_get hG cX7_put_X7 0 0 rfl rfl (by decide) kX7_put_9 rfl dX7_put_1 ?_
  refine r_iconst hG dX7_put_4 ?_
  refine r_bipush hG dX7_put_5 rfl ?_
  refine r_iload_n (i := 1) hG dX7_put_7 rfl rfl ?_
  refine r_imul hG dX7_put_8 ?_
  refine r_iadd hG dX7_put_9 ?_
  refine r_iload_n (i := 2) hG dX7_put_10 rfl rfl ?_
  refine r_iadd hG dX7_put_11 ?_
  refine r_iload_n (i := 3) hG dX7_put_12 rfl rfl ?_
  refine r_iast hG 1 rfl (by omega) (by decide) dX7_put_13 rfl ?_
  refine V_ia (g := mro Z2) 1 rfl (fun j h0 h1 => hZ j h0) rfl ?_
  exact r_vret hG hE dX7_put_14 rfl
theorem c_it0 (l : Launch) (D : va_G) (a : Nat → Nat) (Z K U R : YS) (C : Int → Int64) (c : Int) (hc : 0 ≤ c ∧ c < 8) : Con l yX7_it wsX7_it 0 D (mw D a Z K U R C) [.ref (a 0), .int (iI c), .int (iI 0)] (some (.int (iI (Z 0 c)))) (fun w => w = mw D a Z K U R C) := c_X7_it l D a Z K U R C c 0 (Z 0 c) (by omega) (mro_f Z 0 hc.1 (by omega))
theorem c_put0 (l : Launch) (D : va_G) (a : Nat → Nat) (Z K U R : YS) (C : Int → Int64) (c v : Int) (hc : 0 ≤ c ∧ c < 8) : Con l yX7_put wsX7_put 0 D (mw D a Z K U R C) [.ref (a 0), .int (iI c), .int (iI 0), .int (iI v)] none (fun w => w = mw D a (upY Z 0 c v) K U R C) := c_X7_put l D a Z K U R C c 0 v (by omega) (upY Z 0 c v) (fun j hj => mro_upf Z 0 hc.1 (by omega) j hj)
theorem c_it1 (l : Launch) (D : va_G) (a : Nat → Nat) (Z K U R : YS) (C : Int → Int64) (c : Int) (hc : 0 ≤ c ∧ c < 8) : Con l yX7_it wsX7_it 0 D (mw D a Z K U R C) [.ref (a 0), .int (iI c), .int (iI 1)] (some (.int (iI (Z 1 c)))) (fun w => w = mw D a Z K U R C) := c_X7_it l D a Z K U R C c 1 (Z 1 c) (by omega) (mro_f Z 1 hc.1 (by omega))
theorem c_put1 (l : Launch) (D : va_G) (a : Nat → Nat) (Z K U R : YS) (C : Int → Int64) (c v : Int) (hc : 0 ≤ c ∧ c < 8) : Con l yX7_put wsX7_put 0 D (mw D a Z K U R C) [.ref (a 0), .int (iI c), .int (iI 1), .int (iI v)] none (fun w => w = mw D a (upY Z 1 c v) K U R C) := c_X7_put l D a Z K U R C c 1 v (by omega) (upY Z 1 c v) (fun j hj => mro_upf Z 1 hc.1 (by omega) j hj)
theorem c_it2 (l : Launch) (D : va_G) (a : Nat → Nat) (Z K U R : YS) (C : Int → Int64) (c : Int) (hc : 0 ≤ c ∧ c < 8) : Con l yX7_it wsX7_it 0 D (mw D a Z K U R C) [.ref (a 0), .int (iI c), .int (iI 2)] (some (.int (iI (Z 2 c)))) (fun w => w = mw D a Z K U R C) := c_X7_it l D a Z K U R C c 2 (Z 2 c) (by omega) (mro_f Z 2 hc.1 (by omega))
theorem c_put2 (l : Launch) (D : va_G) (a : Nat → Nat) (Z K U R : YS) (C : Int → Int64) (c v : Int) (hc : 0 ≤ c ∧ c < 8) : Con l yX7_put wsX7_put 0 D (mw D a Z K U R C) [.ref (a 0), .int (iI c), .int (iI 2), .int (iI v)] none (fun w => w = mw D a (upY Z 2 c v) K U R C) := c_X7_put l D a Z K U R C c 2 v (by omega) (upY Z 2 c v) (fun j hj => mro_upf Z 2 hc.1 (by omega) j hj)
theorem c_it3 (l : Launch) (D : va_G) (a : Nat → Nat) (Z K U R : YS) (C : Int → Int64) (c : Int) (hc : 0 ≤ c ∧ c < 8) : Con l yX7_it wsX7_it 0 D (mw D a Z K U R C) [.ref (a 0), .int (iI c), .int (iI 3)] (some (.int (iI (Z 3 c)))) (fun w => w = mw D a Z K U R C) := c_X7_it l D a Z K U R C c 3 (Z 3 c) (by omega) (mro_f Z 3 hc.1 (by omega))
theorem c_put3 (l : Launch) (D : va_G) (a : Nat → Nat) (Z K U R : YS) (C : Int → Int64) (c v : Int) (hc : 0 ≤ c ∧ c < 8) : Con l yX7_put wsX7_put 0 D (mw D a Z K U R C) [.ref (a 0), .int (iI c), .int (iI 3), .int (iI v)] none (fun w => w = mw D a (upY Z 3 c v) K U R C) := c_X7_put l D a Z K U R C c 3 v (by omega) (upY Z 3 c v) (fun j hj => mro_upf Z 3 hc.1 (by omega) j hj)
theorem c_itL (l : Launch) (D : va_G) (a : Nat → Nat) (Z K U R : YS) (C : Int → Int64) (c t : Int) (hc : 0 ≤ c ∧ c < 8) (ht : 0 ≤ t ∧ t < 10) : Con l yX7_it wsX7_it 0 D (mw D a Z K U R C) [.ref (a 0), .int (iI c), .int (iI (4 + t))] (some (.int (iI (Z 4 (c * 10 + t))))) (fun w => w = mw D a Z K U R C) := c_X7_it l D a Z K U R C c (4 + t) (Z 4 (c * 10 + t)) (by omega) (mro_l Z hc.1 ht)
theorem c_putL (l : Launch) (D : va_G) (a : Nat → Nat) (Z K U R : YS) (C : Int → Int64) (c t v : Int) (hc : 0 ≤ c ∧ c < 8) (ht : 0 ≤ t ∧ t < 10) : Con l yX7_put wsX7_put 0 D (mw D a Z K U R C) [.ref (a 0), .int (iI c), .int (iI (4 + t)), .int (iI v)] none (fun w => w = mw D a (upY Z 4 (c * 10 + t) v) K U R C) := c_X7_put l D a Z K U R C c (4 + t) v (by omega) (upY Z 4 (c * 10 + t) v) (fun j hj => mro_upl Z hc.1 ht j hj)
theorem kX7_finds_19 : Cond.fieldLink RX7 19 "BreakSwapsModel" "found" "[I" ∈ wsX7_finds := List.mem_of_getElem? (i := 1) rfl
theorem cX7_finds_X7 : ∀ w ∈ wsX70, w ∈ wsX7_finds := fun _ h => List.mem_cons_of_mem _ (List.mem_append_right _ h)
theorem hyX7_finds : hyV yX7_finds RX7 1 := by decide +kernel
set_option maxHeartbeats 4000000 in
set_option maxRecDepth 100000 in
theorem c_X7_finds (l : Launch) (D : va_G) (a : Nat → Nat) (Z K U R : YS) (C : Int → Int64) (f k : Int) (hk : 0 ≤ k ∧ k < 7) (hf : f = -1000000001 - k) : Con l yX7_finds wsX7_finds 0 D (mw D a Z K U R C) [.ref (a 0), .int (iI f)] (some (.int (iI (f)))) (fun w => w = mw D a Z K U (upY R 1 k (R 1 k + 1)) C) := by
  refine con_start (own := RX7) (by decide) rfl rfl (Nat.le_of_ble_eq_true rfl) ?_
  intro G hG hE hl hD
  subst hl
  subst hD
  have e : -1000000001 - f = k := by omega
  refine r_aload_n (i := 0) hG dX7_finds_0 rfl rfl ?_
  refine r_get hG cX7_finds_X7 0 4 rfl rfl (by decide) kX7_finds_19 rfl dX7_finds_1 ?_
  refine r_ldc (n := -1000000001) hG (List.mem_of_getElem? (i := 2) rfl) rfl dX7_finds_4 ?_
  refine r_iload_n (i := 1) hG dX7_finds_6 rfl rfl ?_
  refine r_isub hG dX7_finds_7 ?_
  refine V_top (x' := iI k) (congrArg iI e) ?_
  refine r_dup2 hG dX7_finds_8 rfl rfl ?_
  refine r_iald hG 4 rfl (by omega) (by decide) dX7_finds_9 ?_
  refine r_iconst hG dX7_finds_10 ?_
  refine r_iadd hG dX7_finds_11 ?_
  refine r_iast hG 4 rfl (by omega) (by decide) dX7_finds_12 rfl ?_
  refine r_iload_n (i := 1) hG dX7_finds_13 rfl rfl ?_
  exact r_iret hG hE dX7_finds_14 rfl rfl
theorem kX7_isChild_9 : Cond.fieldLink RX7 9 "BreakSwapsModel" "m" "[I" ∈ wsX7_isChild := List.mem_of_getElem? (i := 1) rfl
theorem cX7_isChild_X7 : ∀ w ∈ wsX70, w ∈ wsX7_isChild := fun _ h => List.mem_cons_of_mem _ (List.mem_append_right _ h)
theorem hyX7_isChild : hyV yX7_isChild RX7 1 := by decide +kernel
set_option maxHeartbeats 4000000 in
set_option maxRecDepth 100000 in
theorem c_X7_isChild (l : Launch) (D : va_G) (a : Nat → Nat) (Z K U R : YS) (C : Int → Int64) (hI : Inv Z) (c : Int) (hc : -2147483648 ≤ c ∧ c < 2147483648) : Con l yX7_isChild wsX7_isChild 1 D (mw D a Z K U R C) [.ref (a 0), .int (iI c)] (some (.int (iI (b2 (decide (0 ≤ c ∧ c ≤ Z 5 2 - 1)))))) (fun w => w = mw D a Z K U R C) := by
  refine con_start (own := RX7) (by decide) rfl rfl (Nat.le_of_ble_eq_true rfl) ?_
  intro G hG hE hl hD
  subst hl
  subst hD
  have hN := hI.1
  refine r_iload_n (i := 1) hG dX7_isChild_0 rfl rfl ?_
  refine r_i2l hG dX7_isChild_1 ?_
  refine r_iconst hG dX7_isChild_2 ?_
  refine r_aload_n (i := 0) hG dX7_isChild_3 rfl rfl ?_
  refine r_get hG cX7_isChild_X7 0 0 rfl rfl (by decide) kX7_isChild_9 rfl dX7_isChild_4 ?_
  refine r_iconst hG dX7_isChild_7 ?_
  refine r_iald hG 1 rfl (by omega) (by decide) dX7_isChild_8 ?_
  refine V_top (x' := iI ((Z) 5 2)) (congrArg iI (mro_2 (Z))) ?_
  refine r_iconst hG dX7_isChild_9 ?_
  refine r_isub hG dX7_isChild_10 ?_
  refine r_call0i hG (c_X7_inI (g_l G) (g_D G) _ _ _ (by omega) (by omega) (by omega))  gX7_isChild_X7_in rfl hyX7_in rfl (by decide) (by decide) rfl (Nat.le_of_ble_eq_true rfl) ⟨Nat.zero_le _, Nat.zero_le _⟩ dX7_isChild_11 ?_
  exact r_zret hG hE dX7_isChild_14 rfl rfl
theorem hyX7_areTwo : hyV yX7_areTwo RX7 2 := by decide +kernel
set_option maxHeartbeats 4000000 in
set_option maxRecDepth 100000 in
theorem c_X7_areTwo (l : Launch) (D : va_G) (a : Nat → Nat) (Z K U R : YS) (C : Int → Int64) (hI : Inv Z) (c o : Int) (hc : -2147483648 ≤ c ∧ c < 2147483648) (ho : -2147483648 ≤ o ∧ o < 2147483648) : Con l yX7_areTwo wsX7_areTwo 2 D (mw D a Z K U R C) [.ref (a 0), .int (iI c), .int (iI o)] (some (.int (iI (b2 (decide (0 ≤ c ∧ c ≤ Z 5 2 - 1 ∧ 0 ≤ o ∧ o ≤ Z 5 2 - 1 ∧ c ≠ o)))))) (fun w => w = mw D a Z K U R C) := by
  refine con_start (own := RX7) (by decide) rfl rfl (Nat.le_of_ble_eq_true rfl) ?_
  intro G hG hE hl hD
  subst hl
  subst hD
  refine r_aload_n (i := 0) hG dX7_areTwo_0 rfl rfl ?_
  refine r_iload_n (i := 1) hG dX7_areTwo_1 rfl rfl ?_
  refine r_callVi hG (c_X7_isChild (g_l G) (g_D G) a Z K U R C hI _ (by omega))  gX7_areTwo_X7_isChild rfl hyX7_isChild rfl (by decide) (by decide) 0 rfl rfl rfl (Nat.le_of_ble_eq_true rfl) ⟨Nat.zero_le _, Nat.zero_le _⟩ dX7_areTwo_2 (fun w hw => ?_)
  subst hw
  refine rb_if_eq (tgt := 25) hG dX7_areTwo_5 (by decide) (fun c5 => ?_) (fun c5 => ?_)
  · refine r_iconst hG dX7_areTwo_25 ?_
    exact r_zret hG hE dX7_areTwo_26 (by congr 1; unfold b2; (repeat' split) <;> (first | rfl | (exfalso; simp only [decide_eq_true_eq, decide_eq_false_iff_not] at * <;> omega))) rfl
  · refine r_aload_n (i := 0) hG dX7_areTwo_8 rfl rfl ?_
    refine r_iload_n (i := 2) hG dX7_areTwo_9 rfl rfl ?_
    refine r_callVi hG (c_X7_isChild (g_l G) (g_D G) a Z K U R C hI _ (by omega))  gX7_areTwo_X7_isChild rfl hyX7_isChild rfl (by decide) (by decide) 0 rfl rfl rfl (Nat.le_of_ble_eq_true rfl) ⟨Nat.zero_le _, Nat.zero_le _⟩ dX7_areTwo_10 (fun w hw => ?_)
    subst hw
    refine rb_if_eq (tgt := 25) hG dX7_areTwo_13 (by decide) (fun c13 => ?_) (fun c13 => ?_)
    · refine r_iconst hG dX7_areTwo_25 ?_
      exact r_zret hG hE dX7_areTwo_26 (by congr 1; unfold b2; (repeat' split) <;> (first | rfl | (exfalso; simp only [decide_eq_true_eq, decide_eq_false_iff_not] at * <;> omega))) rfl
    · refine r_iload_n (i := 1) hG dX7_areTwo_16 rfl rfl ?_
      refine r_iload_n (i := 2) hG dX7_areTwo_17 rfl rfl ?_
      refine r_icmp_eq (tgt := 25) hG (by omega) (by omega) dX7_areTwo_18 (by decide) (fun c18 => ?_) (fun c18 => ?_)
      · refine r_iconst hG dX7_areTwo_25 ?_
        exact r_zret hG hE dX7_areTwo_26 (by congr 1; unfold b2; (repeat' split) <;> (first | rfl | (exfalso; simp only [decide_eq_true_eq, decide_eq_false_iff_not] at * <;> omega))) rfl
      · refine r_iconst hG dX7_areTwo_21 ?_
        refine r_goto (tgt := 26) hG dX7_areTwo_22 (by decide) ?_
        exact r_zret hG hE dX7_areTwo_26 (by congr 1; unfold b2; (repeat' split) <;> (first | rfl | (exfalso; simp only [decide_eq_true_eq, decide_eq_false_iff_not] at * <;> omega))) rfl
