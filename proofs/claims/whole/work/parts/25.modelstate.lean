/-! ===== the reference's state: a yard is one row of numbers ===== -/
def mro (Z : YS) (i : Int) : Int := if i < 3 then Z 5 i else if (i - 3) % 14 < 4 then Z ((i - 3) % 14).toNat ((i - 3) / 14) else Z 4 ((i - 3) / 14 * 10 + ((i - 3) % 14 - 4))
/-- R: 0 isKept, taped, token, begin, at, value, bad; 1 found; 2 tape; 3 bitsOf; 4 sizeOf. C: cells -/
def mw (D : va_G) (a : Nat → Nat) (Z K W R : YS) (C : Int → Int64) : va_W :=
  [(a 0, .inr (6, [.ref (a 1), .ref (a 2), .ref (a 3), .int (iI (R 0 0)), .ref (a 4), .ref (a 5), .int (iI (R 0 1)), .int (iI (R 0 2)), .int (iI (R 0 3)), .int (iI (R 0 4)), .int (iI (R 0 5)), .int (iI (R 0 6)), .ref (a 6), .ref (a 7), .ref (a 8)])),
   (a 1, .inl (D.1 100, 115, .inl (ia (mro Z)))), (a 2, .inl (D.1 100, 115, .inl (ia (mro K)))), (a 3, .inl (D.1 100, 115, .inl (ia (mro W)))), (a 4, .inl (D.1 100, 7, .inl (ia (R 1)))), (a 5, .inl (D.1 100, 120, .inl (ia (R 2)))), (a 6, .inl (D.1 100, 4, .inl (ia (R 3)))), (a 7, .inl (D.1 100, 4, .inl (ia (R 4)))), (a 8, .inl (D.1 101, 160, .inr (.inl (la C))))]
theorem upY_at (Y : YS) (w : Nat) (i v : Int) (w' : Nat) (j : Int) : upY Y w i v w' j = if w' = w ∧ j = i then v else Y w' j := by
  unfold upY
  cases e : Nat.beq w' w with
  | false =>
    have h : w' ≠ w := Nat.ne_of_beq_eq_false e
    rw [if_neg (fun q => h q.1)]
    rfl
  | true =>
    have h : w' = w := Nat.eq_of_beq_eq_true e
    show up1 (Y w') i v j = _
    unfold up1
    by_cases e2 : j = i
    · rw [if_pos e2, if_pos ⟨h, e2⟩]
    · rw [if_neg e2, if_neg (fun q => e2 q.2)]
theorem mro_s (Z : YS) {k : Int} (h : 0 ≤ k ∧ k < 3) : mro Z k = Z 5 k := by unfold mro; rw [if_pos h.2]
theorem mro_f (Z : YS) {c : Int} (w : Nat) (hc : 0 ≤ c) (hw : w < 4) : mro Z (3 + 14 * c + w) = Z w c := by
  unfold mro
  rw [if_neg (by omega), if_pos (by omega), show ((3 + 14 * c + w - 3) % 14).toNat = w by omega, show (3 + 14 * c + w - 3) / 14 = c by omega]
theorem mro_l (Z : YS) {c t : Int} (hc : 0 ≤ c) (ht : 0 ≤ t ∧ t < 10) : mro Z (3 + 14 * c + (4 + t)) = Z 4 (c * 10 + t) := by
  unfold mro
  rw [if_neg (by omega), if_neg (by omega), show (3 + 14 * c + (4 + t) - 3) / 14 = c by omega, show (3 + 14 * c + (4 + t) - 3) % 14 - 4 = t by omega]
theorem mro_up5 (Z : YS) {k v : Int} (h : 0 ≤ k ∧ k < 3) (j : Int) (hj : 0 ≤ j) : up1 (mro Z) k v j = mro (upY Z 5 k v) j := by
  unfold up1 mro
  rw [upY_at, upY_at, upY_at]
  by_cases e : j = k
  · rw [if_pos e, if_pos (by omega), if_pos ⟨rfl, e⟩]
  · rw [if_neg e, if_neg (show ¬ (5 = 5 ∧ j = k) from fun q => e q.2)]
    by_cases h3 : j < 3
    · rw [if_pos h3, if_pos h3]
    · rw [if_neg h3, if_neg h3]
      by_cases h4 : (j - 3) % 14 < 4
      · rw [if_pos h4, if_pos h4, if_neg (by omega)]
      · rw [if_neg h4, if_neg h4, if_neg (by omega)]
theorem mro_upf (Z : YS) {c v : Int} (w : Nat) (hc : 0 ≤ c) (hw : w < 4) (j : Int) (hj : 0 ≤ j) : up1 (mro Z) (3 + 14 * c + w) v j = mro (upY Z w c v) j := by
  unfold up1 mro
  rw [upY_at, upY_at, upY_at]
  by_cases e : j = 3 + 14 * c + w
  · rw [if_pos e, if_neg (by omega), if_pos (by omega), if_pos (by omega)]
  · rw [if_neg e]
    by_cases h3 : j < 3
    · rw [if_pos h3, if_pos h3, if_neg (by omega)]
    · rw [if_neg h3, if_neg h3]
      by_cases h4 : (j - 3) % 14 < 4
      · rw [if_pos h4, if_pos h4, if_neg (by omega)]
      · rw [if_neg h4, if_neg h4, if_neg (by omega)]
theorem mro_upl (Z : YS) {c t v : Int} (hc : 0 ≤ c) (ht : 0 ≤ t ∧ t < 10) (j : Int) (hj : 0 ≤ j) : up1 (mro Z) (3 + 14 * c + (4 + t)) v j = mro (upY Z 4 (c * 10 + t) v) j := by
  unfold up1 mro
  rw [upY_at, upY_at, upY_at]
  by_cases e : j = 3 + 14 * c + (4 + t)
  · rw [if_pos e, if_neg (by omega), if_neg (by omega), if_pos (by omega)]
  · rw [if_neg e]
    by_cases h3 : j < 3
    · rw [if_pos h3, if_pos h3, if_neg (by omega)]
    · rw [if_neg h3, if_neg h3]
      by_cases h4 : (j - 3) % 14 < 4
      · rw [if_pos h4, if_pos h4, if_neg (by omega)]
      · rw [if_neg h4, if_neg h4, if_neg (by omega)]
theorem mro_0 (Z : YS) : mro Z 0 = Z 5 0 := mro_s Z (by omega)
theorem mro_1 (Z : YS) : mro Z 1 = Z 5 1 := mro_s Z (by omega)
theorem mro_2 (Z : YS) : mro Z 2 = Z 5 2 := mro_s Z (by omega)
/-! how many bits -/
def pop (k : Nat) : Nat := k % 2 + k / 2 % 2 + k / 4 % 2 + k / 8 % 2 + k / 16 % 2 + k / 32 % 2 + k / 64 % 2 + k / 128 % 2 + k / 256 % 2 + k / 512 % 2
theorem pop_drop : ∀ k : Fin 1024, k.val = 0 ∨ (∃ m : Fin 1024, iI (k.val : Int) &&& (iI (k.val : Int) - iI 1) = iI (m.val : Int) ∧ m.val < k.val ∧ pop k.val = pop m.val + 1) := by
  intro k
  have h : ∀ k : Fin 1024, k.val = 0 ∨ (iI (k.val : Int) &&& (iI (k.val : Int) - iI 1) = iI (((k.val &&& (k.val - 1)) : Nat) : Int) ∧ (k.val &&& (k.val - 1)) < k.val ∧ pop k.val = pop (k.val &&& (k.val - 1)) + 1) := by decide +kernel
  rcases h k with h | ⟨h1, h2, h3⟩
  · exact Or.inl h
  · exact Or.inr ⟨⟨k.val &&& (k.val - 1), by omega⟩, h1, h2, h3⟩
theorem pop_add : ∀ i : Fin 8, ∀ s : Fin 128, s.val < 2 ^ i.val → pop (s.val + 2 ^ i.val) = pop s.val + 1 := by decide +kernel
theorem two_pow_8 {i : Nat} (hi : i < 8) : (2 : Int) ^ i ≤ 128 := by
  rcases (show i = 0 ∨ i = 1 ∨ i = 2 ∨ i = 3 ∨ i = 4 ∨ i = 5 ∨ i = 6 ∨ i = 7 by omega) with e | e | e | e | e | e | e | e <;> subst e <;> decide
theorem pop_mask (H : Int → Int) (t : Int) : ∀ n : Nat, n ≤ 8 → (pop (maskN (fun c => decide (H c = t)) n).toNat : Int) = cntN H t n
  | 0, _ => by simp [maskN, cntN, pop]
  | n + 1, hn => by
    have ih := pop_mask H t n (by omega)
    have hr := maskN_rng (fun c => decide (H c = t)) n
    have h7 := two_pow_8 (i := n) (by omega)
    unfold maskN cntN eqI
    by_cases e : H (n : Int) = t
    · rw [if_pos (decide_eq_true e), if_pos e]
      have h2 : ((2 ^ n : Nat) : Int) = 2 ^ n := by simp
      have e2 : (maskN (fun c => decide (H c = t)) n + 2 ^ n).toNat = (maskN (fun c => decide (H c = t)) n).toNat + 2 ^ n := by omega
      rw [e2]
      have h3 := pop_add ⟨n, by omega⟩ ⟨(maskN (fun c => decide (H c = t)) n).toNat, by omega⟩ (show (maskN (fun c => decide (H c = t)) n).toNat < 2 ^ n by omega)
      have h4 : pop ((maskN (fun c => decide (H c = t)) n).toNat + 2 ^ n) = pop (maskN (fun c => decide (H c = t)) n).toNat + 1 := h3
      rw [h4]
      omega
    · rw [if_neg (by simp [e]), if_neg e]
      rw [Int.add_zero, Int.add_zero]
      exact ih
theorem inL_lt {v : Int64} {a : Int} (ha : -2147483648 ≤ a ∧ a < 2147483648) : lg_cmp v (iI a).toInt64 < 0 ↔ v.toInt < a := by
  rw [lg_cmp_lt, Int64.lt_iff_toInt_lt, Int32.toInt_toInt64, iI_toInt ha]
theorem inL_gt {v : Int64} {a : Int} (ha : -2147483648 ≤ a ∧ a < 2147483648) : 0 < lg_cmp v (iI a).toInt64 ↔ a < v.toInt := by
  rw [lg_cmp_gt, Int64.lt_iff_toInt_lt, Int32.toInt_toInt64, iI_toInt ha]
