theorem give_rows (Y : YS) (c t : Int) (w : Nat) (hw : w < 6) : upY Y 1 c t w = giveY Y c t w := by
  funext j
  unfold giveY
  rw [upY_at, upY_at, upY_at, upY_at]
  split
  · rfl
  · rw [if_neg (by omega), if_neg (by omega)]
theorem sq_rng {n : Int} (h : 0 ≤ n ∧ n ≤ 8) : (0 ≤ n * n ∧ n * n ≤ 64) ∧ (0 ≤ n * n * n ∧ n * n * n ≤ 512) ∧ (0 < n → 0 < n * n) := by
  rcases (show n = 0 ∨ n = 1 ∨ n = 2 ∨ n = 3 ∨ n = 4 ∨ n = 5 ∨ n = 6 ∨ n = 7 ∨ n = 8 by omega) with e | e | e | e | e | e | e | e | e <;> subst e <;> decide
theorem ring_ix {n k : Int} (h : 0 ≤ n ∧ n ≤ 8) (hk : 0 ≤ k ∧ k < n * n * n) : 0 < n ∧ (0 ≤ k / (n * n) ∧ k / (n * n) < n) ∧ (0 ≤ k / n ∧ k / n < 2147483648) ∧ (0 ≤ k / n % n ∧ k / n % n < n) ∧ 0 ≤ k % n ∧ k % n < n := by
  rcases (show n = 0 ∨ n = 1 ∨ n = 2 ∨ n = 3 ∨ n = 4 ∨ n = 5 ∨ n = 6 ∨ n = 7 ∨ n = 8 by omega) with e | e | e | e | e | e | e | e | e <;> subst e <;> omega
theorem mostK_1 {w : Int} (h : w = 1) : mostK w = 9 := by unfold mostK; rw [if_pos h]
theorem mostK_2 {w : Int} (h : w = 2) : mostK w = 9999 := by unfold mostK; rw [if_neg (by omega), if_pos h]
theorem mostK_3 {w : Int} (h : w = 3) : mostK w = 99 := by unfold mostK; rw [if_neg (by omega), if_neg (by omega)]
theorem orFin_neg {T : TS} {k r : Int} (h : r < 0) : orFin T k r = fin T k := if_pos h
theorem orFin_pos {T : TS} {k r : Int} (h : ¬ r < 0) : orFin T k r = (r, T) := if_neg h
theorem Inv_give {Y : YS} (h : Inv Y) {c t : Int} (ht : 0 ≤ t ∧ t ≤ 9) : Inv (giveY Y c t) := by
  have h1 := Inv_up1 h (i := c) ht
  have e0 := give_rows Y c t 0 (by omega)
  have e1 := give_rows Y c t 1 (by omega)
  have e2 := give_rows Y c t 2 (by omega)
  have e3 := give_rows Y c t 3 (by omega)
  have e4 := give_rows Y c t 4 (by omega)
  have e5 := give_rows Y c t 5 (by omega)
  unfold Inv at h1 ⊢
  rw [← e0, ← e1, ← e2, ← e3, ← e4, ← e5]
  exact h1
