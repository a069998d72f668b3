theorem bestN_rng (f : Int → Int) (ok : Int → Bool) : ∀ n : Nat, -1 ≤ bestN f ok n ∧ bestN f ok n < n
  | 0 => by simp [bestN]
  | n + 1 => by
    have ih := bestN_rng f ok n
    unfold bestN
    split <;> omega
theorem best_skip {f : Int → Int} {ok : Int → Bool} {n : Nat} (h : ok n = false) : bestN f ok n = bestN f ok (n + 1) := by
  rw [bestN, h]
  rfl
theorem best_take {f : Int → Int} {ok : Int → Bool} {n : Nat} (h : ok n = true) (h2 : bestN f ok n < 0 ∨ f (bestN f ok n) < f n) : (n : Int) = bestN f ok (n + 1) := by
  rw [bestN, h, if_pos]
  simpa using h2
theorem best_keep {f : Int → Int} {ok : Int → Bool} {n : Nat} (h2 : ¬ (bestN f ok n < 0 ∨ f (bestN f ok n) < f n)) : bestN f ok n = bestN f ok (n + 1) := by
  rw [bestN, if_neg]
  intro h
  rw [Bool.and_eq_true] at h
  exact h2 (by simpa using h.2)
theorem or_has : ∀ h : Fin 10, ∀ k : Fin 1024, iI (k.val : Int) ||| (iI 1 <<< (iI (h.val : Int) &&& 31)) = iI ((k.val ||| 2 ^ h.val : Nat) : Int) := by decide +kernel
theorem or_lt {k h : Nat} (hk : k < 1024) (hh : h < 10) : k ||| 2 ^ h < 1024 := by
  have h1 : k < 2 ^ 10 := hk
  have h2 : 2 ^ h < 2 ^ 10 := Nat.pow_lt_pow_right (by omega) hh
  exact Nat.or_lt_two_pow h1 h2
theorem orN_nat {H : Int → Int} : ∀ n : Nat, (∀ c : Nat, c < n → 0 ≤ H c ∧ H c ≤ 9) → ∃ k : Nat, k < 1024 ∧ orN H n = iI (k : Int)
  | 0, _ => ⟨0, by omega, rfl⟩
  | n + 1, hH => by
    obtain ⟨k, hk, e⟩ := orN_nat n (fun c hc => hH c (by omega))
    have hn := hH n (by omega)
    refine ⟨k ||| 2 ^ (H n).toNat, or_lt hk (by omega), ?_⟩
    unfold orN
    rw [e]
    have h := or_has ⟨(H n).toNat, by omega⟩ ⟨k, hk⟩
    have e2 : (((H n).toNat : Nat) : Int) = H n := by omega
    rw [show ((⟨(H n).toNat, by omega⟩ : Fin 10).val : Int) = H n from e2] at h
    exact h
theorem byteK_rng (b : Int) (k : Nat) : 0 ≤ byteK b k ∧ byteK b k ≤ 255 := by
  unfold byteK
  obtain ⟨j, hj, e⟩ := pk_andE (iI b >>> (iI (8 * (k : Int)) &&& 31)) (m := iI 255) 8 (by decide)
  rw [e, nI_toInt (by omega)]
  omega
theorem sumN_ext {f g : Int → Int} : ∀ {n : Nat}, (∀ k : Nat, k < n → f k = g k) → sumN f n = sumN g n
  | 0, _ => rfl
  | n + 1, h => by
    unfold sumN
    rw [sumN_ext (fun k hk => h k (by omega)), h n (by omega)]
theorem fdN_01 (b : Int) : ∀ (k : Nat) (R : YS), fdN R b k 0 1 = R 0 1 + k
  | 0, R => by unfold fdN; omega
  | k + 1, R => by
    unfold fdN
    rw [fdN_01 b k]
    show R 0 1 + 1 + (k : Int) = _
    omega
theorem glad_rng {Y : YS} (h : Inv Y) {c : Int} (hc : 0 ≤ c ∧ c < 8) : -20 ≤ glad Y c ∧ glad Y c ≤ 28 := worth_rng h hc (by have := Inv_c h hc; omega)
theorem sumN_rng {f : Int → Int} {lo hi : Int} : ∀ {n : Nat}, (∀ k : Nat, k < n → lo ≤ f k ∧ f k ≤ hi) → n * lo ≤ sumN f n ∧ sumN f n ≤ n * hi
  | 0, _ => by simp [sumN]
  | n + 1, h => by
    have ih := sumN_rng (n := n) (fun k hk => h k (by omega))
    have hn := h n (by omega)
    unfold sumN
    rw [show ((n + 1 : Nat) : Int) = (n : Int) + 1 by omega, Int.add_mul, Int.add_mul]
    omega
theorem glads_rng {Y : YS} (h : Inv Y) {n : Nat} (hn : n ≤ 8) : -200 ≤ sumN (glad Y) n ∧ sumN (glad Y) n ≤ 300 := by
  have h1 := sumN_rng (f := glad Y) (lo := -20) (hi := 28) (n := n) (fun k hk => glad_rng h (by omega))
  omega
