theorem tkm_end {B : Int → Int} {n p : Int} (h : n ≤ tS B n p) : tokM B n p = 22 ∧ tE B n p = tS B n p ∧ tV B n p = 0 := by
  have e : tK B n p = 0 := by unfold tK; rw [if_pos h]
  refine ⟨by unfold tokM; rw [if_pos e], by unfold tE; rw [if_pos h], by unfold tV; rw [if_pos h]⟩
theorem tkm_word {B : Int → Int} {n p : Int} (h : ¬ n ≤ tS B n p) (h2 : isL (B (tS B n p)) = true) : tokM B n p = wdM B (tS B n p) (tE B n p) ∧ tE B n p = scanF isL B n (tS B n p) ∧ tV B n p = 0 := by
  have e : tK B n p = 1 := by unfold tK; rw [if_neg h, if_pos h2]
  refine ⟨by unfold tokM; rw [if_neg (by omega), if_pos e], by unfold tE; rw [if_neg h, if_pos h2], by unfold tV; rw [if_neg h, if_pos h2]⟩
theorem tkm_num {B : Int → Int} {n p : Int} (h : ¬ n ≤ tS B n p) (h2 : ¬ isL (B (tS B n p)) = true) (h3 : isD (B (tS B n p)) = true) : tokM B n p = 20 ∧ tE B n p = scanF isD B n (tS B n p) ∧ tV B n p = numF B n (tS B n p) 0 := by
  have e : tK B n p = 2 := by unfold tK; rw [if_neg h, if_neg h2, if_pos h3]
  refine ⟨by unfold tokM; rw [if_neg (by omega), if_neg (by omega), if_pos e], by unfold tE; rw [if_neg h, if_neg h2, if_pos h3], by unfold tV; rw [if_neg h, if_neg h2, if_pos h3]⟩
theorem tkm_semi {B : Int → Int} {n p : Int} (h : ¬ n ≤ tS B n p) (h4 : B (tS B n p) = 59) : tokM B n p = 21 ∧ tE B n p = tS B n p + 1 ∧ tV B n p = 0 := by
  have h2 : ¬ isL (B (tS B n p)) = true := by rw [h4]; decide
  have h3 : ¬ isD (B (tS B n p)) = true := by rw [h4]; decide
  have e : tK B n p = 3 := by unfold tK; rw [if_neg h, if_neg h2, if_neg h3, if_pos h4]
  refine ⟨by unfold tokM; rw [if_neg (by omega), if_neg (by omega), if_neg (by omega), if_pos e], by unfold tE; rw [if_neg h, if_neg h2, if_neg h3], by unfold tV; rw [if_neg h, if_neg h2, if_neg h3]⟩
theorem tkm_oth {B : Int → Int} {n p : Int} (h : ¬ n ≤ tS B n p) (h2 : ¬ isL (B (tS B n p)) = true) (h3 : ¬ isD (B (tS B n p)) = true) (h4 : ¬ B (tS B n p) = 59) : tokM B n p = 23 ∧ tE B n p = tS B n p + 1 ∧ tV B n p = 0 := by
  have e : tK B n p = 4 := by unfold tK; rw [if_neg h, if_neg h2, if_neg h3, if_neg h4]
  refine ⟨by unfold tokM; rw [if_neg (by omega), if_neg (by omega), if_neg (by omega), if_neg (by omega)], by unfold tE; rw [if_neg h, if_neg h2, if_neg h3], by unfold tV; rw [if_neg h, if_neg h2, if_neg h3]⟩
theorem isL_iff {b : Int} : isL b = true ↔ 97 ≤ b ∧ b ≤ 122 := by unfold isL; exact decide_eq_true_iff
theorem isD_iff {b : Int} : isD b = true ↔ 48 ≤ b ∧ b ≤ 57 := by unfold isD; exact decide_eq_true_iff
theorem isS_iff {b : Int} : isS b = true ↔ b = 32 := by unfold isS; exact decide_eq_true_iff
