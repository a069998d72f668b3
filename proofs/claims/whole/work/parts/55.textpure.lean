/-! ===== the text: words, tokens, items ===== -/
abbrev matchP (B : Int → Int) (st en : Int) (i : Nat) : Prop := ((sLen.getD i 0 : Nat) : Int) = en - st ∧ ∀ k : Nat, k < sLen.getD i 0 → sbI i k = B (st + k)
/-- name w of the reference has size L and stands at st -/
abbrev nmP (B : Int → Int) (st : Int) (w L : Nat) : Prop := (L ≤ 7 ∧ (L = 7 ∨ nms (7 * w + L) = 0)) ∧ ∀ k : Nat, k < L → nms (7 * w + k) = B (st + k)
/-- the reference's number of a word of ours -/
def cm (i : Nat) : Nat := [8, 9, 10, 0, 1, 2, 3, 4, 5, 6, 7].getD i 0
def cmi (w : Nat) : Nat := [3, 4, 5, 6, 7, 8, 9, 10, 0, 1, 2].getD w 0
theorem cm_lt : ∀ i : Fin 11, cm i.val < 11 := by decide +kernel
theorem cmi_ok : ∀ w : Fin 11, cmi w.val < 11 ∧ cm (cmi w.val) = w.val := by decide +kernel
theorem nm_1 : ∀ i : Fin 11, ∀ k : Fin 7, (k.val < sLen.getD i.val 0 → nms (7 * cm i.val + k.val) = sbI i.val k.val ∧ nms (7 * cm i.val + k.val) ≠ 0) ∧ (sLen.getD i.val 0 ≤ k.val → nms (7 * cm i.val + k.val) = 0) := by decide +kernel
theorem nm_2 : ∀ i j : Fin 11, sLen.getD i.val 0 = sLen.getD j.val 0 → (∀ k : Fin 7, k.val < sLen.getD i.val 0 → sbI i.val k.val = sbI j.val k.val) → i = j := by decide +kernel
theorem nm_match {B : Int → Int} {st en : Int} {i : Nat} (hi : i < 11) (hL : ∀ j, st ≤ j → j < en → isL (B j) = true) (hlt : st < en) : nmP B st (cm i) (en - st).toNat ↔ matchP B st en i := by
  have h7 := sl_le ⟨i, hi⟩
  dsimp only at h7
  constructor
  · intro ⟨⟨h1, h2⟩, h3⟩
    have e : sLen.getD i 0 = (en - st).toNat := by
      rcases Nat.lt_trichotomy (en - st).toNat (sLen.getD i 0) with h | h | h
      · have := (nm_1 ⟨i, hi⟩ ⟨(en - st).toNat, by omega⟩).1 h
        dsimp only at this
        rcases h2 with h2 | h2
        · omega
        · exact absurd h2 this.2
      · exact h.symm
      · have h4 := (nm_1 ⟨i, hi⟩ ⟨sLen.getD i 0, by omega⟩).2 (Nat.le_refl _)
        dsimp only at h4
        have h5 := h3 _ h
        have h6 := hL (st + (sLen.getD i 0 : Nat)) (by omega) (by omega)
        rw [← h5, h4] at h6
        exact absurd h6 (by decide)
    refine ⟨by omega, fun k hk => ?_⟩
    rw [← h3 k (by omega)]
    exact (((nm_1 ⟨i, hi⟩ ⟨k, by omega⟩).1 hk).1).symm
  · intro ⟨h1, h2⟩
    have e : (en - st).toNat = sLen.getD i 0 := by omega
    rw [e]
    refine ⟨⟨by omega, ?_⟩, fun k hk => ?_⟩
    · by_cases h : sLen.getD i 0 = 7
      · exact Or.inl h
      · exact Or.inr ((nm_1 ⟨i, hi⟩ ⟨sLen.getD i 0, by omega⟩).2 (Nat.le_refl _))
    · rw [← h2 k hk]
      exact ((nm_1 ⟨i, hi⟩ ⟨k, by omega⟩).1 hk).1
def wdM (B : Int → Int) (st en : Int) : Int := if leastN (fun w => decide (nmP B st w.toNat (en - st).toNat)) 11 < 0 then 23 else leastN (fun w => decide (nmP B st w.toNat (en - st).toNat)) 11
theorem wd_iff {B : Int → Int} {st en : Int} {i : Nat} (hi : i < 11) (hL : ∀ j, st ≤ j → j < en → isL (B j) = true) (hlt : st < en) : wdM B st en = (cm i : Int) ↔ matchP B st en i := by
  have hc := cm_lt ⟨i, hi⟩
  dsimp only at hc
  rw [← nm_match hi hL hlt]
  unfold wdM
  rcases leastN_cases (fun w => decide (nmP B st w.toNat (en - st).toNat)) 11 with ⟨h1, h2⟩ | ⟨z, h1, h2, h3, h4⟩
  · rw [h1, if_pos (by omega)]
    constructor
    · intro h; omega
    · intro h
      have := h2 (cm i) hc
      simp only [Int.toNat_natCast, decide_eq_false_iff_not] at this
      exact absurd h this
  · rw [h2, if_neg (by omega)]
    simp only [Int.toNat_natCast, decide_eq_true_eq] at h3
    constructor
    · intro h
      rw [← show z = cm i by omega]
      exact h3
    · intro h
      have ho := cmi_ok ⟨z, h1⟩
      dsimp only at ho
      rw [← ho.2] at h3
      have m1 := (nm_match ho.1 hL hlt).mp h3
      have m2 := (nm_match hi hL hlt).mp h
      have e := nm_2 ⟨cmi z, ho.1⟩ ⟨i, hi⟩ (by have a1 := m1.1; have a2 := m2.1; show sLen.getD (cmi z) 0 = sLen.getD i 0; omega) (fun k hk => by
        have a1 := m1.2 k.val hk
        have a2 := m2.2 k.val (by have b1 := m1.1; have b2 := m2.1; dsimp only at hk; omega)
        show sbI (cmi z) k.val = sbI i k.val
        rw [a1, a2])
      have e2 : cmi z = i := congrArg Fin.val e
      rw [← e2, ho.2]
/-- the reference's number of the token behind p -/
def tokM (B : Int → Int) (n p : Int) : Int := if tK B n p = 0 then 22 else if tK B n p = 1 then wdM B (tS B n p) (tE B n p) else if tK B n p = 2 then 20 else if tK B n p = 3 then 21 else 23
theorem tok_letters {B : Int → Int} {n p : Int} (h : tK B n p = 1) : (∀ j, tS B n p ≤ j → j < tE B n p → isL (B j) = true) ∧ tS B n p < tE B n p := by
  unfold tK at h
  unfold tE
  by_cases h1 : n ≤ tS B n p
  · rw [if_pos h1] at h; omega
  · rw [if_neg h1] at h ⊢
    cases h2 : isL (B (tS B n p)) with
    | false =>
      rw [h2] at h
      simp only [Bool.false_eq_true, if_false] at h
      (repeat' split at h) <;> omega
    | true =>
      rw [if_pos rfl]
      refine ⟨fun j h3 h4 => scan_all isL B n _ _ j h3 h4, ?_⟩
      rw [scanF_go (by omega) h2]
      have := (scanF_rng (f := isL) (B := B) (n := n) (p := tS B n p + 1) (by omega)).1
      omega
theorem wdM_rng (B : Int → Int) (st en : Int) : (0 ≤ wdM B st en ∧ wdM B st en ≤ 10) ∨ wdM B st en = 23 := by
  unfold wdM
  rcases leastN_cases (fun w => decide (nmP B st w.toNat (en - st).toNat)) 11 with ⟨h1, h2⟩ | ⟨z, h1, h2, h3, h4⟩
  · rw [h1, if_pos (by omega)]; exact Or.inr rfl
  · rw [h2, if_neg (by omega)]; exact Or.inl (by omega)
theorem tokM_rng (B : Int → Int) (n p : Int) : (tK B n p = 1 ∧ ((0 ≤ tokM B n p ∧ tokM B n p ≤ 10) ∨ tokM B n p = 23)) ∨ (tK B n p = 0 ∧ tokM B n p = 22) ∨ (tK B n p = 2 ∧ tokM B n p = 20) ∨ (tK B n p = 3 ∧ tokM B n p = 21) ∨ (tK B n p = 4 ∧ tokM B n p = 23) := by
  have hk := tK_rng B n p
  have hw := wdM_rng B (tS B n p) (tE B n p)
  unfold tokM
  (repeat' split) <;> omega
theorem word_tok {B : Int → Int} {n p : Int} {i : Nat} (hi : i < 11) : (decide (tK B n p = 1) && decide (matchP B (tS B n p) (tE B n p) i)) = decide (tokM B n p = (cm i : Int)) := by
  have hc := cm_lt ⟨i, hi⟩
  dsimp only at hc
  by_cases h : tK B n p = 1
  · have hl := tok_letters h
    rw [decide_eq_true h, Bool.true_and]
    have e : tokM B n p = wdM B (tS B n p) (tE B n p) := by unfold tokM; rw [if_neg (by omega), if_pos h]
    rw [e]
    exact decide_eq_decide.mpr (wd_iff hi hl.1 hl.2).symm
  · rw [decide_eq_false h, Bool.false_and]
    have := tokM_rng B n p
    exact (decide_eq_false (by omega)).symm
def swapS (B : Int → Int) (n : Int) (Y : YS) (p : Int) : Bool × YS × Int := if tK B n p = 2 ∧ tV B n p ≤ Y 5 2 - 1 then (if (tK B n (tE B n p) = 2 ∧ tV B n (tE B n p) ≤ Y 5 2 - 1) ∧ ¬ tV B n (tE B n p) = tV B n p then (true, swapZ Y (tV B n p) (tV B n (tE B n p)), tE B n (tE B n p)) else (false, Y, tE B n p)) else (false, Y, p)
def trustS (B : Int → Int) (n : Int) (Y : YS) (c p : Int) : Bool × YS × Int := if tokM B n p = 6 then (if tK B n (tE B n p) = 2 ∧ tV B n (tE B n p) ≤ 99 then (true, upY Y 3 c (tV B n (tE B n p)), tE B n (tE B n p)) else (false, Y, tE B n p)) else (true, Y, p)
def likeS (B : Int → Int) (n c : Int) : Nat → Int → YS → Int → Bool × YS × Int
  | 0, _, Y, p => (true, Y, p)
  | f + 1, k, Y, p => if 0 < k ∧ ¬ tK B n p = 2 then (true, Y, p) else if tK B n p = 2 ∧ tV B n p ≤ 20 then likeS B n c f (k + 1) (upY Y 4 (c * 10 + k) (tV B n p)) (tE B n p) else (false, Y, p)
def likesS (B : Int → Int) (n : Int) (Y : YS) (c p : Int) : Bool × YS × Int := if tokM B n p = 7 then likeS B n c 4 0 Y (tE B n p) else (true, Y, p)
def bornS (B : Int → Int) (n : Int) (Y : YS) (c : Int) (r : Bool × YS × Int) : Bool × YS × Int := if r.1 = true then likesS B n r.2.1 c r.2.2 else r
def childS (B : Int → Int) (n : Int) (Y : YS) (k p : Int) : Bool × YS × Int := if Y 5 2 < 8 then (if tK B n (tE B n p) = 2 ∧ tV B n (tE B n p) ≤ 9 then bornS B n Y (Y 5 2) (trustS B n (addY Y k (tV B n (tE B n p))) (Y 5 2) (tE B n (tE B n p))) else (false, Y, tE B n p)) else (false, Y, p)
def itemS (B : Int → Int) (n : Int) (Y : YS) (p : Int) : Bool × YS × Int := if tokM B n p = 8 then (true, upY Y 5 1 1, tE B n p) else if tokM B n p = 9 then (true, upY Y 5 1 0, tE B n p) else if tokM B n p = 10 then swapS B n Y (tE B n p) else if 0 ≤ tokM B n p ∧ tokM B n p ≤ 5 then childS B n Y (tokM B n p) p else (false, Y, p)
def parseS (B : Int → Int) (n : Int) : Nat → Int → YS → Int → Int × YS
  | 0, _, Y, p => (-1 - tS B n p, Y)
  | f + 1, i, Y, p => if (itemS B n Y p).1 = true then (if tK B n (itemS B n Y p).2.2 = 0 then (i, (itemS B n Y p).2.1) else if tK B n (itemS B n Y p).2.2 = 3 then parseS B n f (i + 1) (itemS B n Y p).2.1 (tE B n (itemS B n Y p).2.2) else (-1 - tS B n (itemS B n Y p).2.2, Y)) else (-1 - tS B n (itemS B n Y p).2.2, Y)
def s_yard (T : TS) : Int × TS := ((parseS (T.2.2.1 2) (T.2.2.1 0 1) 120 1 T.1 0).1, ((if 0 ≤ (parseS (T.2.2.1 2) (T.2.2.1 0 1) 120 1 T.1 0).1 then (parseS (T.2.2.1 2) (T.2.2.1 0 1) 120 1 T.1 0).2 else T.1), T.2.1, upY T.2.2.1 0 1 0, T.2.2.2))
def vok (B : Int → Int) (n p v : Int) : Prop := (tK B n p = 2 → v = tV B n p) ∧ -2147483648 ≤ v ∧ v < 2147483648
theorem vok_next (B : Int → Int) {n p v : Int} (hv : -2147483648 ≤ v ∧ v < 2147483648) : vok B n p (if tK B n p = 2 then tV B n p else v) := by
  have := tV_rng B n p
  constructor
  · intro h; rw [if_pos h]
  · split <;> omega
