theorem parse_rngN (B : Int → Int) {n : Int} (hn : 0 ≤ n ∧ n ≤ 120) : ∀ (f : Nat) (i : Int) {Y : YS} {p : Int}, Inv Y → Hol Y → 0 ≤ p ∧ p ≤ n → 0 ≤ i → (-121 ≤ (parseS B n f i Y p).1 ∧ (parseS B n f i Y p).1 ≤ i + f) ∧ (0 ≤ (parseS B n f i Y p).1 → Inv (parseS B n f i Y p).2 ∧ Hol (parseS B n f i Y p).2 ∧ (parseS B n f i Y p).2 5 0 = Y 5 0)
  | 0, i, Y, p, hI, hH, hp, hi => by
    have h1 := tE_rng (B := B) hp
    unfold parseS
    exact ⟨by dsimp only; omega, fun h => absurd h (by dsimp only; omega)⟩
  | f + 1, i, Y, p, hI, hH, hp, hi => by
    have hit := (itemS_ok B hI hH hp).1
    have hit2 := hit.2
    have h1 := tE_rng (B := B) (n := n) (p := (itemS B n Y p).2.2) (by omega)
    unfold parseS
    split
    · split
      · exact ⟨by dsimp only; omega, fun _ => hit.1⟩
      · split
        · have ih := parse_rngN B hn f (i + 1) (Y := (itemS B n Y p).2.1) (p := tE B n (itemS B n Y p).2.2) hit.1.1 hit.1.2.1 (by omega) (by omega)
          refine ⟨by have := ih.1; omega, fun h => ?_⟩
          have h2 := ih.2 h
          exact ⟨h2.1, h2.2.1, h2.2.2.trans hit.1.2.2⟩
        · exact ⟨by dsimp only; omega, fun h => absurd h (by dsimp only; omega)⟩
    · exact ⟨by dsimp only; omega, fun h => absurd h (by dsimp only; omega)⟩
theorem parse_rng (B : Int → Int) {n : Int} {Y : YS} (hI : Inv Y) (hH : Hol Y) (hn : 0 ≤ n ∧ n ≤ 120) : (-121 ≤ (parseS B n 120 1 Y 0).1 ∧ (parseS B n 120 1 Y 0).1 ≤ 121) ∧ (0 ≤ (parseS B n 120 1 Y 0).1 → Inv (parseS B n 120 1 Y 0).2 ∧ Hol (parseS B n 120 1 Y 0).2 ∧ (parseS B n 120 1 Y 0).2 5 0 = Y 5 0) := by
  have h := parse_rngN B hn 120 1 (Y := Y) (p := 0) hI hH (by omega) (by omega)
  exact ⟨by have := h.1; omega, h.2⟩
