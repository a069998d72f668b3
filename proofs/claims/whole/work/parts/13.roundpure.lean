/-! ===== pure facts of a round ===== -/
theorem nextN_rng (Y : YS) (c : Int) (asked : Int32) : ∀ n : Nat, -1 ≤ nextN Y c asked n ∧ nextN Y c asked n < n
  | 0 => by simp [nextN]
  | n + 1 => by
    have ih := nextN_rng Y c asked n
    unfold nextN
    split <;> omega
theorem nextN_skip {Y : YS} {c : Int} {asked : Int32} {n : Nat} (h : opn Y c asked n = false) : nextN Y c asked n = nextN Y c asked (n + 1) := by
  rw [nextN, h]
  rfl
theorem nextN_take {Y : YS} {c : Int} {asked : Int32} {n : Nat} (h : opn Y c asked n = true) (h2 : nextN Y c asked n < 0 ∨ worth Y c (Y 1 (nextN Y c asked n)) < worth Y c (Y 1 n)) : (n : Int) = nextN Y c asked (n + 1) := by
  rw [nextN, h, if_pos]
  simpa using h2
theorem nextN_keep {Y : YS} {c : Int} {asked : Int32} {n : Nat} (h2 : ¬ (nextN Y c asked n < 0 ∨ worth Y c (Y 1 (nextN Y c asked n)) < worth Y c (Y 1 n))) : nextN Y c asked n = nextN Y c asked (n + 1) := by
  rw [nextN, if_neg]
  intro h
  rw [Bool.and_eq_true] at h
  exact h2 (by simpa using h.2)
theorem nextN_opn {Y : YS} {c : Int} {asked : Int32} : ∀ {n : Nat}, 0 ≤ nextN Y c asked n → opn Y c asked (nextN Y c asked n) = true
  | 0, h => absurd h (by simp [nextN])
  | n + 1, h => by
    unfold nextN at h ⊢
    split
    · next h1 =>
      rw [Bool.and_eq_true] at h1
      exact h1.1
    · next h1 =>
      rw [if_neg h1] at h
      exact nextN_opn h
theorem opn_ne {Y : YS} {c o : Int} {asked : Int32} (h : opn Y c asked o = true) : Y 1 o ≠ Y 1 c := by
  unfold opn at h
  rw [Bool.and_eq_true] at h
  simpa using h.2
theorem nextZ_rng {Y : YS} (hI : Inv Y) (c : Int) (asked : Int32) : -1 ≤ nextZ Y c asked ∧ nextZ Y c asked < Y 5 2 := by
  have h := nextN_rng Y c asked (Y 5 2).toNat
  have h2 := hI.1
  unfold nextZ
  omega
theorem turnO_rng {Y : YS} (hI : Inv Y) (c : Int) : ∀ (n : Nat) (asked : Int32), turnO Y c n asked = -1 ∨ ((0 ≤ turnO Y c n asked ∧ turnO Y c n asked < Y 5 2) ∧ Y 1 (turnO Y c n asked) ≠ Y 1 c)
  | 0, _ => Or.inl rfl
  | n + 1, asked => by
    have ih := turnO_rng hI c n (asked ||| (iI 1 <<< (iI (nextZ Y c asked) &&& 31)))
    have h := nextZ_rng hI c asked
    unfold turnO
    split
    · exact Or.inl rfl
    · next h1 =>
      split
      · exact Or.inr ⟨by omega, opn_ne (nextN_opn (by unfold nextZ at h1; omega))⟩
      · exact ih
theorem partner_rng {Y : YS} (hI : Inv Y) (c : Int) : partner Y c = -1 ∨ ((0 ≤ partner Y c ∧ partner Y c < Y 5 2) ∧ partner Y c ≠ c) := by
  rcases turnO_rng hI c (asksK (Y 0 c) (Y 5 0)).toNat (iI 0) with h | h
  · exact Or.inl h
  · exact Or.inr ⟨h.1, fun e => h.2 (by show Y 1 (partner Y c) = _; rw [e])⟩
theorem turnZ_ok {Y : YS} (hI : Inv Y) {c : Int} (hc : 0 ≤ c ∧ c < Y 5 2) : Inv (turnZ Y c) ∧ (turnZ Y c) 5 = Y 5 ∧ (turnZ Y c) 0 = Y 0 ∧ (turnZ Y c) 4 = Y 4 ∧ (Hol Y → Hol (turnZ Y c)) := by
  have hs := hI.1
  unfold turnZ
  split
  · exact ⟨hI, rfl, rfl, rfl, fun h => h⟩
  · next h =>
    rcases partner_rng hI c with h1 | h1
    · omega
    · exact ⟨Inv_swap hI (by omega) (by omega), rfl, rfl, rfl, fun hH => Hol_swap hH hc h1.1 (fun e => h1.2 e.symm)⟩
theorem turnsN_ok {Y : YS} (hI : Inv Y) : ∀ n : Nat, (n : Int) ≤ Y 5 2 → Inv (turnsN Y n) ∧ (turnsN Y n) 5 = Y 5 ∧ (turnsN Y n) 0 = Y 0 ∧ (turnsN Y n) 4 = Y 4 ∧ (Hol Y → Hol (turnsN Y n))
  | 0, _ => ⟨hI, rfl, rfl, rfl, fun h => h⟩
  | n + 1, hn => by
    have ih := turnsN_ok hI n (by omega)
    have h5 : (turnsN Y n) 5 2 = Y 5 2 := by rw [ih.2.1]
    have h := turnZ_ok ih.1 (c := (n : Int)) (by omega)
    unfold turnsN
    exact ⟨h.1, by rw [h.2.1, ih.2.1], by rw [h.2.2.1, ih.2.2.1], by rw [h.2.2.2.1, ih.2.2.2.1], fun hH => h.2.2.2.2 (ih.2.2.2.2 hH)⟩
theorem Inv_up50 {Y : YS} (h : Inv Y) {v : Int} (hv : 0 ≤ v) : Inv (upY Y 5 0 v) := ⟨h.1, hv, h.2.2.1, h.2.2.2.1, h.2.2.2.2⟩
theorem roundZ_ok {Y : YS} (hI : Inv Y) : Inv (roundZ Y) ∧ (roundZ Y) 5 2 = Y 5 2 ∧ (roundZ Y) 5 1 = Y 5 1 ∧ (roundZ Y) 5 0 = Y 5 0 + 1 ∧ (roundZ Y) 0 = Y 0 ∧ (roundZ Y) 4 = Y 4 ∧ (Hol Y → Hol (roundZ Y)) := by
  have hs := hI.1
  have h := turnsN_ok hI (Y 5 2).toNat (by omega)
  have h0 := hI.2.1
  refine ⟨Inv_up50 h.1 (by omega), ?_, ?_, rfl, h.2.2.1, h.2.2.2.1, fun hH => h.2.2.2.2 hH⟩
  · show (turnsN Y (Y 5 2).toNat) 5 2 = _
    rw [h.2.1]
  · show (turnsN Y (Y 5 2).toNat) 5 1 = _
    rw [h.2.1]
theorem goZ_ok {Y : YS} (hI : Inv Y) : ∀ n : Nat, Inv (goZ Y n) ∧ (goZ Y n) 5 2 = Y 5 2 ∧ (goZ Y n) 5 1 = Y 5 1 ∧ (goZ Y n) 5 0 = Y 5 0 + n ∧ (goZ Y n) 0 = Y 0 ∧ (goZ Y n) 4 = Y 4 ∧ (Hol Y → Hol (goZ Y n))
  | 0 => ⟨hI, rfl, rfl, (Int.add_zero _).symm, rfl, rfl, fun h => h⟩
  | n + 1 => by
    have ih := goZ_ok hI n
    have h := roundZ_ok ih.1
    unfold goZ
    refine ⟨h.1, by rw [h.2.1, ih.2.1], by rw [h.2.2.1, ih.2.2.1], ?_, by rw [h.2.2.2.2.1, ih.2.2.2.2.1], by rw [h.2.2.2.2.2.1, ih.2.2.2.2.2.1], fun hH => h.2.2.2.2.2.2 (ih.2.2.2.2.2.2 hH)⟩
    rw [h.2.2.2.1, ih.2.2.2.1]
    omega
/-! quiet rounds -/
def quietR (Y : YS) (r : Int) : Prop := ∀ c : Nat, (c : Int) < Y 5 2 → partner (upY Y 5 0 r) c < 0
def QI (Y : YS) (q : Int) : Prop := q = 0 ∨ (q = 1 ∧ quietR Y (Y 5 0 - 1)) ∨ (q = 2 ∧ quietR Y 0 ∧ quietR Y 1)
theorem asksK_mod (k r s : Int) (h : r % 2 = s % 2) : asksK k r = asksK k s := by unfold asksK; rw [h]
theorem upY_self (Y : YS) (w : Nat) (i : Int) : upY Y w i (Y w i) = Y := by
  funext w' j
  unfold upY
  cases e : Nat.beq w' w with
  | false => rfl
  | true =>
    have e1 : w' = w := Nat.eq_of_beq_eq_true e
    subst e1
    show up1 (Y w') i (Y w' i) j = Y w' j
    unfold up1
    split
    · next h => rw [h]
    · rfl
theorem upY_twice (Y : YS) (w : Nat) (i v u : Int) : upY (upY Y w i v) w i u = upY Y w i u := by
  funext w' j
  unfold upY
  cases e : Nat.beq w' w with
  | false => rfl
  | true =>
    show up1 (up1 (Y w') i v) i u j = up1 (Y w') i u j
    unfold up1
    split <;> rfl
/-- whom one asks goes by ROUND only by how many it asks -/
theorem nextN_50 (Y : YS) (r : Int) (c : Int) (asked : Int32) : ∀ n : Nat, nextN (upY Y 5 0 r) c asked n = nextN Y c asked n
  | 0 => rfl
  | n + 1 => by
    have ih := nextN_50 Y r c asked n
    unfold nextN
    rw [ih]
    rfl
theorem turnO_50 (Y : YS) (r : Int) (c : Int) : ∀ (n : Nat) (asked : Int32), turnO (upY Y 5 0 r) c n asked = turnO Y c n asked
  | 0, _ => rfl
  | n + 1, asked => by
    have e : nextZ (upY Y 5 0 r) c asked = nextZ Y c asked := nextN_50 Y r c asked _
    unfold turnO
    rw [e, turnO_50 Y r c n]
    rfl
theorem partner_50 (Y : YS) (r : Int) (c : Int) : partner (upY Y 5 0 r) c = turnO Y c (asksK (Y 0 c) r).toNat (iI 0) := turnO_50 Y r c _ _
theorem quietR_mod {Y : YS} {r s : Int} (h : r % 2 = s % 2) (hq : quietR Y r) : quietR Y s := fun c hc => by
  have := hq c hc
  rw [partner_50] at this ⊢
  rw [asksK_mod _ s r h.symm]
  exact this
theorem quietR_50 {Y : YS} {r v : Int} (hq : quietR Y r) : quietR (upY Y 5 0 v) r := fun c hc => by
  rw [upY_twice]
  exact hq c hc
def qN (Y : YS) : Nat → Bool
  | 0 => true
  | n + 1 => qN Y n && decide (partner (turnsN Y n) (n : Int) < 0)
theorem qN_same {Y : YS} : ∀ {n : Nat}, qN Y n = true → turnsN Y n = Y ∧ ∀ c : Nat, c < n → partner Y c < 0
  | 0, _ => ⟨rfl, fun c hc => absurd hc (by omega)⟩
  | n + 1, h => by
    unfold qN at h
    rw [Bool.and_eq_true] at h
    have ih := qN_same h.1
    have h2 : partner Y (n : Int) < 0 := by
      have := of_decide_eq_true h.2
      rw [ih.1] at this
      exact this
    refine ⟨?_, lt_s ih.2 h2⟩
    unfold turnsN turnZ
    rw [ih.1, if_pos h2]
theorem quiet_qN {Y : YS} (hq : ∀ c : Nat, (c : Int) < Y 5 2 → partner Y c < 0) : ∀ n : Nat, (n : Int) ≤ Y 5 2 → turnsN Y n = Y
  | 0, _ => rfl
  | n + 1, hn => by
    have ih := quiet_qN hq n (by omega)
    unfold turnsN turnZ
    rw [ih, if_pos (hq n (by omega))]
theorem quiet_round {Y : YS} (hI : Inv Y) (hq : quietR Y 0 ∧ quietR Y 1) : roundZ Y = upY Y 5 0 (Y 5 0 + 1) := by
  have hs := hI.1
  have h : quietR Y (Y 5 0) := by
    rcases (show Y 5 0 % 2 = 0 % 2 ∨ Y 5 0 % 2 = 1 % 2 by omega) with e | e
    · exact quietR_mod e.symm hq.1
    · exact quietR_mod e.symm hq.2
  have h2 : ∀ c : Nat, (c : Int) < Y 5 2 → partner Y c < 0 := fun c hc => by
    have := h c hc
    rw [upY_self] at this
    exact this
  unfold roundZ
  rw [quiet_qN h2 _ (by omega)]
theorem QI_2 {Y : YS} (hI : Inv Y) (h : QI Y 2) : roundZ Y = upY Y 5 0 (Y 5 0 + 1) ∧ QI (roundZ Y) 2 := by
  rcases h with h | h | h
  · omega
  · omega
  · have e := quiet_round hI h.2
    refine ⟨e, ?_⟩
    rw [e]
    exact Or.inr (Or.inr ⟨rfl, quietR_50 h.2.1, quietR_50 h.2.2⟩)
theorem QI_step {Y : YS} (hI : Inv Y) {q : Int} (h : QI Y q) (hq : q < 2) (hN : qN Y (Y 5 2).toNat = true) : QI (roundZ Y) (q + 1) := by
  have hs := hI.1
  have hq2 := qN_same hN
  have e : roundZ Y = upY Y 5 0 (Y 5 0 + 1) := by unfold roundZ; rw [hq2.1]
  have hr : quietR Y (Y 5 0) := fun c hc => by
    rw [upY_self]
    exact hq2.2 c (by omega)
  rw [e]
  rcases h with h | h | h
  · subst h
    refine Or.inr (Or.inl ⟨rfl, ?_⟩)
    show quietR (upY Y 5 0 (Y 5 0 + 1)) (Y 5 0 + 1 - 1)
    rw [Int.add_sub_cancel]
    exact quietR_50 hr
  · obtain ⟨rfl, h⟩ := h
    refine Or.inr (Or.inr ⟨rfl, ?_⟩)
    rcases (show Y 5 0 % 2 = 0 ∨ Y 5 0 % 2 = 1 by omega) with e | e
    · exact ⟨quietR_50 (quietR_mod (by omega) hr), quietR_50 (quietR_mod (by omega) h)⟩
    · exact ⟨quietR_50 (quietR_mod (by omega) h), quietR_50 (quietR_mod (by omega) hr)⟩
  · omega
