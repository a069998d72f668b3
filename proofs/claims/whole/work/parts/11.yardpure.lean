/-! ===== pure facts of a yard ===== -/
theorem Inv_c {Y : YS} (h : Inv Y) {c : Int} (hc : 0 ≤ c ∧ c < 8) : (0 ≤ Y 0 c ∧ Y 0 c ≤ 5) ∧ (0 ≤ Y 1 c ∧ Y 1 c ≤ 9) ∧ (0 ≤ Y 2 c ∧ Y 2 c ≤ 9999) ∧ (0 ≤ Y 3 c ∧ Y 3 c ≤ 99) := h.2.2.2.1 c hc.1 hc.2
theorem Inv_up0 {Y : YS} (h : Inv Y) {i v : Int} (hv : 0 ≤ v ∧ v ≤ 5) : Inv (upY Y 0 i v) := ⟨h.1, h.2.1, h.2.2.1, fun c h0 h8 => by
  have hh := h.2.2.2.1 c h0 h8
  refine ⟨?_, hh.2⟩
  show 0 ≤ up1 (Y 0) i v c ∧ up1 (Y 0) i v c ≤ 5
  unfold up1; split <;> omega, h.2.2.2.2⟩
theorem Inv_up1 {Y : YS} (h : Inv Y) {i v : Int} (hv : 0 ≤ v ∧ v ≤ 9) : Inv (upY Y 1 i v) := ⟨h.1, h.2.1, h.2.2.1, fun c h0 h8 => by
  have hh := h.2.2.2.1 c h0 h8
  refine ⟨hh.1, ?_, hh.2.2⟩
  show 0 ≤ up1 (Y 1) i v c ∧ up1 (Y 1) i v c ≤ 9
  unfold up1; split <;> omega, h.2.2.2.2⟩
theorem Inv_up2 {Y : YS} (h : Inv Y) {i v : Int} (hv : 0 ≤ v ∧ v ≤ 9999) : Inv (upY Y 2 i v) := ⟨h.1, h.2.1, h.2.2.1, fun c h0 h8 => by
  have hh := h.2.2.2.1 c h0 h8
  refine ⟨hh.1, hh.2.1, ?_, hh.2.2.2⟩
  show 0 ≤ up1 (Y 2) i v c ∧ up1 (Y 2) i v c ≤ 9999
  unfold up1; split <;> omega, h.2.2.2.2⟩
theorem Inv_up3 {Y : YS} (h : Inv Y) {i v : Int} (hv : 0 ≤ v ∧ v ≤ 99) : Inv (upY Y 3 i v) := ⟨h.1, h.2.1, h.2.2.1, fun c h0 h8 => by
  have hh := h.2.2.2.1 c h0 h8
  refine ⟨hh.1, hh.2.1, hh.2.2.1, ?_⟩
  show 0 ≤ up1 (Y 3) i v c ∧ up1 (Y 3) i v c ≤ 99
  unfold up1; split <;> omega, h.2.2.2.2⟩
theorem Inv_up4 {Y : YS} (h : Inv Y) {i v : Int} (hv : 0 ≤ v ∧ v ≤ 20) : Inv (upY Y 4 i v) := ⟨h.1, h.2.1, h.2.2.1, h.2.2.2.1, fun j h0 h8 => by
  have hh := h.2.2.2.2 j h0 h8
  show 0 ≤ up1 (Y 4) i v j ∧ up1 (Y 4) i v j ≤ 20
  unfold up1; split <;> omega⟩
theorem losesK_rng (k : Int) : 0 ≤ losesK k ∧ losesK k ≤ 10 := by
  unfold losesK
  split
  · omega
  · split <;> omega
theorem Inv_note {Y : YS} (h : Inv Y) {c : Int} (hc : 0 ≤ c ∧ c < 8) : Inv (noteZ Y c) := by
  have hh := Inv_c h hc
  have hk := losesK_rng (Y 0 c)
  unfold noteZ
  refine Inv_up3 (Inv_up2 h ?_) ?_
  · split <;> omega
  · split <;> omega
theorem Inv_swap {Y : YS} (h : Inv Y) {c o : Int} (hc : 0 ≤ c ∧ c < 8) (ho : 0 ≤ o ∧ o < 8) : Inv (swapZ Y c o) :=
  Inv_note (Inv_note (Inv_up1 (Inv_up1 h (Inv_c h ho).2.1) (Inv_c h hc).2.1) hc) ho
theorem cntN_up (H : Int → Int) (t i v : Int) : ∀ n : Nat, cntN (up1 H i v) t n = cntN H t n + (if 0 ≤ i ∧ i < n then eqI v t - eqI (H i) t else 0)
  | 0 => by
    simp only [cntN]
    rw [if_neg (by omega)]
    rfl
  | n + 1 => by
    have ih := cntN_up H t i v n
    unfold cntN
    rw [ih]
    by_cases h1 : (n : Int) = i
    · have e : up1 H i v (n : Int) = v := by unfold up1; rw [if_pos h1]
      have e2 : H (n : Int) = H i := by rw [h1]
      rw [e, e2, if_neg (by omega), if_pos (by omega)]
      omega
    · have e : up1 H i v (n : Int) = H (n : Int) := by unfold up1; rw [if_neg h1]
      rw [e]
      by_cases h2 : 0 ≤ i ∧ i < (n : Int)
      · rw [if_pos h2, if_pos (by omega)]; omega
      · rw [if_neg h2, if_neg (by omega)]; omega
/-- a swap changes no count -/
theorem cnt_swap {Y : YS} {c o : Int} (hc : 0 ≤ c ∧ c < Y 5 2) (ho : 0 ≤ o ∧ o < Y 5 2) (hco : c ≠ o) (t : Int) : cnt (swapZ Y c o) t = cnt Y t := by
  show cntN (up1 (up1 (Y 1) c (Y 1 o)) o (Y 1 c)) t (Y 5 2).toNat = cntN (Y 1) t (Y 5 2).toNat
  have e : up1 (Y 1) c (Y 1 o) o = Y 1 o := by unfold up1; rw [if_neg (fun h => hco h.symm)]
  rw [cntN_up, cntN_up, e, if_pos (by omega), if_pos (by omega)]
  omega
theorem Hol_swap {Y : YS} (h : Hol Y) {c o : Int} (hc : 0 ≤ c ∧ c < Y 5 2) (ho : 0 ≤ o ∧ o < Y 5 2) (hco : c ≠ o) : Hol (swapZ Y c o) := fun t h0 h1 => by
  rw [cnt_swap hc ho hco]
  exact h t h0 h1
/-! bits -/
theorem or_bit : ∀ i : Fin 8, ∀ s : Fin 128, s.val < 2 ^ i.val → iI (s.val : Int) ||| (iI 1 <<< (iI (i.val : Int) &&& 31)) = iI ((s.val : Int) + 2 ^ i.val) := by decide +kernel
theorem maskN_rng (f : Int → Bool) : ∀ n : Nat, 0 ≤ maskN f n ∧ maskN f n < 2 ^ n
  | 0 => by simp [maskN]
  | n + 1 => by
    have ih := maskN_rng f n
    unfold maskN
    rw [Int.pow_succ]
    split <;> omega
theorem mask_or (f : Int → Bool) {i : Nat} (hi : i < 8) : iI (maskN f i) ||| (iI 1 <<< (iI (i : Int) &&& 31)) = iI (maskN f i + 2 ^ i) := by
  have h := maskN_rng f i
  have h7 : (2 : Int) ^ i ≤ 128 := by
    rcases (show i = 0 ∨ i = 1 ∨ i = 2 ∨ i = 3 ∨ i = 4 ∨ i = 5 ∨ i = 6 ∨ i = 7 by omega) with e | e | e | e | e | e | e | e <;> subst e <;> decide
  have e := or_bit ⟨i, hi⟩ ⟨(maskN f i).toNat, by omega⟩ (by
    have h2 : ((2 ^ i : Nat) : Int) = 2 ^ i := by simp
    show (maskN f i).toNat < 2 ^ i
    omega)
  have e2 : (((maskN f i).toNat : Nat) : Int) = maskN f i := by omega
  rw [show ((⟨(maskN f i).toNat, by omega⟩ : Fin 128).val : Int) = maskN f i from e2] at e
  exact e
/-! the least -/
theorem leastN_none {f : Int → Bool} : ∀ {n : Nat}, (∀ j : Nat, j < n → f j = false) → leastN f n = -1
  | 0, _ => rfl
  | n + 1, h => by
    have ih := leastN_none (n := n) (fun j hj => h j (by omega))
    unfold leastN
    rw [ih, if_neg (by omega), h n (by omega)]
    rfl
theorem leastN_at {f : Int → Bool} {i : Nat} (h : ∀ j : Nat, j < i → f j = false) (hi : f i = true) : ∀ {n : Nat}, i < n → leastN f n = i
  | 0, hn => absurd hn (by omega)
  | n + 1, hn => by
    unfold leastN
    by_cases e : i = n
    · subst e
      rw [leastN_none h, if_neg (by omega), hi]
      rfl
    · rw [leastN_at h hi (n := n) (by omega), if_pos (by omega)]
theorem anyN_false {f : Int → Bool} : ∀ {n : Nat}, anyN f n = false ↔ ∀ j : Nat, j < n → f j = false
  | 0 => ⟨fun _ j hj => absurd hj (by omega), fun _ => rfl⟩
  | n + 1 => by
    have ih := anyN_false (f := f) (n := n)
    unfold anyN
    rw [Bool.or_eq_false_iff, ih]
    constructor
    · intro h j hj
      by_cases e : j = n
      · rw [e]; exact h.2
      · exact h.1 j (by omega)
    · intro h
      exact ⟨fun j hj => h j (by omega), h n (by omega)⟩
theorem anyN_true {f : Int → Bool} {n j : Nat} (hj : j < n) (h : f j = true) : anyN f n = true := by
  cases e : anyN f n with
  | true => rfl
  | false => rw [anyN_false.mp e j hj] at h; cases h
/-- two would swap -/
def pairY (Y : YS) : Bool := anyN (fun c => anyN (wsw Y c) c.toNat) (Y 5 2).toNat
