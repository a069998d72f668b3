/-! ===== sheets ===== -/
def cutL (bi : Int) (v : Int64) : Int64 := if bi = 8 then v.toInt32.toInt8.toInt32.toInt64 else if bi = 16 then v.toInt32.toInt16.toInt32.toInt64 else v
/-! ===== the tape: bytes B, how many n ===== -/
def tapew (D : va_G) (a : Nat → Nat) (B : Int → Int) (n tk st en va : Int) : va_W := [(a 0, .inr (2, [.ref (a 1), .int (iI n), .int (iI tk), .int (iI st), .int (iI en), .int (iI va)])), (a 1, .inl (D.1 100, 120, .inl (ia B)))]
def isL (b : Int) : Bool := decide (97 ≤ b ∧ b ≤ 122)
def isD (b : Int) : Bool := decide (48 ≤ b ∧ b ≤ 57)
def isS (b : Int) : Bool := decide (b = 32)
def scan (f : Int → Bool) (B : Int → Int) (n : Int) : Nat → Int → Int
  | 0, p => p
  | k + 1, p => if f (B p) then scan f B n k (p + 1) else p
/-- the first place from p on, below n, whose byte is none of f, or n -/
def scanF (f : Int → Bool) (B : Int → Int) (n p : Int) : Int := scan f B n (n - p).toNat p
theorem scanF_stop {f : Int → Bool} {B : Int → Int} {n p : Int} (h : n ≤ p ∨ f (B p) = false) : scanF f B n p = p := by
  unfold scanF
  rcases h with h | h
  · rw [show (n - p).toNat = 0 by omega]; rfl
  · cases e : (n - p).toNat with
    | zero => rfl
    | succ k => unfold scan; rw [h]; rfl
theorem scanF_go {f : Int → Bool} {B : Int → Int} {n p : Int} (h : p < n) (h2 : f (B p) = true) : scanF f B n p = scanF f B n (p + 1) := by
  unfold scanF
  rw [show (n - p).toNat = (n - (p + 1)).toNat + 1 by omega]
  show (if f (B p) then _ else _) = _
  rw [h2]
  rfl
theorem scan_rng (f : Int → Bool) (B : Int → Int) (n : Int) : ∀ (k : Nat) (p : Int), p ≤ scan f B n k p ∧ scan f B n k p ≤ p + k
  | 0, p => by unfold scan; omega
  | k + 1, p => by
    have ih := scan_rng f B n k (p + 1)
    unfold scan
    split <;> omega
theorem scanF_rng {f : Int → Bool} {B : Int → Int} {n p : Int} (h : p ≤ n) : p ≤ scanF f B n p ∧ scanF f B n p ≤ n := by
  have h1 := scan_rng f B n (n - p).toNat p
  unfold scanF
  omega
/-- all bytes that were passed are of f -/
theorem scan_all (f : Int → Bool) (B : Int → Int) (n : Int) : ∀ (k : Nat) (p j : Int), p ≤ j → j < scan f B n k p → f (B j) = true
  | 0, p, j, h1, h2 => by unfold scan at h2; omega
  | k + 1, p, j, h1, h2 => by
    unfold scan at h2
    cases e : f (B p) with
    | false => rw [e] at h2; simp at h2; omega
    | true =>
      rw [e] at h2
      by_cases e2 : j = p
      · rw [e2]; exact e
      · exact scan_all f B n k (p + 1) j (by omega) h2
def numV (B : Int → Int) : Nat → Int → Int → Int
  | 0, _, v => v
  | k + 1, p, v => if isD (B p) then numV B k (p + 1) (if v ≤ 999 then 10 * v + B p - 48 else v) else v
def numF (B : Int → Int) (n p v : Int) : Int := numV B (n - p).toNat p v
theorem numF_stop {B : Int → Int} {n p v : Int} (h : n ≤ p ∨ isD (B p) = false) : numF B n p v = v := by
  unfold numF
  rcases h with h | h
  · rw [show (n - p).toNat = 0 by omega]; rfl
  · cases e : (n - p).toNat with
    | zero => rfl
    | succ k => unfold numV; rw [h]; rfl
theorem numF_go {B : Int → Int} {n p v : Int} (h : p < n) (h2 : isD (B p) = true) : numF B n p v = numF B n (p + 1) (if v ≤ 999 then 10 * v + B p - 48 else v) := by
  unfold numF
  rw [show (n - p).toNat = (n - (p + 1)).toNat + 1 by omega]
  show (if isD (B p) then _ else _) = _
  rw [h2]
  rfl
theorem numV_rng (B : Int → Int) : ∀ (k : Nat) (p v : Int), 0 ≤ v ∧ v ≤ 9999 → 0 ≤ numV B k p v ∧ numV B k p v ≤ 9999
  | 0, p, v, h => h
  | k + 1, p, v, h => by
    unfold numV
    cases e : isD (B p) with
    | false => exact h
    | true =>
      have h1 : 48 ≤ B p ∧ B p ≤ 57 := of_decide_eq_true e
      refine numV_rng B k (p + 1) _ ?_
      split <;> omega
/-- the token behind place p: its start, its kind (0 end, 1 word, 2 number, 3 semicolon, 4 other), its end, its value -/
def tS (B : Int → Int) (n p : Int) : Int := scanF isS B n p
def tK (B : Int → Int) (n p : Int) : Int := if n ≤ tS B n p then 0 else if isL (B (tS B n p)) then 1 else if isD (B (tS B n p)) then 2 else if B (tS B n p) = 59 then 3 else 4
def tE (B : Int → Int) (n p : Int) : Int := if n ≤ tS B n p then tS B n p else if isL (B (tS B n p)) then scanF isL B n (tS B n p) else if isD (B (tS B n p)) then scanF isD B n (tS B n p) else tS B n p + 1
def tV (B : Int → Int) (n p : Int) : Int := if n ≤ tS B n p then 0 else if isL (B (tS B n p)) then 0 else if isD (B (tS B n p)) then numF B n (tS B n p) 0 else 0
theorem tE_rng {B : Int → Int} {n p : Int} (h : 0 ≤ p ∧ p ≤ n) : (p ≤ tS B n p ∧ tS B n p ≤ n) ∧ tS B n p ≤ tE B n p ∧ tE B n p ≤ n := by
  have h1 := scanF_rng (f := isS) (B := B) h.2
  have h2 : tS B n p ≤ n := h1.2
  have h3 := scanF_rng (f := isL) (B := B) h2
  have h4 := scanF_rng (f := isD) (B := B) h2
  refine ⟨h1, ?_⟩
  unfold tE
  split
  · omega
  · split
    · exact h3
    · split
      · exact h4
      · omega
theorem tV_rng (B : Int → Int) (n p : Int) : 0 ≤ tV B n p ∧ tV B n p ≤ 9999 := by
  unfold tV
  split
  · omega
  · split
    · omega
    · split
      · exact numV_rng B _ _ 0 (by omega)
      · omega
theorem tK_rng (B : Int → Int) (n p : Int) : 0 ≤ tK B n p ∧ tK B n p ≤ 4 := by
  unfold tK
  split
  · omega
  · split
    · omega
    · split
      · omega
      · split <;> omega
/-- every byte of the tape is one -/
def bytesOk (B : Int → Int) : Prop := ∀ j, 0 ≤ j → j < 120 → 0 ≤ B j ∧ B j ≤ 255
