/-! ===== pure facts for the reference ===== -/
theorem mask_step_t {f : Int → Bool} {i : Nat} (hi : i < 8) (h : f i = true) : iI (maskN f i) ||| (iI 1 <<< (iI (i : Int) &&& 31)) = iI (maskN f (i + 1)) := by
  rw [mask_or f hi, maskN, if_pos h]
theorem mask_step_f {f : Int → Bool} {i : Nat} (h : f i = false) : iI (maskN f i) ||| iI 0 = iI (maskN f (i + 1)) := by
  rw [maskN, h, iI_0, Int32.or_zero]
  simp
theorem maskN_zero {f : Int → Bool} : ∀ {n : Nat}, maskN f n = 0 ↔ ∀ o : Nat, o < n → f o = false
  | 0 => ⟨fun _ o ho => absurd ho (by omega), fun _ => rfl⟩
  | n + 1 => by
    have ih := maskN_zero (f := f) (n := n)
    have hr := maskN_rng f n
    have hp : (0 : Int) < 2 ^ n := by
      have : (0 : Nat) < 2 ^ n := Nat.two_pow_pos n
      have e : ((2 ^ n : Nat) : Int) = 2 ^ n := by simp
      omega
    unfold maskN
    constructor
    · intro h
      have h1 : f n = false := by
        cases e : f n with
        | false => rfl
        | true => rw [e] at h; simp at h; omega
      rw [h1] at h
      simp at h
      exact lt_s (ih.mp h) h1
    · intro h
      rw [h n (by omega), ih.mpr (fun o ho => h o (by omega))]
      rfl
theorem wsw_self (Y : YS) (c : Int) : wsw Y c c = false := by simp [wsw, wants]
theorem wsw_comm (Y : YS) (c o : Int) : wsw Y c o = wsw Y o c := by unfold wsw; exact Bool.and_comm _ _
theorem or_zero_iff (x y : Int32) : x ||| y = 0 ↔ x = 0 ∧ y = 0 := by
  rw [← Int32.toBitVec_inj, ← Int32.toBitVec_inj, ← Int32.toBitVec_inj]
  exact BitVec.or_eq_zero_iff
theorem iI_eq0 {a : Int} (h : -2147483648 ≤ a ∧ a < 2147483648) : iI a = 0 ↔ a = 0 := iI_eq (b := 0) h (by omega)
theorem pair_false {Y : YS} (hI : Inv Y) : (∀ c : Nat, (c : Int) < Y 5 2 → maskN (wsw Y c) (Y 5 2).toNat = 0) ↔ pairY Y = false := by
  have hN := hI.1
  unfold pairY
  rw [anyN_false]
  constructor
  · intro h c hc
    show anyN (wsw Y c) ((c : Int).toNat) = false
    rw [anyN_false]
    intro o ho
    exact maskN_zero.mp (h c (by omega)) o (by simp at ho; omega)
  · intro h c hc
    rw [maskN_zero]
    intro o ho
    rcases (show o < c ∨ o = c ∨ c < o by omega) with e | e | e
    · exact anyN_false.mp (h c (by omega)) o (by simp; omega)
    · rw [e]; exact wsw_self Y c
    · rw [wsw_comm]
      exact anyN_false.mp (h o (by omega)) c (by simp; omega)
/-! rows that don't touch each other -/
theorem upY_comm (Y : YS) {w1 w2 : Nat} (h : w1 ≠ w2) (i1 v1 i2 v2 : Int) : upY (upY Y w1 i1 v1) w2 i2 v2 = upY (upY Y w2 i2 v2) w1 i1 v1 := by
  funext w j
  rw [upY_at, upY_at, upY_at, upY_at]
  by_cases h1 : w = w1 ∧ j = i1
  · rw [if_neg (by omega), if_pos h1, if_pos h1]
  · rw [if_neg h1, if_neg h1]
theorem note_comm (Y : YS) (c b v : Int) : upY (noteZ Y c) 1 b v = noteZ (upY Y 1 b v) c := by
  unfold noteZ
  rw [upY_comm _ (show (3 : Nat) ≠ 1 by decide), upY_comm Y (show (2 : Nat) ≠ 1 by decide)]
  rfl
theorem mro_congr {A B : YS} (h : ∀ w, w < 6 → A w = B w) (j : Int) : mro A j = mro B j := by
  unfold mro
  rw [h 5 (by omega), h 4 (by omega)]
  by_cases h3 : j < 3
  · rw [if_pos h3, if_pos h3]
  · rw [if_neg h3, if_neg h3]
    by_cases h4 : (j - 3) % 14 < 4
    · rw [if_pos h4, if_pos h4, h _ (by omega)]
    · rw [if_neg h4, if_neg h4]
/-- one more comes, as the reference has it -/
def come0 (Z : YS) (k t tr : Int) : YS := upY (upY (upY (upY (upY Z 5 2 (Z 5 2 + 1)) 0 (Z 5 2) k) 1 (Z 5 2) t) 2 (Z 5 2) 0) 3 (Z 5 2) tr
def comeZ (Z : YS) (k t tr : Int) : YS := addN (come0 Z k t tr) (Z 5 2) 10
theorem addN_row {A : YS} {c : Int} : ∀ (n w : Nat), w ≠ 4 → addN A c n w = A w
  | 0, w, _ => rfl
  | n + 1, w, h => by
    have ih := addN_row (A := A) (c := c) n w h
    funext j
    unfold addN
    rw [upY_at, if_neg (by omega), ih]
theorem addN_row4 {A B : YS} {c : Int} (h : A 4 = B 4) : ∀ n : Nat, addN A c n 4 = addN B c n 4
  | 0 => h
  | n + 1 => by
    have ih := addN_row4 (c := c) h n
    funext j
    unfold addN
    rw [upY_at, upY_at, ih]
theorem come_add (Z : YS) (k t : Int) (w : Nat) (hw : w < 6) : comeZ Z k t 50 w = addY Z k t w := by
  unfold comeZ addY
  by_cases h : w = 4
  · subst h
    exact addN_row4 rfl 10
  · rw [addN_row 10 w h, addN_row 10 w h]
    funext j
    unfold come0 add0
    rw [upY_at, upY_at, upY_at, upY_at, upY_at, upY_at, upY_at, upY_at, upY_at, upY_at, upY_at]
    repeat (split; (first | rfl | skip))
    all_goals (first | rfl | omega)
def ringP (Y : YS) (x y z : Int) : Bool := wants Y x y && wants Y y z && wants Y z x
