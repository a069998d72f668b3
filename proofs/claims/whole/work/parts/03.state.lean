/-! ===== a yard's state: rows 0 kinds, 1 has, 2 swapped, 3 trusts, 4 liked (10 c + t), 5 round, teacher, size; 8 holders; beside them x, z: which, most of toAsk; q: quiet ===== -/
abbrev YS : Type := Nat → Int → Int
def upY (Y : YS) (w : Nat) (i v : Int) : YS := fun w' => cond (Nat.beq w' w) (up1 (Y w') i v) (Y w')
def yw (D : va_G) (a : Nat → Nat) (Y : YS) (x z q : Int) : va_W :=
  [(a 0, .inr (3, [.int (iI (Y 5 0)), .int (iI (Y 5 1)), .int (iI (Y 5 2)), .ref (a 1), .ref (a 2), .ref (a 3), .ref (a 4), .ref (a 5), .ref (a 6), .ref (a 7), .int (iI q)])),
   (a 1, .inl (D.1 100, 8, .inl (ia (Y 0)))), (a 2, .inl (D.1 100, 8, .inl (ia (Y 1)))), (a 3, .inl (D.1 100, 8, .inl (ia (Y 2)))), (a 4, .inl (D.1 100, 8, .inl (ia (Y 3)))),
   (a 5, .inl (D.1 100, 80, .inl (ia (Y 4)))), (a 6, .inl (D.1 100, 10, .inl (ia (Y 8)))), (a 7, .inr (0, [.int (iI x), .int (iI z)]))]
def bestw (a : Nat) (x y : Int) : va_W := [(a, .inr (0, [.int (iI x), .int (iI y)]))]
/-! the rules in which the kinds differ -/
def worthK (k t l h : Int) : Int := if k = 1 ∨ k = 4 then (if h = 1 then l + 3 else l) else if k = 3 then (if t = 9 then -20 else l) else if k = 5 then l + h else l
def agK (k g s u : Int) : Bool := if k = 1 then decide (3 ≤ g) else if k = 2 then decide (0 < g) && decide (u = 0) else if k = 4 then decide (0 ≤ g) && decide (s < 20) else if k = 5 then decide ((if s = 0 then 1 else 0) < g) && decide (u = 0) else decide (0 < g)
def asksK (k r : Int) : Int := if k = 1 ∨ k = 4 then 7 else if k = 2 then (if r % 2 = 0 then 1 else 0) else if k = 5 then (if r % 2 = 0 then 1 else 0) + 1 else 2
def losesK (k : Int) : Int := if k = 1 then 1 else if k = 4 then 10 else 0
def underK (k top : Int) : Bool := decide (top = 0) || decide (k = top) || (decide (k = 4) && decide (top = 1)) || (decide (k = 5) && decide (top = 2))
/-! the yard's questions -/
def eqI (x t : Int) : Int := if x = t then 1 else 0
def cntN (H : Int → Int) (t : Int) : Nat → Int
  | 0 => 0
  | n + 1 => cntN H t n + eqI (H (n : Int)) t
def cnt (Y : YS) (t : Int) : Int := cntN (Y 1) t (Y 5 2).toNat
def worth (Y : YS) (c t : Int) : Int := worthK (Y 0 c) t (Y 4 (c * 10 + t)) (cnt Y t)
def glad (Y : YS) (c : Int) : Int := worth Y c (Y 1 c)
def agree (Y : YS) (c t : Int) : Bool := agK (Y 0 c) (worth Y c t - worth Y c (Y 1 c)) (Y 2 c) (Y 5 1)
def wants (Y : YS) (c o : Int) : Bool := decide (Y 1 c ≠ Y 1 o) && agree Y c (Y 1 o)
def wsw (Y : YS) (c o : Int) : Bool := wants Y c o && wants Y o c
def sumN (f : Int → Int) : Nat → Int
  | 0 => 0
  | n + 1 => sumN f n + f (n : Int)
def maskN (f : Int → Bool) : Nat → Int
  | 0 => 0
  | n + 1 => maskN f n + (if f (n : Int) then 2 ^ n else 0)
def orN (f : Int → Int) : Nat → Int32
  | 0 => iI 0
  | n + 1 => orN f n ||| (iI 1 <<< (iI (f (n : Int)) &&& 31))
def anyN (f : Int → Bool) : Nat → Bool
  | 0 => false
  | n + 1 => anyN f n || f (n : Int)
/-- the least c below n with f, or -1 -/
def leastN (f : Int → Bool) : Nat → Int
  | 0 => -1
  | n + 1 => if 0 ≤ leastN f n then leastN f n else if f (n : Int) then (n : Int) else -1
def noteZ (Y : YS) (c : Int) : YS := upY (upY Y 2 c (if Y 2 c + 1 < 9999 then Y 2 c + 1 else 9999)) 3 c (if 0 < Y 3 c - losesK (Y 0 c) then Y 3 c - losesK (Y 0 c) else 0)
def swapZ (Y : YS) (c o : Int) : YS := noteZ (noteZ (upY (upY Y 1 c (Y 1 o)) 1 o (Y 1 c)) c) o
def opn (Y : YS) (c : Int) (asked : Int32) (o : Int) : Bool := decide ((asked >>> (iI o &&& 31)) &&& iI 1 = 0) && decide (10 ≤ Y 3 o) && decide (Y 1 o ≠ Y 1 c)
/-- whom c asks next, of the first n -/
def nextN (Y : YS) (c : Int) (asked : Int32) : Nat → Int
  | 0 => -1
  | n + 1 => if opn Y c asked n && (decide (nextN Y c asked n < 0) || decide (worth Y c (Y 1 (nextN Y c asked n)) < worth Y c (Y 1 n))) then (n : Int) else nextN Y c asked n
def nextZ (Y : YS) (c : Int) (asked : Int32) : Int := nextN Y c asked (Y 5 2).toNat
/-- with whom c swaps in its turn, with n asks left, or -1 -/
def turnO (Y : YS) (c : Int) : Nat → Int32 → Int
  | 0, _ => -1
  | n + 1, asked => if nextZ Y c asked < 0 then -1 else if agree Y c (Y 1 (nextZ Y c asked)) && agree Y (nextZ Y c asked) (Y 1 c) then nextZ Y c asked else turnO Y c n (asked ||| (iI 1 <<< (iI (nextZ Y c asked) &&& 31)))
def partner (Y : YS) (c : Int) : Int := turnO Y c (asksK (Y 0 c) (Y 5 0)).toNat (iI 0)
def turnZ (Y : YS) (c : Int) : YS := if partner Y c < 0 then Y else swapZ Y c (partner Y c)
def turnsN (Y : YS) : Nat → YS
  | 0 => Y
  | n + 1 => turnZ (turnsN Y n) (n : Int)
def roundZ (Y : YS) : YS := upY (turnsN Y (Y 5 2).toNat) 5 0 (Y 5 0 + 1)
def goZ (Y : YS) : Nat → YS
  | 0 => Y
  | n + 1 => roundZ (goZ Y n)
/-- what holds of every yard -/
def Inv (Y : YS) : Prop := (0 ≤ Y 5 2 ∧ Y 5 2 ≤ 8) ∧ 0 ≤ Y 5 0 ∧ (Y 5 1 = 0 ∨ Y 5 1 = 1) ∧ (∀ c, 0 ≤ c → c < 8 → (0 ≤ Y 0 c ∧ Y 0 c ≤ 5) ∧ (0 ≤ Y 1 c ∧ Y 1 c ≤ 9) ∧ (0 ≤ Y 2 c ∧ Y 2 c ≤ 9999) ∧ (0 ≤ Y 3 c ∧ Y 3 c ≤ 99)) ∧ ∀ i, 0 ≤ i → i < 80 → 0 ≤ Y 4 i ∧ Y 4 i ≤ 20
/-- the row of holders counts -/
def Hol (Y : YS) : Prop := ∀ t, 0 ≤ t → t < 10 → Y 8 t = cnt Y t
theorem cntN_rng (H : Int → Int) (t : Int) : ∀ n : Nat, 0 ≤ cntN H t n ∧ cntN H t n ≤ n
  | 0 => by simp [cntN]
  | n + 1 => by
    have ih := cntN_rng H t n
    unfold cntN eqI
    split <;> omega
theorem cnt_rng {Y : YS} (h : Inv Y) (t : Int) : 0 ≤ cnt Y t ∧ cnt Y t ≤ 8 := by
  have h1 := cntN_rng (Y 1) t (Y 5 2).toNat
  have h2 := h.1
  unfold cnt
  omega
theorem worthK_rng {k t l h : Int} (hl : 0 ≤ l ∧ l ≤ 20) (hh : 0 ≤ h ∧ h ≤ 8) : -20 ≤ worthK k t l h ∧ worthK k t l h ≤ 28 := by
  unfold worthK
  split
  · split <;> omega
  · split
    · split <;> omega
    · split <;> omega
theorem worth_rng {Y : YS} (h : Inv Y) {c t : Int} (hc : 0 ≤ c ∧ c < 8) (ht : 0 ≤ t ∧ t < 10) : -20 ≤ worth Y c t ∧ worth Y c t ≤ 28 :=
  worthK_rng (h.2.2.2.2 (c * 10 + t) (by omega) (by omega)) (cnt_rng h t)
def giveY (Y : YS) (c t : Int) : YS := upY (upY (upY Y 8 (Y 1 c) (Y 8 (Y 1 c) - 1)) 8 t (up1 (Y 8) (Y 1 c) (Y 8 (Y 1 c) - 1) t + 1)) 1 c t
def add0 (Y : YS) (k t : Int) : YS := upY (upY (upY (upY (upY (upY Y 5 2 (Y 5 2 + 1)) 0 (Y 5 2) k) 1 (Y 5 2) t) 8 t (Y 8 t + 1)) 2 (Y 5 2) 0) 3 (Y 5 2) 50
def addN (Y : YS) (c : Int) : Nat → YS
  | 0 => Y
  | n + 1 => upY (addN Y c n) 4 (c * 10 + n) (7 * n % 11)
def addY (Y : YS) (k t : Int) : YS := addN (add0 Y k t) (Y 5 2) 10
