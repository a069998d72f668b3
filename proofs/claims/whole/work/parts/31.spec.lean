/-! ===== what every call answers, and what it makes of the state: T = (the yard, the image, the rest, the sheets' cells) ===== -/
abbrev TS : Type := YS × YS × YS × (Int → Int64)
def fin (T : TS) (k : Int) : Int × TS := (-1000000001 - k, (T.1, T.2.1, upY T.2.2.1 1 k (T.2.2.1 1 k + 1), T.2.2.2))
def sZ (T : TS) (Z : YS) : TS := (Z, T.2)
def sR (T : TS) (R : YS) : TS := (T.1, T.2.1, R, T.2.2.2)
def bestN (f : Int → Int) (ok : Int → Bool) : Nat → Int
  | 0 => -1
  | n + 1 => if ok (n : Int) && (decide (bestN f ok n < 0) || decide (f (bestN f ok n) < f (n : Int))) then (n : Int) else bestN f ok n
def orFin (T : TS) (k r : Int) : Int × TS := if r < 0 then fin T k else (r, T)
def s_teacher (T : TS) (v : Int) : Int × TS := if 0 ≤ v ∧ v ≤ 1 then (T.1 5 1, sZ T (upY T.1 5 1 v)) else fin T 0
def s_now (T : TS) (w : Int) : Int × TS := if w = 0 then (T.1 5 0, T) else if w = 1 then (T.1 5 1, T) else if w = 2 then ((orN (T.1 1) (T.1 5 2).toNat).toInt, T) else if w = 3 then (sumN (glad T.1) (T.1 5 2).toNat, T) else if w = 4 then (b2 (!pairY T.1), T) else if w = 5 then (sumN (T.1 2) (T.1 5 2).toNat, T) else fin T 0
def s_who (T : TS) (t : Int) : Int × TS := if 0 ≤ t ∧ t ≤ 9 then (maskN (fun c => decide (T.1 1 c = t)) (T.1 5 2).toNat, T) else fin T 0
def s_child (T : TS) (k t : Int) : Int × TS := if (0 ≤ k ∧ k ≤ 5) ∧ 0 ≤ t ∧ t ≤ 9 then (if T.1 5 2 < 8 then (T.1 5 2, sZ T (addY T.1 k t)) else fin T 1) else fin T 0
def s_of (T : TS) (c w : Int) : Int × TS := if 0 ≤ c ∧ c < T.1 5 2 then (if w = 0 then (T.1 0 c, T) else if w = 1 then (T.1 1 c, T) else if w = 2 then (T.1 2 c, T) else if w = 3 then (T.1 3 c, T) else if w = 4 then (glad T.1 c, T) else if w = 5 then (asksK (T.1 0 c) (T.1 5 0), T) else if w = 6 then (losesK (T.1 0 c), T) else fin T 0) else fin T 0
def mostK (w : Int) : Int := if w = 1 then 9 else if w = 2 then 9999 else 99
def s_set (T : TS) (c w v : Int) : Int × TS := if (0 ≤ c ∧ c < T.1 5 2) ∧ (1 ≤ w ∧ w ≤ 3) ∧ 0 ≤ v ∧ v ≤ mostK w then (if w = 1 then (T.1 1 c, sZ T (giveY T.1 c v)) else if w = 2 then (T.1 2 c, sZ T (upY T.1 2 c v)) else (T.1 3 c, sZ T (upY T.1 3 c v))) else fin T 0
def s_likes (T : TS) (c t v : Int) : Int × TS := if (0 ≤ c ∧ c < T.1 5 2) ∧ (0 ≤ t ∧ t ≤ 9) ∧ 0 ≤ v ∧ v ≤ 20 then (T.1 4 (c * 10 + t), sZ T (upY T.1 4 (c * 10 + t) v)) else fin T 0
def s_worth (T : TS) (c t : Int) : Int × TS := if (0 ≤ c ∧ c < T.1 5 2) ∧ 0 ≤ t ∧ t ≤ 9 then (worth T.1 c t, T) else fin T 0
def s_agrees (T : TS) (c t : Int) : Int × TS := if (0 ≤ c ∧ c < T.1 5 2) ∧ 0 ≤ t ∧ t ≤ 9 then (b2 (agree T.1 c t), T) else fin T 0
def s_turn (T : TS) (c k : Int) : Int × TS := if (0 ≤ c ∧ c < T.1 5 2) ∧ 0 ≤ k ∧ k ≤ 5 then (T.1 0 c, sZ T (upY T.1 0 c k)) else fin T 0
def s_as (T : TS) (c k : Int) : Int × TS := if (0 ≤ c ∧ c < T.1 5 2) ∧ 0 ≤ k ∧ k ≤ 5 then (if k = 0 ∨ k = T.1 0 c ∨ (k = 1 ∧ T.1 0 c = 4) ∨ (k = 2 ∧ T.1 0 c = 5) then (T.1 3 c, T) else fin T 2) else fin T 0
def s_swap (T : TS) (c o : Int) : Int × TS := if (0 ≤ c ∧ c < T.1 5 2) ∧ (0 ≤ o ∧ o < T.1 5 2) ∧ c ≠ o then (glad (swapZ T.1 c o) c, sZ T (swapZ T.1 c o)) else fin T 0
def s_mates (T : TS) (c : Int) : Int × TS := if 0 ≤ c ∧ c < T.1 5 2 then (maskN (wsw T.1 c) (T.1 5 2).toNat, T) else fin T 0
def ringF (Y : YS) (k : Int) : Bool := ringP Y (k / (Y 5 2 * Y 5 2)) (k / Y 5 2 % Y 5 2) (k % Y 5 2)
def ringA (Y : YS) (k : Int) : Int := 100 * (k / (Y 5 2 * Y 5 2)) + 10 * (k / Y 5 2 % Y 5 2) + k % Y 5 2
def s_ring (T : TS) : Int × TS := if leastN (ringF T.1) (T.1 5 2 * T.1 5 2 * T.1 5 2).toNat < 0 then fin T 3 else (ringA T.1 (leastN (ringF T.1) (T.1 5 2 * T.1 5 2 * T.1 5 2).toNat), T)
def s_rounds (T : TS) (n : Int) : Int × TS := if 1 ≤ n ∧ n ≤ 60 then (if T.1 5 0 + n ≤ 99999 then (sumN ((goZ T.1 n.toNat) 2) (T.1 5 2).toNat, sZ T (goZ T.1 n.toNat)) else fin T 4) else fin T 0
def s_on (T : TS) (c n w : Int) : Int × TS := if (0 ≤ c ∧ c < T.1 5 2) ∧ (0 ≤ n ∧ n ≤ 100) ∧ 0 ≤ w ∧ w ≤ 3 then (if w = 0 then ((goZ T.1 n.toNat) 1 c, T) else if w = 1 then ((goZ T.1 n.toNat) 2 c, T) else if w = 2 then ((goZ T.1 n.toNat) 3 c, T) else (glad (goZ T.1 n.toNat) c, T)) else fin T 0
def s_glad (T : TS) (n : Int) : Int × TS := if 0 ≤ n ∧ n ≤ 100 then (sumN (glad (goZ T.1 n.toNat)) (T.1 5 2).toNat, T) else fin T 0
def getsF (Y : YS) (c t : Int) (i : Int) : Bool := decide ((goZ Y i.toNat) 1 c = t)
def s_gets (T : TS) (c t : Int) : Int × TS := if (0 ≤ c ∧ c < T.1 5 2) ∧ 0 ≤ t ∧ t ≤ 9 then orFin T 3 (leastN (getsF T.1 c t) 101) else fin T 0
def overF (Y : YS) (i : Int) : Bool := !pairY (goZ Y i.toNat)
def s_over (T : TS) : Int × TS := orFin T 3 (leastN (overF T.1) 101)
def firstF (Y : YS) (c n : Int) (o : Int) : Int := glad (goZ (swapZ Y c o) n.toNat) c
def s_first (T : TS) (c n : Int) : Int × TS := if (0 ≤ c ∧ c < T.1 5 2) ∧ 0 ≤ n ∧ n ≤ 40 then orFin T 3 (bestN (firstF T.1 c n) (fun o => decide (o ≠ c)) (T.1 5 2).toNat) else fin T 0
def bringF (Y : YS) (c n : Int) (t : Int) : Int := glad (goZ (giveY Y c t) n.toNat) c
def s_bring (T : TS) (c n : Int) : Int × TS := if (0 ≤ c ∧ c < T.1 5 2) ∧ 0 ≤ n ∧ n ≤ 40 then (bestN (bringF T.1 c n) (fun _ => true) 10, T) else fin T 0
def kindF (Y : YS) (c n : Int) (k : Int) : Int := (goZ (upY Y 0 c k) n.toNat) 4 (c * 10 + (goZ (upY Y 0 c k) n.toNat) 1 c)
def s_kind (T : TS) (c n : Int) : Int × TS := if (0 ≤ c ∧ c < T.1 5 2) ∧ 0 ≤ n ∧ n ≤ 40 then (bestN (kindF T.1 c n) (fun _ => true) 6, T) else fin T 0
def trustF (Y : YS) (c n v : Int) (t : Int) : Bool := decide (v ≤ glad (goZ (upY Y 3 c t) n.toNat) c)
def s_trust (T : TS) (c n v : Int) : Int × TS := if (0 ≤ c ∧ c < T.1 5 2) ∧ (0 ≤ n ∧ n ≤ 40) ∧ -20 ≤ v ∧ v ≤ 40 then orFin T 3 (leastN (trustF T.1 c n v) 100) else fin T 0
def awayF (Y : YS) (n : Int) (c : Int) : Int := sumN (glad (goZ (upY Y 3 c 0) n.toNat)) (Y 5 2).toNat
def s_away (T : TS) (n : Int) : Int × TS := if 0 ≤ n ∧ n ≤ 40 then orFin T 3 (bestN (awayF T.1 n) (fun _ => true) (T.1 5 2).toNat) else fin T 0
def winF (Y : YS) (n : Int) (c : Int) : Int := glad (goZ Y n.toNat) c - glad Y c
def s_winner (T : TS) (n : Int) : Int × TS := if 0 ≤ n ∧ n ≤ 100 then orFin T 3 (bestN (winF T.1 n) (fun _ => true) (T.1 5 2).toNat) else fin T 0
def byteK (b : Int) (k : Nat) : Int := ((iI b >>> (iI (8 * (k : Int)) &&& 31)) &&& iI 255).toInt
def fdN (R : YS) (b : Int) : Nat → YS
  | 0 => R
  | k + 1 => fdN (upY (upY R 2 (R 0 1) (byteK b k)) 0 1 (R 0 1 + 1)) b k
def s_feed (T : TS) (b n : Int) : Int × TS := if 1 ≤ n ∧ n ≤ 4 then (if T.2.2.1 0 1 + n ≤ 120 then (T.2.2.1 0 1 + n, sR T (fdN T.2.2.1 b n.toNat)) else fin T 1) else fin T 0
def s_wipe (T : TS) : Int × TS := (T.2.2.1 0 1, sR T (upY T.2.2.1 0 1 0))
def zeroC (C : Int → Int64) (s : Int) : Int → Int64 := fun j => if 40 * s ≤ j ∧ j < 40 * s + 40 then 0 else C j
def s_sheet (T : TS) (s b n : Int) : Int × TS := if (0 ≤ s ∧ s ≤ 3) ∧ (b = 0 ∨ b = 8 ∨ b = 16 ∨ b = 64) then (if n < 0 then fin T 6 else if 40 < n then fin T 0 else (if b = 0 then 0 else n, (T.1, T.2.1, upY (upY T.2.2.1 3 s b) 4 s (if b = 0 then 0 else n), zeroC T.2.2.2 s))) else fin T 0
def fin64 (T : TS) (k : Int) : Int64 × TS := ((iI (-1000000001 - k)).toInt64, (fin T k).2)
def s_write (T : TS) (s i : Int) (v : Int64) : Int64 × TS := if 0 ≤ s ∧ s ≤ 3 then (if T.2.2.1 3 s = 0 then fin64 T 5 else if 0 ≤ i ∧ i < T.2.2.1 4 s then (T.2.2.2 (40 * s + i), (T.1, T.2.1, T.2.2.1, up1 T.2.2.2 (40 * s + i) (cutL (T.2.2.1 3 s) v))) else fin64 T 0) else fin64 T 0
def cpyC (C : Int → Int64) (p q n : Int) : Int → Int64 := fun j => if q ≤ j ∧ j < q + n then C (p + (j - q)) else C j
def s_copy (T : TS) (s f t u n : Int) : Int × TS := if (0 ≤ s ∧ s ≤ 3) ∧ 0 ≤ t ∧ t ≤ 3 then (if T.2.2.1 3 s = 0 ∨ T.2.2.1 3 t = 0 then fin T 5 else if ¬ T.2.2.1 3 s = T.2.2.1 3 t then fin T 2 else if (0 ≤ n ∧ 0 ≤ f ∧ 0 ≤ u) ∧ n ≤ T.2.2.1 4 s - f ∧ n ≤ T.2.2.1 4 t - u then (n, (T.1, T.2.1, T.2.2.1, cpyC T.2.2.2 (40 * s + f) (40 * t + u) n)) else fin T 0) else fin T 0
def okL (C : Int → Int64) (s k : Int) : Bool := decide (0 ≤ (C (40 * s + k)).toInt ∧ (C (40 * s + k)).toInt ≤ 20)
def layN (Y : YS) (C : Int → Int64) (s c : Int) : Nat → YS
  | 0 => Y
  | k + 1 => if okL C s (k : Int) then upY (layN Y C s c k) 4 (c * 10 + (k : Int)) (C (40 * s + (k : Int))).toInt else layN Y C s c k
def layK (C : Int → Int64) (s : Int) : Nat → Int
  | 0 => 0
  | k + 1 => layK C s k + (if okL C s (k : Int) then 1 else 0)
def layM (n : Int) : Nat := if n < 10 then n.toNat else 10
def onSheet (T : TS) (s c : Int) (r : Int × TS) : Int × TS := if 0 ≤ s ∧ s ≤ 3 then (if T.2.2.1 3 s = 0 then fin T 5 else if 0 ≤ c ∧ c < T.1 5 2 then r else fin T 0) else fin T 0
def s_lays (T : TS) (s c : Int) : Int × TS := onSheet T s c (layK T.2.2.2 s (layM (T.2.2.1 4 s)), sZ T (layN T.1 T.2.2.2 s c (layM (T.2.2.1 4 s))))
def bookC (Y : YS) (C : Int → Int64) (bi s c n : Int) : Int → Int64 := fun j => if 40 * s ≤ j ∧ j < 40 * s + n then cutL bi (iI ((goZ Y (j - 40 * s).toNat) 1 c)).toInt64 else C j
def s_book (T : TS) (s c : Int) : Int × TS := onSheet T s c (T.2.2.1 4 s, (T.1, T.2.1, T.2.2.1, bookC T.1 T.2.2.2 (T.2.2.1 3 s) s c (T.2.2.1 4 s)))
def readF (Y : YS) (S : Int → Int64) (n c o : Int) (k : Int) : Bool := asBooked (upY (upY Y 0 c (k / 6)) 0 o (k % 6)) c S n.toNat
def cntB (f : Int → Bool) : Nat → Int
  | 0 => 0
  | n + 1 => cntB f n + (if f (n : Int) then 1 else 0)
def s_read (T : TS) (s c o : Int) : Int × TS := onSheet T s c (if (0 ≤ o ∧ o < T.1 5 2) ∧ c ≠ o then (cntB (readF T.1 (fun i => T.2.2.2 (40 * s + i)) (T.2.2.1 4 s) c o) 36, T) else fin T 0)
def s_image (T : TS) : Int × TS := (1, (T.1, T.1, upY T.2.2.1 0 0 1, T.2.2.2))
def s_undo (T : TS) : Int × TS := if T.2.2.1 0 0 = 0 then fin T 3 else (T.2.1 5 2, sZ T T.2.1)
def s_tear (T : TS) : Int × TS := (T.2.2.1 0 0, sR T (upY T.2.2.1 0 0 0))
def s_count (T : TS) (w : Int) : Int × TS := if w = 0 then (T.1 5 2, T) else if w = 1 then (T.2.2.1 0 1, T) else if w = 2 then (sumN (T.1 3) (T.1 5 2).toNat, T) else if w = 3 then (10 - (pop (orN (T.1 1) (T.1 5 2).toNat).toInt.toNat : Int), T) else fin T 0
def s_status (T : TS) (w : Int) : Int × TS := if w = -1 then (sumN (T.2.2.1 1) 7, T) else if 0 ≤ w ∧ w ≤ 6 then (T.2.2.1 1 w, T) else fin T 0
/-! the worlds of the two objects -/
def mwT (D : va_G) (a : Nat → Nat) (T : TS) (U : YS) : va_W := mw D a T.1 T.2.1 U T.2.2.1 T.2.2.2
/-- scratch J: 0 1 2 live's x z q; 3 4 5 kept's; 6 7 8 trial's; 9 10 best; 11 12 13 14 the tape's token, start, end, value -/
def jn (J : Nat → Int) (i : Nat) (v : Int) : Nat → Int := fun k => cond (Nat.beq k i) v (J k)
def bobj (D : va_G) (a : Nat → Nat) (R : YS) : va_W := [(a 0, .inr (5, [.ref (a 2), .ref (a 10), .ref (a 18), .ref (a 26), .ref (a 27), .ref (a 28), .ref (a 30), .ref (a 1), .int (iI (R 0 0))])), (a 1, .inl (D.1 100, 7, .inl (ia (R 1))))]
def btxt (D : va_G) (a : Nat → Nat) (R : YS) (J : Nat → Int) : va_W := (a 27, .inr (4, [.ref (a 28)])) :: tapew D (fun i => a (28 + i)) (R 2) (R 0 1) (J 11) (J 12) (J 13) (J 14)
def bshs (D : va_G) (a : Nat → Nat) (R : YS) (C : Int → Int64) : va_W := (a 30, .inl (D.1 102, 4, .inr (.inr (.inr (.inr (fun k => some (a (31 + 2 * k)))))))) :: (sheetw D (fun i => a (31 + i)) (fun i => C (40 * 0 + i)) (R 3 0) (R 4 0) ++ (sheetw D (fun i => a (33 + i)) (fun i => C (40 * 1 + i)) (R 3 1) (R 4 1) ++ (sheetw D (fun i => a (35 + i)) (fun i => C (40 * 2 + i)) (R 3 2) (R 4 2) ++ sheetw D (fun i => a (37 + i)) (fun i => C (40 * 3 + i)) (R 3 3) (R 4 3))))
def bw (D : va_G) (a : Nat → Nat) (Y KY R : YS) (C : Int → Int64) (YT : YS) (J : Nat → Int) : va_W :=
  bobj D a R ++ (yw D (fun i => a (2 + i)) Y (J 0) (J 1) (J 2) ++ (yw D (fun i => a (10 + i)) KY (J 3) (J 4) (J 5) ++ (yw D (fun i => a (18 + i)) YT (J 6) (J 7) (J 8) ++ (bestw (a 26) (J 9) (J 10) ++ (btxt D a R J ++ bshs D a R C)))))
def bwT (D : va_G) (a : Nat → Nat) (T : TS) (YT : YS) (J : Nat → Int) : va_W := bw D a T.1 T.2.1 T.2.2.1 T.2.2.2 YT J
/-- what holds of the state between calls -/
def TI (T : TS) : Prop := (Inv T.1 ∧ Hol T.1 ∧ T.1 5 0 ≤ 99999) ∧ (Inv T.2.1 ∧ Hol T.2.1 ∧ T.2.1 5 0 ≤ 99999) ∧ ((T.2.2.1 0 0 = 0 ∨ T.2.2.1 0 0 = 1) ∧ (0 ≤ T.2.2.1 0 1 ∧ T.2.2.1 0 1 ≤ 120) ∧ bytesOk (T.2.2.1 2)) ∧ ∀ s, 0 ≤ s → s < 4 → (T.2.2.1 3 s = 0 ∨ T.2.2.1 3 s = 8 ∨ T.2.2.1 3 s = 16 ∨ T.2.2.1 3 s = 64) ∧ 0 ≤ T.2.2.1 4 s ∧ T.2.2.1 4 s ≤ 40
