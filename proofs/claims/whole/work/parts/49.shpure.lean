/-! ===== the sheets' cells by C ===== -/
section VC
variable {G : GJ} {cc : ByteArray} {nL : Nat} {ret : Option FieldType} {own : String} {Ts : List Cond} {dd kc ks pc : Nat} {ws : va_W} {lv : List (Nat × Value)} {st : List Value} {a : Nat → Nat} {Z K R YT : YS} {C : Int → Int64} {J : Nat → Int}
theorem r_ldcw (hG : Cx G cc nL ret own Ts dd) {n : Int} {index : Nat} {v : Int32} (hc : Cond.constant own index v ∈ Ts) (hn : v = iI n) (hd : decode cc pc = .ok (.ldc_w index, 3)) (k : V G kc ks ws (pc + 3) lv (.int (iI n) :: st)) : V G kc ks ws pc lv st := fun H locs ls hP hD hS hl => lv_ldcw hG.exec hG.code hG.own (hG.hts _ hc) hd (by rw [hn]; exact k H locs ls hP hD hS hl)
def bshX (D : va_G) (a : Nat → Nat) (R : YS) (S0 S1 S2 S3 : Int → Int64) : va_W := (a 30, .inl (D.1 102, 4, .inr (.inr (.inr (.inr (fun k => some (a (31 + 2 * k)))))))) :: (sheetw D (fun i => a (31 + i)) S0 (R 3 0) (R 4 0) ++ (sheetw D (fun i => a (33 + i)) S1 (R 3 1) (R 4 1) ++ (sheetw D (fun i => a (35 + i)) S2 (R 3 2) (R 4 2) ++ sheetw D (fun i => a (37 + i)) S3 (R 3 3) (R 4 3))))
def bwX (D : va_G) (a : Nat → Nat) (Y KY R : YS) (S0 S1 S2 S3 : Int → Int64) (YT : YS) (J : Nat → Int) : va_W :=
  bobj D a R ++ (yw D (fun i => a (2 + i)) Y (J 0) (J 1) (J 2) ++ (yw D (fun i => a (10 + i)) KY (J 3) (J 4) (J 5) ++ (yw D (fun i => a (18 + i)) YT (J 6) (J 7) (J 8) ++ (bestw (a 26) (J 9) (J 10) ++ (btxt D a R J ++ bshX D a R S0 S1 S2 S3)))))
set_option maxRecDepth 100000 in
theorem V_shC {S0 S1 S2 S3 : Int → Int64} (h0 : ∀ j : Int, 0 ≤ j → j < (40 : Nat) → S0 j = C (40 * 0 + j)) (h1 : ∀ j : Int, 0 ≤ j → j < (40 : Nat) → S1 j = C (40 * 1 + j)) (h2 : ∀ j : Int, 0 ≤ j → j < (40 : Nat) → S2 j = C (40 * 2 + j)) (h3 : ∀ j : Int, 0 ≤ j → j < (40 : Nat) → S3 j = C (40 * 3 + j)) (k : V G kc ks (bw (g_D G) a Z K R C YT J) pc lv st) : V G kc ks (bwX (g_D G) a Z K R S0 S1 S2 S3 YT J) pc lv st := by
  refine V_la (ws' := bwX (g_D G) a Z K R (fun i => C (40 * 0 + i)) S1 S2 S3 YT J) (f := S0) (g := fun i => C (40 * 0 + i)) 32 rfl h0 rfl ?_
  refine V_la (ws' := bwX (g_D G) a Z K R (fun i => C (40 * 0 + i)) (fun i => C (40 * 1 + i)) S2 S3 YT J) (f := S1) (g := fun i => C (40 * 1 + i)) 34 rfl h1 rfl ?_
  refine V_la (ws' := bwX (g_D G) a Z K R (fun i => C (40 * 0 + i)) (fun i => C (40 * 1 + i)) (fun i => C (40 * 2 + i)) S3 YT J) (f := S2) (g := fun i => C (40 * 2 + i)) 36 rfl h2 rfl ?_
  exact V_la (ws' := bw (g_D G) a Z K R C YT J) (f := S3) (g := fun i => C (40 * 3 + i)) 38 rfl h3 rfl k
end VC
def sfK (Z R : YS) (s c : Int) : Int := if 0 ≤ s ∧ s ≤ 3 then (if R 3 s = 0 then 5 else if 0 ≤ c ∧ c < Z 5 2 then -1 else 0) else 0
theorem sfK_ok {Z R : YS} {s c : Int} (h : sfK Z R s c < 0) : (0 ≤ s ∧ s ≤ 3) ∧ ¬ R 3 s = 0 ∧ 0 ≤ c ∧ c < Z 5 2 := by
  unfold sfK at h
  (repeat' split at h) <;> omega
theorem sfK_rng (Z R : YS) (s c : Int) : -1 ≤ sfK Z R s c ∧ sfK Z R s c ≤ 5 := by
  unfold sfK
  (repeat' split) <;> omega
theorem onSheet_ok {Z K R : YS} {C : Int → Int64} {s c : Int} {r : Int × TS} (h : sfK Z R s c < 0) : onSheet (Z, K, R, C) s c r = r := by
  obtain ⟨h1, h2, h3⟩ := sfK_ok h
  unfold onSheet
  dsimp only
  rw [if_pos h1, if_neg h2, if_pos h3]
theorem onSheet_no {Z K R : YS} {C : Int → Int64} {s c : Int} {r : Int × TS} (h : ¬ sfK Z R s c < 0) : onSheet (Z, K, R, C) s c r = fin (Z, K, R, C) (sfK Z R s c) := by
  unfold sfK at h ⊢
  unfold onSheet
  dsimp only
  by_cases h1 : 0 ≤ s ∧ s ≤ 3
  · rw [if_pos h1, if_pos h1] at *
    by_cases h2 : R 3 s = 0
    · rw [if_pos h2, if_pos h2]
    · rw [if_neg h2] at h
      rw [if_neg h2, if_neg h2]
      by_cases h3 : 0 ≤ c ∧ c < Z 5 2
      · rw [if_pos h3] at h; omega
      · rw [if_neg h3, if_neg h3]
  · rw [if_neg h1, if_neg h1]
theorem up_same {C : Int → Int64} {p i : Int} {x : Int64} (j : Int) : up1 (fun i => C (p + i)) i x j = up1 C (p + i) x (p + j) := by
  unfold up1
  by_cases e : j = i
  · rw [if_pos e, if_pos (by omega)]
  · rw [if_neg e, if_neg (by omega)]
theorem up_other {C : Int → Int64} {p q : Int} {x : Int64} (h : ¬ q = p) : C q = up1 C p x q := by
  unfold up1
  rw [if_neg h]
theorem zero_same {C : Int → Int64} {s j : Int} (h : 0 ≤ j ∧ j < 40) : (0 : Int64) = zeroC C s (40 * s + j) := by
  unfold zeroC
  rw [if_pos (by omega)]
theorem zero_other {C : Int → Int64} {s p : Int} (h : ¬ (40 * s ≤ p ∧ p < 40 * s + 40)) : C p = zeroC C s p := by
  unfold zeroC
  rw [if_neg h]
theorem book_0 (Y : YS) (C : Int → Int64) (bi s c : Int) : bookC Y C bi s c 0 = C := by
  funext j
  unfold bookC
  rw [if_neg (by omega)]
theorem book_same {Y : YS} {C : Int → Int64} {bi s c i : Int} (hi : 0 ≤ i) (j : Int) (hj : 0 ≤ j) : up1 (fun j => bookC Y C bi s c i (40 * s + j)) i (cutL bi (iI ((goZ Y i.toNat) 1 c)).toInt64) j = bookC Y C bi s c (i + 1) (40 * s + j) := by
  unfold up1 bookC
  by_cases e : j = i
  · rw [if_pos e, if_pos (by omega), show (40 * s + j - 40 * s).toNat = i.toNat by omega]
  · rw [if_neg e]
    dsimp only
    by_cases e2 : 40 * s ≤ 40 * s + j ∧ 40 * s + j < 40 * s + i
    · rw [if_pos e2, if_pos (by omega)]
    · rw [if_neg e2, if_neg (by omega)]
theorem book_other {Y : YS} {C : Int → Int64} {bi s c i p : Int} (h : ¬ (40 * s ≤ p ∧ p < 40 * s + (i + 1))) : bookC Y C bi s c i p = bookC Y C bi s c (i + 1) p := by
  unfold bookC
  rw [if_neg h, if_neg (by omega)]
theorem cpy_same {C : Int → Int64} {p q f u n : Int} (j : Int) : cpy1 (fun i => C (p + i)) (fun i => C (q + i)) f u n j = cpyC C (p + f) (q + u) n (q + j) := by
  unfold cpy1 cpyC
  by_cases e : u ≤ j ∧ j < u + n
  · rw [if_pos e, if_pos (by omega)]
    exact congrArg C (by omega)
  · rw [if_neg e, if_neg (by omega)]
theorem cpy_other {C : Int → Int64} {p q n r : Int} (h : ¬ (q ≤ r ∧ r < q + n)) : C r = cpyC C p q n r := by
  unfold cpyC
  rw [if_neg h]
theorem okL_lt {C : Int → Int64} {s k : Int} (h : lg_cmp (C (40 * s + k)) 0 < 0) : okL C s k = false := by
  have h1 := (inL_lt (v := C (40 * s + k)) (a := 0) (by omega)).mp h
  exact decide_eq_false (by omega)
theorem okL_gt {C : Int → Int64} {s k : Int} (h : 0 < lg_cmp (C (40 * s + k)) 20) : okL C s k = false := by
  have h1 := (inL_gt (v := C (40 * s + k)) (a := 20) (by omega)).mp h
  exact decide_eq_false (by omega)
theorem okL_ok {C : Int → Int64} {s k : Int} (h : ¬ lg_cmp (C (40 * s + k)) 0 < 0) (h2 : ¬ 0 < lg_cmp (C (40 * s + k)) 20) : okL C s k = true := by
  have h1 : ¬ (C (40 * s + k)).toInt < 0 := fun q => h ((inL_lt (v := C (40 * s + k)) (a := 0) (by omega)).mpr q)
  have h3 : ¬ 20 < (C (40 * s + k)).toInt := fun q => h2 ((inL_gt (v := C (40 * s + k)) (a := 20) (by omega)).mpr q)
  exact decide_eq_true (by omega)
