/-! ===== the sheets' cells by C ===== -/
section VC
variable {G : GJ} {cc : ByteArray} {nL : Nat} {ret : Option FieldType} {own : String} {Ts : List Cond} {dd kc ks pc : Nat} {ws : va_W} {lv : List (Nat × Value)} {st : List Value} {a : Nat → Nat} {Z K R YT : YS} {C : Int → Int64} {J : Nat → Int}
theorem r_ldcw (hG : Cx G cc nL ret own Ts dd) {n : Int} {index : Nat} {v : Int32} (hc : Cond.constant own index v ∈ Ts) (hn : v = iI n) (hd : decode cc pc = .ok (.ldc_w index, 3)) (k : V G kc ks ws (pc + 3) lv (.int (iI n) :: st)) : V G kc ks ws pc lv st := fun H locs ls hP hD hS hl => lv_ldcw hG.exec hG.code hG.own (hG.hts _ hc) hd (by rw [hn]; exact k H locs ls hP hD hS hl)
def bshX (D : va_G) (a : Nat → Nat) (R : YS) (S0 S1 S2 S3 : Int → Int64) : va_W := (a 30, .inl (D.1 102, 4, .inr (.inr (.inr (.inr (fun k => some (a (31 + 2 * k)))))))) :: (sheetw D (fun i => a (31 + i)) S0 (R 3 0) (R 4 0) ++ (sheetw D (fun i => a (33 + i)) S1 (R 3 1) (R 4 1) ++ (sheetw D (fun i => a (35 + i)) S2 (R 3 2) (R 4 2) ++ sheetw D (fun i => a (37 + i)) S3 (R 3 3) (R 4 3))))
def bwX (D : va_G) (a : Nat → Nat) (Y KY R : YS) (S0 S1 S2 S3 : Int → Int64) (YT : YS) (J : Nat → Int) : va_W :=
  bobj D a R ++ (yw D (fun i => a (2 + i)) Y (J 0) (J 1) (J 2) ++ (yw D (fun i => a (10 + i)) KY (J 3) (J 4) (J 5) ++ (yw D (fun i => a (18 + i)) YT (J 6) (J 7) (J 8) ++ (bestw (a 26) (J 9) (J 10) ++ (btxt D a R J ++ bshX D a R S0 S1 S2 S3)))))
set_option maxRecDepth 100000 in
theorem V_shC {S0 S1 S2 S3 : Int → Int64} (h0 : ∀ j : Int, 0 ≤ j → j < (40 : Nat) → S0 j = C (40 * 0 + j)) (h1 : ∀ j : Int, 0 ≤ j → j < (40 : Nat) → S1 j = C (40 * 1 + j)) (h2 : ∀ j : Int, 0 ≤ j → j < (40 : Nat) → S2 j = C (40 * 2 + j)) (h3 : ∀ j : Int, 0 ≤ j → j < (40 : Nat) → S3 j = C (40 * 3 + j)) (k : V G kc ks (bw (g_D G) a Z K R C YT J) pc lv st) : V G kc ks (bwX (g_D G) a Z K R S0 S1 S2 S3 YT J) pc lv st := by
  refine V_la (ws' := bwX (g_D G) a Z K R (fun i => C (40 * 0 + i)) S1 S2 S3 YT J) (f := S0) (g := fun i => C (40 * 0 + i)) 32 rfl h0 rfl ?_
  refine V_la (ws' := bwX (g_D G) a Z K R (fun i => C (40 * 0 + i)) (fun i => C (40 * 1 + i)) S2 S3 YT J) (f := S1) (g := fun i => C (40 * 1 + i)) 34 rfl h1 rfl ?_
  refine V_la (ws' := bwX (g_D G) a Z K R (fun i => C (40 * 0 + i)) (fun i => C (40 * 1 + i)) (fun i => C (40 * 2 + i)) S3 YT J) (f := S2) (g := fun i => C (40 * 2 + i)) 36 rfl h2 rfl ?_
  exact V_la (ws' := bw (g_D G) a Z K R C YT J) (f := S3) (g := fun i => C (40 * 3 + i)) 38 rfl h3 rfl k
end VC
def sfK (Z R : YS) (s c : Int) : Int := if 0 ≤ s ∧ s ≤ 3 then (if R 3 s = 0 then 5 else if 0 ≤ c ∧ c < Z 5 2 then -1 else 0) else 0
theorem sfK_ok {Z R : YS} {s c : Int} (h : sfK Z R s c < 0) : (0 ≤ s ∧ s ≤ 3) ∧ ¬ R 3 s = 0 ∧ 0 ≤ c ∧ c < Z 5 2 := by
  unfold sfK at h
  (repeat' split at h) <;> omega
theorem sfK_rng (Z R : YS) (s c : Int) : -1 ≤ sfK Z R s c ∧ sfK Z R s c ≤ 5 := by
  unfold sfK
  (repeat' split) <;> omega
theorem onSheet_ok {Z K R : YS} {C : Int → Int64} {s c : Int} {r : Int × TS} (h : sfK Z R s c < 0) : onSheet (Z, K, R, C) s c r = r := by
  obtain ⟨h1, h2, h3⟩ := sfK_ok h
  unfold onSheet
  dsimp only
  rw [if_pos h1, if_neg h2, if_pos h3]
theorem onSheet_no {Z K R : YS} {C : Int → Int64} {s c : Int} {r : Int × TS} (h : ¬ sfK Z R s c < 0) : onSheet (Z, K, R, C) s c r = fin (Z, K, R, C) (sfK Z R s c) := by
  unfold sfK at h ⊢
  unfold onSheet
  dsimp only
  by_cases h1 : 0 ≤ s ∧ s ≤ 3
  · rw [if_pos h1, if_pos h1] at *
    by_cases h2 : R 3 s = 0
    · rw [if_pos h2, if_pos h2]
    · rw [if_neg h2] at h
      rw [if_neg h2, if_neg h2]
      by_cases h3 : 0 ≤ c ∧ c < Z 5 2
      · rw [if_pos h3] at h; omega
      · rw [if_neg h3, if_neg h3]
  · rw [if_neg h1, if_neg h1]
