/-! ===== the law ===== -/
theorem lg_self (x : Int64) : lg_cmp x x = 0 := by
  unfold lg_cmp
  simp
section VLA
variable {G : GJ} {cc : ByteArray} {nL : Nat} {ret : Option FieldType} {own : String} {Ts : List Cond} {dd kc ks pc : Nat} {ws : va_W} {lv : List (Nat × Value)} {st : List Value}
def ar (xs : Nat → Int32) (i : Nat) (k : Int) : Int := (xs ((i : Int) + k).toNat).toInt
/-- the script: at b0, L numbers, nobody writes it -/
def Scr (G : GJ) (b0 L : Nat) (xs : Nat → Int32) : Prop := va_X b0 L xs (g_s G) (g_s G).heap ∧ b0 < (g_s G).heap.size ∧ (¬ g_A G b0) ∧ L ≤ 3072
theorem r_sld (hG : Cx G cc nL ret own Ts dd) {b0 L : Nat} {xs : Nat → Int32} (hX : Scr G b0 L xs) {i : Nat} {k : Int} (hi : 0 ≤ k ∧ (i : Int) + k < L) (hd : decode cc pc = .ok (.iaload, 1)) (kk : V G kc ks ws (pc + 1) lv (.int (iI (ar xs i k)) :: st)) : V G kc ks ws pc lv (.int (iI ((i : Int) + k)) :: .ref b0 :: st) := by
  intro H locs ls hP hD hS hl
  have hL := hX.2.2.2
  refine va_sld hG.exec hG.code hX.1 hX.2.1 hX.2.2.1 hS (iI_in (by omega) (by omega)) hd ?_
  rw [iI_tn (by omega), ← iI_of (xs ((i : Int) + k).toNat)]
  exact kk H locs ls hP hD hS hl
theorem r_slen0 (hG : Cx G cc nL ret own Ts dd) {b0 L : Nat} {xs : Nat → Int32} (hX : Scr G b0 L xs) (hd : decode cc pc = .ok (.arraylength, 1)) (kk : V G kc ks ws (pc + 1) lv (.int (iI (L : Int)) :: st)) : V G kc ks ws pc lv (.ref b0 :: st) := by
  intro H locs ls hP hD hS hl
  refine va_slen hG.exec hG.code hX.1 hX.2.1 hX.2.2.1 hS hd ?_
  rw [show Int32.ofNat L = iI (L : Int) from (Int32.ofInt_eq_ofNat).symm]
  exact kk H locs ls hP hD hS hl
end VLA
theorem V_topL {G : GJ} {kc ks pc : Nat} {ws : va_W} {lv : List (Nat × Value)} {st : List Value} {x : Int64} (k : ∀ v : Int64, x = v → V G kc ks ws pc lv (.long v :: st)) : V G kc ks ws pc lv (.long x :: st) := k x rfl
abbrev LW (G : GJ) (a b : Nat → Nat) (T : TS) (YT : YS) (J : Nat → Int) (U : YS) : va_W := bwT (g_D G) a T YT J ++ mwT (g_D G) b T U
abbrev LV (b0 : Nat) (a b : Nat → Nat) (i : Nat) : List (Nat × Value) := [(0, .ref b0), (1, .ref (a 0)), (2, .ref (b 0)), (3, .int (iI (i : Int)))]
