/-! ===== the reference's text ===== -/
def mwt (D : va_G) (a : Nat → Nat) (Z K W R : YS) (C : Int → Int64) (n tk bg at_ va bd : Int) : va_W :=
  [(a 0, .inr (6, [.ref (a 1), .ref (a 2), .ref (a 3), .int (iI (R 0 0)), .ref (a 4), .ref (a 5), .int (iI n), .int (iI tk), .int (iI bg), .int (iI at_), .int (iI va), .int (iI bd), .ref (a 6), .ref (a 7), .ref (a 8)])),
   (a 1, .inl (D.1 100, 115, .inl (ia (mro Z)))), (a 2, .inl (D.1 100, 115, .inl (ia (mro K)))), (a 3, .inl (D.1 100, 115, .inl (ia (mro W)))), (a 4, .inl (D.1 100, 7, .inl (ia (R 1)))), (a 5, .inl (D.1 100, 120, .inl (ia (R 2)))), (a 6, .inl (D.1 100, 4, .inl (ia (R 3)))), (a 7, .inl (D.1 100, 4, .inl (ia (R 4)))), (a 8, .inl (D.1 101, 160, .inr (.inl (la C))))]
def mR (R : YS) (n tk bg at_ va bd : Int) : YS := fun w => cond (Nat.beq w 0) (fun i => if i = 1 then n else if i = 2 then tk else if i = 3 then bg else if i = 4 then at_ else if i = 5 then va else if i = 6 then bd else R 0 i) (R w)
def mwp (D : va_G) (a : Nat → Nat) (Z K W R : YS) (C : Int → Int64) (n p bd : Int) : va_W := mwt D a Z K W R C n (tokM (R 2) n p) (tS (R 2) n p) (tE (R 2) n p) (tV (R 2) n p) bd
theorem mwt_mw (D : va_G) (a : Nat → Nat) (Z K W R : YS) (C : Int → Int64) (n tk bg at_ va bd : Int) : mwt D a Z K W R C n tk bg at_ va bd = mw D a Z K W (mR R n tk bg at_ va bd) C := rfl
theorem mwt_mro {Z Z2 : YS} (D : va_G) (a : Nat → Nat) (K W R : YS) (C : Int → Int64) (n tk bg at_ va bd : Int) (h : ∀ w, w < 6 → Z w = Z2 w) : mwt D a Z K W R C n tk bg at_ va bd = mwt D a Z2 K W R C n tk bg at_ va bd := by
  unfold mwt
  rw [show mro Z = mro Z2 from funext (mro_congr h)]
theorem come_tr (Z : YS) (k t tr : Int) (w : Nat) (hw : w < 6) : comeZ Z k t tr w = upY (addY Z k t) 3 (Z 5 2) tr w := by
  funext j
  rw [upY_at, ← come_add Z k t w hw]
  unfold comeZ
  by_cases h : w = 4
  · subst h
    rw [if_neg (by omega)]
    exact congrFun (addN_row4 rfl 10) j
  · rw [addN_row 10 w h, addN_row 10 w h]
    unfold come0
    rw [upY_at, upY_at (w := 3)]
    by_cases e : w = 3 ∧ j = Z 5 2
    · rw [if_pos e, if_pos e]
    · rw [if_neg e, if_neg e, if_neg e]
theorem nms_rng (j : Nat) : 0 ≤ nms j ∧ nms j ≤ 255 := by
  by_cases h : j < 77
  · exact (by decide +kernel : ∀ j : Fin 77, 0 ≤ nms j.val ∧ nms j.val ≤ 255) ⟨j, h⟩
  · have : nms j = 0 := by
      unfold nms
      rw [List.getD_eq_getElem?_getD, List.getElem?_eq_none (by simp; omega)]
      rfl
    omega
