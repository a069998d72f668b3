/-! ===== static fields, tables, the row of sheets ===== -/
section VS
variable {G : GJ} {cc : ByteArray} {nL : Nat} {ret : Option FieldType} {own : String} {Ts : List Cond} {dd kc ks pc : Nat} {ws : va_W} {lv : List (Nat × Value)} {st : List Value}
theorem r_gets (hG : Cx G cc nL ret own Ts dd) {C n d : String} {v : Value} {index : Nat} (hZ : va_Z C n d v (g_A G) (g_s G) (g_s G).heap) (hm : Cond.fieldLink own index C n d ∈ Ts) (hd : decode cc pc = .ok (.getstatic index, 3)) (k : V G kc ks ws (pc + 3) lv (v :: st)) : V G kc ks ws pc lv st := by
  intro H locs ls hP hD hS hl
  exact va_gets hG.exec hG.code hZ hS hG.own (hG.hts _ hm) (fun _ h => h) hd (k H locs ls hP hD hS hl)
theorem r_ti (hG : Cx G cc nL ret own Ts dd) {t N : Nat} {f : Nat → Int} {i : Int} (hT : va_T .int t N (fun j => .int (iI (f j))) (g_A G) (g_s G) (g_s G).heap) (hi : 0 ≤ i ∧ i < N) (hN : N < 2147483648) (hd : decode cc pc = .ok (.iaload, 1)) (k : V G kc ks ws (pc + 1) lv (.int (iI (f i.toNat)) :: st)) : V G kc ks ws pc lv (.int (iI i) :: .ref t :: st) := by
  intro H locs ls hP hD hS hl
  exact va_ti hG.exec hG.code hT hS (iI_in hi hN) (by show Value.int (iI (f (iI i).toNatClampNeg)) = _; rw [iI_tn (by omega)]) hd (k H locs ls hP hD hS hl)
theorem r_aldq (hG : Cx G cc nL ret own Ts dd) {a n : Nat} {f : Nat → Option Nat} {i : Int} (q0 : Nat) (he : ws[q0]? = some (a, .inl ((g_D G).1 102, n, .inr (.inr (.inr (.inr f)))))) (hi : 0 ≤ i ∧ i < n) (hn : n < 2147483648) (hd : decode cc pc = .ok (.aaload, 1)) {v : Value} (hv : va_rf (f i.toNat) = v) (k : V G kc ks ws (pc + 1) lv (v :: st)) : V G kc ks ws pc lv (.int (iI i) :: .ref a :: st) := by
  intro H locs ls hP hD hS hl
  refine va_aldq hG.exec hG.code hG.hK hP q0 2 he rfl (iI_in hi hn) hd ?_
  rw [iI_tn (by omega), hv]
  exact k H locs ls hP hD hS hl
end VS
def undK (k t : Int) : Bool := decide (t = 0 ∨ t = k ∨ (t = 1 ∧ k = 4) ∨ (t = 2 ∧ k = 5))
def undN : Nat → Int → Int → Bool
  | 0, _, _ => false
  | n + 1, x, t => decide (0 ≤ x) && (decide (x = t) || undN n (abv x.toNat) t)
theorem abv_rng : ∀ j : Nat, -1 ≤ abv j ∧ abv j ≤ 2
  | 0 => by decide
  | 1 => by decide
  | 2 => by decide
  | 3 => by decide
  | 4 => by decide
  | 5 => by decide
  | n + 6 => by
    have : abv (n + 6) = 0 := by simp [abv]
    omega
theorem undN_6 : ∀ k t : Fin 6, undN 6 (k.val : Int) (t.val : Int) = undK (k.val : Int) (t.val : Int) := by decide +kernel
theorem und_6 {k t : Int} (hk : 0 ≤ k ∧ k ≤ 5) (ht : 0 ≤ t ∧ t ≤ 5) : undK k t = undN 6 k t := by
  have h := undN_6 ⟨k.toNat, by omega⟩ ⟨t.toNat, by omega⟩
  simp only [show ((k.toNat : Nat) : Int) = k by omega, show ((t.toNat : Nat) : Int) = t by omega] at h
  exact h.symm
theorem undN_t {i : Nat} {x t : Int} (hi : i < 6) (h0 : 0 ≤ x) (h : x = t) : undN (6 - i) x t = true := by
  rw [show 6 - i = (5 - i) + 1 by omega]
  simp [undN, h0, h]
  omega
theorem undN_f {i : Nat} {x t : Int} (h : 6 ≤ i ∨ x < 0) : undN (6 - i) x t = false := by
  by_cases hi : 6 ≤ i
  · rw [show 6 - i = 0 by omega]; rfl
  · rw [show 6 - i = (5 - i) + 1 by omega]
    simp [undN]
    omega
theorem undN_s {i : Nat} {x t : Int} (hi : i < 6) (h0 : 0 ≤ x) (h : ¬ x = t) : undN (6 - i) x t = undN (6 - (i + 1)) (abv x.toNat) t := by
  rw [show 6 - i = (6 - (i + 1)) + 1 by omega]
  simp [undN, h0, h]
