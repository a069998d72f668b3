theorem down {P : Nat → Prop} {N : Nat} (h : ∀ i, i ≤ N → (i < N → P (i + 1)) → P i) : ∀ i, i ≤ N → P i := by
  intro i hi
  have key : ∀ n i, i ≤ N → N - i = n → P i := by
    intro n
    induction n with
    | zero => intro i hi hn; exact h i hi (fun h1 => absurd h1 (by omega))
    | succ n ih => intro i hi hn; exact h i hi (fun h1 => ih (i + 1) (by omega) (by omega))
  exact key (N - i) i hi rfl
def cpy1 {α : Type} (f g : Int → α) (sp dp n : Int) : Int → α := fun j => if dp ≤ j ∧ j < dp + n then f (sp + (j - dp)) else g j
theorem ia_cpy {f g : Int → Int} {sp dp n : Int} (h1 : 0 ≤ sp ∧ sp < 2147483648) (h2 : 0 ≤ dp ∧ dp < 2147483648) (h3 : 0 ≤ n ∧ n < 2147483648) : va_cpy (ia f) (ia g) (iI sp).toNatClampNeg (iI dp).toNatClampNeg (iI n).toNatClampNeg = ia (cpy1 f g sp dp n) := by
  rw [iI_tn h1, iI_tn h2, iI_tn h3]
  funext k
  unfold va_cpy ia cpy1
  by_cases e : dp.toNat ≤ k ∧ k < dp.toNat + n.toNat
  · rw [if_pos e, if_pos (by omega)]
    congr 2
    omega
  · rw [if_neg e, if_neg (by omega)]
theorem la_cpy {f g : Int → Int64} {sp dp n : Int} (h1 : 0 ≤ sp ∧ sp < 2147483648) (h2 : 0 ≤ dp ∧ dp < 2147483648) (h3 : 0 ≤ n ∧ n < 2147483648) : va_cpy (la f) (la g) (iI sp).toNatClampNeg (iI dp).toNatClampNeg (iI n).toNatClampNeg = la (cpy1 f g sp dp n) := by
  rw [iI_tn h1, iI_tn h2, iI_tn h3]
  funext k
  unfold va_cpy la cpy1
  by_cases e : dp.toNat ≤ k ∧ k < dp.toNat + n.toNat
  · rw [if_pos e, if_pos (by omega)]
    congr 1
    omega
  · rw [if_neg e, if_neg (by omega)]
theorem iI_nn {a : Int} (h : 0 ≤ a ∧ a < 2147483648) : ¬ iI a < 0 := fun q => by
  have := (iI_lt (a := a) (b := 0) (by omega) (by omega)).mp q
  omega
section VW3
variable {G : GJ} {cc : ByteArray} {nL : Nat} {ret : Option FieldType} {own : String} {Ts : List Cond} {dd kc ks pc : Nat} {ws : va_W} {lv : List (Nat × Value)} {st : List Value}
theorem r_mmax (hG : Cx G cc nL ret own Ts dd) {a b : Int} {index : Nat} (ha : -2147483648 ≤ a ∧ a < 2147483648) (hb : -2147483648 ≤ b ∧ b < 2147483648) (h1 : Cond.methodLink own index Lib.Math.max.name ∈ Ts) (h2 : Cond.static Lib.Math.max.name ∈ Ts) (h3 : Cond.initialized "java/lang/Math" ∈ Ts) (h4 : Cond.code Lib.Math.max.name Lib.Math.max.code 2 (some .int) ∈ Ts) (hdd : 1 ≤ dd) (hcat : (st.map fun v => v.category).sum ≤ 8) (hf : kc ≤ (g_R G).cells ∧ ks ≤ (g_R G).slots) (hd : decode cc pc = .ok (.invokestatic index, 3)) (k : V G kc ks ws (pc + 3) lv (.int (iI (if a < b then b else a)) :: st)) : V G kc ks ws pc lv (.int (iI b) :: .int (iI a) :: st) := by
  intro H locs ls hP hD hS hl
  have hr := hG.room
  refine va_mmax hG.exec hG.code (by rw [hG.maxL, hl.1, hG.n]) hG.own (hG.hts _ h1) (hG.hts _ h2) (hG.hts _ h3) (hG.hts _ h4) (by omega) (by omega) hf.1 hf.2 hd ?_
  have e : (if iI a < iI b then iI b else iI a) = iI (if a < b then b else a) := by
    by_cases h : a < b
    · rw [if_pos h, if_pos ((iI_lt ha hb).mpr h)]
    · rw [if_neg h, if_neg (fun q => h ((iI_lt ha hb).mp q))]
  rw [e]
  exact k H locs ls hP hD hS hl
theorem r_mmin (hG : Cx G cc nL ret own Ts dd) {a b : Int} {index : Nat} (ha : -2147483648 ≤ a ∧ a < 2147483648) (hb : -2147483648 ≤ b ∧ b < 2147483648) (h1 : Cond.methodLink own index Lib.Math.min.name ∈ Ts) (h2 : Cond.static Lib.Math.min.name ∈ Ts) (h3 : Cond.initialized "java/lang/Math" ∈ Ts) (h4 : Cond.code Lib.Math.min.name Lib.Math.min.code 2 (some .int) ∈ Ts) (hdd : 1 ≤ dd) (hcat : (st.map fun v => v.category).sum ≤ 8) (hf : kc ≤ (g_R G).cells ∧ ks ≤ (g_R G).slots) (hd : decode cc pc = .ok (.invokestatic index, 3)) (k : V G kc ks ws (pc + 3) lv (.int (iI (if b < a then b else a)) :: st)) : V G kc ks ws pc lv (.int (iI b) :: .int (iI a) :: st) := by
  intro H locs ls hP hD hS hl
  have hr := hG.room
  refine va_mmin hG.exec hG.code (by rw [hG.maxL, hl.1, hG.n]) hG.own (hG.hts _ h1) (hG.hts _ h2) (hG.hts _ h3) (hG.hts _ h4) (by omega) (by omega) hf.1 hf.2 hd ?_
  have e : (if iI b < iI a then iI b else iI a) = iI (if b < a then b else a) := by
    by_cases h : b < a
    · rw [if_pos h, if_pos ((iI_lt hb ha).mpr h)]
    · rw [if_neg h, if_neg (fun q => h ((iI_lt hb ha).mp q))]
  rw [e]
  exact k H locs ls hP hD hS hl
theorem r_copyi (hG : Cx G cc nL ret own Ts dd) {index a0 a n0 n1 : Nat} {f g : Int → Int} {sp dp n : Int} (q0 q1 : Nat) (ha0 : ws[q0]? = some (a0, .inl ((g_D G).1 100, n0, .inl (ia f)))) (ha1 : ws[q1]? = some (a, .inl ((g_D G).1 100, n1, .inl (ia g)))) (h1 : 0 ≤ sp ∧ sp < 2147483648) (h2 : 0 ≤ dp ∧ dp < 2147483648) (h3 : 0 ≤ n ∧ n < 2147483648) (h4 : sp + n ≤ n0) (h5 : dp + n ≤ n1) (w1 : Cond.methodLink own index arraycopyName ∈ Ts) (w2 : Cond.native arraycopyName ∈ Ts) (w3 : Cond.static arraycopyName ∈ Ts) (w4 : Cond.initialized "java/lang/System" ∈ Ts) (hdd : 1 ≤ dd) (hcat : (st.map fun v => v.category).sum ≤ 8) (hd : decode cc pc = .ok (.invokestatic index, 3)) {ws' : va_W} (hw : ws.set q1 (a, .inl ((g_D G).1 100, n1, .inl (ia (cpy1 f g sp dp n)))) = ws') (k : V G kc ks ws' (pc + 3) lv st) : V G kc ks ws pc lv (.int (iI n) :: .int (iI dp) :: .ref a :: .int (iI sp) :: .ref a0 :: st) := by
  intro H locs ls hP hD hS hl
  have hr := hG.room
  have hnf : nativeFrameWords "java/lang/System" "arraycopy" 5 ≤ 21 := by decide
  refine va_copyi hG.exec hG.code (by rw [hG.maxL, hl.1, hG.n]) hG.own (hG.hts _ w1) (hG.hts _ w2) (hG.hts _ w3) (hG.hts _ w4) hG.hK hP hD hS q0 q1 0 0 ha0 ha1 rfl rfl rfl (iI_nn h1) (iI_nn h2) (iI_nn h3) (by rw [iI_tn h1, iI_tn h3]; omega) (by rw [iI_tn h2, iI_tn h3]; omega) (fun _ _ => rfl) (by omega) (by omega) hd (fun H1 locs1 hP1 hD1 hS1 => ?_)
  rw [ia_cpy h1 h2 h3, hw] at hP1 hD1
  exact k H1 locs1 ls hP1 hD1 hS1 hl
theorem r_copyl (hG : Cx G cc nL ret own Ts dd) {index a0 a n0 n1 : Nat} {f g : Int → Int64} {sp dp n : Int} (q0 q1 : Nat) (ha0 : ws[q0]? = some (a0, .inl ((g_D G).1 101, n0, .inr (.inl (la f))))) (ha1 : ws[q1]? = some (a, .inl ((g_D G).1 101, n1, .inr (.inl (la g))))) (h1 : 0 ≤ sp ∧ sp < 2147483648) (h2 : 0 ≤ dp ∧ dp < 2147483648) (h3 : 0 ≤ n ∧ n < 2147483648) (h4 : sp + n ≤ n0) (h5 : dp + n ≤ n1) (w1 : Cond.methodLink own index arraycopyName ∈ Ts) (w2 : Cond.native arraycopyName ∈ Ts) (w3 : Cond.static arraycopyName ∈ Ts) (w4 : Cond.initialized "java/lang/System" ∈ Ts) (hdd : 1 ≤ dd) (hcat : (st.map fun v => v.category).sum ≤ 8) (hd : decode cc pc = .ok (.invokestatic index, 3)) {ws' : va_W} (hw : ws.set q1 (a, .inl ((g_D G).1 101, n1, .inr (.inl (la (cpy1 f g sp dp n))))) = ws') (k : V G kc ks ws' (pc + 3) lv st) : V G kc ks ws pc lv (.int (iI n) :: .int (iI dp) :: .ref a :: .int (iI sp) :: .ref a0 :: st) := by
  intro H locs ls hP hD hS hl
  have hr := hG.room
  have hnf : nativeFrameWords "java/lang/System" "arraycopy" 5 ≤ 21 := by decide
  refine va_copyl hG.exec hG.code (by rw [hG.maxL, hl.1, hG.n]) hG.own (hG.hts _ w1) (hG.hts _ w2) (hG.hts _ w3) (hG.hts _ w4) hG.hK hP hD hS q0 q1 1 1 ha0 ha1 rfl rfl rfl (iI_nn h1) (iI_nn h2) (iI_nn h3) (by rw [iI_tn h1, iI_tn h3]; omega) (by rw [iI_tn h2, iI_tn h3]; omega) (fun _ _ => rfl) (by omega) (by omega) hd (fun H1 locs1 hP1 hD1 hS1 => ?_)
  rw [la_cpy h1 h2 h3, hw] at hP1 hD1
  exact k H1 locs1 ls hP1 hD1 hS1 hl
end VW3
