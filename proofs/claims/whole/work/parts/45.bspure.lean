theorem leastN_cases (f : Int → Bool) : ∀ n : Nat, (leastN f n = -1 ∧ ∀ j : Nat, j < n → f j = false) ∨ ∃ i : Nat, i < n ∧ leastN f n = i ∧ f i = true ∧ ∀ j : Nat, j < i → f j = false
  | 0 => Or.inl ⟨rfl, fun j h => absurd h (by omega)⟩
  | n + 1 => by
    rcases leastN_cases f n with ⟨h1, h2⟩ | ⟨i, h1, h2, h3, h4⟩
    · cases e : f (n : Int) with
      | true => exact Or.inr ⟨n, by omega, by unfold leastN; rw [h1, if_neg (by omega), e, if_pos rfl], e, h2⟩
      | false =>
        refine Or.inl ⟨by unfold leastN; rw [h1, if_neg (by omega), e]; rfl, fun j hj => ?_⟩
        by_cases h : j = n
        · rw [h]; exact e
        · exact h2 j (by omega)
    · exact Or.inr ⟨i, by omega, by unfold leastN; rw [if_pos (by omega)]; exact h2, h3, h4⟩
theorem ring_dec {n a b c : Int} (hb : 0 ≤ b ∧ b < n) (hc : 0 ≤ c ∧ c < n) : ((a * n + b) * n + c) / (n * n) = a ∧ ((a * n + b) * n + c) / n % n = b ∧ ((a * n + b) * n + c) % n = c := by
  have h1 : ((a * n + b) * n + c) / n = a * n + b := by
    rw [Int.add_comm, Int.add_mul_ediv_right _ _ (by omega), Int.ediv_eq_zero_of_lt hc.1 hc.2]
    omega
  have h2 : (a * n + b) / n = a := by
    rw [Int.add_comm, Int.add_mul_ediv_right _ _ (by omega), Int.ediv_eq_zero_of_lt hb.1 hb.2]
    omega
  refine ⟨?_, ?_, ?_⟩
  · rw [← Int.ediv_ediv_of_nonneg (by omega), h1, h2]
  · rw [h1, Int.add_comm, Int.add_mul_emod_self_right, Int.emod_eq_of_lt hb.1 hb.2]
  · rw [Int.add_comm, Int.add_mul_emod_self_right, Int.emod_eq_of_lt hc.1 hc.2]
theorem ringF_at {Y : YS} {x y z : Int} (hy : 0 ≤ y ∧ y < Y 5 2) (hz : 0 ≤ z ∧ z < Y 5 2) : ringF Y ((x * Y 5 2 + y) * Y 5 2 + z) = ringP Y x y z ∧ ringA Y ((x * Y 5 2 + y) * Y 5 2 + z) = 100 * x + 10 * y + z := by
  obtain ⟨h1, h2, h3⟩ := ring_dec (a := x) hy hz
  unfold ringF ringA
  rw [h1, h2, h3]
  exact ⟨rfl, rfl⟩
theorem ring_more {Y : YS} {x y : Nat} (hy : (y : Int) < Y 5 2) (h0 : ∀ j : Nat, (j : Int) < ((x : Int) * Y 5 2 + y) * Y 5 2 → ringF Y j = false) (h : ∀ z : Nat, (z : Int) < Y 5 2 → ringP Y x y z = false) : ∀ j : Nat, (j : Int) < ((x : Int) * Y 5 2 + ((y + 1 : Nat) : Int)) * Y 5 2 → ringF Y j = false := by
  intro j hj
  by_cases c : (j : Int) < ((x : Int) * Y 5 2 + y) * Y 5 2
  · exact h0 j c
  · have e : ((x : Int) * Y 5 2 + ((y + 1 : Nat) : Int)) * Y 5 2 = ((x : Int) * Y 5 2 + y) * Y 5 2 + Y 5 2 := by
      rw [show (x : Int) * Y 5 2 + ((y + 1 : Nat) : Int) = ((x : Int) * Y 5 2 + y) + 1 by omega, Int.add_mul]
      omega
    obtain ⟨z, hz⟩ : ∃ z : Nat, (z : Int) = j - ((x : Int) * Y 5 2 + y) * Y 5 2 := ⟨((j : Int) - ((x : Int) * Y 5 2 + y) * Y 5 2).toNat, by omega⟩
    have := (ringF_at (Y := Y) (x := x) (y := y) (z := z) (by omega) (by omega)).1
    rw [show (j : Int) = ((x : Int) * Y 5 2 + y) * Y 5 2 + z by omega, this]
    exact h z (by omega)
theorem ring_found {Y : YS} (hI : Inv Y) {x y z : Nat} (hx : (x : Int) < Y 5 2) (hy : (y : Int) < Y 5 2) (hz : (z : Int) < Y 5 2) (h0 : ∀ j : Nat, (j : Int) < ((x : Int) * Y 5 2 + y) * Y 5 2 → ringF Y j = false) (h : ∀ j : Nat, j < z → ringP Y x y j = false) (hp : ringP Y x y z = true) : ¬ leastN (ringF Y) (Y 5 2 * Y 5 2 * Y 5 2).toNat < 0 ∧ ringA Y (leastN (ringF Y) (Y 5 2 * Y 5 2 * Y 5 2).toNat) = 100 * x + 10 * y + z := by
  have hN := hI.1
  have e0 := ringF_at (Y := Y) (x := x) (y := y) (z := z) (by omega) (by omega)
  have hpos : 0 ≤ ((x : Int) * Y 5 2 + y) * Y 5 2 := Int.mul_nonneg (Int.add_nonneg (Int.mul_nonneg (by omega) (by omega)) (by omega)) (by omega)
  obtain ⟨k, hk⟩ : ∃ k : Nat, (k : Int) = ((x : Int) * Y 5 2 + y) * Y 5 2 + z := ⟨(((x : Int) * Y 5 2 + y) * Y 5 2 + z).toNat, by omega⟩
  have hlt : (k : Int) < Y 5 2 * Y 5 2 * Y 5 2 := by
    have h1 : (x : Int) * Y 5 2 + y + 1 ≤ Y 5 2 * Y 5 2 := by
      have := Int.mul_le_mul_of_nonneg_right (show (x : Int) + 1 ≤ Y 5 2 by omega) hN.1
      rw [Int.add_mul] at this
      omega
    have h2 := Int.mul_le_mul_of_nonneg_right h1 hN.1
    rw [Int.add_mul] at h2
    omega
  have e1 := leastN_at (f := ringF Y) (i := k) (fun j hj => by
    by_cases c : (j : Int) < ((x : Int) * Y 5 2 + y) * Y 5 2
    · exact h0 j c
    · obtain ⟨z2, hz2⟩ : ∃ z2 : Nat, (z2 : Int) = j - ((x : Int) * Y 5 2 + y) * Y 5 2 := ⟨((j : Int) - ((x : Int) * Y 5 2 + y) * Y 5 2).toNat, by omega⟩
      rw [show (j : Int) = ((x : Int) * Y 5 2 + y) * Y 5 2 + z2 by omega, (ringF_at (Y := Y) (x := x) (y := y) (z := z2) (by omega) (by omega)).1]
      exact h z2 (by omega)) (by rw [hk, e0.1]; exact hp) (n := (Y 5 2 * Y 5 2 * Y 5 2).toNat) (by omega)
  rw [e1]
  refine ⟨by omega, ?_⟩
  rw [hk]
  exact e0.2
section VB
variable {G : GJ} {cc : ByteArray} {nL : Nat} {ret : Option FieldType} {own : String} {Ts : List Cond} {dd kc ks pc : Nat} {lv : List (Nat × Value)} {st : List Value} {a : Nat → Nat} {Z K R YT : YS} {C : Int → Int64} {J : Nat → Int}

set_option maxHeartbeats 4000000 in
set_option maxRecDepth 100000 in
theorem r_becT {index : Nat} (hG : Cx G cc nL ret own Ts dd) (hT : GoodIn Ts (wsV own index RX4 yX4_become wsX4_become)) (hdd : 2 ≤ dd) (hcat : (st.map fun v => v.category).sum ≤ 8) (hf : kc ≤ (g_R G).cells ∧ ks ≤ (g_R G).slots) (hd : decode cc pc = .ok (.invokevirtual index, 3)) (k : V G kc ks (bw (g_D G) a Z K R C Z (jn J 8 0)) (pc + 3) lv st) : V G kc ks (bw (g_D G) a Z K R C YT J) pc lv (.ref (a 2) :: .ref (a 18) :: st) := by
  refine r_callVvF hG (c_X4_become (g_l G) (g_D G) (fun i => a (18 + i)) (fun i => a (2 + i)) YT Z (J 6) (J 7) (J 8) (J 0) (J 1) (J 2)) [18, 19, 20, 21, 22, 23, 24, 25, 2, 3, 4, 5, 6, 7, 8, 9] [0, 1, 10, 11, 12, 13, 14, 15, 16, 17, 26, 27, 28, 29, 30, 31, 32, 33, 34, 35, 36, 37, 38] (bobj (g_D G) a (R) ++ (yw (g_D G) (fun i => a (10 + i)) (K) ((J) 3) ((J) 4) ((J) 5) ++ (bestw (a 26) ((J) 9) ((J) 10) ++ (btxt (g_D G) a (R) (J) ++ (bshs (g_D G) a (R) (C)))))) rfl rfl rfl rfl (by decide) hT rfl hyX4_become rfl (by omega) (by decide) 18 rfl rfl rfl hcat hf hd ?_
  intro w hw
  subst hw
  exact V_sub (ws' := bw (g_D G) a Z K R C Z (jn J 8 0)) [0, 1, 31, 32, 33, 34, 35, 36, 37, 38, 2, 3, 4, 5, 6, 7, 8, 9, 23, 24, 25, 26, 27, 28, 29, 30, 10, 11, 12, 13, 14, 15, 16, 17, 18, 19, 20, 21, 22] rfl rfl k
set_option maxHeartbeats 4000000 in
set_option maxRecDepth 100000 in
theorem r_becK {index : Nat} (hG : Cx G cc nL ret own Ts dd) (hT : GoodIn Ts (wsV own index RX4 yX4_become wsX4_become)) (hdd : 2 ≤ dd) (hcat : (st.map fun v => v.category).sum ≤ 8) (hf : kc ≤ (g_R G).cells ∧ ks ≤ (g_R G).slots) (hd : decode cc pc = .ok (.invokevirtual index, 3)) (k : V G kc ks (bw (g_D G) a Z Z R C YT (jn J 5 0)) (pc + 3) lv st) : V G kc ks (bw (g_D G) a Z K R C YT J) pc lv (.ref (a 2) :: .ref (a 10) :: st) := by
  refine r_callVvF hG (c_X4_become (g_l G) (g_D G) (fun i => a (10 + i)) (fun i => a (2 + i)) K Z (J 3) (J 4) (J 5) (J 0) (J 1) (J 2)) [10, 11, 12, 13, 14, 15, 16, 17, 2, 3, 4, 5, 6, 7, 8, 9] [0, 1, 18, 19, 20, 21, 22, 23, 24, 25, 26, 27, 28, 29, 30, 31, 32, 33, 34, 35, 36, 37, 38] (bobj (g_D G) a (R) ++ (yw (g_D G) (fun i => a (18 + i)) (YT) ((J) 6) ((J) 7) ((J) 8) ++ (bestw (a 26) ((J) 9) ((J) 10) ++ (btxt (g_D G) a (R) (J) ++ (bshs (g_D G) a (R) (C)))))) rfl rfl rfl rfl (by decide) hT rfl hyX4_become rfl (by omega) (by decide) 10 rfl rfl rfl hcat hf hd ?_
  intro w hw
  subst hw
  exact V_sub (ws' := bw (g_D G) a Z Z R C YT (jn J 5 0)) [0, 1, 31, 32, 33, 34, 35, 36, 37, 38, 23, 24, 25, 26, 27, 28, 29, 30, 2, 3, 4, 5, 6, 7, 8, 9, 10, 11, 12, 13, 14, 15, 16, 17, 18, 19, 20, 21, 22] rfl rfl k
set_option maxHeartbeats 4000000 in
set_option maxRecDepth 100000 in
theorem r_becLK {index : Nat} (hG : Cx G cc nL ret own Ts dd) (hT : GoodIn Ts (wsV own index RX4 yX4_become wsX4_become)) (hdd : 2 ≤ dd) (hcat : (st.map fun v => v.category).sum ≤ 8) (hf : kc ≤ (g_R G).cells ∧ ks ≤ (g_R G).slots) (hd : decode cc pc = .ok (.invokevirtual index, 3)) (k : V G kc ks (bw (g_D G) a K K R C YT (jn J 2 0)) (pc + 3) lv st) : V G kc ks (bw (g_D G) a Z K R C YT J) pc lv (.ref (a 10) :: .ref (a 2) :: st) := by
  refine r_callVvF hG (c_X4_become (g_l G) (g_D G) (fun i => a (2 + i)) (fun i => a (10 + i)) Z K (J 0) (J 1) (J 2) (J 3) (J 4) (J 5)) [2, 3, 4, 5, 6, 7, 8, 9, 10, 11, 12, 13, 14, 15, 16, 17] [0, 1, 18, 19, 20, 21, 22, 23, 24, 25, 26, 27, 28, 29, 30, 31, 32, 33, 34, 35, 36, 37, 38] (bobj (g_D G) a (R) ++ (yw (g_D G) (fun i => a (18 + i)) (YT) ((J) 6) ((J) 7) ((J) 8) ++ (bestw (a 26) ((J) 9) ((J) 10) ++ (btxt (g_D G) a (R) (J) ++ (bshs (g_D G) a (R) (C)))))) rfl rfl rfl rfl (by decide) hT rfl hyX4_become rfl (by omega) (by decide) 2 rfl rfl rfl hcat hf hd ?_
  intro w hw
  subst hw
  exact V_sub (ws' := bw (g_D G) a K K R C YT (jn J 2 0)) [0, 1, 23, 24, 25, 26, 27, 28, 29, 30, 31, 32, 33, 34, 35, 36, 37, 38, 2, 3, 4, 5, 6, 7, 8, 9, 10, 11, 12, 13, 14, 15, 16, 17, 18, 19, 20, 21, 22] rfl rfl k
set_option maxHeartbeats 4000000 in
set_option maxRecDepth 100000 in
theorem r_becLT {index : Nat} (hG : Cx G cc nL ret own Ts dd) (hT : GoodIn Ts (wsV own index RX4 yX4_become wsX4_become)) (hdd : 2 ≤ dd) (hcat : (st.map fun v => v.category).sum ≤ 8) (hf : kc ≤ (g_R G).cells ∧ ks ≤ (g_R G).slots) (hd : decode cc pc = .ok (.invokevirtual index, 3)) (k : V G kc ks (bw (g_D G) a YT K R C YT (jn J 2 0)) (pc + 3) lv st) : V G kc ks (bw (g_D G) a Z K R C YT J) pc lv (.ref (a 18) :: .ref (a 2) :: st) := by
  refine r_callVvF hG (c_X4_become (g_l G) (g_D G) (fun i => a (2 + i)) (fun i => a (18 + i)) Z YT (J 0) (J 1) (J 2) (J 6) (J 7) (J 8)) [2, 3, 4, 5, 6, 7, 8, 9, 18, 19, 20, 21, 22, 23, 24, 25] [0, 1, 10, 11, 12, 13, 14, 15, 16, 17, 26, 27, 28, 29, 30, 31, 32, 33, 34, 35, 36, 37, 38] (bobj (g_D G) a (R) ++ (yw (g_D G) (fun i => a (10 + i)) (K) ((J) 3) ((J) 4) ((J) 5) ++ (bestw (a 26) ((J) 9) ((J) 10) ++ (btxt (g_D G) a (R) (J) ++ (bshs (g_D G) a (R) (C)))))) rfl rfl rfl rfl (by decide) hT rfl hyX4_become rfl (by omega) (by decide) 2 rfl rfl rfl hcat hf hd ?_
  intro w hw
  subst hw
  exact V_sub (ws' := bw (g_D G) a YT K R C YT (jn J 2 0)) [0, 1, 23, 24, 25, 26, 27, 28, 29, 30, 2, 3, 4, 5, 6, 7, 8, 9, 31, 32, 33, 34, 35, 36, 37, 38, 10, 11, 12, 13, 14, 15, 16, 17, 18, 19, 20, 21, 22] rfl rfl k
end VB
