theorem Inv_up52 {Y : YS} (h : Inv Y) {v : Int} (hv : 0 ≤ v ∧ v ≤ 8) : Inv (upY Y 5 2 v) := ⟨hv, h.2.1, h.2.2.1, h.2.2.2.1, h.2.2.2.2⟩
theorem Inv_up51 {Y : YS} (h : Inv Y) {v : Int} (hv : v = 0 ∨ v = 1) : Inv (upY Y 5 1 v) := ⟨h.1, h.2.1, hv, h.2.2.2.1, h.2.2.2.2⟩
theorem Inv_addN {A : YS} (h : Inv A) (c : Int) : ∀ n : Nat, Inv (addN A c n)
  | 0 => h
  | n + 1 => Inv_up4 (Inv_addN h c n) (by omega)
theorem Inv_addY {Y : YS} (h : Inv Y) {k t : Int} (hN : Y 5 2 < 8) (hk : 0 ≤ k ∧ k ≤ 5) (ht : 0 ≤ t ∧ t ≤ 9) : Inv (addY Y k t) := by
  have h0 := h.1
  refine Inv_addN ?_ _ _
  have h1 : Inv (upY (upY (upY Y 5 2 (Y 5 2 + 1)) 0 (Y 5 2) k) 1 (Y 5 2) t) := Inv_up1 (Inv_up0 (Inv_up52 h (by omega)) hk) ht
  have h2 : Inv (upY (upY (upY (upY Y 5 2 (Y 5 2 + 1)) 0 (Y 5 2) k) 1 (Y 5 2) t) 8 t (Y 8 t + 1)) := h1
  exact Inv_up3 (Inv_up2 h2 (by omega)) (by omega)
theorem add_5 (Y : YS) (k t : Int) : (addY Y k t) 5 0 = Y 5 0 ∧ (addY Y k t) 5 1 = Y 5 1 ∧ (addY Y k t) 5 2 = Y 5 2 + 1 := by
  have e : (addY Y k t) 5 = (add0 Y k t) 5 := addN_row 10 5 (by omega)
  rw [e]
  exact ⟨rfl, rfl, rfl⟩
theorem Hol_addY {Y : YS} (hI : Inv Y) (h : Hol Y) {k t : Int} (ht : 0 ≤ t ∧ t ≤ 9) : Hol (addY Y k t) := fun u h0 h1 => by
  have hN := hI.1
  unfold cnt
  rw [show (addY Y k t) 8 = _ from addN_row 10 8 (by omega), show (addY Y k t) 1 = _ from addN_row 10 1 (by omega), (add_5 Y k t).2.2]
  show up1 (Y 8) t (Y 8 t + 1) u = cntN (up1 (Y 1) (Y 5 2) t) u (Y 5 2 + 1).toNat
  rw [show (Y 5 2 + 1).toNat = (Y 5 2).toNat + 1 by omega]
  unfold cntN
  rw [cntN_up, if_neg (by omega), show (((Y 5 2).toNat : Nat) : Int) = Y 5 2 by omega]
  have e := h u h0 h1
  unfold cnt at e
  have e3 : up1 (Y 1) (Y 5 2) t (Y 5 2) = t := by unfold up1; rw [if_pos rfl]
  rw [e3, ← e]
  unfold up1 eqI
  have a1 : u = t → Y 8 u = Y 8 t := fun e => by rw [e]
  (repeat' split) <;> omega
/-- what an item leaves -/
def itOk (n : Int) (Y : YS) (p : Int) (r : Bool × YS × Int) : Prop := (Inv r.2.1 ∧ Hol r.2.1 ∧ r.2.1 5 0 = Y 5 0) ∧ p ≤ r.2.2 ∧ r.2.2 ≤ n
theorem itOk.trans {n : Int} {Y Y2 : YS} {p p2 : Int} {r : Bool × YS × Int} (h : itOk n Y2 p2 r) (h5 : Y2 5 0 = Y 5 0) (hp : p ≤ p2) : itOk n Y p r := ⟨⟨h.1.1, h.1.2.1, h.1.2.2.trans h5⟩, by have := h.2; omega⟩
theorem swap_5 (Y : YS) (c o : Int) : (swapZ Y c o) 5 = Y 5 := rfl
theorem swapS_ok (B : Int → Int) {n : Int} {Y : YS} {p : Int} (hI : Inv Y) (hH : Hol Y) (hp : 0 ≤ p ∧ p ≤ n) : itOk n Y p (swapS B n Y p) := by
  have h1 := tE_rng (B := B) hp
  have h2 := tE_rng (B := B) (n := n) (p := tE B n p) (by omega)
  have hv1 := tV_rng B n p
  have hv2 := tV_rng B n (tE B n p)
  have hN := hI.1
  unfold swapS
  split
  · split
    · exact ⟨⟨Inv_swap hI (by omega) (by omega), Hol_swap hH (by omega) (by omega) (by omega), rfl⟩, by dsimp only; omega⟩
    · exact ⟨⟨hI, hH, rfl⟩, by dsimp only; omega⟩
  · exact ⟨⟨hI, hH, rfl⟩, by dsimp only; omega⟩
theorem trustS_ok (B : Int → Int) {n : Int} {Y : YS} {p c : Int} (hI : Inv Y) (hH : Hol Y) (hp : 0 ≤ p ∧ p ≤ n) : itOk n Y p (trustS B n Y c p) := by
  have h1 := tE_rng (B := B) hp
  have h2 := tE_rng (B := B) (n := n) (p := tE B n p) (by omega)
  have hv2 := tV_rng B n (tE B n p)
  unfold trustS
  split
  · split
    · exact ⟨⟨Inv_up3 hI (by omega), hH, rfl⟩, by dsimp only; omega⟩
    · exact ⟨⟨hI, hH, rfl⟩, by dsimp only; omega⟩
  · exact ⟨⟨hI, hH, rfl⟩, by dsimp only; omega⟩
theorem likeS_ok (B : Int → Int) {n c : Int} : ∀ (f : Nat) (k : Int) {Y : YS} {p : Int}, Inv Y → Hol Y → 0 ≤ p ∧ p ≤ n → itOk n Y p (likeS B n c f k Y p)
  | 0, k, Y, p, hI, hH, hp => ⟨⟨hI, hH, rfl⟩, by show p ≤ p ∧ p ≤ n; omega⟩
  | f + 1, k, Y, p, hI, hH, hp => by
    have h1 := tE_rng (B := B) hp
    have hv := tV_rng B n p
    unfold likeS
    split
    · exact ⟨⟨hI, hH, rfl⟩, by dsimp only; omega⟩
    · split
      · exact (likeS_ok B f (k + 1) (Y := upY Y 4 (c * 10 + k) (tV B n p)) (p := tE B n p) (Inv_up4 hI (by omega)) hH (by omega)).trans rfl (by omega)
      · exact ⟨⟨hI, hH, rfl⟩, by dsimp only; omega⟩
theorem likesS_ok (B : Int → Int) {n : Int} {Y : YS} {p c : Int} (hI : Inv Y) (hH : Hol Y) (hp : 0 ≤ p ∧ p ≤ n) : itOk n Y p (likesS B n Y c p) := by
  have h1 := tE_rng (B := B) hp
  unfold likesS
  split
  · exact (likeS_ok B 4 0 hI hH (by omega)).trans rfl (by omega)
  · exact ⟨⟨hI, hH, rfl⟩, by dsimp only; omega⟩
theorem childS_ok (B : Int → Int) {n : Int} {Y : YS} {p k : Int} (hI : Inv Y) (hH : Hol Y) (hk : 0 ≤ k ∧ k ≤ 5) (hp : 0 ≤ p ∧ p ≤ n) : itOk n Y p (childS B n Y k p) := by
  have h1 := tE_rng (B := B) hp
  have h2 := tE_rng (B := B) (n := n) (p := tE B n p) (by omega)
  have hv2 := tV_rng B n (tE B n p)
  unfold childS
  split
  · split
    · have hIa := Inv_addY hI (k := k) (t := tV B n (tE B n p)) (by omega) hk (by omega)
      have hHa := Hol_addY hI hH (k := k) (t := tV B n (tE B n p)) (by omega)
      have ht := trustS_ok B (n := n) (Y := addY Y k (tV B n (tE B n p))) (p := tE B n (tE B n p)) (c := Y 5 2) hIa hHa (by omega)
      unfold bornS
      split
      · have ht2 := ht.2
        exact (likesS_ok B (n := n) (c := Y 5 2) ht.1.1 ht.1.2.1 (by omega)).trans (ht.1.2.2.trans (add_5 Y k _).1) (by omega)
      · exact ht.trans (add_5 Y k _).1 (by omega)
    · exact ⟨⟨hI, hH, rfl⟩, by dsimp only; omega⟩
  · exact ⟨⟨hI, hH, rfl⟩, by dsimp only; omega⟩
/-- a token that isn't the end is at least a byte -/
theorem tE_more {B : Int → Int} {n p : Int} (hp : 0 ≤ p ∧ p ≤ n) (h : ¬ tK B n p = 0) : p < tE B n p := by
  have h1 := tE_rng (B := B) hp
  unfold tK at h
  unfold tE
  by_cases h2 : n ≤ tS B n p
  · rw [if_pos h2] at h; exact absurd rfl h
  · rw [if_neg h2]
    split
    · rename_i h3
      rw [scanF_go (by omega) h3]
      have := (scanF_rng (f := isL) (B := B) (n := n) (p := tS B n p + 1) (by omega)).1
      omega
    · split
      · rename_i h3
        rw [scanF_go (by omega) h3]
        have := (scanF_rng (f := isD) (B := B) (n := n) (p := tS B n p + 1) (by omega)).1
        omega
      · omega
theorem itemS_ok (B : Int → Int) {n : Int} {Y : YS} {p : Int} (hI : Inv Y) (hH : Hol Y) (hp : 0 ≤ p ∧ p ≤ n) : itOk n Y p (itemS B n Y p) ∧ ((itemS B n Y p).1 = true → p < (itemS B n Y p).2.2) := by
  have h1 := tE_rng (B := B) hp
  have ht := tokM_rng B n p
  have hm := tE_more (B := B) hp
  unfold itemS
  split
  · exact ⟨⟨⟨Inv_up51 hI (by omega), hH, rfl⟩, by dsimp only; omega⟩, fun _ => hm (by omega)⟩
  · split
    · exact ⟨⟨⟨Inv_up51 hI (by omega), hH, rfl⟩, by dsimp only; omega⟩, fun _ => hm (by omega)⟩
    · split
      · have h2 := swapS_ok B (n := n) (p := tE B n p) hI hH (by omega)
        exact ⟨h2.trans rfl (by omega), fun _ => by have := hm (by omega); have := h2.2; omega⟩
      · split
        · rename_i hk
          have h2 := childS_ok B (n := n) (p := p) hI hH hk hp
          refine ⟨h2, fun hb => ?_⟩
          have hp1 := tE_rng (B := B) (n := n) (p := tE B n p) (by omega)
          have hv2 := tV_rng B n (tE B n p)
          have hm1 := hm (by omega)
          unfold childS at hb ⊢
          split at hb
          · split at hb
            · rename_i h5 h6
              rw [if_pos h5, if_pos h6]
              have hIa := Inv_addY hI (k := tokM B n p) (t := tV B n (tE B n p)) (by omega) hk (by omega)
              have hHa := Hol_addY hI hH (k := tokM B n p) (t := tV B n (tE B n p)) (by omega)
              have ht := trustS_ok B (n := n) (Y := addY Y (tokM B n p) (tV B n (tE B n p))) (p := tE B n (tE B n p)) (c := Y 5 2) hIa hHa (by omega)
              have ht2 := ht.2
              unfold bornS
              split
              · have := (likesS_ok B (n := n) (c := Y 5 2) ht.1.1 ht.1.2.1 (show 0 ≤ (trustS B n (addY Y (tokM B n p) (tV B n (tE B n p))) (Y 5 2) (tE B n (tE B n p))).2.2 ∧ (trustS B n (addY Y (tokM B n p) (tV B n (tE B n p))) (Y 5 2) (tE B n (tE B n p))).2.2 ≤ n by omega)).2
                omega
              · omega
            · cases hb
          · cases hb
        · exact ⟨⟨⟨hI, hH, rfl⟩, by dsimp only; omega⟩, fun h => by cases h⟩
def tw (D : va_G) (x b : Nat → Nat) (Y : YS) (xx zz q : Int) (B : Int → Int) (n p v : Int) : va_W := ((x 0, .inr (4, [.ref (x 1)])) :: tapew D (fun i => x (1 + i)) B n (tK B n p) (tS B n p) (tE B n p) v) ++ yw D b Y xx zz q
