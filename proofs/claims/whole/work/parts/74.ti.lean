/-! ===== what holds between calls is kept ===== -/
theorem TI_fin {T : TS} (h : TI T) (k : Int) : TI (fin T k).2 := h
theorem TI_fin64 {T : TS} (h : TI T) (k : Int) : TI (fin64 T k).2 := h
theorem TI_or {T : TS} (h : TI T) (k r : Int) : TI (orFin T k r).2 := by
  unfold orFin
  split
  · exact h
  · exact h
theorem TI_Z {T : TS} (h : TI T) {Z : YS} (hI : Inv Z) (hH : Hol Z) (hr : Z 5 0 ≤ 99999) : TI (sZ T Z) := ⟨⟨hI, hH, hr⟩, h.2⟩
theorem TI_on {T : TS} (h : TI T) {s c : Int} {r : Int × TS} (hr : (0 ≤ c ∧ c < T.1 5 2) → (0 ≤ s ∧ s ≤ 3) → TI r.2) : TI (onSheet T s c r).2 := by
  unfold onSheet
  split
  · split
    · exact h
    · split
      · rename_i h1 _ h2
        exact hr h2 h1
      · exact h
  · exact h
theorem ti_teacher {T : TS} (h : TI T) (v : Int) : TI (s_teacher T v).2 := by
  unfold s_teacher
  split
  · exact TI_Z h (Inv_up51 h.1.1 (by omega)) h.1.2.1 h.1.2.2
  · exact h
theorem ti_now {T : TS} (h : TI T) (v : Int) : TI (s_now T v).2 := by
  unfold s_now
  (repeat' split) <;> exact h
theorem ti_who {T : TS} (h : TI T) (v : Int) : TI (s_who T v).2 := by
  unfold s_who
  (repeat' split) <;> exact h
theorem ti_child {T : TS} (h : TI T) (k t : Int) : TI (s_child T k t).2 := by
  unfold s_child
  split
  · split
    · exact TI_Z h (Inv_addY h.1.1 (by omega) (by omega) (by omega)) (Hol_addY h.1.1 h.1.2.1 (by omega)) (by rw [(add_5 T.1 k t).1]; exact h.1.2.2)
    · exact h
  · exact h
theorem ti_of {T : TS} (h : TI T) (c w : Int) : TI (s_of T c w).2 := by
  unfold s_of
  (repeat' split) <;> exact h
theorem ti_set {T : TS} (h : TI T) (c w v : Int) : TI (s_set T c w v).2 := by
  have h1 := @mostK_1 w
  have h2 := @mostK_2 w
  have h3 := @mostK_3 w
  unfold s_set
  split
  · split
    · exact TI_Z h (Inv_give h.1.1 (by omega)) (Hol_give h.1.1 h.1.2.1 (by omega) (by omega)) h.1.2.2
    · split
      · exact TI_Z h (Inv_up2 h.1.1 (by omega)) h.1.2.1 h.1.2.2
      · exact TI_Z h (Inv_up3 h.1.1 (by omega)) h.1.2.1 h.1.2.2
  · exact h
theorem ti_likes {T : TS} (h : TI T) (c t v : Int) : TI (s_likes T c t v).2 := by
  unfold s_likes
  split
  · exact TI_Z h (Inv_up4 h.1.1 (by omega)) h.1.2.1 h.1.2.2
  · exact h
theorem ti_worth {T : TS} (h : TI T) (c t : Int) : TI (s_worth T c t).2 := by
  unfold s_worth
  (repeat' split) <;> exact h
theorem ti_agrees {T : TS} (h : TI T) (c t : Int) : TI (s_agrees T c t).2 := by
  unfold s_agrees
  (repeat' split) <;> exact h
theorem ti_turn {T : TS} (h : TI T) (c k : Int) : TI (s_turn T c k).2 := by
  unfold s_turn
  split
  · exact TI_Z h (Inv_up0 h.1.1 (by omega)) h.1.2.1 h.1.2.2
  · exact h
theorem ti_as {T : TS} (h : TI T) (c k : Int) : TI (s_as T c k).2 := by
  unfold s_as
  (repeat' split) <;> exact h
theorem ti_swap {T : TS} (h : TI T) (c o : Int) : TI (s_swap T c o).2 := by
  have hN := h.1.1.1
  unfold s_swap
  split
  · exact TI_Z h (Inv_swap h.1.1 (by omega) (by omega)) (Hol_swap h.1.2.1 (by omega) (by omega) (by omega)) h.1.2.2
  · exact h
theorem ti_mates {T : TS} (h : TI T) (c : Int) : TI (s_mates T c).2 := by
  unfold s_mates
  (repeat' split) <;> exact h
theorem ti_ring {T : TS} (h : TI T) : TI (s_ring T).2 := by
  unfold s_ring
  (repeat' split) <;> exact h
theorem ti_rounds {T : TS} (h : TI T) (n : Int) : TI (s_rounds T n).2 := by
  have hg := goZ_ok h.1.1 n.toNat
  unfold s_rounds
  split
  · split
    · exact TI_Z h hg.1 (hg.2.2.2.2.2.2 h.1.2.1) (by rw [hg.2.2.2.1]; omega)
    · exact h
  · exact h
theorem ti_on {T : TS} (h : TI T) (c n w : Int) : TI (s_on T c n w).2 := by
  unfold s_on
  (repeat' split) <;> exact h
theorem ti_glad {T : TS} (h : TI T) (n : Int) : TI (s_glad T n).2 := by
  unfold s_glad
  (repeat' split) <;> exact h
theorem ti_gets {T : TS} (h : TI T) (c t : Int) : TI (s_gets T c t).2 := by
  unfold s_gets
  split
  · exact TI_or h _ _
  · exact h
theorem ti_over {T : TS} (h : TI T) : TI (s_over T).2 := TI_or h _ _
theorem ti_first {T : TS} (h : TI T) (c n : Int) : TI (s_first T c n).2 := by
  unfold s_first
  split
  · exact TI_or h _ _
  · exact h
theorem ti_bring {T : TS} (h : TI T) (c n : Int) : TI (s_bring T c n).2 := by
  unfold s_bring
  (repeat' split) <;> exact h
theorem ti_kind {T : TS} (h : TI T) (c n : Int) : TI (s_kind T c n).2 := by
  unfold s_kind
  (repeat' split) <;> exact h
theorem ti_trust {T : TS} (h : TI T) (c n v : Int) : TI (s_trust T c n v).2 := by
  unfold s_trust
  split
  · exact TI_or h _ _
  · exact h
theorem ti_away {T : TS} (h : TI T) (n : Int) : TI (s_away T n).2 := by
  unfold s_away
  split
  · exact TI_or h _ _
  · exact h
theorem ti_winner {T : TS} (h : TI T) (n : Int) : TI (s_winner T n).2 := by
  unfold s_winner
  split
  · exact TI_or h _ _
  · exact h
theorem fdN_ok (b : Int) : ∀ (k : Nat) (R : YS), fdN R b k 0 0 = R 0 0 ∧ (bytesOk (R 2) → bytesOk (fdN R b k 2)) ∧ fdN R b k 3 = R 3 ∧ fdN R b k 4 = R 4
  | 0, R => ⟨rfl, id, rfl, rfl⟩
  | k + 1, R => by
    have ih := fdN_ok b k (upY (upY R 2 (R 0 1) (byteK b k)) 0 1 (R 0 1 + 1))
    refine ⟨ih.1, fun h => ih.2.1 (fun j h0 h1 => ?_), ih.2.2.1, ih.2.2.2⟩
    show 0 ≤ up1 (R 2) (R 0 1) (byteK b k) j ∧ up1 (R 2) (R 0 1) (byteK b k) j ≤ 255
    have hb := byteK_rng b k
    unfold up1
    split
    · exact hb
    · exact h j h0 h1
theorem ti_feed {T : TS} (h : TI T) (b n : Int) : TI (s_feed T b n).2 := by
  unfold s_feed
  split
  · split
    · have hf := fdN_ok b n.toNat T.2.2.1
      have h1 := fdN_01 b n.toNat T.2.2.1
      have hR := h.2.2.1.2.1
      refine ⟨h.1, h.2.1, ⟨?_, ?_, hf.2.1 h.2.2.1.2.2⟩, fun s h0 h4 => ?_⟩
      · show fdN T.2.2.1 b n.toNat 0 0 = 0 ∨ fdN T.2.2.1 b n.toNat 0 0 = 1
        rw [hf.1]; exact h.2.2.1.1
      · show 0 ≤ fdN T.2.2.1 b n.toNat 0 1 ∧ fdN T.2.2.1 b n.toNat 0 1 ≤ 120
        rw [h1]; omega
      · show (fdN T.2.2.1 b n.toNat 3 s = 0 ∨ fdN T.2.2.1 b n.toNat 3 s = 8 ∨ fdN T.2.2.1 b n.toNat 3 s = 16 ∨ fdN T.2.2.1 b n.toNat 3 s = 64) ∧ 0 ≤ fdN T.2.2.1 b n.toNat 4 s ∧ fdN T.2.2.1 b n.toNat 4 s ≤ 40
        rw [hf.2.2.1, hf.2.2.2]; exact h.2.2.2 s h0 h4
    · exact h
  · exact h
theorem TI_R01 {Z K R : YS} {C : Int → Int64} (h : TI (Z, K, R, C)) : TI (Z, K, upY R 0 1 0, C) := ⟨h.1, h.2.1, ⟨h.2.2.1.1, ⟨Int.le_refl 0, by show (0 : Int) ≤ 120; omega⟩, h.2.2.1.2.2⟩, h.2.2.2⟩
theorem ti_wipe {T : TS} (h : TI T) : TI (s_wipe T).2 := TI_R01 (Z := T.1) (K := T.2.1) (R := T.2.2.1) (C := T.2.2.2) h
theorem ti_yard {T : TS} (h : TI T) : TI (s_yard T).2 := by
  have hp := parse_rng (T.2.2.1 2) h.1.1 h.1.2.1 h.2.2.1.2.1
  unfold s_yard
  refine TI_R01 ⟨?_, h.2⟩
  dsimp only
  split
  · rename_i h0
    have := hp.2 h0
    exact ⟨this.1, this.2.1, by rw [this.2.2]; exact h.1.2.2⟩
  · exact h.1
theorem ti_sheet {T : TS} (h : TI T) (s b n : Int) : TI (s_sheet T s b n).2 := by
  unfold s_sheet
  split
  · split
    · exact h
    · split
      · exact h
      · refine ⟨h.1, h.2.1, h.2.2.1, fun j h0 h4 => ?_⟩
        have hj := h.2.2.2 j h0 h4
        show (up1 (T.2.2.1 3) s b j = 0 ∨ up1 (T.2.2.1 3) s b j = 8 ∨ up1 (T.2.2.1 3) s b j = 16 ∨ up1 (T.2.2.1 3) s b j = 64) ∧ 0 ≤ up1 (T.2.2.1 4) s (if b = 0 then 0 else n) j ∧ up1 (T.2.2.1 4) s (if b = 0 then 0 else n) j ≤ 40
        unfold up1
        by_cases e : j = s
        · rw [if_pos e, if_pos e]
          split <;> omega
        · rw [if_neg e, if_neg e]
          exact hj
  · exact h
theorem ti_write {T : TS} (h : TI T) (s i : Int) (v : Int64) : TI (s_write T s i v).2 := by
  unfold s_write
  (repeat' split) <;> exact h
theorem ti_copy {T : TS} (h : TI T) (s f t u n : Int) : TI (s_copy T s f t u n).2 := by
  unfold s_copy
  (repeat' split) <;> exact h
theorem layN_ok {Y : YS} {C : Int → Int64} {s c : Int} (hI : Inv Y) (hH : Hol Y) : ∀ k : Nat, Inv (layN Y C s c k) ∧ Hol (layN Y C s c k) ∧ (layN Y C s c k) 5 = Y 5
  | 0 => ⟨hI, hH, rfl⟩
  | k + 1 => by
    have ih := layN_ok (C := C) (s := s) (c := c) hI hH k
    unfold layN
    split
    · rename_i h
      have h2 := of_decide_eq_true (show decide (0 ≤ (C (40 * s + (k : Int))).toInt ∧ (C (40 * s + (k : Int))).toInt ≤ 20) = true from h)
      exact ⟨Inv_up4 ih.1 h2, ih.2.1, ih.2.2⟩
    · exact ih
theorem ti_lays {T : TS} (h : TI T) (s c : Int) : TI (s_lays T s c).2 := TI_on h (fun _ _ => by
  have hl := layN_ok (C := T.2.2.2) (s := s) (c := c) h.1.1 h.1.2.1 (layM (T.2.2.1 4 s))
  exact TI_Z h hl.1 hl.2.1 (by rw [hl.2.2]; exact h.1.2.2))
theorem ti_book {T : TS} (h : TI T) (s c : Int) : TI (s_book T s c).2 := TI_on h (fun _ _ => h)
theorem ti_read {T : TS} (h : TI T) (s c o : Int) : TI (s_read T s c o).2 := TI_on h (fun _ _ => by split <;> exact h)
theorem ti_image {T : TS} (h : TI T) : TI (s_image T).2 := ⟨h.1, h.1, ⟨Or.inr rfl, h.2.2.1.2⟩, h.2.2.2⟩
theorem ti_undo {T : TS} (h : TI T) : TI (s_undo T).2 := by
  unfold s_undo
  split
  · exact h
  · exact ⟨h.2.1, h.2⟩
theorem ti_tear {T : TS} (h : TI T) : TI (s_tear T).2 := ⟨h.1, h.2.1, ⟨Or.inl rfl, h.2.2.1.2⟩, h.2.2.2⟩
theorem ti_count {T : TS} (h : TI T) (w : Int) : TI (s_count T w).2 := by
  unfold s_count
  (repeat' split) <;> exact h
theorem ti_status {T : TS} (h : TI T) (w : Int) : TI (s_status T w).2 := by
  unfold s_status
  (repeat' split) <;> exact h
theorem TI_0 : TI ((fun _ _ => 0), (fun _ _ => 0), (fun _ _ => 0), (fun _ => 0)) := by
  have hI : Inv (fun _ _ => 0) := ⟨by dsimp only; omega, by dsimp only; omega, Or.inl rfl, fun c _ _ => by dsimp only; omega, fun i _ _ => by dsimp only; omega⟩
  have hH : Hol (fun _ _ => 0) := fun t _ _ => rfl
  exact ⟨⟨hI, hH, by show (0 : Int) ≤ 99999; omega⟩, ⟨hI, hH, by show (0 : Int) ≤ 99999; omega⟩, ⟨Or.inl rfl, by show (0 : Int) ≤ 0 ∧ (0 : Int) ≤ 120; omega, fun j _ _ => by show (0 : Int) ≤ 0 ∧ (0 : Int) ≤ 255; omega⟩, fun s _ _ => ⟨Or.inl rfl, by show (0 : Int) ≤ 0 ∧ (0 : Int) ≤ 40; omega⟩⟩
