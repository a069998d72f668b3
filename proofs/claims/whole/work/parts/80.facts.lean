set_option maxRecDepth 100000
theorem fl_abv : ∀ j : Fin 6, Cond.eq (.elem (.static "BreakSwaps$Kinds" "ABOVE" "[I") (.int (Int32.ofNat j.val))) (.int (iI (abv j.val))) ∈ flatC (Cond.and given_1 narrow_1) := by decide +kernel
theorem fl_nms : ∀ j : Fin 77, Cond.eq (.elem (.static "BreakSwapsModel" "NAMES" "[I") (.int (Int32.ofNat j.val))) (.int (iI (nms j.val))) ∈ flatC (Cond.and given_1 narrow_1) := by decide +kernel
theorem fl_s1 : ∀ i : Fin 11, Cond.exactly (Term.string "BreakSwaps$YardText" (sIx i.val)) "java/lang/String" ∈ flatC (Cond.and given_1 narrow_1) := by decide +kernel
theorem fl_s2 : ∀ i : Fin 11, Cond.eq (.field (Term.string "BreakSwaps$YardText" (sIx i.val)) "java/lang/String" "coder" "B") (.int 0) ∈ flatC (Cond.and given_1 narrow_1) := by decide +kernel
theorem fl_s3 : ∀ i : Fin 11, Cond.arrayOf (.field (Term.string "BreakSwaps$YardText" (sIx i.val)) "java/lang/String" "value" "[B") .byte ∈ flatC (Cond.and given_1 narrow_1) := by decide +kernel
theorem fl_s4 : ∀ i : Fin 11, Cond.eq (.length (.field (Term.string "BreakSwaps$YardText" (sIx i.val)) "java/lang/String" "value" "[B")) (.int (Int32.ofNat (sLen.getD i.val 0))) ∈ flatC (Cond.and given_1 narrow_1) := by decide +kernel
theorem fl_s5 : ∀ i : Fin 11, ∀ j : Fin 7, j.val < sLen.getD i.val 0 → Cond.eq (.elem (.field (Term.string "BreakSwaps$YardText" (sIx i.val)) "java/lang/String" "value" "[B") (.int (Int32.ofNat j.val))) (.int ((sByt.getD i.val []).getD j.val 0)) ∈ flatC (Cond.and given_1 narrow_1) := by decide +kernel
theorem fl_s6 : ∀ i j : Fin 11, i ≠ j → Cond.not (Cond.eq (Term.string "BreakSwaps$YardText" (sIx i.val)) (Term.string "BreakSwaps$YardText" (sIx j.val))) ∈ flatC (Cond.and given_1 narrow_1) ∨ Cond.not (Cond.eq (Term.string "BreakSwaps$YardText" (sIx j.val)) (Term.string "BreakSwaps$YardText" (sIx i.val))) ∈ flatC (Cond.and given_1 narrow_1) := by decide +kernel
set_option maxHeartbeats 4000000 in
theorem law_facts {s : State} {b : Nat} (hts : ∀ w ∈ lw_tbl, w.before #[Value.ref b] s = true) (hgv : (Cond.and given_1 narrow_1).before #[Value.ref b] s = true) : ∃ D : va_G, va_K D vwCl (tyD D) s ∧ SP D (fun q => s.heap.size ≤ q) s s.heap ∧ NP s := by
  have hs := flat_of_before _ hgv
  have hA : ∀ a : Nat, a < s.heap.size → ¬ (s.heap.size ≤ a) := fun a h => by omega
  obtain ⟨c0, i0, k0⟩ := u_known (C := RX0) (T := TX0) (N := 2) (n := 2) hts in_wsX00 (hts _ (List.mem_append_right _ (List.mem_append_left _ (List.mem_of_getElem? (i := 31) rfl))))
  obtain ⟨c1, i1, k1⟩ := u_known (C := RX2) (T := TX2) (N := 3) (n := 3) hts in_wsX20 (hts _ (List.mem_append_right _ (List.mem_append_left _ (List.mem_of_getElem? (i := 134) rfl))))
  obtain ⟨c2, i2, k2⟩ := u_known (C := RX3) (T := TX3) (N := 6) (n := 6) hts in_wsX30 (hts _ (List.mem_append_right _ (List.mem_append_left _ (List.mem_of_getElem? (i := 99) rfl))))
  obtain ⟨c3, i3, k3⟩ := u_known (C := RX4) (T := TX4) (N := 11) (n := 11) hts in_wsX40 (hts _ (List.mem_append_right _ (List.mem_append_left _ (List.mem_of_getElem? (i := 25) rfl))))
  obtain ⟨c4, i4, k4⟩ := u_known (C := RX5) (T := TX5) (N := 1) (n := 1) hts in_wsX50 (hts _ (List.mem_append_right _ (List.mem_append_left _ (List.mem_of_getElem? (i := 93) rfl))))
  obtain ⟨c5, i5, k5⟩ := u_known (C := RX6) (T := TX6) (N := 9) (n := 9) hts in_wsX60 (hts _ (List.mem_append_right _ (List.mem_append_left _ (List.mem_of_getElem? (i := 17) rfl))))
  obtain ⟨c6, i6, k6⟩ := u_known (C := RX7) (T := TX7) (N := 15) (n := 15) hts in_wsX70 (hts _ (List.mem_append_right _ (List.mem_append_right _ (List.mem_append_right _ (List.mem_append_left _ (List.mem_of_getElem? (i := 201) rfl))))))
  obtain ⟨ca, kka, compa, a1, a2, a3⟩ := Cond.arrayClass_spec (hts (.arrayClass .int) (List.mem_append_right _ (List.mem_append_left _ (List.mem_of_getElem? (i := 45) rfl))))
  obtain ⟨cb, kkb, compb, b1, b2, b3⟩ := Cond.arrayClass_spec (hts (.arrayClass .long) (List.mem_append_right _ (List.mem_append_left _ (List.mem_of_getElem? (i := 154) rfl))))
  have hAO : (Cond.arrayOver (.object "BreakSwaps$Sheet")).before #[Value.ref b] s = true := hts _ (List.mem_append_right _ (List.mem_append_left _ (List.mem_of_getElem? (i := 133) rfl)))
  obtain ⟨comps, cs, kks, s1, -, s3, s4, s5⟩ := Cond.arrayOver_spec hAO
  obtain ⟨adK, adV, hS, hev⟩ := vk_Sof (N := 11) (tm := fun i => Term.string "BreakSwaps$YardText" (sIx i)) (len := sLen) (byt := sByt) (A := fun q => s.heap.size ≤ q) (args := #[Value.ref b]) (s := s) (fun i hi => by have := (sl_le ⟨i, hi⟩).2; dsimp only at this; omega) (fun i hi => hs _ (fl_s1 ⟨i, hi⟩)) (fun i hi => hs _ (fl_s2 ⟨i, hi⟩)) (fun i hi => hs _ (fl_s3 ⟨i, hi⟩)) (fun i hi => hs _ (fl_s4 ⟨i, hi⟩)) (fun i hi j hj => hs _ (fl_s5 ⟨i, hi⟩ ⟨j, by have := (sl_le ⟨i, hi⟩).2; dsimp only at this; omega⟩ hj)) (fun i j hi hj hij => (fl_s6 ⟨i, hi⟩ ⟨j, hj⟩ (fun e => hij (congrArg Fin.val e))).imp (hs _) (hs _)) hA
  obtain ⟨t0, ht0, hT0⟩ := va_Tof (tm := .static "BreakSwaps$Kinds" "ABOVE" "[I") (ty := .int) (N := 6) (f := fun j => .int (iI (abv j))) (A := fun q => s.heap.size ≤ q) (args := #[Value.ref b]) (s := s) (by decide) (hs _ (by decide +kernel)) (va_eqt (hs (.eq (.length (.static "BreakSwaps$Kinds" "ABOVE" "[I")) (.int 6)) (by decide +kernel))) (fun j hj => va_eqt (hs _ (fl_abv ⟨j, hj⟩))) hA
  obtain ⟨t1, ht1, hT1⟩ := va_Tof (tm := .static "BreakSwapsModel" "NAMES" "[I") (ty := .int) (N := 77) (f := fun j => .int (iI (nms j))) (A := fun q => s.heap.size ≤ q) (args := #[Value.ref b]) (s := s) (by decide) (hs _ (by decide +kernel)) (va_eqt (hs (.eq (.length (.static "BreakSwapsModel" "NAMES" "[I")) (.int 77)) (by decide +kernel))) (fun j hj => va_eqt (hs _ (fl_nms ⟨j, hj⟩))) hA
  have hsr : ∀ i : Nat, i < 11 → vk_R "BreakSwaps$YardText" (sIx i) (sTx i) (adK i) s := fun i hi => by
    refine vk_R.of ?_ (hev i hi)
    rcases (show i = 0 ∨ i = 1 ∨ i = 2 ∨ i = 3 ∨ i = 4 ∨ i = 5 ∨ i = 6 ∨ i = 7 ∨ i = 8 ∨ i = 9 ∨ i = 10 by omega) with h | h | h | h | h | h | h | h | h | h | h <;> subst h
    · exact hts _ (List.mem_append_right _ (List.mem_append_right _ (List.mem_append_right _ (List.mem_append_left _ (List.mem_of_getElem? (i := 18) rfl)))))
    · exact hts _ (List.mem_append_right _ (List.mem_append_right _ (List.mem_append_right _ (List.mem_append_left _ (List.mem_of_getElem? (i := 71) rfl)))))
    · exact hts _ (List.mem_append_right _ (List.mem_append_right _ (List.mem_append_right _ (List.mem_append_left _ (List.mem_of_getElem? (i := 73) rfl)))))
    · exact hts _ (List.mem_append_right _ (List.mem_append_right _ (List.mem_append_right _ (List.mem_append_left _ (List.mem_of_getElem? (i := 90) rfl)))))
    · exact hts _ (List.mem_append_right _ (List.mem_append_right _ (List.mem_append_right _ (List.mem_append_left _ (List.mem_of_getElem? (i := 91) rfl)))))
    · exact hts _ (List.mem_append_right _ (List.mem_append_right _ (List.mem_append_right _ (List.mem_append_left _ (List.mem_of_getElem? (i := 92) rfl)))))
    · exact hts _ (List.mem_append_right _ (List.mem_append_right _ (List.mem_append_right _ (List.mem_append_left _ (List.mem_of_getElem? (i := 93) rfl)))))
    · exact hts _ (List.mem_append_right _ (List.mem_append_right _ (List.mem_append_right _ (List.mem_append_left _ (List.mem_of_getElem? (i := 94) rfl)))))
    · exact hts _ (List.mem_append_right _ (List.mem_append_right _ (List.mem_append_right _ (List.mem_append_left _ (List.mem_of_getElem? (i := 95) rfl)))))
    · exact hts _ (List.mem_append_right _ (List.mem_append_right _ (List.mem_append_right _ (List.mem_append_left _ (List.mem_of_getElem? (i := 106) rfl)))))
    · exact hts _ (List.mem_append_right _ (List.mem_append_right _ (List.mem_append_right _ (List.mem_append_left _ (List.mem_of_getElem? (i := 111) rfl)))))
  refine ⟨(fun n => cond (Nat.beq n 0) c0 (cond (Nat.beq n 1) c1 (cond (Nat.beq n 2) c2 (cond (Nat.beq n 3) c3 (cond (Nat.beq n 4) c4 (cond (Nat.beq n 5) c5 (cond (Nat.beq n 6) c6 (cond (Nat.beq n 100) ca (cond (Nat.beq n 101) cb (cond (Nat.beq n 102) cs (c0)))))))))), fun n => cond (Nat.beq n 0) i0 (cond (Nat.beq n 1) i1 (cond (Nat.beq n 2) i2 (cond (Nat.beq n 3) i3 (cond (Nat.beq n 4) i4 (cond (Nat.beq n 5) i5 (cond (Nat.beq n 6) i6 (cond (Nat.beq n 200) adK (cond (Nat.beq n 201) adV (fun k => cond (Nat.beq k 0) t0 t1)))))))))), ⟨fun c q hq => ?_, fun k q hq => ?_⟩, ⟨⟨⟨va_Zof (hts _ (List.mem_append_right _ (List.mem_append_right _ (List.mem_append_left _ (List.mem_of_getElem? (i := 89) rfl))))) (hts _ (List.mem_append_right _ (List.mem_append_left _ (List.mem_of_getElem? (i := 8) rfl)))) ht0 hA, hT0⟩, ⟨va_Zof (hts _ (List.mem_append_right _ (List.mem_append_right _ (List.mem_append_right _ (List.mem_append_right _ (List.mem_append_right _ (List.mem_of_getElem? (i := 42) rfl))))))) (hts _ (List.mem_append_right _ (List.mem_append_left _ (List.mem_of_getElem? (i := 7) rfl)))) ht1 hA, hT1⟩⟩, ⟨va_Zof (hts _ (List.mem_append_right _ (List.mem_append_right _ (List.mem_append_right _ (List.mem_append_left _ (List.mem_of_getElem? (i := 32) rfl)))))) (hts _ (List.mem_append_right _ (List.mem_append_left _ (List.mem_of_getElem? (i := 11) rfl)))) (va_eqi (hs (.eq (.static "java/lang/String" "COMPACT_STRINGS" "Z") (.int 1)) (by decide +kernel))) hA, va_Zqof (hts _ (List.mem_append_right _ (List.mem_append_right _ (List.mem_append_right _ (List.mem_append_left _ (List.mem_of_getElem? (i := 48) rfl)))))) (hts _ (List.mem_append_right _ (List.mem_append_left _ (List.mem_of_getElem? (i := 13) rfl)))) (hs _ (by decide +kernel)) hA⟩, hsr, hS⟩, ?_⟩
  · have hc : c < 7 := (List.getElem?_eq_some_iff.mp hq).1
    rcases (show c = 0 ∨ c = 1 ∨ c = 2 ∨ c = 3 ∨ c = 4 ∨ c = 5 ∨ c = 6 by omega) with h | h | h | h | h | h | h <;> subst h <;> cases hq
    · exact k0
    · exact k1
    · exact k2
    · exact k3
    · exact k4
    · exact k5
    · exact k6
  · have hk : k < 3 := (List.getElem?_eq_some_iff.mp hq).1
    rcases (show k = 0 ∨ k = 1 ∨ k = 2 by omega) with h | h | h <;> subst h <;> cases hq
    · exact ⟨fun n z => ⟨fun k h => (by cases h), kka, a2, compa, a3⟩, a1⟩
    · exact ⟨fun n z => ⟨fun k h => (by cases h), kkb, b2, compb, b3⟩, b1⟩
    · exact ⟨fun n z => ⟨fun k h => (by cases h), kks, s3, comps, s4⟩, kks, comps, s3, s4, s1, s5⟩
  · exact ⟨⟨va_Nw.of rfl (hts _ (List.mem_append_right _ (List.mem_append_left _ (List.mem_of_getElem? (i := 32) rfl)))), va_Nw.of rfl (hts _ (List.mem_append_right _ (List.mem_append_left _ (List.mem_of_getElem? (i := 100) rfl))))⟩, ⟨va_Nw.of rfl (hts _ (List.mem_append_right _ (List.mem_append_left _ (List.mem_of_getElem? (i := 26) rfl)))), va_Nw.of rfl (hts _ (List.mem_append_right _ (List.mem_append_left _ (List.mem_of_getElem? (i := 91) rfl)))), va_Nw.of rfl (hts _ (List.mem_append_right _ (List.mem_append_left _ (List.mem_of_getElem? (i := 94) rfl)))), va_Nw.of rfl (hts _ (List.mem_append_right _ (List.mem_append_left _ (List.mem_of_getElem? (i := 135) rfl))))⟩, va_AO.of hAO⟩
