section VR
variable {G : GJ} {cc : ByteArray} {nL : Nat} {ret : Option FieldType} {own : String} {Ts : List Cond} {dd kc ks pc : Nat} {lv : List (Nat × Value)} {st : List Value} {a : Nat → Nat} {Z K R YT : YS} {C : Int → Int64} {J : Nat → Int}
set_option maxHeartbeats 4000000 in
set_option maxRecDepth 100000 in
theorem r_rdi {index : Nat} (hG : Cx G cc nL ret own Ts dd) (hT : GoodIn Ts (wsV own index RX5 yX5_readInto wsX5_readInto)) (hdd : 8 ≤ dd) (hB : bytesOk (R 2)) (hn : 0 ≤ R 0 1 ∧ R 0 1 ≤ 120) (hI : Inv YT) (hH : Hol YT) (hcat : (st.map fun v => v.category).sum ≤ 8) (hf : kc ≤ (g_R G).cells ∧ ks ≤ (g_R G).slots) (hd : decode cc pc = .ok (.invokevirtual index, 3)) (k : ∀ (YT2 : YS) (J2 : Nat → Int), (0 ≤ (parseS (R 2) (R 0 1) 120 1 YT 0).1 → YT2 = (parseS (R 2) (R 0 1) 120 1 YT 0).2) → V G kc ks (bw (g_D G) a Z K R C YT2 J2) (pc + 3) lv (.int (iI (parseS (R 2) (R 0 1) 120 1 YT 0).1) :: st)) : V G kc ks (bw (g_D G) a Z K R C YT J) pc lv (.ref (a 18) :: .ref (a 27) :: st) := by
  obtain ⟨J1, hJ1⟩ : ∃ J1 : Nat → Int, J1 = jn J 14 (iI (J 14)).toInt := ⟨_, rfl⟩
  refine V_ws (ws' := bw (g_D G) a Z K R C YT J1) (by rw [hJ1]; unfold bw btxt tapew; rw [show (jn J 14 (iI (J 14)).toInt) 14 = (iI (J 14)).toInt from rfl, iI_of]; rfl) ?_
  have h14 : -2147483648 ≤ J1 14 ∧ J1 14 < 2147483648 := by rw [hJ1]; exact iI_rng _
  refine r_callViF hG (c_X5_readInto (g_l G) (g_D G) (fun i => a (27 + i)) (fun i => a (18 + i)) YT (J1 6) (J1 7) (J1 8) (R 2) (R 0 1) (J1 11) (J1 12) (J1 13) (J1 14) hB hn h14 hI hH) [27, 28, 29, 18, 19, 20, 21, 22, 23, 24, 25] [0, 1, 2, 3, 4, 5, 6, 7, 8, 9, 10, 11, 12, 13, 14, 15, 16, 17, 26, 30, 31, 32, 33, 34, 35, 36, 37, 38] (bobj (g_D G) a (R) ++ (yw (g_D G) (fun i => a (2 + i)) (Z) ((J1) 0) ((J1) 1) ((J1) 2) ++ (yw (g_D G) (fun i => a (10 + i)) (K) ((J1) 3) ((J1) 4) ((J1) 5) ++ (bestw (a 26) ((J1) 9) ((J1) 10) ++ (bshs (g_D G) a (R) (C)))))) rfl rfl rfl rfl (by decide) hT rfl hyX5_readInto rfl (by omega) (by decide) 27 rfl rfl rfl hcat hf hd ?_
  rintro w ⟨Y2, tk2, st2, en2, va2, rfl, hy⟩
  exact V_sub (ws' := bw (g_D G) a Z K R C Y2 (jn (jn (jn (jn J1 11 tk2) 12 st2) 13 en2) 14 va2)) [0, 1, 2, 3, 4, 5, 6, 7, 8, 9, 10, 11, 12, 13, 14, 15, 16, 17, 31, 32, 33, 34, 35, 36, 37, 38, 18, 28, 29, 30, 19, 20, 21, 22, 23, 24, 25, 26, 27] rfl rfl (k _ _ hy)
end VR
theorem kX6_yard_19 : Cond.fieldLink RX6 19 "BreakSwaps" "trial" "LBreakSwaps$Yard;" ∈ wsX6_yard := List.mem_of_getElem? (i := 1) rfl
theorem kX6_yard_10 : Cond.fieldLink RX6 10 "BreakSwaps" "live" "LBreakSwaps$Yard;" ∈ wsX6_yard := List.mem_of_getElem? (i := 2) rfl
theorem kX6_yard_32 : Cond.fieldLink RX6 32 "BreakSwaps" "text" "LBreakSwaps$YardText;" ∈ wsX6_yard := List.mem_of_getElem? (i := 3) rfl
theorem kX6_yard_40 : Cond.fieldLink RX6 40 "BreakSwaps" "tape" "LBreakSwaps$Tape;" ∈ wsX6_yard := List.mem_of_getElem? (i := 4) rfl
theorem kX6_yard_191 : Cond.fieldLink RX6 191 "BreakSwaps$Tape" "length" "I" ∈ wsX6_yard := List.mem_of_getElem? (i := 5) rfl
theorem cX6_yard_X3 : ∀ w ∈ wsX30, w ∈ wsX6_yard := fun _ h => List.mem_cons_of_mem _ (List.mem_append_left _ (List.mem_append_left _ (List.mem_append_right _ h)))
theorem cX6_yard_X6 : ∀ w ∈ wsX60, w ∈ wsX6_yard := fun _ h => List.mem_cons_of_mem _ (List.mem_append_left _ (List.mem_append_left _ (List.mem_append_left _ (List.mem_append_right _ h))))
theorem hyX6_yard : hyV yX6_yard RX6 0 := by decide +kernel
set_option maxHeartbeats 4000000 in
set_option maxRecDepth 100000 in
theorem c_X6_yard (l : Launch) (D : va_G) (a : Nat → Nat) (Z K R : YS) (C : Int → Int64) (YT : YS) (J : Nat → Int) (hT : TI (Z, K, R, C))  : Con l yX6_yard wsX6_yard 8 D (bw D a Z K R C YT J) [.ref (a 0)] (some (.int (iI ((s_yard (Z, K, R, C)).1)))) (fun ww => ∃ Y2 J2, ww = bwT D a (s_yard (Z, K, R, C)).2 Y2 J2) := by
  refine con_start (own := RX6) (by decide) rfl rfl (Nat.le_of_ble_eq_true rfl) ?_
  intro G hG hE hl hD
  subst hl
  subst hD
  have hI : Inv Z := hT.1.1
  have hH : Hol Z := hT.1.2.1
  have hN := hI.1
  have hr0 := hI.2.1
  have hu5 := hI.2.2.1
  have hrd : Z 5 0 ≤ 99999 := hT.1.2.2
  have hB : bytesOk (R 2) := hT.2.2.1.2.2
  have hR1 : 0 ≤ R 0 1 ∧ R 0 1 ≤ 120 := hT.2.2.1.2.1
  have hrr := parse_rng (R 2) hI hH hR1
  have K38 : ∀ (Z1 YT1 : YS) (J1 : Nat → Int), Z1 = (if 0 ≤ (parseS (R 2) (R 0 1) 120 1 Z 0).1 then (parseS (R 2) (R 0 1) 120 1 Z 0).2 else Z) → V G 0 0 (bw (g_D G) a Z1 K R C YT1 J1) 38 [(0, .ref (a 0)), (1, .int (iI (parseS (R 2) (R 0 1) 120 1 Z 0).1))] [] := by
    intro Z1 YT1 J1 e1
    refine r_aload_n (i := 0) hG dX6_yard_38 rfl rfl ?_
    refine r_get hG cX6_yard_X6 0 5 rfl rfl (by decide) kX6_yard_40 rfl dX6_yard_39 ?_
    refine r_iconst hG dX6_yard_42 ?_
    refine r_put hG cX6_yard_X3 28 1 tyX3 tyX3_ok nmX3 rfl rfl (by decide) kX6_yard_191 rfl rfl rfl (Nat.le_of_ble_eq_true rfl) dX6_yard_43 rfl ?_
    refine r_iload_n (i := 1) hG dX6_yard_46 rfl rfl ?_
    exact r_iret hG hE dX6_yard_47 rfl ⟨YT1, J1, by rw [e1]; rfl⟩
  refine r_aload_n (i := 0) hG dX6_yard_0 rfl rfl ?_
  refine r_get hG cX6_yard_X6 0 2 rfl rfl (by decide) kX6_yard_19 rfl dX6_yard_1 ?_
  refine r_aload_n (i := 0) hG dX6_yard_4 rfl rfl ?_
  refine r_get hG cX6_yard_X6 0 0 rfl rfl (by decide) kX6_yard_10 rfl dX6_yard_5 ?_
  refine r_becT hG gX6_yard_X4_become (by decide) (Nat.le_of_ble_eq_true rfl) ⟨Nat.zero_le _, Nat.zero_le _⟩ dX6_yard_8 ?_
  refine r_aload_n (i := 0) hG dX6_yard_11 rfl rfl ?_
  refine r_get hG cX6_yard_X6 0 4 rfl rfl (by decide) kX6_yard_32 rfl dX6_yard_12 ?_
  refine r_aload_n (i := 0) hG dX6_yard_15 rfl rfl ?_
  refine r_get hG cX6_yard_X6 0 2 rfl rfl (by decide) kX6_yard_19 rfl dX6_yard_16 ?_
  refine r_rdi hG gX6_yard_X5_readInto (by decide) hB hR1 hI hH (Nat.le_of_ble_eq_true rfl) ⟨Nat.zero_le _, Nat.zero_le _⟩ dX6_yard_19 (fun YT2 J2 hy => ?_)
  refine r_istore_n (i := 1) hG dX6_yard_22 rfl (by decide) rfl ?_
  refine r_iload_n (i := 1) hG dX6_yard_23 rfl rfl ?_
  refine r_if_lt (tgt := 38) hG (by omega) dX6_yard_24 (by decide) (fun c24 => ?_) (fun c24 => ?_)
  · first
      | exact V_lv (K38 Z YT2 J2 (by rw [if_neg (by omega)])) ⟨rfl, rfl, trivial⟩
      | exact V_lv (K38 YT2 YT2 _ (by rw [if_pos (by omega)]; exact hy (by omega))) ⟨rfl, rfl, trivial⟩
  · refine r_aload_n (i := 0) hG dX6_yard_27 rfl rfl ?_
    refine r_get hG cX6_yard_X6 0 0 rfl rfl (by decide) kX6_yard_10 rfl dX6_yard_28 ?_
    refine r_aload_n (i := 0) hG dX6_yard_31 rfl rfl ?_
    refine r_get hG cX6_yard_X6 0 2 rfl rfl (by decide) kX6_yard_19 rfl dX6_yard_32 ?_
    refine r_becLT hG gX6_yard_X4_become (by decide) (Nat.le_of_ble_eq_true rfl) ⟨Nat.zero_le _, Nat.zero_le _⟩ dX6_yard_35 ?_
    first
      | exact V_lv (K38 Z YT2 J2 (by rw [if_neg (by omega)])) ⟨rfl, rfl, trivial⟩
      | exact V_lv (K38 YT2 YT2 _ (by rw [if_pos (by omega)]; exact hy (by omega))) ⟨rfl, rfl, trivial⟩
