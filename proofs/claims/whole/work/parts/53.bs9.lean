section VG
variable {G : GJ} {cc : ByteArray} {nL : Nat} {ret : Option FieldType} {own : String} {Ts : List Cond} {dd kc ks pc : Nat} {lv : List (Nat × Value)} {st : List Value} {a : Nat → Nat} {Z K R YT : YS} {C : Int → Int64} {J : Nat → Int}
set_option maxHeartbeats 4000000 in
set_option maxRecDepth 100000 in
theorem r_gab0 {index : Nat} {c : Int} (hG : Cx G cc nL ret own Ts dd) (hT : GoodIn Ts (wsV own index RX4 yX4_goesAsBooked wsX4_goesAsBooked)) (hdd : 6 ≤ dd) (hI : Inv YT) (hH : Hol YT) (hn : 0 ≤ R 4 0 ∧ R 4 0 ≤ 40) (hr : YT 5 0 + R 4 0 < 2000000000) (hq : QI YT (J 8)) (hc : 0 ≤ c ∧ c < 8) (hcat : (st.map fun v => v.category).sum ≤ 8) (hf : kc ≤ (g_R G).cells ∧ ks ≤ (g_R G).slots) (hd : decode cc pc = .ok (.invokevirtual index, 3)) (k : ∀ (YT2 : YS) (J2 : Nat → Int), V G kc ks (bw (g_D G) a Z K R C YT2 J2) (pc + 3) lv (.int (iI (b2 (asBooked YT c (fun jz => C (40 * 0 + jz)) (R 4 0).toNat))) :: st)) : V G kc ks (bw (g_D G) a Z K R C YT J) pc lv (.ref (a 31) :: .int (iI c) :: .ref (a 18) :: st) := by
  refine r_callViF hG (c_X4_goesAsBooked (g_l G) (g_D G) (fun i => a (18 + i)) (fun i => a (31 + i)) YT (J 6) (J 7) (J 8) (fun jz => (C) (40 * 0 + jz)) (R 3 0) (R 4 0) hI hH hn hr hq c hc) [18, 19, 20, 21, 22, 23, 24, 25, 31, 32] [0, 1, 2, 3, 4, 5, 6, 7, 8, 9, 10, 11, 12, 13, 14, 15, 16, 17, 26, 27, 28, 29, 30, 33, 34, 35, 36, 37, 38] (bobj (g_D G) a (R) ++ (yw (g_D G) (fun i => a (2 + i)) (Z) ((J) 0) ((J) 1) ((J) 2) ++ (yw (g_D G) (fun i => a (10 + i)) (K) ((J) 3) ((J) 4) ((J) 5) ++ (bestw (a 26) ((J) 9) ((J) 10) ++ (btxt (g_D G) a (R) (J) ++ ([(a 30, .inl ((g_D G).1 102, 4, .inr (.inr (.inr (.inr (fun k => some (a (31 + 2 * k))))))))] ++ (sheetw (g_D G) (fun i => a (33 + i)) (fun jz => (C) (40 * 1 + jz)) ((R) 3 1) ((R) 4 1) ++ (sheetw (g_D G) (fun i => a (35 + i)) (fun jz => (C) (40 * 2 + jz)) ((R) 3 2) ((R) 4 2) ++ (sheetw (g_D G) (fun i => a (37 + i)) (fun jz => (C) (40 * 3 + jz)) ((R) 3 3) ((R) 4 3)))))))))) rfl rfl rfl rfl (by decide) hT rfl hyX4_goesAsBooked rfl (by omega) (by decide) 18 rfl rfl rfl hcat hf hd ?_
  rintro w ⟨Y2, x2, z2, q2, rfl⟩
  exact V_sub (ws' := bw (g_D G) a Z K R C Y2 (jn (jn (jn J 6 x2) 7 z2) 8 q2)) [0, 1, 2, 3, 4, 5, 6, 7, 8, 9, 10, 11, 12, 13, 14, 15, 16, 17, 29, 30, 31, 32, 33, 34, 35, 36, 18, 19, 20, 21, 22, 37, 38, 23, 24, 25, 26, 27, 28] rfl rfl (k _ _)
set_option maxHeartbeats 4000000 in
set_option maxRecDepth 100000 in
theorem r_gab1 {index : Nat} {c : Int} (hG : Cx G cc nL ret own Ts dd) (hT : GoodIn Ts (wsV own index RX4 yX4_goesAsBooked wsX4_goesAsBooked)) (hdd : 6 ≤ dd) (hI : Inv YT) (hH : Hol YT) (hn : 0 ≤ R 4 1 ∧ R 4 1 ≤ 40) (hr : YT 5 0 + R 4 1 < 2000000000) (hq : QI YT (J 8)) (hc : 0 ≤ c ∧ c < 8) (hcat : (st.map fun v => v.category).sum ≤ 8) (hf : kc ≤ (g_R G).cells ∧ ks ≤ (g_R G).slots) (hd : decode cc pc = .ok (.invokevirtual index, 3)) (k : ∀ (YT2 : YS) (J2 : Nat → Int), V G kc ks (bw (g_D G) a Z K R C YT2 J2) (pc + 3) lv (.int (iI (b2 (asBooked YT c (fun jz => C (40 * 1 + jz)) (R 4 1).toNat))) :: st)) : V G kc ks (bw (g_D G) a Z K R C YT J) pc lv (.ref (a 33) :: .int (iI c) :: .ref (a 18) :: st) := by
  refine r_callViF hG (c_X4_goesAsBooked (g_l G) (g_D G) (fun i => a (18 + i)) (fun i => a (33 + i)) YT (J 6) (J 7) (J 8) (fun jz => (C) (40 * 1 + jz)) (R 3 1) (R 4 1) hI hH hn hr hq c hc) [18, 19, 20, 21, 22, 23, 24, 25, 33, 34] [0, 1, 2, 3, 4, 5, 6, 7, 8, 9, 10, 11, 12, 13, 14, 15, 16, 17, 26, 27, 28, 29, 30, 31, 32, 35, 36, 37, 38] (bobj (g_D G) a (R) ++ (yw (g_D G) (fun i => a (2 + i)) (Z) ((J) 0) ((J) 1) ((J) 2) ++ (yw (g_D G) (fun i => a (10 + i)) (K) ((J) 3) ((J) 4) ((J) 5) ++ (bestw (a 26) ((J) 9) ((J) 10) ++ (btxt (g_D G) a (R) (J) ++ ([(a 30, .inl ((g_D G).1 102, 4, .inr (.inr (.inr (.inr (fun k => some (a (31 + 2 * k))))))))] ++ (sheetw (g_D G) (fun i => a (31 + i)) (fun jz => (C) (40 * 0 + jz)) ((R) 3 0) ((R) 4 0) ++ (sheetw (g_D G) (fun i => a (35 + i)) (fun jz => (C) (40 * 2 + jz)) ((R) 3 2) ((R) 4 2) ++ (sheetw (g_D G) (fun i => a (37 + i)) (fun jz => (C) (40 * 3 + jz)) ((R) 3 3) ((R) 4 3)))))))))) rfl rfl rfl rfl (by decide) hT rfl hyX4_goesAsBooked rfl (by omega) (by decide) 18 rfl rfl rfl hcat hf hd ?_
  rintro w ⟨Y2, x2, z2, q2, rfl⟩
  exact V_sub (ws' := bw (g_D G) a Z K R C Y2 (jn (jn (jn J 6 x2) 7 z2) 8 q2)) [0, 1, 2, 3, 4, 5, 6, 7, 8, 9, 10, 11, 12, 13, 14, 15, 16, 17, 29, 30, 31, 32, 33, 34, 35, 36, 18, 19, 20, 21, 22, 23, 24, 37, 38, 25, 26, 27, 28] rfl rfl (k _ _)
set_option maxHeartbeats 4000000 in
set_option maxRecDepth 100000 in
theorem r_gab2 {index : Nat} {c : Int} (hG : Cx G cc nL ret own Ts dd) (hT : GoodIn Ts (wsV own index RX4 yX4_goesAsBooked wsX4_goesAsBooked)) (hdd : 6 ≤ dd) (hI : Inv YT) (hH : Hol YT) (hn : 0 ≤ R 4 2 ∧ R 4 2 ≤ 40) (hr : YT 5 0 + R 4 2 < 2000000000) (hq : QI YT (J 8)) (hc : 0 ≤ c ∧ c < 8) (hcat : (st.map fun v => v.category).sum ≤ 8) (hf : kc ≤ (g_R G).cells ∧ ks ≤ (g_R G).slots) (hd : decode cc pc = .ok (.invokevirtual index, 3)) (k : ∀ (YT2 : YS) (J2 : Nat → Int), V G kc ks (bw (g_D G) a Z K R C YT2 J2) (pc + 3) lv (.int (iI (b2 (asBooked YT c (fun jz => C (40 * 2 + jz)) (R 4 2).toNat))) :: st)) : V G kc ks (bw (g_D G) a Z K R C YT J) pc lv (.ref (a 35) :: .int (iI c) :: .ref (a 18) :: st) := by
  refine r_callViF hG (c_X4_goesAsBooked (g_l G) (g_D G) (fun i => a (18 + i)) (fun i => a (35 + i)) YT (J 6) (J 7) (J 8) (fun jz => (C) (40 * 2 + jz)) (R 3 2) (R 4 2) hI hH hn hr hq c hc) [18, 19, 20, 21, 22, 23, 24, 25, 35, 36] [0, 1, 2, 3, 4, 5, 6, 7, 8, 9, 10, 11, 12, 13, 14, 15, 16, 17, 26, 27, 28, 29, 30, 31, 32, 33, 34, 37, 38] (bobj (g_D G) a (R) ++ (yw (g_D G) (fun i => a (2 + i)) (Z) ((J) 0) ((J) 1) ((J) 2) ++ (yw (g_D G) (fun i => a (10 + i)) (K) ((J) 3) ((J) 4) ((J) 5) ++ (bestw (a 26) ((J) 9) ((J) 10) ++ (btxt (g_D G) a (R) (J) ++ ([(a 30, .inl ((g_D G).1 102, 4, .inr (.inr (.inr (.inr (fun k => some (a (31 + 2 * k))))))))] ++ (sheetw (g_D G) (fun i => a (31 + i)) (fun jz => (C) (40 * 0 + jz)) ((R) 3 0) ((R) 4 0) ++ (sheetw (g_D G) (fun i => a (33 + i)) (fun jz => (C) (40 * 1 + jz)) ((R) 3 1) ((R) 4 1) ++ (sheetw (g_D G) (fun i => a (37 + i)) (fun jz => (C) (40 * 3 + jz)) ((R) 3 3) ((R) 4 3)))))))))) rfl rfl rfl rfl (by decide) hT rfl hyX4_goesAsBooked rfl (by omega) (by decide) 18 rfl rfl rfl hcat hf hd ?_
  rintro w ⟨Y2, x2, z2, q2, rfl⟩
  exact V_sub (ws' := bw (g_D G) a Z K R C Y2 (jn (jn (jn J 6 x2) 7 z2) 8 q2)) [0, 1, 2, 3, 4, 5, 6, 7, 8, 9, 10, 11, 12, 13, 14, 15, 16, 17, 29, 30, 31, 32, 33, 34, 35, 36, 18, 19, 20, 21, 22, 23, 24, 25, 26, 37, 38, 27, 28] rfl rfl (k _ _)
set_option maxHeartbeats 4000000 in
set_option maxRecDepth 100000 in
theorem r_gab3 {index : Nat} {c : Int} (hG : Cx G cc nL ret own Ts dd) (hT : GoodIn Ts (wsV own index RX4 yX4_goesAsBooked wsX4_goesAsBooked)) (hdd : 6 ≤ dd) (hI : Inv YT) (hH : Hol YT) (hn : 0 ≤ R 4 3 ∧ R 4 3 ≤ 40) (hr : YT 5 0 + R 4 3 < 2000000000) (hq : QI YT (J 8)) (hc : 0 ≤ c ∧ c < 8) (hcat : (st.map fun v => v.category).sum ≤ 8) (hf : kc ≤ (g_R G).cells ∧ ks ≤ (g_R G).slots) (hd : decode cc pc = .ok (.invokevirtual index, 3)) (k : ∀ (YT2 : YS) (J2 : Nat → Int), V G kc ks (bw (g_D G) a Z K R C YT2 J2) (pc + 3) lv (.int (iI (b2 (asBooked YT c (fun jz => C (40 * 3 + jz)) (R 4 3).toNat))) :: st)) : V G kc ks (bw (g_D G) a Z K R C YT J) pc lv (.ref (a 37) :: .int (iI c) :: .ref (a 18) :: st) := by
  refine r_callViF hG (c_X4_goesAsBooked (g_l G) (g_D G) (fun i => a (18 + i)) (fun i => a (37 + i)) YT (J 6) (J 7) (J 8) (fun jz => (C) (40 * 3 + jz)) (R 3 3) (R 4 3) hI hH hn hr hq c hc) [18, 19, 20, 21, 22, 23, 24, 25, 37, 38] [0, 1, 2, 3, 4, 5, 6, 7, 8, 9, 10, 11, 12, 13, 14, 15, 16, 17, 26, 27, 28, 29, 30, 31, 32, 33, 34, 35, 36] (bobj (g_D G) a (R) ++ (yw (g_D G) (fun i => a (2 + i)) (Z) ((J) 0) ((J) 1) ((J) 2) ++ (yw (g_D G) (fun i => a (10 + i)) (K) ((J) 3) ((J) 4) ((J) 5) ++ (bestw (a 26) ((J) 9) ((J) 10) ++ (btxt (g_D G) a (R) (J) ++ ([(a 30, .inl ((g_D G).1 102, 4, .inr (.inr (.inr (.inr (fun k => some (a (31 + 2 * k))))))))] ++ (sheetw (g_D G) (fun i => a (31 + i)) (fun jz => (C) (40 * 0 + jz)) ((R) 3 0) ((R) 4 0) ++ (sheetw (g_D G) (fun i => a (33 + i)) (fun jz => (C) (40 * 1 + jz)) ((R) 3 1) ((R) 4 1) ++ (sheetw (g_D G) (fun i => a (35 + i)) (fun jz => (C) (40 * 2 + jz)) ((R) 3 2) ((R) 4 2)))))))))) rfl rfl rfl rfl (by decide) hT rfl hyX4_goesAsBooked rfl (by omega) (by decide) 18 rfl rfl rfl hcat hf hd ?_
  rintro w ⟨Y2, x2, z2, q2, rfl⟩
  exact V_sub (ws' := bw (g_D G) a Z K R C Y2 (jn (jn (jn J 6 x2) 7 z2) 8 q2)) [0, 1, 2, 3, 4, 5, 6, 7, 8, 9, 10, 11, 12, 13, 14, 15, 16, 17, 29, 30, 31, 32, 33, 34, 35, 36, 18, 19, 20, 21, 22, 23, 24, 25, 26, 27, 28, 37, 38] rfl rfl (k _ _)
end VG
theorem kX6_read_19 : Cond.fieldLink RX6 19 "BreakSwaps" "trial" "LBreakSwaps$Yard;" ∈ wsX6_read := List.mem_of_getElem? (i := 1) rfl
theorem kX6_read_10 : Cond.fieldLink RX6 10 "BreakSwaps" "live" "LBreakSwaps$Yard;" ∈ wsX6_read := List.mem_of_getElem? (i := 2) rfl
theorem kX6_read_107 : Cond.fieldLink RX6 107 "BreakSwaps$Yard" "kinds" "[I" ∈ wsX6_read := List.mem_of_getElem? (i := 3) rfl
theorem kX6_read_43 : Cond.fieldLink RX6 43 "BreakSwaps" "sheets" "[LBreakSwaps$Sheet;" ∈ wsX6_read := List.mem_of_getElem? (i := 4) rfl
theorem cX6_read_X4 : ∀ w ∈ wsX40, w ∈ wsX6_read := fun _ h => List.mem_cons_of_mem _ (List.mem_append_left _ (List.mem_append_left _ (List.mem_append_right _ h)))
theorem cX6_read_X6 : ∀ w ∈ wsX60, w ∈ wsX6_read := fun _ h => List.mem_cons_of_mem _ (List.mem_append_left _ (List.mem_append_left _ (List.mem_append_left _ (List.mem_append_right _ h))))
theorem hyX6_read : hyV yX6_read RX6 3 := by decide +kernel
set_option maxHeartbeats 4000000 in
set_option maxRecDepth 100000 in
theorem c_X6_read (l : Launch) (D : va_G) (a : Nat → Nat) (Z K R : YS) (C : Int → Int64) (YT : YS) (J : Nat → Int) (hT : TI (Z, K, R, C)) (s c o : Int) (hs : -2147483648 ≤ s ∧ s < 2147483648) (hc : -2147483648 ≤ c ∧ c < 2147483648) (ho : -2147483648 ≤ o ∧ o < 2147483648) : Con l yX6_read wsX6_read 7 D (bw D a Z K R C YT J) [.ref (a 0), .int (iI s), .int (iI c), .int (iI o)] (some (.int (iI ((s_read (Z, K, R, C) s c o).1)))) (fun ww => ∃ Y2 J2, ww = bwT D a (s_read (Z, K, R, C) s c o).2 Y2 J2) := by
  refine con_start (own := RX6) (by decide) rfl rfl (Nat.le_of_ble_eq_true rfl) ?_
  intro G hG hE hl hD
  subst hl
  subst hD
  have hI : Inv Z := hT.1.1
  have hH : Hol Z := hT.1.2.1
  have hN := hI.1
  have hr0 := hI.2.1
  have hu5 := hI.2.2.1
  have hrd : Z 5 0 ≤ 99999 := hT.1.2.2
  have hS : ∀ s, 0 ≤ s → s < 4 → (R 3 s = 0 ∨ R 3 s = 8 ∨ R 3 s = 16 ∨ R 3 s = 64) ∧ 0 ≤ R 4 s ∧ R 4 s ≤ 40 := hT.2.2.2
  have hsf := sfK_rng Z R s c
  have M : sfK Z R s c < 0 → ((0 ≤ o ∧ o < Z 5 2) ∧ c ≠ o) → V G 0 0 (bw (g_D G) a Z K R C YT J) 35 [(0, .ref (a 0)), (1, .int (iI s)), (2, .int (iI c)), (3, .int (iI o))] [] := by
    intro hsk hoo
    obtain ⟨h1, h2, h3⟩ := sfK_ok hsk
    have hsz := hS s h1.1 (by omega)
    have e0 : s_read (Z, K, R, C) s c o = (cntB (readF Z (fun i => C (40 * s + i)) (R 4 s) c o) 36, (Z, K, R, C)) := (onSheet_ok hsk).trans (if_pos hoo)
    rcases (show s = 0 ∨ s = 1 ∨ s = 2 ∨ s = 3 by omega) with hv4 | hv4 | hv4 | hv4
    · subst hv4
      have L : ∀ i : Nat, i ≤ 6 → ∀ (YT1 : YS) (J1 : Nat → Int), V G 0 0 (bw (g_D G) a (Z) (K) (R) (C) (YT1) (J1)) 41 [(0, .ref (a 0)), (1, .int (iI 0)), (2, .int (iI c)), (3, .int (iI o)), (5, .int (iI (cntB (readF Z (fun i => C (40 * 0 + i)) (R 4 0) c o) (6 * i + 0)))), (6, .int (iI (i : Int)))] [] := by
        refine down (fun i hi ih YT1 J1 => ?_)
        have M2 : i < 6 → ∀ k : Nat, k ≤ 6 → ∀ (YT1 : YS) (J1 : Nat → Int), V G 0 0 (bw (g_D G) a (Z) (K) (R) (C) (YT1) (J1)) 51 [(0, .ref (a 0)), (1, .int (iI 0)), (2, .int (iI c)), (3, .int (iI o)), (5, .int (iI (cntB (readF Z (fun i => C (40 * 0 + i)) (R 4 0) c o) (6 * i + k)))), (6, .int (iI (i : Int))), (7, .int (iI (k : Int)))] [] := by
          intro hi6
          refine down (fun k hk ihk YT1 J1 => ?_)
          have e6 : readF Z (fun i => C (40 * 0 + i)) (R 4 0) c o ((6 * i + k : Nat) : Int) = asBooked (upY (upY Z 0 c i) 0 o k) c (fun jz => C (40 * 0 + jz)) (R 4 0).toNat ∨ k = 6 := by
            by_cases hk6 : k = 6
            · exact Or.inr hk6
            · refine Or.inl ?_
              unfold readF
              rw [show ((6 * i + k : Nat) : Int) / 6 = i by omega, show ((6 * i + k : Nat) : Int) % 6 = k by omega]
          have J111 : k < 6 → ∀ (YT1 : YS) (J1 : Nat → Int), V G 0 0 (bw (g_D G) a (Z) (K) (R) (C) (YT1) (J1)) 111 [(0, .ref (a 0)), (1, .int (iI 0)), (2, .int (iI c)), (3, .int (iI o)), (5, .int (iI (cntB (readF Z (fun i => C (40 * 0 + i)) (R 4 0) c o) (6 * i + (k + 1))))), (6, .int (iI (i : Int))), (7, .int (iI (k : Int)))] [] := by
            intro hk6 YT1 J1
            refine r_iinc hG dX6_read_111 rfl (by decide) rfl ?_
            refine r_goto (tgt := 51) hG dX6_read_114 (by decide) ?_
            exact V_lv (ihk hk6 YT1 J1) ⟨rfl, rfl, rfl, rfl, rfl, rfl, rfl, trivial⟩
          refine r_iload hG dX6_read_51 rfl ?_
          refine r_bipush hG dX6_read_53 rfl ?_
          refine r_icmp_ge (tgt := 117) hG (by omega) (by omega) dX6_read_55 (by decide) (fun c55 => ?_) (fun c55 => ?_)
          · refine r_iinc hG dX6_read_117 rfl (by decide) rfl ?_
            refine r_goto (tgt := 41) hG dX6_read_120 (by decide) ?_
            have ek : k = 6 := by omega
            subst ek
            exact V_lv (ih hi6 YT1 J1) ⟨rfl, rfl, rfl, rfl, congrArg (fun v => some (Value.int (iI (cntB (readF Z (fun i => C (40 * 0 + i)) (R 4 0) c o) v)))) (by omega), rfl, trivial⟩
          · refine r_aload_n (i := 0) hG dX6_read_58 rfl rfl ?_
            refine r_get hG cX6_read_X6 0 2 rfl rfl (by decide) kX6_read_19 rfl dX6_read_59 ?_
            refine r_aload_n (i := 0) hG dX6_read_62 rfl rfl ?_
            refine r_get hG cX6_read_X6 0 0 rfl rfl (by decide) kX6_read_10 rfl dX6_read_63 ?_
            refine r_becT hG gX6_read_X4_become (by decide) (Nat.le_of_ble_eq_true rfl) ⟨Nat.zero_le _, Nat.zero_le _⟩ dX6_read_66 ?_
            refine r_aload_n (i := 0) hG dX6_read_69 rfl rfl ?_
            refine r_get hG cX6_read_X6 0 2 rfl rfl (by decide) kX6_read_19 rfl dX6_read_70 ?_
            refine r_get hG cX6_read_X4 18 3 rfl rfl (by decide) kX6_read_107 rfl dX6_read_73 ?_
            refine r_iload_n (i := 2) hG dX6_read_76 rfl rfl ?_
            refine r_iload hG dX6_read_77 rfl ?_
            refine r_iast hG 19 rfl (by omega) (by decide) dX6_read_79 rfl ?_
            refine r_aload_n (i := 0) hG dX6_read_80 rfl rfl ?_
            refine r_get hG cX6_read_X6 0 2 rfl rfl (by decide) kX6_read_19 rfl dX6_read_81 ?_
            refine r_get hG cX6_read_X4 18 3 rfl rfl (by decide) kX6_read_107 rfl dX6_read_84 ?_
            refine r_iload_n (i := 3) hG dX6_read_87 rfl rfl ?_
            refine r_iload hG dX6_read_88 rfl ?_
            refine r_iast hG 19 rfl (by omega) (by decide) dX6_read_90 rfl ?_
            refine r_aload_n (i := 0) hG dX6_read_91 rfl rfl ?_
            refine r_get hG cX6_read_X6 0 2 rfl rfl (by decide) kX6_read_19 rfl dX6_read_92 ?_
            refine r_iload_n (i := 2) hG dX6_read_95 rfl rfl ?_
            refine r_aload_n (i := 0) hG dX6_read_96 rfl rfl ?_
            refine r_get hG cX6_read_X6 0 6 rfl rfl (by decide) kX6_read_43 rfl dX6_read_97 ?_
            refine r_iload_n (i := 1) hG dX6_read_100 rfl rfl ?_
            refine r_aldq hG 30 rfl (by omega) (by decide) dX6_read_101 (v := .ref (a 31)) rfl ?_
            refine V_ws (ws' := bw (g_D G) a (Z) (K) (R) (C) (upY (upY Z 0 c i) 0 o k) (jn J1 8 0)) rfl ?_
            refine r_gab0 hG gX6_read_X4_goesAsBooked (by decide) (Inv_up0 (Inv_up0 hI (by omega)) (by omega)) hH (by omega) (by show Z 5 0 + R 4 0 < 2000000000; omega) (Or.inl rfl) (by omega) (Nat.le_of_ble_eq_true rfl) ⟨Nat.zero_le _, Nat.zero_le _⟩ dX6_read_102 (fun YT2 J2 => ?_)
            refine rb_if_eq (tgt := 111) hG dX6_read_105 (by decide) (fun c105 => ?_) (fun c105 => ?_)
            · try simp only [decide_eq_true_eq, decide_eq_false_iff_not] at c105
              first
                | exact V_lv (J111 (by omega) YT2 J2) ⟨rfl, rfl, rfl, rfl, congrArg (fun v => some (Value.int (iI v))) (show _ = cntB (readF Z (fun i => C (40 * 0 + i)) (R 4 0) c o) ((6 * i + k) + 1) by rw [cntB, e6.resolve_right (by omega), c105]; simp), rfl, rfl, trivial⟩
            · try simp only [decide_eq_true_eq, decide_eq_false_iff_not] at c105
              refine r_iinc hG dX6_read_108 rfl (by decide) rfl ?_
              first
                | exact V_lv (J111 (by omega) YT2 J2) ⟨rfl, rfl, rfl, rfl, congrArg (fun v => some (Value.int (iI v))) (show _ = cntB (readF Z (fun i => C (40 * 0 + i)) (R 4 0) c o) ((6 * i + k) + 1) by rw [cntB, e6.resolve_right (by omega), c105]; simp), rfl, rfl, trivial⟩
        refine r_iload hG dX6_read_41 rfl ?_
        refine r_bipush hG dX6_read_43 rfl ?_
        refine r_icmp_ge (tgt := 123) hG (by omega) (by omega) dX6_read_45 (by decide) (fun c45 => ?_) (fun c45 => ?_)
        · refine r_iload hG dX6_read_123 rfl ?_
          have ei : i = 6 := by omega
          subst ei
          exact r_iret hG hE dX6_read_125 (by rw [e0]) ⟨YT1, J1, by rw [e0]; rfl⟩
        · refine r_iconst hG dX6_read_48 ?_
          refine r_istore hG dX6_read_49 (by decide) rfl ?_
          exact V_lv (M2 (by omega) 0 (by omega) YT1 J1) ⟨rfl, rfl, rfl, rfl, rfl, rfl, rfl, trivial⟩
      refine r_iconst hG dX6_read_35 ?_
      refine r_istore hG dX6_read_36 (by decide) rfl ?_
      refine r_iconst hG dX6_read_38 ?_
      refine r_istore hG dX6_read_39 (by decide) rfl ?_
      exact V_lv (L 0 (by omega) YT J) ⟨rfl, rfl, rfl, rfl, rfl, rfl, trivial⟩
    · subst hv4
      have L : ∀ i : Nat, i ≤ 6 → ∀ (YT1 : YS) (J1 : Nat → Int), V G 0 0 (bw (g_D G) a (Z) (K) (R) (C) (YT1) (J1)) 41 [(0, .ref (a 0)), (1, .int (iI 1)), (2, .int (iI c)), (3, .int (iI o)), (5, .int (iI (cntB (readF Z (fun i => C (40 * 1 + i)) (R 4 1) c o) (6 * i + 0)))), (6, .int (iI (i : Int)))] [] := by
        refine down (fun i hi ih YT1 J1 => ?_)
        have M2 : i < 6 → ∀ k : Nat, k ≤ 6 → ∀ (YT1 : YS) (J1 : Nat → Int), V G 0 0 (bw (g_D G) a (Z) (K) (R) (C) (YT1) (J1)) 51 [(0, .ref (a 0)), (1, .int (iI 1)), (2, .int (iI c)), (3, .int (iI o)), (5, .int (iI (cntB (readF Z (fun i => C (40 * 1 + i)) (R 4 1) c o) (6 * i + k)))), (6, .int (iI (i : Int))), (7, .int (iI (k : Int)))] [] := by
          intro hi6
          refine down (fun k hk ihk YT1 J1 => ?_)
          have e6 : readF Z (fun i => C (40 * 1 + i)) (R 4 1) c o ((6 * i + k : Nat) : Int) = asBooked (upY (upY Z 0 c i) 0 o k) c (fun jz => C (40 * 1 + jz)) (R 4 1).toNat ∨ k = 6 := by
            by_cases hk6 : k = 6
            · exact Or.inr hk6
            · refine Or.inl ?_
              unfold readF
              rw [show ((6 * i + k : Nat) : Int) / 6 = i by omega, show ((6 * i + k : Nat) : Int) % 6 = k by omega]
          have J111 : k < 6 → ∀ (YT1 : YS) (J1 : Nat → Int), V G 0 0 (bw (g_D G) a (Z) (K) (R) (C) (YT1) (J1)) 111 [(0, .ref (a 0)), (1, .int (iI 1)), (2, .int (iI c)), (3, .int (iI o)), (5, .int (iI (cntB (readF Z (fun i => C (40 * 1 + i)) (R 4 1) c o) (6 * i + (k + 1))))), (6, .int (iI (i : Int))), (7, .int (iI (k : Int)))] [] := by
            intro hk6 YT1 J1
            refine r_iinc hG dX6_read_111 rfl (by decide) rfl ?_
            refine r_goto (tgt := 51) hG dX6_read_114 (by decide) ?_
            exact V_lv (ihk hk6 YT1 J1) ⟨rfl, rfl, rfl, rfl, rfl, rfl, rfl, trivial⟩
          refine r_iload hG dX6_read_51 rfl ?_
          refine r_bipush hG dX6_read_53 rfl ?_
          refine r_icmp_ge (tgt := 117) hG (by omega) (by omega) dX6_read_55 (by decide) (fun c55 => ?_) (fun c55 => ?_)
          · refine r_iinc hG dX6_read_117 rfl (by decide) rfl ?_
            refine r_goto (tgt := 41) hG dX6_read_120 (by decide) ?_
            have ek : k = 6 := by omega
            subst ek
            exact V_lv (ih hi6 YT1 J1) ⟨rfl, rfl, rfl, rfl, congrArg (fun v => some (Value.int (iI (cntB (readF Z (fun i => C (40 * 1 + i)) (R 4 1) c o) v)))) (by omega), rfl, trivial⟩
          · refine r_aload_n (i := 0) hG dX6_read_58 rfl rfl ?_
            refine r_get hG cX6_read_X6 0 2 rfl rfl (by decide) kX6_read_19 rfl dX6_read_59 ?_
            refine r_aload_n (i := 0) hG dX6_read_62 rfl rfl ?_
            refine r_get hG cX6_read_X6 0 0 rfl rfl (by decide) kX6_read_10 rfl dX6_read_63 ?_
            refine r_becT hG gX6_read_X4_become (by decide) (Nat.le_of_ble_eq_true rfl) ⟨Nat.zero_le _, Nat.zero_le _⟩ dX6_read_66 ?_
            refine r_aload_n (i := 0) hG dX6_read_69 rfl rfl ?_
            refine r_get hG cX6_read_X6 0 2 rfl rfl (by decide) kX6_read_19 rfl dX6_read_70 ?_
            refine r_get hG cX6_read_X4 18 3 rfl rfl (by decide) kX6_read_107 rfl dX6_read_73 ?_
            refine r_iload_n (i := 2) hG dX6_read_76 rfl rfl ?_
            refine r_iload hG dX6_read_77 rfl ?_
            refine r_iast hG 19 rfl (by omega) (by decide) dX6_read_79 rfl ?_
            refine r_aload_n (i := 0) hG dX6_read_80 rfl rfl ?_
            refine r_get hG cX6_read_X6 0 2 rfl rfl (by decide) kX6_read_19 rfl dX6_read_81 ?_
            refine r_get hG cX6_read_X4 18 3 rfl rfl (by decide) kX6_read_107 rfl dX6_read_84 ?_
            refine r_iload_n (i := 3) hG dX6_read_87 rfl rfl ?_
            refine r_iload hG dX6_read_88 rfl ?_
            refine r_iast hG 19 rfl (by omega) (by decide) dX6_read_90 rfl ?_
            refine r_aload_n (i := 0) hG dX6_read_91 rfl rfl ?_
            refine r_get hG cX6_read_X6 0 2 rfl rfl (by decide) kX6_read_19 rfl dX6_read_92 ?_
            refine r_iload_n (i := 2) hG dX6_read_95 rfl rfl ?_
            refine r_aload_n (i := 0) hG dX6_read_96 rfl rfl ?_
            refine r_get hG cX6_read_X6 0 6 rfl rfl (by decide) kX6_read_43 rfl dX6_read_97 ?_
            refine r_iload_n (i := 1) hG dX6_read_100 rfl rfl ?_
            refine r_aldq hG 30 rfl (by omega) (by decide) dX6_read_101 (v := .ref (a 33)) rfl ?_
            refine V_ws (ws' := bw (g_D G) a (Z) (K) (R) (C) (upY (upY Z 0 c i) 0 o k) (jn J1 8 0)) rfl ?_
            refine r_gab1 hG gX6_read_X4_goesAsBooked (by decide) (Inv_up0 (Inv_up0 hI (by omega)) (by omega)) hH (by omega) (by show Z 5 0 + R 4 1 < 2000000000; omega) (Or.inl rfl) (by omega) (Nat.le_of_ble_eq_true rfl) ⟨Nat.zero_le _, Nat.zero_le _⟩ dX6_read_102 (fun YT2 J2 => ?_)
            refine rb_if_eq (tgt := 111) hG dX6_read_105 (by decide) (fun c105 => ?_) (fun c105 => ?_)
            · try simp only [decide_eq_true_eq, decide_eq_false_iff_not] at c105
              first
                | exact V_lv (J111 (by omega) YT2 J2) ⟨rfl, rfl, rfl, rfl, congrArg (fun v => some (Value.int (iI v))) (show _ = cntB (readF Z (fun i => C (40 * 1 + i)) (R 4 1) c o) ((6 * i + k) + 1) by rw [cntB, e6.resolve_right (by omega), c105]; simp), rfl, rfl, trivial⟩
            · try simp only [decide_eq_true_eq, decide_eq_false_iff_not] at c105
              refine r_iinc hG dX6_read_108 rfl (by decide) rfl ?_
              first
                | exact V_lv (J111 (by omega) YT2 J2) ⟨rfl, rfl, rfl, rfl, congrArg (fun v => some (Value.int (iI v))) (show _ = cntB (readF Z (fun i => C (40 * 1 + i)) (R 4 1) c o) ((6 * i + k) + 1) by rw [cntB, e6.resolve_right (by omega), c105]; simp), rfl, rfl, trivial⟩
        refine r_iload hG dX6_read_41 rfl ?_
        refine r_bipush hG dX6_read_43 rfl ?_
        refine r_icmp_ge (tgt := 123) hG (by omega) (by omega) dX6_read_45 (by decide) (fun c45 => ?_) (fun c45 => ?_)
        · refine r_iload hG dX6_read_123 rfl ?_
          have ei : i = 6 := by omega
          subst ei
          exact r_iret hG hE dX6_read_125 (by rw [e0]) ⟨YT1, J1, by rw [e0]; rfl⟩
        · refine r_iconst hG dX6_read_48 ?_
          refine r_istore hG dX6_read_49 (by decide) rfl ?_
          exact V_lv (M2 (by omega) 0 (by omega) YT1 J1) ⟨rfl, rfl, rfl, rfl, rfl, rfl, rfl, trivial⟩
      refine r_iconst hG dX6_read_35 ?_
      refine r_istore hG dX6_read_36 (by decide) rfl ?_
      refine r_iconst hG dX6_read_38 ?_
      refine r_istore hG dX6_read_39 (by decide) rfl ?_
      exact V_lv (L 0 (by omega) YT J) ⟨rfl, rfl, rfl, rfl, rfl, rfl, trivial⟩
    · subst hv4
      have L : ∀ i : Nat, i ≤ 6 → ∀ (YT1 : YS) (J1 : Nat → Int), V G 0 0 (bw (g_D G) a (Z) (K) (R) (C) (YT1) (J1)) 41 [(0, .ref (a 0)), (1, .int (iI 2)), (2, .int (iI c)), (3, .int (iI o)), (5, .int (iI (cntB (readF Z (fun i => C (40 * 2 + i)) (R 4 2) c o) (6 * i + 0)))), (6, .int (iI (i : Int)))] [] := by
        refine down (fun i hi ih YT1 J1 => ?_)
        have M2 : i < 6 → ∀ k : Nat, k ≤ 6 → ∀ (YT1 : YS) (J1 : Nat → Int), V G 0 0 (bw (g_D G) a (Z) (K) (R) (C) (YT1) (J1)) 51 [(0, .ref (a 0)), (1, .int (iI 2)), (2, .int (iI c)), (3, .int (iI o)), (5, .int (iI (cntB (readF Z (fun i => C (40 * 2 + i)) (R 4 2) c o) (6 * i + k)))), (6, .int (iI (i : Int))), (7, .int (iI (k : Int)))] [] := by
          intro hi6
          refine down (fun k hk ihk YT1 J1 => ?_)
          have e6 : readF Z (fun i => C (40 * 2 + i)) (R 4 2) c o ((6 * i + k : Nat) : Int) = asBooked (upY (upY Z 0 c i) 0 o k) c (fun jz => C (40 * 2 + jz)) (R 4 2).toNat ∨ k = 6 := by
            by_cases hk6 : k = 6
            · exact Or.inr hk6
            · refine Or.inl ?_
              unfold readF
              rw [show ((6 * i + k : Nat) : Int) / 6 = i by omega, show ((6 * i + k : Nat) : Int) % 6 = k by omega]
          have J111 : k < 6 → ∀ (YT1 : YS) (J1 : Nat → Int), V G 0 0 (bw (g_D G) a (Z) (K) (R) (C) (YT1) (J1)) 111 [(0, .ref (a 0)), (1, .int (iI 2)), (2, .int (iI c)), (3, .int (iI o)), (5, .int (iI (cntB (readF Z (fun i => C (40 * 2 + i)) (R 4 2) c o) (6 * i + (k + 1))))), (6, .int (iI (i : Int))), (7, .int (iI (k : Int)))] [] := by
            intro hk6 YT1 J1
            refine r_iinc hG dX6_read_111 rfl (by decide) rfl ?_
            refine r_goto (tgt := 51) hG dX6_read_114 (by decide) ?_
            exact V_lv (ihk hk6 YT1 J1) ⟨rfl, rfl, rfl, rfl, rfl, rfl, rfl, trivial⟩
          refine r_iload hG dX6_read_51 rfl ?_
          refine r_bipush hG dX6_read_53 rfl ?_
          refine r_icmp_ge (tgt := 117) hG (by omega) (by omega) dX6_read_55 (by decide) (fun c55 => ?_) (fun c55 => ?_)
          · refine r_iinc hG dX6_read_117 rfl (by decide) rfl ?_
            refine r_goto (tgt := 41) hG dX6_read_120 (by decide) ?_
            have ek : k = 6 := by omega
            subst ek
            exact V_lv (ih hi6 YT1 J1) ⟨rfl, rfl, rfl, rfl, congrArg (fun v => some (Value.int (iI (cntB (readF Z (fun i => C (40 * 2 + i)) (R 4 2) c o) v)))) (by omega), rfl, trivial⟩
          · refine r_aload_n (i := 0) hG dX6_read_58 rfl rfl ?_
            refine r_get hG cX6_read_X6 0 2 rfl rfl (by decide) kX6_read_19 rfl dX6_read_59 ?_
            refine r_aload_n (i := 0) hG dX6_read_62 rfl rfl ?_
            refine r_get hG cX6_read_X6 0 0 rfl rfl (by decide) kX6_read_10 rfl dX6_read_63 ?_
            refine r_becT hG gX6_read_X4_become (by decide) (Nat.le_of_ble_eq_true rfl) ⟨Nat.zero_le _, Nat.zero_le _⟩ dX6_read_66 ?_
            refine r_aload_n (i := 0) hG dX6_read_69 rfl rfl ?_
            refine r_get hG cX6_read_X6 0 2 rfl rfl (by decide) kX6_read_19 rfl dX6_read_70 ?_
            refine r_get hG cX6_read_X4 18 3 rfl rfl (by decide) kX6_read_107 rfl dX6_read_73 ?_
            refine r_iload_n (i := 2) hG dX6_read_76 rfl rfl ?_
            refine r_iload hG dX6_read_77 rfl ?_
            refine r_iast hG 19 rfl (by omega) (by decide) dX6_read_79 rfl ?_
            refine r_aload_n (i := 0) hG dX6_read_80 rfl rfl ?_
            refine r_get hG cX6_read_X6 0 2 rfl rfl (by decide) kX6_read_19 rfl dX6_read_81 ?_
            refine r_get hG cX6_read_X4 18 3 rfl rfl (by decide) kX6_read_107 rfl dX6_read_84 ?_
            refine r_iload_n (i := 3) hG dX6_read_87 rfl rfl ?_
            refine r_iload hG dX6_read_88 rfl ?_
            refine r_iast hG 19 rfl (by omega) (by decide) dX6_read_90 rfl ?_
            refine r_aload_n (i := 0) hG dX6_read_91 rfl rfl ?_
            refine r_get hG cX6_read_X6 0 2 rfl rfl (by decide) kX6_read_19 rfl dX6_read_92 ?_
            refine r_iload_n (i := 2) hG dX6_read_95 rfl rfl ?_
            refine r_aload_n (i := 0) hG dX6_read_96 rfl rfl ?_
            refine r_get hG cX6_read_X6 0 6 rfl rfl (by decide) kX6_read_43 rfl dX6_read_97 ?_
            refine r_iload_n (i := 1) hG dX6_read_100 rfl rfl ?_
            refine r_aldq hG 30 rfl (by omega) (by decide) dX6_read_101 (v := .ref (a 35)) rfl ?_
            refine V_ws (ws' := bw (g_D G) a (Z) (K) (R) (C) (upY (upY Z 0 c i) 0 o k) (jn J1 8 0)) rfl ?_
            refine r_gab2 hG gX6_read_X4_goesAsBooked (by decide) (Inv_up0 (Inv_up0 hI (by omega)) (by omega)) hH (by omega) (by show Z 5 0 + R 4 2 < 2000000000; omega) (Or.inl rfl) (by omega) (Nat.le_of_ble_eq_true rfl) ⟨Nat.zero_le _, Nat.zero_le _⟩ dX6_read_102 (fun YT2 J2 => ?_)
            refine rb_if_eq (tgt := 111) hG dX6_read_105 (by decide) (fun c105 => ?_) (fun c105 => ?_)
            · try simp only [decide_eq_true_eq, decide_eq_false_iff_not] at c105
              first
                | exact V_lv (J111 (by omega) YT2 J2) ⟨rfl, rfl, rfl, rfl, congrArg (fun v => some (Value.int (iI v))) (show _ = cntB (readF Z (fun i => C (40 * 2 + i)) (R 4 2) c o) ((6 * i + k) + 1) by rw [cntB, e6.resolve_right (by omega), c105]; simp), rfl, rfl, trivial⟩
            · try simp only [decide_eq_true_eq, decide_eq_false_iff_not] at c105
              refine r_iinc hG dX6_read_108 rfl (by decide) rfl ?_
              first
                | exact V_lv (J111 (by omega) YT2 J2) ⟨rfl, rfl, rfl, rfl, congrArg (fun v => some (Value.int (iI v))) (show _ = cntB (readF Z (fun i => C (40 * 2 + i)) (R 4 2) c o) ((6 * i + k) + 1) by rw [cntB, e6.resolve_right (by omega), c105]; simp), rfl, rfl, trivial⟩
        refine r_iload hG dX6_read_41 rfl ?_
        refine r_bipush hG dX6_read_43 rfl ?_
        refine r_icmp_ge (tgt := 123) hG (by omega) (by omega) dX6_read_45 (by decide) (fun c45 => ?_) (fun c45 => ?_)
        · refine r_iload hG dX6_read_123 rfl ?_
          have ei : i = 6 := by omega
          subst ei
          exact r_iret hG hE dX6_read_125 (by rw [e0]) ⟨YT1, J1, by rw [e0]; rfl⟩
        · refine r_iconst hG dX6_read_48 ?_
          refine r_istore hG dX6_read_49 (by decide) rfl ?_
          exact V_lv (M2 (by omega) 0 (by omega) YT1 J1) ⟨rfl, rfl, rfl, rfl, rfl, rfl, rfl, trivial⟩
      refine r_iconst hG dX6_read_35 ?_
      refine r_istore hG dX6_read_36 (by decide) rfl ?_
      refine r_iconst hG dX6_read_38 ?_
      refine r_istore hG dX6_read_39 (by decide) rfl ?_
      exact V_lv (L 0 (by omega) YT J) ⟨rfl, rfl, rfl, rfl, rfl, rfl, trivial⟩
    · subst hv4
      have L : ∀ i : Nat, i ≤ 6 → ∀ (YT1 : YS) (J1 : Nat → Int), V G 0 0 (bw (g_D G) a (Z) (K) (R) (C) (YT1) (J1)) 41 [(0, .ref (a 0)), (1, .int (iI 3)), (2, .int (iI c)), (3, .int (iI o)), (5, .int (iI (cntB (readF Z (fun i => C (40 * 3 + i)) (R 4 3) c o) (6 * i + 0)))), (6, .int (iI (i : Int)))] [] := by
        refine down (fun i hi ih YT1 J1 => ?_)
        have M2 : i < 6 → ∀ k : Nat, k ≤ 6 → ∀ (YT1 : YS) (J1 : Nat → Int), V G 0 0 (bw (g_D G) a (Z) (K) (R) (C) (YT1) (J1)) 51 [(0, .ref (a 0)), (1, .int (iI 3)), (2, .int (iI c)), (3, .int (iI o)), (5, .int (iI (cntB (readF Z (fun i => C (40 * 3 + i)) (R 4 3) c o) (6 * i + k)))), (6, .int (iI (i : Int))), (7, .int (iI (k : Int)))] [] := by
          intro hi6
          refine down (fun k hk ihk YT1 J1 => ?_)
          have e6 : readF Z (fun i => C (40 * 3 + i)) (R 4 3) c o ((6 * i + k : Nat) : Int) = asBooked (upY (upY Z 0 c i) 0 o k) c (fun jz => C (40 * 3 + jz)) (R 4 3).toNat ∨ k = 6 := by
            by_cases hk6 : k = 6
            · exact Or.inr hk6
            · refine Or.inl ?_
              unfold readF
              rw [show ((6 * i + k : Nat) : Int) / 6 = i by omega, show ((6 * i + k : Nat) : Int) % 6 = k by omega]
          have J111 : k < 6 → ∀ (YT1 : YS) (J1 : Nat → Int), V G 0 0 (bw (g_D G) a (Z) (K) (R) (C) (YT1) (J1)) 111 [(0, .ref (a 0)), (1, .int (iI 3)), (2, .int (iI c)), (3, .int (iI o)), (5, .int (iI (cntB (readF Z (fun i => C (40 * 3 + i)) (R 4 3) c o) (6 * i + (k + 1))))), (6, .int (iI (i : Int))), (7, .int (iI (k : Int)))] [] := by
            intro hk6 YT1 J1
            refine r_iinc hG dX6_read_111 rfl (by decide) rfl ?_
            refine r_goto (tgt := 51) hG dX6_read_114 (by decide) ?_
            exact V_lv (ihk hk6 YT1 J1) ⟨rfl, rfl, rfl, rfl, rfl, rfl, rfl, trivial⟩
          refine r_iload hG dX6_read_51 rfl ?_
          refine r_bipush hG dX6_read_53 rfl ?_
          refine r_icmp_ge (tgt := 117) hG (by omega) (by omega) dX6_read_55 (by decide) (fun c55 => ?_) (fun c55 => ?_)
          · refine r_iinc hG dX6_read_117 rfl (by decide) rfl ?_
            refine r_goto (tgt := 41) hG dX6_read_120 (by decide) ?_
            have ek : k = 6 := by omega
            subst ek
            exact V_lv (ih hi6 YT1 J1) ⟨rfl, rfl, rfl, rfl, congrArg (fun v => some (Value.int (iI (cntB (readF Z (fun i => C (40 * 3 + i)) (R 4 3) c o) v)))) (by omega), rfl, trivial⟩
          · refine r_aload_n (i := 0) hG dX6_read_58 rfl rfl ?_
            refine r_get hG cX6_read_X6 0 2 rfl rfl (by decide) kX6_read_19 rfl dX6_read_59 ?_
            refine r_aload_n (i := 0) hG dX6_read_62 rfl rfl ?_
            refine r_get hG cX6_read_X6 0 0 rfl rfl (by decide) kX6_read_10 rfl dX6_read_63 ?_
            refine r_becT hG gX6_read_X4_become (by decide) (Nat.le_of_ble_eq_true rfl) ⟨Nat.zero_le _, Nat.zero_le _⟩ dX6_read_66 ?_
            refine r_aload_n (i := 0) hG dX6_read_69 rfl rfl ?_
            refine r_get hG cX6_read_X6 0 2 rfl rfl (by decide) kX6_read_19 rfl dX6_read_70 ?_
            refine r_get hG cX6_read_X4 18 3 rfl rfl (by decide) kX6_read_107 rfl dX6_read_73 ?_
            refine r_iload_n (i := 2) hG dX6_read_76 rfl rfl ?_
            refine r_iload hG dX6_read_77 rfl ?_
            refine r_iast hG 19 rfl (by omega) (by decide) dX6_read_79 rfl ?_
            refine r_aload_n (i := 0) hG dX6_read_80 rfl rfl ?_
            refine r_get hG cX6_read_X6 0 2 rfl rfl (by decide) kX6_read_19 rfl dX6_read_81 ?_
            refine r_get hG cX6_read_X4 18 3 rfl rfl (by decide) kX6_read_107 rfl dX6_read_84 ?_
            refine r_iload_n (i := 3) hG dX6_read_87 rfl rfl ?_
            refine r_iload hG dX6_read_88 rfl ?_
            refine r_iast hG 19 rfl (by omega) (by decide) dX6_read_90 rfl ?_
            refine r_aload_n (i := 0) hG dX6_read_91 rfl rfl ?_
            refine r_get hG cX6_read_X6 0 2 rfl rfl (by decide) kX6_read_19 rfl dX6_read_92 ?_
            refine r_iload_n (i := 2) hG dX6_read_95 rfl rfl ?_
            refine r_aload_n (i := 0) hG dX6_read_96 rfl rfl ?_
            refine r_get hG cX6_read_X6 0 6 rfl rfl (by decide) kX6_read_43 rfl dX6_read_97 ?_
            refine r_iload_n (i := 1) hG dX6_read_100 rfl rfl ?_
            refine r_aldq hG 30 rfl (by omega) (by decide) dX6_read_101 (v := .ref (a 37)) rfl ?_
            refine V_ws (ws' := bw (g_D G) a (Z) (K) (R) (C) (upY (upY Z 0 c i) 0 o k) (jn J1 8 0)) rfl ?_
            refine r_gab3 hG gX6_read_X4_goesAsBooked (by decide) (Inv_up0 (Inv_up0 hI (by omega)) (by omega)) hH (by omega) (by show Z 5 0 + R 4 3 < 2000000000; omega) (Or.inl rfl) (by omega) (Nat.le_of_ble_eq_true rfl) ⟨Nat.zero_le _, Nat.zero_le _⟩ dX6_read_102 (fun YT2 J2 => ?_)
            refine rb_if_eq (tgt := 111) hG dX6_read_105 (by decide) (fun c105 => ?_) (fun c105 => ?_)
            · try simp only [decide_eq_true_eq, decide_eq_false_iff_not] at c105
              first
                | exact V_lv (J111 (by omega) YT2 J2) ⟨rfl, rfl, rfl, rfl, congrArg (fun v => some (Value.int (iI v))) (show _ = cntB (readF Z (fun i => C (40 * 3 + i)) (R 4 3) c o) ((6 * i + k) + 1) by rw [cntB, e6.resolve_right (by omega), c105]; simp), rfl, rfl, trivial⟩
            · try simp only [decide_eq_true_eq, decide_eq_false_iff_not] at c105
              refine r_iinc hG dX6_read_108 rfl (by decide) rfl ?_
              first
                | exact V_lv (J111 (by omega) YT2 J2) ⟨rfl, rfl, rfl, rfl, congrArg (fun v => some (Value.int (iI v))) (show _ = cntB (readF Z (fun i => C (40 * 3 + i)) (R 4 3) c o) ((6 * i + k) + 1) by rw [cntB, e6.resolve_right (by omega), c105]; simp), rfl, rfl, trivial⟩
        refine r_iload hG dX6_read_41 rfl ?_
        refine r_bipush hG dX6_read_43 rfl ?_
        refine r_icmp_ge (tgt := 123) hG (by omega) (by omega) dX6_read_45 (by decide) (fun c45 => ?_) (fun c45 => ?_)
        · refine r_iload hG dX6_read_123 rfl ?_
          have ei : i = 6 := by omega
          subst ei
          exact r_iret hG hE dX6_read_125 (by rw [e0]) ⟨YT1, J1, by rw [e0]; rfl⟩
        · refine r_iconst hG dX6_read_48 ?_
          refine r_istore hG dX6_read_49 (by decide) rfl ?_
          exact V_lv (M2 (by omega) 0 (by omega) YT1 J1) ⟨rfl, rfl, rfl, rfl, rfl, rfl, rfl, trivial⟩
      refine r_iconst hG dX6_read_35 ?_
      refine r_istore hG dX6_read_36 (by decide) rfl ?_
      refine r_iconst hG dX6_read_38 ?_
      refine r_istore hG dX6_read_39 (by decide) rfl ?_
      exact V_lv (L 0 (by omega) YT J) ⟨rfl, rfl, rfl, rfl, rfl, rfl, trivial⟩
  refine r_aload_n (i := 0) hG dX6_read_0 rfl rfl ?_
  refine r_iload_n (i := 1) hG dX6_read_1 rfl rfl ?_
  refine r_iload_n (i := 2) hG dX6_read_2 rfl rfl ?_
  refine r_callVi hG (c_X6_sheetFinding (g_l G) (g_D G) a Z K R C YT J hI hS _ _ (by omega) (by omega))  gX6_read_X6_sheetFinding rfl hyX6_sheetFinding rfl (by decide) (by decide) 0 rfl rfl rfl (Nat.le_of_ble_eq_true rfl) ⟨Nat.zero_le _, Nat.zero_le _⟩ dX6_read_3 (fun w hw => ?_)
  subst hw
  refine r_istore hG dX6_read_6 (by decide) rfl ?_
  refine r_iload hG dX6_read_8 rfl ?_
  refine r_if_lt (tgt := 20) hG (by omega) dX6_read_10 (by decide) (fun c10 => ?_) (fun c10 => ?_)
  · refine r_aload_n (i := 0) hG dX6_read_20 rfl rfl ?_
    refine r_iload_n (i := 2) hG dX6_read_21 rfl rfl ?_
    refine r_iload_n (i := 3) hG dX6_read_22 rfl rfl ?_
    refine r_callVi hG (c_X6_areTwo (g_l G) (g_D G) a Z K R C YT J hI _ _ (by omega) (by omega))  gX6_read_X6_areTwo rfl hyX6_areTwo rfl (by decide) (by decide) 0 rfl rfl rfl (Nat.le_of_ble_eq_true rfl) ⟨Nat.zero_le _, Nat.zero_le _⟩ dX6_read_23 (fun w hw => ?_)
    subst hw
    refine rb_if_ne (tgt := 35) hG dX6_read_26 (by decide) (fun c26 => ?_) (fun c26 => ?_)
    · try simp only [decide_eq_true_eq, decide_eq_false_iff_not] at c26
      exact V_lv (M (by omega) (by omega)) ⟨rfl, rfl, rfl, rfl, trivial⟩
    · try simp only [decide_eq_true_eq, decide_eq_false_iff_not] at c26
      refine r_aload_n (i := 0) hG dX6_read_29 rfl rfl ?_
      refine r_iconst hG dX6_read_30 ?_
      refine r_callVi hG (c_X6_finding (g_l G) (g_D G) a (Z) (K) (R) (C) (YT) (J) 0 (by omega))  gX6_read_X6_finding rfl hyX6_finding rfl (by decide) (by decide) 0 rfl rfl rfl (Nat.le_of_ble_eq_true rfl) ⟨Nat.zero_le _, Nat.zero_le _⟩ dX6_read_31 (fun w hw => ?_)
      subst hw
      obtain ⟨h1, h2, h3⟩ := sfK_ok c10
      have e9 : s_read (Z, K, R, C) s c o = fin (Z, K, R, C) 0 := (onSheet_ok c10).trans (if_neg (by (try dsimp only); omega))
      exact r_iret hG hE dX6_read_34 (by rw [e9]; rfl) ⟨YT, J, by rw [e9]; rfl⟩
  · refine r_aload_n (i := 0) hG dX6_read_13 rfl rfl ?_
    refine r_iload hG dX6_read_14 rfl ?_
    refine r_callVi hG (c_X6_finding (g_l G) (g_D G) a (Z) (K) (R) (C) (YT) (J) (sfK Z R s c) (by omega))  gX6_read_X6_finding rfl hyX6_finding rfl (by decide) (by decide) 0 rfl rfl rfl (Nat.le_of_ble_eq_true rfl) ⟨Nat.zero_le _, Nat.zero_le _⟩ dX6_read_16 (fun w hw => ?_)
    subst hw
    exact r_iret hG hE dX6_read_19 (by unfold s_read; rw [onSheet_no (by omega)]; rfl) ⟨YT, J, by unfold s_read; rw [onSheet_no (by omega)]; rfl⟩
theorem kX6_copy_43 : Cond.fieldLink RX6 43 "BreakSwaps" "sheets" "[LBreakSwaps$Sheet;" ∈ wsX6_copy := List.mem_of_getElem? (i := 1) rfl
theorem kX6_copy_224 : Cond.fieldLink RX6 224 "BreakSwaps$Sheet" "bits" "I" ∈ wsX6_copy := List.mem_of_getElem? (i := 2) rfl
theorem kX6_copy_216 : Cond.fieldLink RX6 216 "BreakSwaps$Sheet" "row" "[J" ∈ wsX6_copy := List.mem_of_getElem? (i := 3) rfl
theorem cX6_copy_X2 : ∀ w ∈ wsX20, w ∈ wsX6_copy := fun _ h => List.mem_cons_of_mem _ (List.mem_append_right _ h)
theorem cX6_copy_X6 : ∀ w ∈ wsX60, w ∈ wsX6_copy := fun _ h => List.mem_cons_of_mem _ (List.mem_append_left _ (List.mem_append_right _ h))
theorem hyX6_copy : hyV yX6_copy RX6 5 := by decide +kernel
set_option maxHeartbeats 4000000 in
set_option maxRecDepth 100000 in
theorem c_X6_copy (l : Launch) (D : va_G) (a : Nat → Nat) (Z K R : YS) (C : Int → Int64) (YT : YS) (J : Nat → Int) (hT : TI (Z, K, R, C)) (s f t u n : Int) (hs : -2147483648 ≤ s ∧ s < 2147483648) (hf : -2147483648 ≤ f ∧ f < 2147483648) (ht : -2147483648 ≤ t ∧ t < 2147483648) (hu : -2147483648 ≤ u ∧ u < 2147483648) (hn : -2147483648 ≤ n ∧ n < 2147483648) : Con l yX6_copy wsX6_copy 2 D (bw D a Z K R C YT J) [.ref (a 0), .int (iI s), .int (iI f), .int (iI t), .int (iI u), .int (iI n)] (some (.int (iI ((s_copy (Z, K, R, C) s f t u n).1)))) (fun ww => ∃ Y2 J2, ww = bwT D a (s_copy (Z, K, R, C) s f t u n).2 Y2 J2) := by
  refine con_start (own := RX6) (by decide) rfl rfl (Nat.le_of_ble_eq_true rfl) ?_
  intro G hG hE hl hD
  subst hl
  subst hD
  have hI : Inv Z := hT.1.1
  have hH : Hol Z := hT.1.2.1
  have hN := hI.1
  have hr0 := hI.2.1
  have hu5 := hI.2.2.1
  have hrd : Z 5 0 ≤ 99999 := hT.1.2.2
  have hS : ∀ s, 0 ≤ s → s < 4 → (R 3 s = 0 ∨ R 3 s = 8 ∨ R 3 s = 16 ∨ R 3 s = 64) ∧ 0 ≤ R 4 s ∧ R 4 s ≤ 40 := hT.2.2.2
  have M : (0 ≤ s ∧ s ≤ 3) → (0 ≤ t ∧ t ≤ 3) → V G 0 0 (bw (g_D G) a Z K R C YT J) 20 [(0, .ref (a 0)), (1, .int (iI s)), (2, .int (iI f)), (3, .int (iI t)), (4, .int (iI u)), (5, .int (iI n))] [] := by
    intro h1 h2
    have hsz := hS s (by omega) (by omega)
    have htz := hS t (by omega) (by omega)
    rcases (show s = 0 ∨ s = 1 ∨ s = 2 ∨ s = 3 by omega) with hv4 | hv4 | hv4 | hv4
    · subst hv4
      rcases (show t = 0 ∨ t = 1 ∨ t = 2 ∨ t = 3 by omega) with hv4 | hv4 | hv4 | hv4
      · subst hv4
        refine r_aload_n (i := 0) hG dX6_copy_20 rfl rfl ?_
        refine r_get hG cX6_copy_X6 0 6 rfl rfl (by decide) kX6_copy_43 rfl dX6_copy_21 ?_
        refine r_iload_n (i := 1) hG dX6_copy_24 rfl rfl ?_
        refine r_aldq hG 30 rfl (by omega) (by decide) dX6_copy_25 (v := .ref (a 31)) rfl ?_
        refine r_astore hG dX6_copy_26 (by decide) rfl ?_
        refine r_aload_n (i := 0) hG dX6_copy_28 rfl rfl ?_
        refine r_get hG cX6_copy_X6 0 6 rfl rfl (by decide) kX6_copy_43 rfl dX6_copy_29 ?_
        refine r_iload_n (i := 3) hG dX6_copy_32 rfl rfl ?_
        refine r_aldq hG 30 rfl (by omega) (by decide) dX6_copy_33 (v := .ref (a 31)) rfl ?_
        refine r_astore hG dX6_copy_34 (by decide) rfl ?_
        refine r_aload hG dX6_copy_36 rfl ?_
        refine r_midi hG (c_X2_isMissing (g_l G) (g_D G) (fun i => a (31 + i)) (fun jz => (C) (40 * 0 + jz)) ((R) 3 0) ((R) 4 0) (by omega)) (bobj (g_D G) a (R) ++ (yw (g_D G) (fun i => a (2 + i)) (Z) ((J) 0) ((J) 1) ((J) 2) ++ (yw (g_D G) (fun i => a (10 + i)) (K) ((J) 3) ((J) 4) ((J) 5) ++ (yw (g_D G) (fun i => a (18 + i)) (YT) ((J) 6) ((J) 7) ((J) 8) ++ (bestw (a 26) ((J) 9) ((J) 10) ++ (btxt (g_D G) a (R) (J) ++ ([(a 30, .inl ((g_D G).1 102, 4, .inr (.inr (.inr (.inr (fun k => some (a (31 + 2 * k))))))))]))))))) (sheetw (g_D G) (fun i => a (33 + i)) (fun jz => (C) (40 * 1 + jz)) ((R) 3 1) ((R) 4 1) ++ (sheetw (g_D G) (fun i => a (35 + i)) (fun jz => (C) (40 * 2 + jz)) ((R) 3 2) ((R) 4 2) ++ (sheetw (g_D G) (fun i => a (37 + i)) (fun jz => (C) (40 * 3 + jz)) ((R) 3 3) ((R) 4 3)))) rfl gX6_copy_X2_isMissing rfl hyX2_isMissing rfl (by decide) (by decide) 0 rfl rfl rfl (Nat.le_of_ble_eq_true rfl) ⟨Nat.zero_le _, Nat.zero_le _⟩ dX6_copy_38 ?_
        intro w hw
        subst hw
        refine V_ws (ws' := bw (g_D G) a (Z) (K) (R) (C) (YT) (J)) rfl ?_
        refine rb_if_ne (tgt := 52) hG dX6_copy_41 (by decide) (fun c41 => ?_) (fun c41 => ?_)
        · try simp only [decide_eq_true_eq, decide_eq_false_iff_not] at c41
          refine r_aload_n (i := 0) hG dX6_copy_52 rfl rfl ?_
          refine r_iconst hG dX6_copy_53 ?_
          refine r_callVi hG (c_X6_finding (g_l G) (g_D G) a (Z) (K) (R) (C) (YT) (J) 5 (by omega))  gX6_copy_X6_finding rfl hyX6_finding rfl (by decide) (by decide) 0 rfl rfl rfl (Nat.le_of_ble_eq_true rfl) ⟨Nat.zero_le _, Nat.zero_le _⟩ dX6_copy_54 (fun w hw => ?_)
          subst hw
          exact r_iret hG hE dX6_copy_57 (by unfold s_copy; (try dsimp only); (repeat (first | rw [if_pos (by omega)] | rw [if_neg (by omega)])) <;> (first | rfl | skip)) ⟨YT, J, by unfold s_copy; (try dsimp only); (repeat (first | rw [if_pos (by omega)] | rw [if_neg (by omega)])) <;> (first | rfl | skip)⟩
        · try simp only [decide_eq_true_eq, decide_eq_false_iff_not] at c41
          refine r_aload hG dX6_copy_44 rfl ?_
          refine r_midi hG (c_X2_isMissing (g_l G) (g_D G) (fun i => a (31 + i)) (fun jz => (C) (40 * 0 + jz)) ((R) 3 0) ((R) 4 0) (by omega)) (bobj (g_D G) a (R) ++ (yw (g_D G) (fun i => a (2 + i)) (Z) ((J) 0) ((J) 1) ((J) 2) ++ (yw (g_D G) (fun i => a (10 + i)) (K) ((J) 3) ((J) 4) ((J) 5) ++ (yw (g_D G) (fun i => a (18 + i)) (YT) ((J) 6) ((J) 7) ((J) 8) ++ (bestw (a 26) ((J) 9) ((J) 10) ++ (btxt (g_D G) a (R) (J) ++ ([(a 30, .inl ((g_D G).1 102, 4, .inr (.inr (.inr (.inr (fun k => some (a (31 + 2 * k))))))))]))))))) (sheetw (g_D G) (fun i => a (33 + i)) (fun jz => (C) (40 * 1 + jz)) ((R) 3 1) ((R) 4 1) ++ (sheetw (g_D G) (fun i => a (35 + i)) (fun jz => (C) (40 * 2 + jz)) ((R) 3 2) ((R) 4 2) ++ (sheetw (g_D G) (fun i => a (37 + i)) (fun jz => (C) (40 * 3 + jz)) ((R) 3 3) ((R) 4 3)))) rfl gX6_copy_X2_isMissing rfl hyX2_isMissing rfl (by decide) (by decide) 0 rfl rfl rfl (Nat.le_of_ble_eq_true rfl) ⟨Nat.zero_le _, Nat.zero_le _⟩ dX6_copy_46 ?_
          intro w hw
          subst hw
          refine V_ws (ws' := bw (g_D G) a (Z) (K) (R) (C) (YT) (J)) rfl ?_
          refine rb_if_eq (tgt := 58) hG dX6_copy_49 (by decide) (fun c49 => ?_) (fun c49 => ?_)
          · try simp only [decide_eq_true_eq, decide_eq_false_iff_not] at c49
            refine r_aload hG dX6_copy_58 rfl ?_
            refine r_get hG cX6_copy_X2 31 1 rfl rfl (by decide) kX6_copy_224 rfl dX6_copy_60 ?_
            refine r_aload hG dX6_copy_63 rfl ?_
            refine r_get hG cX6_copy_X2 31 1 rfl rfl (by decide) kX6_copy_224 rfl dX6_copy_65 ?_
            refine r_icmp_eq (tgt := 77) hG (by omega) (by omega) dX6_copy_68 (by decide) (fun c68 => ?_) (fun c68 => ?_)
            · refine r_aload hG dX6_copy_77 rfl ?_
              refine r_iload_n (i := 2) hG dX6_copy_79 rfl rfl ?_
              refine r_iload hG dX6_copy_80 rfl ?_
              refine r_midi hG (c_X2_hasSpan (g_l G) (g_D G) (fun i => a (31 + i)) (fun jz => (C) (40 * 0 + jz)) ((R) 3 0) ((R) 4 0) (by omega) _ _ (by omega) (by omega)) (bobj (g_D G) a (R) ++ (yw (g_D G) (fun i => a (2 + i)) (Z) ((J) 0) ((J) 1) ((J) 2) ++ (yw (g_D G) (fun i => a (10 + i)) (K) ((J) 3) ((J) 4) ((J) 5) ++ (yw (g_D G) (fun i => a (18 + i)) (YT) ((J) 6) ((J) 7) ((J) 8) ++ (bestw (a 26) ((J) 9) ((J) 10) ++ (btxt (g_D G) a (R) (J) ++ ([(a 30, .inl ((g_D G).1 102, 4, .inr (.inr (.inr (.inr (fun k => some (a (31 + 2 * k))))))))]))))))) (sheetw (g_D G) (fun i => a (33 + i)) (fun jz => (C) (40 * 1 + jz)) ((R) 3 1) ((R) 4 1) ++ (sheetw (g_D G) (fun i => a (35 + i)) (fun jz => (C) (40 * 2 + jz)) ((R) 3 2) ((R) 4 2) ++ (sheetw (g_D G) (fun i => a (37 + i)) (fun jz => (C) (40 * 3 + jz)) ((R) 3 3) ((R) 4 3)))) rfl gX6_copy_X2_hasSpan rfl hyX2_hasSpan rfl (by decide) (by decide) 0 rfl rfl rfl (Nat.le_of_ble_eq_true rfl) ⟨Nat.zero_le _, Nat.zero_le _⟩ dX6_copy_82 ?_
              intro w hw
              subst hw
              refine V_ws (ws' := bw (g_D G) a (Z) (K) (R) (C) (YT) (J)) rfl ?_
              refine rb_if_eq (tgt := 100) hG dX6_copy_85 (by decide) (fun c85 => ?_) (fun c85 => ?_)
              · try simp only [decide_eq_true_eq, decide_eq_false_iff_not] at c85
                refine r_aload_n (i := 0) hG dX6_copy_100 rfl rfl ?_
                refine r_iconst hG dX6_copy_101 ?_
                refine r_callVi hG (c_X6_finding (g_l G) (g_D G) a (Z) (K) (R) (C) (YT) (J) 0 (by omega))  gX6_copy_X6_finding rfl hyX6_finding rfl (by decide) (by decide) 0 rfl rfl rfl (Nat.le_of_ble_eq_true rfl) ⟨Nat.zero_le _, Nat.zero_le _⟩ dX6_copy_102 (fun w hw => ?_)
                subst hw
                exact r_iret hG hE dX6_copy_105 (by unfold s_copy; (try dsimp only); (repeat (first | rw [if_pos (by omega)] | rw [if_neg (by omega)])) <;> (first | rfl | skip)) ⟨YT, J, by unfold s_copy; (try dsimp only); (repeat (first | rw [if_pos (by omega)] | rw [if_neg (by omega)])) <;> (first | rfl | skip)⟩
              · try simp only [decide_eq_true_eq, decide_eq_false_iff_not] at c85
                refine r_aload hG dX6_copy_88 rfl ?_
                refine r_iload hG dX6_copy_90 rfl ?_
                refine r_iload hG dX6_copy_92 rfl ?_
                refine r_midi hG (c_X2_hasSpan (g_l G) (g_D G) (fun i => a (31 + i)) (fun jz => (C) (40 * 0 + jz)) ((R) 3 0) ((R) 4 0) (by omega) _ _ (by omega) (by omega)) (bobj (g_D G) a (R) ++ (yw (g_D G) (fun i => a (2 + i)) (Z) ((J) 0) ((J) 1) ((J) 2) ++ (yw (g_D G) (fun i => a (10 + i)) (K) ((J) 3) ((J) 4) ((J) 5) ++ (yw (g_D G) (fun i => a (18 + i)) (YT) ((J) 6) ((J) 7) ((J) 8) ++ (bestw (a 26) ((J) 9) ((J) 10) ++ (btxt (g_D G) a (R) (J) ++ ([(a 30, .inl ((g_D G).1 102, 4, .inr (.inr (.inr (.inr (fun k => some (a (31 + 2 * k))))))))]))))))) (sheetw (g_D G) (fun i => a (33 + i)) (fun jz => (C) (40 * 1 + jz)) ((R) 3 1) ((R) 4 1) ++ (sheetw (g_D G) (fun i => a (35 + i)) (fun jz => (C) (40 * 2 + jz)) ((R) 3 2) ((R) 4 2) ++ (sheetw (g_D G) (fun i => a (37 + i)) (fun jz => (C) (40 * 3 + jz)) ((R) 3 3) ((R) 4 3)))) rfl gX6_copy_X2_hasSpan rfl hyX2_hasSpan rfl (by decide) (by decide) 0 rfl rfl rfl (Nat.le_of_ble_eq_true rfl) ⟨Nat.zero_le _, Nat.zero_le _⟩ dX6_copy_94 ?_
                intro w hw
                subst hw
                refine V_ws (ws' := bw (g_D G) a (Z) (K) (R) (C) (YT) (J)) rfl ?_
                refine rb_if_ne (tgt := 106) hG dX6_copy_97 (by decide) (fun c97 => ?_) (fun c97 => ?_)
                · try simp only [decide_eq_true_eq, decide_eq_false_iff_not] at c97
                  refine r_aload hG dX6_copy_106 rfl ?_
                  refine r_get hG cX6_copy_X2 31 0 rfl rfl (by decide) kX6_copy_216 rfl dX6_copy_108 ?_
                  refine r_iload_n (i := 2) hG dX6_copy_111 rfl rfl ?_
                  refine r_aload hG dX6_copy_112 rfl ?_
                  refine r_get hG cX6_copy_X2 31 0 rfl rfl (by decide) kX6_copy_216 rfl dX6_copy_114 ?_
                  refine r_iload hG dX6_copy_117 rfl ?_
                  refine r_iload hG dX6_copy_119 rfl ?_
                  refine r_copyl hG 32 32 rfl rfl (by omega) (by omega) (by omega) (by omega) (by omega) (List.mem_of_getElem? (i := 4) rfl) (List.mem_of_getElem? (i := 5) rfl) (List.mem_of_getElem? (i := 6) rfl) (List.mem_of_getElem? (i := 7) rfl) (by decide) (Nat.le_of_ble_eq_true rfl) dX6_copy_121 (ws' := bwX (g_D G) a (Z) (K) (R) (cpy1 (fun jz => (C) (40 * 0 + jz)) (fun jz => (C) (40 * 0 + jz)) f u n) (fun jz => (C) (40 * 1 + jz)) (fun jz => (C) (40 * 2 + jz)) (fun jz => (C) (40 * 3 + jz)) (YT) (J)) rfl ?_
                  refine V_shC (C := cpyC C (40 * 0 + f) (40 * 0 + u) n) (fun j h0 h1 => cpy_same j) (fun j h0 h1 => cpy_other (by omega)) (fun j h0 h1 => cpy_other (by omega)) (fun j h0 h1 => cpy_other (by omega)) ?_
                  refine r_iload hG dX6_copy_124 rfl ?_
                  exact r_iret hG hE dX6_copy_126 (by unfold s_copy; (try dsimp only); (repeat (first | rw [if_pos (by omega)] | rw [if_neg (by omega)])) <;> (first | rfl | skip)) ⟨YT, J, by unfold s_copy; (try dsimp only); (repeat (first | rw [if_pos (by omega)] | rw [if_neg (by omega)])) <;> (first | rfl | skip)⟩
                · try simp only [decide_eq_true_eq, decide_eq_false_iff_not] at c97
                  refine r_aload_n (i := 0) hG dX6_copy_100 rfl rfl ?_
                  refine r_iconst hG dX6_copy_101 ?_
                  refine r_callVi hG (c_X6_finding (g_l G) (g_D G) a (Z) (K) (R) (C) (YT) (J) 0 (by omega))  gX6_copy_X6_finding rfl hyX6_finding rfl (by decide) (by decide) 0 rfl rfl rfl (Nat.le_of_ble_eq_true rfl) ⟨Nat.zero_le _, Nat.zero_le _⟩ dX6_copy_102 (fun w hw => ?_)
                  subst hw
                  exact r_iret hG hE dX6_copy_105 (by unfold s_copy; (try dsimp only); (repeat (first | rw [if_pos (by omega)] | rw [if_neg (by omega)])) <;> (first | rfl | skip)) ⟨YT, J, by unfold s_copy; (try dsimp only); (repeat (first | rw [if_pos (by omega)] | rw [if_neg (by omega)])) <;> (first | rfl | skip)⟩
            · exact absurd rfl c68
          · try simp only [decide_eq_true_eq, decide_eq_false_iff_not] at c49
            refine r_aload_n (i := 0) hG dX6_copy_52 rfl rfl ?_
            refine r_iconst hG dX6_copy_53 ?_
            refine r_callVi hG (c_X6_finding (g_l G) (g_D G) a (Z) (K) (R) (C) (YT) (J) 5 (by omega))  gX6_copy_X6_finding rfl hyX6_finding rfl (by decide) (by decide) 0 rfl rfl rfl (Nat.le_of_ble_eq_true rfl) ⟨Nat.zero_le _, Nat.zero_le _⟩ dX6_copy_54 (fun w hw => ?_)
            subst hw
            exact r_iret hG hE dX6_copy_57 (by unfold s_copy; (try dsimp only); (repeat (first | rw [if_pos (by omega)] | rw [if_neg (by omega)])) <;> (first | rfl | skip)) ⟨YT, J, by unfold s_copy; (try dsimp only); (repeat (first | rw [if_pos (by omega)] | rw [if_neg (by omega)])) <;> (first | rfl | skip)⟩
      · subst hv4
        refine r_aload_n (i := 0) hG dX6_copy_20 rfl rfl ?_
        refine r_get hG cX6_copy_X6 0 6 rfl rfl (by decide) kX6_copy_43 rfl dX6_copy_21 ?_
        refine r_iload_n (i := 1) hG dX6_copy_24 rfl rfl ?_
        refine r_aldq hG 30 rfl (by omega) (by decide) dX6_copy_25 (v := .ref (a 31)) rfl ?_
        refine r_astore hG dX6_copy_26 (by decide) rfl ?_
        refine r_aload_n (i := 0) hG dX6_copy_28 rfl rfl ?_
        refine r_get hG cX6_copy_X6 0 6 rfl rfl (by decide) kX6_copy_43 rfl dX6_copy_29 ?_
        refine r_iload_n (i := 3) hG dX6_copy_32 rfl rfl ?_
        refine r_aldq hG 30 rfl (by omega) (by decide) dX6_copy_33 (v := .ref (a 33)) rfl ?_
        refine r_astore hG dX6_copy_34 (by decide) rfl ?_
        refine r_aload hG dX6_copy_36 rfl ?_
        refine r_midi hG (c_X2_isMissing (g_l G) (g_D G) (fun i => a (31 + i)) (fun jz => (C) (40 * 0 + jz)) ((R) 3 0) ((R) 4 0) (by omega)) (bobj (g_D G) a (R) ++ (yw (g_D G) (fun i => a (2 + i)) (Z) ((J) 0) ((J) 1) ((J) 2) ++ (yw (g_D G) (fun i => a (10 + i)) (K) ((J) 3) ((J) 4) ((J) 5) ++ (yw (g_D G) (fun i => a (18 + i)) (YT) ((J) 6) ((J) 7) ((J) 8) ++ (bestw (a 26) ((J) 9) ((J) 10) ++ (btxt (g_D G) a (R) (J) ++ ([(a 30, .inl ((g_D G).1 102, 4, .inr (.inr (.inr (.inr (fun k => some (a (31 + 2 * k))))))))]))))))) (sheetw (g_D G) (fun i => a (33 + i)) (fun jz => (C) (40 * 1 + jz)) ((R) 3 1) ((R) 4 1) ++ (sheetw (g_D G) (fun i => a (35 + i)) (fun jz => (C) (40 * 2 + jz)) ((R) 3 2) ((R) 4 2) ++ (sheetw (g_D G) (fun i => a (37 + i)) (fun jz => (C) (40 * 3 + jz)) ((R) 3 3) ((R) 4 3)))) rfl gX6_copy_X2_isMissing rfl hyX2_isMissing rfl (by decide) (by decide) 0 rfl rfl rfl (Nat.le_of_ble_eq_true rfl) ⟨Nat.zero_le _, Nat.zero_le _⟩ dX6_copy_38 ?_
        intro w hw
        subst hw
        refine V_ws (ws' := bw (g_D G) a (Z) (K) (R) (C) (YT) (J)) rfl ?_
        refine rb_if_ne (tgt := 52) hG dX6_copy_41 (by decide) (fun c41 => ?_) (fun c41 => ?_)
        · try simp only [decide_eq_true_eq, decide_eq_false_iff_not] at c41
          refine r_aload_n (i := 0) hG dX6_copy_52 rfl rfl ?_
          refine r_iconst hG dX6_copy_53 ?_
          refine r_callVi hG (c_X6_finding (g_l G) (g_D G) a (Z) (K) (R) (C) (YT) (J) 5 (by omega))  gX6_copy_X6_finding rfl hyX6_finding rfl (by decide) (by decide) 0 rfl rfl rfl (Nat.le_of_ble_eq_true rfl) ⟨Nat.zero_le _, Nat.zero_le _⟩ dX6_copy_54 (fun w hw => ?_)
          subst hw
          exact r_iret hG hE dX6_copy_57 (by unfold s_copy; (try dsimp only); (repeat (first | rw [if_pos (by omega)] | rw [if_neg (by omega)])) <;> (first | rfl | skip)) ⟨YT, J, by unfold s_copy; (try dsimp only); (repeat (first | rw [if_pos (by omega)] | rw [if_neg (by omega)])) <;> (first | rfl | skip)⟩
        · try simp only [decide_eq_true_eq, decide_eq_false_iff_not] at c41
          refine r_aload hG dX6_copy_44 rfl ?_
          refine r_midi hG (c_X2_isMissing (g_l G) (g_D G) (fun i => a (33 + i)) (fun jz => (C) (40 * 1 + jz)) ((R) 3 1) ((R) 4 1) (by omega)) (bobj (g_D G) a (R) ++ (yw (g_D G) (fun i => a (2 + i)) (Z) ((J) 0) ((J) 1) ((J) 2) ++ (yw (g_D G) (fun i => a (10 + i)) (K) ((J) 3) ((J) 4) ((J) 5) ++ (yw (g_D G) (fun i => a (18 + i)) (YT) ((J) 6) ((J) 7) ((J) 8) ++ (bestw (a 26) ((J) 9) ((J) 10) ++ (btxt (g_D G) a (R) (J) ++ ([(a 30, .inl ((g_D G).1 102, 4, .inr (.inr (.inr (.inr (fun k => some (a (31 + 2 * k))))))))] ++ (sheetw (g_D G) (fun i => a (31 + i)) (fun jz => (C) (40 * 0 + jz)) ((R) 3 0) ((R) 4 0))))))))) (sheetw (g_D G) (fun i => a (35 + i)) (fun jz => (C) (40 * 2 + jz)) ((R) 3 2) ((R) 4 2) ++ (sheetw (g_D G) (fun i => a (37 + i)) (fun jz => (C) (40 * 3 + jz)) ((R) 3 3) ((R) 4 3))) rfl gX6_copy_X2_isMissing rfl hyX2_isMissing rfl (by decide) (by decide) 0 rfl rfl rfl (Nat.le_of_ble_eq_true rfl) ⟨Nat.zero_le _, Nat.zero_le _⟩ dX6_copy_46 ?_
          intro w hw
          subst hw
          refine V_ws (ws' := bw (g_D G) a (Z) (K) (R) (C) (YT) (J)) rfl ?_
          refine rb_if_eq (tgt := 58) hG dX6_copy_49 (by decide) (fun c49 => ?_) (fun c49 => ?_)
          · try simp only [decide_eq_true_eq, decide_eq_false_iff_not] at c49
            refine r_aload hG dX6_copy_58 rfl ?_
            refine r_get hG cX6_copy_X2 31 1 rfl rfl (by decide) kX6_copy_224 rfl dX6_copy_60 ?_
            refine r_aload hG dX6_copy_63 rfl ?_
            refine r_get hG cX6_copy_X2 33 1 rfl rfl (by decide) kX6_copy_224 rfl dX6_copy_65 ?_
            refine r_icmp_eq (tgt := 77) hG (by omega) (by omega) dX6_copy_68 (by decide) (fun c68 => ?_) (fun c68 => ?_)
            · refine r_aload hG dX6_copy_77 rfl ?_
              refine r_iload_n (i := 2) hG dX6_copy_79 rfl rfl ?_
              refine r_iload hG dX6_copy_80 rfl ?_
              refine r_midi hG (c_X2_hasSpan (g_l G) (g_D G) (fun i => a (31 + i)) (fun jz => (C) (40 * 0 + jz)) ((R) 3 0) ((R) 4 0) (by omega) _ _ (by omega) (by omega)) (bobj (g_D G) a (R) ++ (yw (g_D G) (fun i => a (2 + i)) (Z) ((J) 0) ((J) 1) ((J) 2) ++ (yw (g_D G) (fun i => a (10 + i)) (K) ((J) 3) ((J) 4) ((J) 5) ++ (yw (g_D G) (fun i => a (18 + i)) (YT) ((J) 6) ((J) 7) ((J) 8) ++ (bestw (a 26) ((J) 9) ((J) 10) ++ (btxt (g_D G) a (R) (J) ++ ([(a 30, .inl ((g_D G).1 102, 4, .inr (.inr (.inr (.inr (fun k => some (a (31 + 2 * k))))))))]))))))) (sheetw (g_D G) (fun i => a (33 + i)) (fun jz => (C) (40 * 1 + jz)) ((R) 3 1) ((R) 4 1) ++ (sheetw (g_D G) (fun i => a (35 + i)) (fun jz => (C) (40 * 2 + jz)) ((R) 3 2) ((R) 4 2) ++ (sheetw (g_D G) (fun i => a (37 + i)) (fun jz => (C) (40 * 3 + jz)) ((R) 3 3) ((R) 4 3)))) rfl gX6_copy_X2_hasSpan rfl hyX2_hasSpan rfl (by decide) (by decide) 0 rfl rfl rfl (Nat.le_of_ble_eq_true rfl) ⟨Nat.zero_le _, Nat.zero_le _⟩ dX6_copy_82 ?_
              intro w hw
              subst hw
              refine V_ws (ws' := bw (g_D G) a (Z) (K) (R) (C) (YT) (J)) rfl ?_
              refine rb_if_eq (tgt := 100) hG dX6_copy_85 (by decide) (fun c85 => ?_) (fun c85 => ?_)
              · try simp only [decide_eq_true_eq, decide_eq_false_iff_not] at c85
                refine r_aload_n (i := 0) hG dX6_copy_100 rfl rfl ?_
                refine r_iconst hG dX6_copy_101 ?_
                refine r_callVi hG (c_X6_finding (g_l G) (g_D G) a (Z) (K) (R) (C) (YT) (J) 0 (by omega))  gX6_copy_X6_finding rfl hyX6_finding rfl (by decide) (by decide) 0 rfl rfl rfl (Nat.le_of_ble_eq_true rfl) ⟨Nat.zero_le _, Nat.zero_le _⟩ dX6_copy_102 (fun w hw => ?_)
                subst hw
                exact r_iret hG hE dX6_copy_105 (by unfold s_copy; (try dsimp only); (repeat (first | rw [if_pos (by omega)] | rw [if_neg (by omega)])) <;> (first | rfl | skip)) ⟨YT, J, by unfold s_copy; (try dsimp only); (repeat (first | rw [if_pos (by omega)] | rw [if_neg (by omega)])) <;> (first | rfl | skip)⟩
              · try simp only [decide_eq_true_eq, decide_eq_false_iff_not] at c85
                refine r_aload hG dX6_copy_88 rfl ?_
                refine r_iload hG dX6_copy_90 rfl ?_
                refine r_iload hG dX6_copy_92 rfl ?_
                refine r_midi hG (c_X2_hasSpan (g_l G) (g_D G) (fun i => a (33 + i)) (fun jz => (C) (40 * 1 + jz)) ((R) 3 1) ((R) 4 1) (by omega) _ _ (by omega) (by omega)) (bobj (g_D G) a (R) ++ (yw (g_D G) (fun i => a (2 + i)) (Z) ((J) 0) ((J) 1) ((J) 2) ++ (yw (g_D G) (fun i => a (10 + i)) (K) ((J) 3) ((J) 4) ((J) 5) ++ (yw (g_D G) (fun i => a (18 + i)) (YT) ((J) 6) ((J) 7) ((J) 8) ++ (bestw (a 26) ((J) 9) ((J) 10) ++ (btxt (g_D G) a (R) (J) ++ ([(a 30, .inl ((g_D G).1 102, 4, .inr (.inr (.inr (.inr (fun k => some (a (31 + 2 * k))))))))] ++ (sheetw (g_D G) (fun i => a (31 + i)) (fun jz => (C) (40 * 0 + jz)) ((R) 3 0) ((R) 4 0))))))))) (sheetw (g_D G) (fun i => a (35 + i)) (fun jz => (C) (40 * 2 + jz)) ((R) 3 2) ((R) 4 2) ++ (sheetw (g_D G) (fun i => a (37 + i)) (fun jz => (C) (40 * 3 + jz)) ((R) 3 3) ((R) 4 3))) rfl gX6_copy_X2_hasSpan rfl hyX2_hasSpan rfl (by decide) (by decide) 0 rfl rfl rfl (Nat.le_of_ble_eq_true rfl) ⟨Nat.zero_le _, Nat.zero_le _⟩ dX6_copy_94 ?_
                intro w hw
                subst hw
                refine V_ws (ws' := bw (g_D G) a (Z) (K) (R) (C) (YT) (J)) rfl ?_
                refine rb_if_ne (tgt := 106) hG dX6_copy_97 (by decide) (fun c97 => ?_) (fun c97 => ?_)
                · try simp only [decide_eq_true_eq, decide_eq_false_iff_not] at c97
                  refine r_aload hG dX6_copy_106 rfl ?_
                  refine r_get hG cX6_copy_X2 31 0 rfl rfl (by decide) kX6_copy_216 rfl dX6_copy_108 ?_
                  refine r_iload_n (i := 2) hG dX6_copy_111 rfl rfl ?_
                  refine r_aload hG dX6_copy_112 rfl ?_
                  refine r_get hG cX6_copy_X2 33 0 rfl rfl (by decide) kX6_copy_216 rfl dX6_copy_114 ?_
                  refine r_iload hG dX6_copy_117 rfl ?_
                  refine r_iload hG dX6_copy_119 rfl ?_
                  refine r_copyl hG 32 34 rfl rfl (by omega) (by omega) (by omega) (by omega) (by omega) (List.mem_of_getElem? (i := 4) rfl) (List.mem_of_getElem? (i := 5) rfl) (List.mem_of_getElem? (i := 6) rfl) (List.mem_of_getElem? (i := 7) rfl) (by decide) (Nat.le_of_ble_eq_true rfl) dX6_copy_121 (ws' := bwX (g_D G) a (Z) (K) (R) (fun jz => (C) (40 * 0 + jz)) (cpy1 (fun jz => (C) (40 * 0 + jz)) (fun jz => (C) (40 * 1 + jz)) f u n) (fun jz => (C) (40 * 2 + jz)) (fun jz => (C) (40 * 3 + jz)) (YT) (J)) rfl ?_
                  refine V_shC (C := cpyC C (40 * 0 + f) (40 * 1 + u) n) (fun j h0 h1 => cpy_other (by omega)) (fun j h0 h1 => cpy_same j) (fun j h0 h1 => cpy_other (by omega)) (fun j h0 h1 => cpy_other (by omega)) ?_
                  refine r_iload hG dX6_copy_124 rfl ?_
                  exact r_iret hG hE dX6_copy_126 (by unfold s_copy; (try dsimp only); (repeat (first | rw [if_pos (by omega)] | rw [if_neg (by omega)])) <;> (first | rfl | skip)) ⟨YT, J, by unfold s_copy; (try dsimp only); (repeat (first | rw [if_pos (by omega)] | rw [if_neg (by omega)])) <;> (first | rfl | skip)⟩
                · try simp only [decide_eq_true_eq, decide_eq_false_iff_not] at c97
                  refine r_aload_n (i := 0) hG dX6_copy_100 rfl rfl ?_
                  refine r_iconst hG dX6_copy_101 ?_
                  refine r_callVi hG (c_X6_finding (g_l G) (g_D G) a (Z) (K) (R) (C) (YT) (J) 0 (by omega))  gX6_copy_X6_finding rfl hyX6_finding rfl (by decide) (by decide) 0 rfl rfl rfl (Nat.le_of_ble_eq_true rfl) ⟨Nat.zero_le _, Nat.zero_le _⟩ dX6_copy_102 (fun w hw => ?_)
                  subst hw
                  exact r_iret hG hE dX6_copy_105 (by unfold s_copy; (try dsimp only); (repeat (first | rw [if_pos (by omega)] | rw [if_neg (by omega)])) <;> (first | rfl | skip)) ⟨YT, J, by unfold s_copy; (try dsimp only); (repeat (first | rw [if_pos (by omega)] | rw [if_neg (by omega)])) <;> (first | rfl | skip)⟩
            · refine r_aload_n (i := 0) hG dX6_copy_71 rfl rfl ?_
              refine r_iconst hG dX6_copy_72 ?_
              refine r_callVi hG (c_X6_finding (g_l G) (g_D G) a (Z) (K) (R) (C) (YT) (J) 2 (by omega))  gX6_copy_X6_finding rfl hyX6_finding rfl (by decide) (by decide) 0 rfl rfl rfl (Nat.le_of_ble_eq_true rfl) ⟨Nat.zero_le _, Nat.zero_le _⟩ dX6_copy_73 (fun w hw => ?_)
              subst hw
              exact r_iret hG hE dX6_copy_76 (by unfold s_copy; (try dsimp only); (repeat (first | rw [if_pos (by omega)] | rw [if_neg (by omega)])) <;> (first | rfl | skip)) ⟨YT, J, by unfold s_copy; (try dsimp only); (repeat (first | rw [if_pos (by omega)] | rw [if_neg (by omega)])) <;> (first | rfl | skip)⟩
          · try simp only [decide_eq_true_eq, decide_eq_false_iff_not] at c49
            refine r_aload_n (i := 0) hG dX6_copy_52 rfl rfl ?_
            refine r_iconst hG dX6_copy_53 ?_
            refine r_callVi hG (c_X6_finding (g_l G) (g_D G) a (Z) (K) (R) (C) (YT) (J) 5 (by omega))  gX6_copy_X6_finding rfl hyX6_finding rfl (by decide) (by decide) 0 rfl rfl rfl (Nat.le_of_ble_eq_true rfl) ⟨Nat.zero_le _, Nat.zero_le _⟩ dX6_copy_54 (fun w hw => ?_)
            subst hw
            exact r_iret hG hE dX6_copy_57 (by unfold s_copy; (try dsimp only); (repeat (first | rw [if_pos (by omega)] | rw [if_neg (by omega)])) <;> (first | rfl | skip)) ⟨YT, J, by unfold s_copy; (try dsimp only); (repeat (first | rw [if_pos (by omega)] | rw [if_neg (by omega)])) <;> (first | rfl | skip)⟩
      · subst hv4
        refine r_aload_n (i := 0) hG dX6_copy_20 rfl rfl ?_
        refine r_get hG cX6_copy_X6 0 6 rfl rfl (by decide) kX6_copy_43 rfl dX6_copy_21 ?_
        refine r_iload_n (i := 1) hG dX6_copy_24 rfl rfl ?_
        refine r_aldq hG 30 rfl (by omega) (by decide) dX6_copy_25 (v := .ref (a 31)) rfl ?_
        refine r_astore hG dX6_copy_26 (by decide) rfl ?_
        refine r_aload_n (i := 0) hG dX6_copy_28 rfl rfl ?_
        refine r_get hG cX6_copy_X6 0 6 rfl rfl (by decide) kX6_copy_43 rfl dX6_copy_29 ?_
        refine r_iload_n (i := 3) hG dX6_copy_32 rfl rfl ?_
        refine r_aldq hG 30 rfl (by omega) (by decide) dX6_copy_33 (v := .ref (a 35)) rfl ?_
        refine r_astore hG dX6_copy_34 (by decide) rfl ?_
        refine r_aload hG dX6_copy_36 rfl ?_
        refine r_midi hG (c_X2_isMissing (g_l G) (g_D G) (fun i => a (31 + i)) (fun jz => (C) (40 * 0 + jz)) ((R) 3 0) ((R) 4 0) (by omega)) (bobj (g_D G) a (R) ++ (yw (g_D G) (fun i => a (2 + i)) (Z) ((J) 0) ((J) 1) ((J) 2) ++ (yw (g_D G) (fun i => a (10 + i)) (K) ((J) 3) ((J) 4) ((J) 5) ++ (yw (g_D G) (fun i => a (18 + i)) (YT) ((J) 6) ((J) 7) ((J) 8) ++ (bestw (a 26) ((J) 9) ((J) 10) ++ (btxt (g_D G) a (R) (J) ++ ([(a 30, .inl ((g_D G).1 102, 4, .inr (.inr (.inr (.inr (fun k => some (a (31 + 2 * k))))))))]))))))) (sheetw (g_D G) (fun i => a (33 + i)) (fun jz => (C) (40 * 1 + jz)) ((R) 3 1) ((R) 4 1) ++ (sheetw (g_D G) (fun i => a (35 + i)) (fun jz => (C) (40 * 2 + jz)) ((R) 3 2) ((R) 4 2) ++ (sheetw (g_D G) (fun i => a (37 + i)) (fun jz => (C) (40 * 3 + jz)) ((R) 3 3) ((R) 4 3)))) rfl gX6_copy_X2_isMissing rfl hyX2_isMissing rfl (by decide) (by decide) 0 rfl rfl rfl (Nat.le_of_ble_eq_true rfl) ⟨Nat.zero_le _, Nat.zero_le _⟩ dX6_copy_38 ?_
        intro w hw
        subst hw
        refine V_ws (ws' := bw (g_D G) a (Z) (K) (R) (C) (YT) (J)) rfl ?_
        refine rb_if_ne (tgt := 52) hG dX6_copy_41 (by decide) (fun c41 => ?_) (fun c41 => ?_)
        · try simp only [decide_eq_true_eq, decide_eq_false_iff_not] at c41
          refine r_aload_n (i := 0) hG dX6_copy_52 rfl rfl ?_
          refine r_iconst hG dX6_copy_53 ?_
          refine r_callVi hG (c_X6_finding (g_l G) (g_D G) a (Z) (K) (R) (C) (YT) (J) 5 (by omega))  gX6_copy_X6_finding rfl hyX6_finding rfl (by decide) (by decide) 0 rfl rfl rfl (Nat.le_of_ble_eq_true rfl) ⟨Nat.zero_le _, Nat.zero_le _⟩ dX6_copy_54 (fun w hw => ?_)
          subst hw
          exact r_iret hG hE dX6_copy_57 (by unfold s_copy; (try dsimp only); (repeat (first | rw [if_pos (by omega)] | rw [if_neg (by omega)])) <;> (first | rfl | skip)) ⟨YT, J, by unfold s_copy; (try dsimp only); (repeat (first | rw [if_pos (by omega)] | rw [if_neg (by omega)])) <;> (first | rfl | skip)⟩
        · try simp only [decide_eq_true_eq, decide_eq_false_iff_not] at c41
          refine r_aload hG dX6_copy_44 rfl ?_
          refine r_midi hG (c_X2_isMissing (g_l G) (g_D G) (fun i => a (35 + i)) (fun jz => (C) (40 * 2 + jz)) ((R) 3 2) ((R) 4 2) (by omega)) (bobj (g_D G) a (R) ++ (yw (g_D G) (fun i => a (2 + i)) (Z) ((J) 0) ((J) 1) ((J) 2) ++ (yw (g_D G) (fun i => a (10 + i)) (K) ((J) 3) ((J) 4) ((J) 5) ++ (yw (g_D G) (fun i => a (18 + i)) (YT) ((J) 6) ((J) 7) ((J) 8) ++ (bestw (a 26) ((J) 9) ((J) 10) ++ (btxt (g_D G) a (R) (J) ++ ([(a 30, .inl ((g_D G).1 102, 4, .inr (.inr (.inr (.inr (fun k => some (a (31 + 2 * k))))))))] ++ (sheetw (g_D G) (fun i => a (31 + i)) (fun jz => (C) (40 * 0 + jz)) ((R) 3 0) ((R) 4 0) ++ (sheetw (g_D G) (fun i => a (33 + i)) (fun jz => (C) (40 * 1 + jz)) ((R) 3 1) ((R) 4 1)))))))))) (sheetw (g_D G) (fun i => a (37 + i)) (fun jz => (C) (40 * 3 + jz)) ((R) 3 3) ((R) 4 3)) rfl gX6_copy_X2_isMissing rfl hyX2_isMissing rfl (by decide) (by decide) 0 rfl rfl rfl (Nat.le_of_ble_eq_true rfl) ⟨Nat.zero_le _, Nat.zero_le _⟩ dX6_copy_46 ?_
          intro w hw
          subst hw
          refine V_ws (ws' := bw (g_D G) a (Z) (K) (R) (C) (YT) (J)) rfl ?_
          refine rb_if_eq (tgt := 58) hG dX6_copy_49 (by decide) (fun c49 => ?_) (fun c49 => ?_)
          · try simp only [decide_eq_true_eq, decide_eq_false_iff_not] at c49
            refine r_aload hG dX6_copy_58 rfl ?_
            refine r_get hG cX6_copy_X2 31 1 rfl rfl (by decide) kX6_copy_224 rfl dX6_copy_60 ?_
            refine r_aload hG dX6_copy_63 rfl ?_
            refine r_get hG cX6_copy_X2 35 1 rfl rfl (by decide) kX6_copy_224 rfl dX6_copy_65 ?_
            refine r_icmp_eq (tgt := 77) hG (by omega) (by omega) dX6_copy_68 (by decide) (fun c68 => ?_) (fun c68 => ?_)
            · refine r_aload hG dX6_copy_77 rfl ?_
              refine r_iload_n (i := 2) hG dX6_copy_79 rfl rfl ?_
              refine r_iload hG dX6_copy_80 rfl ?_
              refine r_midi hG (c_X2_hasSpan (g_l G) (g_D G) (fun i => a (31 + i)) (fun jz => (C) (40 * 0 + jz)) ((R) 3 0) ((R) 4 0) (by omega) _ _ (by omega) (by omega)) (bobj (g_D G) a (R) ++ (yw (g_D G) (fun i => a (2 + i)) (Z) ((J) 0) ((J) 1) ((J) 2) ++ (yw (g_D G) (fun i => a (10 + i)) (K) ((J) 3) ((J) 4) ((J) 5) ++ (yw (g_D G) (fun i => a (18 + i)) (YT) ((J) 6) ((J) 7) ((J) 8) ++ (bestw (a 26) ((J) 9) ((J) 10) ++ (btxt (g_D G) a (R) (J) ++ ([(a 30, .inl ((g_D G).1 102, 4, .inr (.inr (.inr (.inr (fun k => some (a (31 + 2 * k))))))))]))))))) (sheetw (g_D G) (fun i => a (33 + i)) (fun jz => (C) (40 * 1 + jz)) ((R) 3 1) ((R) 4 1) ++ (sheetw (g_D G) (fun i => a (35 + i)) (fun jz => (C) (40 * 2 + jz)) ((R) 3 2) ((R) 4 2) ++ (sheetw (g_D G) (fun i => a (37 + i)) (fun jz => (C) (40 * 3 + jz)) ((R) 3 3) ((R) 4 3)))) rfl gX6_copy_X2_hasSpan rfl hyX2_hasSpan rfl (by decide) (by decide) 0 rfl rfl rfl (Nat.le_of_ble_eq_true rfl) ⟨Nat.zero_le _, Nat.zero_le _⟩ dX6_copy_82 ?_
              intro w hw
              subst hw
              refine V_ws (ws' := bw (g_D G) a (Z) (K) (R) (C) (YT) (J)) rfl ?_
              refine rb_if_eq (tgt := 100) hG dX6_copy_85 (by decide) (fun c85 => ?_) (fun c85 => ?_)
              · try simp only [decide_eq_true_eq, decide_eq_false_iff_not] at c85
                refine r_aload_n (i := 0) hG dX6_copy_100 rfl rfl ?_
                refine r_iconst hG dX6_copy_101 ?_
                refine r_callVi hG (c_X6_finding (g_l G) (g_D G) a (Z) (K) (R) (C) (YT) (J) 0 (by omega))  gX6_copy_X6_finding rfl hyX6_finding rfl (by decide) (by decide) 0 rfl rfl rfl (Nat.le_of_ble_eq_true rfl) ⟨Nat.zero_le _, Nat.zero_le _⟩ dX6_copy_102 (fun w hw => ?_)
                subst hw
                exact r_iret hG hE dX6_copy_105 (by unfold s_copy; (try dsimp only); (repeat (first | rw [if_pos (by omega)] | rw [if_neg (by omega)])) <;> (first | rfl | skip)) ⟨YT, J, by unfold s_copy; (try dsimp only); (repeat (first | rw [if_pos (by omega)] | rw [if_neg (by omega)])) <;> (first | rfl | skip)⟩
              · try simp only [decide_eq_true_eq, decide_eq_false_iff_not] at c85
                refine r_aload hG dX6_copy_88 rfl ?_
                refine r_iload hG dX6_copy_90 rfl ?_
                refine r_iload hG dX6_copy_92 rfl ?_
                refine r_midi hG (c_X2_hasSpan (g_l G) (g_D G) (fun i => a (35 + i)) (fun jz => (C) (40 * 2 + jz)) ((R) 3 2) ((R) 4 2) (by omega) _ _ (by omega) (by omega)) (bobj (g_D G) a (R) ++ (yw (g_D G) (fun i => a (2 + i)) (Z) ((J) 0) ((J) 1) ((J) 2) ++ (yw (g_D G) (fun i => a (10 + i)) (K) ((J) 3) ((J) 4) ((J) 5) ++ (yw (g_D G) (fun i => a (18 + i)) (YT) ((J) 6) ((J) 7) ((J) 8) ++ (bestw (a 26) ((J) 9) ((J) 10) ++ (btxt (g_D G) a (R) (J) ++ ([(a 30, .inl ((g_D G).1 102, 4, .inr (.inr (.inr (.inr (fun k => some (a (31 + 2 * k))))))))] ++ (sheetw (g_D G) (fun i => a (31 + i)) (fun jz => (C) (40 * 0 + jz)) ((R) 3 0) ((R) 4 0) ++ (sheetw (g_D G) (fun i => a (33 + i)) (fun jz => (C) (40 * 1 + jz)) ((R) 3 1) ((R) 4 1)))))))))) (sheetw (g_D G) (fun i => a (37 + i)) (fun jz => (C) (40 * 3 + jz)) ((R) 3 3) ((R) 4 3)) rfl gX6_copy_X2_hasSpan rfl hyX2_hasSpan rfl (by decide) (by decide) 0 rfl rfl rfl (Nat.le_of_ble_eq_true rfl) ⟨Nat.zero_le _, Nat.zero_le _⟩ dX6_copy_94 ?_
                intro w hw
                subst hw
                refine V_ws (ws' := bw (g_D G) a (Z) (K) (R) (C) (YT) (J)) rfl ?_
                refine rb_if_ne (tgt := 106) hG dX6_copy_97 (by decide) (fun c97 => ?_) (fun c97 => ?_)
                · try simp only [decide_eq_true_eq, decide_eq_false_iff_not] at c97
                  refine r_aload hG dX6_copy_106 rfl ?_
                  refine r_get hG cX6_copy_X2 31 0 rfl rfl (by decide) kX6_copy_216 rfl dX6_copy_108 ?_
                  refine r_iload_n (i := 2) hG dX6_copy_111 rfl rfl ?_
                  refine r_aload hG dX6_copy_112 rfl ?_
                  refine r_get hG cX6_copy_X2 35 0 rfl rfl (by decide) kX6_copy_216 rfl dX6_copy_114 ?_
                  refine r_iload hG dX6_copy_117 rfl ?_
                  refine r_iload hG dX6_copy_119 rfl ?_
                  refine r_copyl hG 32 36 rfl rfl (by omega) (by omega) (by omega) (by omega) (by omega) (List.mem_of_getElem? (i := 4) rfl) (List.mem_of_getElem? (i := 5) rfl) (List.mem_of_getElem? (i := 6) rfl) (List.mem_of_getElem? (i := 7) rfl) (by decide) (Nat.le_of_ble_eq_true rfl) dX6_copy_121 (ws' := bwX (g_D G) a (Z) (K) (R) (fun jz => (C) (40 * 0 + jz)) (fun jz => (C) (40 * 1 + jz)) (cpy1 (fun jz => (C) (40 * 0 + jz)) (fun jz => (C) (40 * 2 + jz)) f u n) (fun jz => (C) (40 * 3 + jz)) (YT) (J)) rfl ?_
                  refine V_shC (C := cpyC C (40 * 0 + f) (40 * 2 + u) n) (fun j h0 h1 => cpy_other (by omega)) (fun j h0 h1 => cpy_other (by omega)) (fun j h0 h1 => cpy_same j) (fun j h0 h1 => cpy_other (by omega)) ?_
                  refine r_iload hG dX6_copy_124 rfl ?_
                  exact r_iret hG hE dX6_copy_126 (by unfold s_copy; (try dsimp only); (repeat (first | rw [if_pos (by omega)] | rw [if_neg (by omega)])) <;> (first | rfl | skip)) ⟨YT, J, by unfold s_copy; (try dsimp only); (repeat (first | rw [if_pos (by omega)] | rw [if_neg (by omega)])) <;> (first | rfl | skip)⟩
                · try simp only [decide_eq_true_eq, decide_eq_false_iff_not] at c97
                  refine r_aload_n (i := 0) hG dX6_copy_100 rfl rfl ?_
                  refine r_iconst hG dX6_copy_101 ?_
                  refine r_callVi hG (c_X6_finding (g_l G) (g_D G) a (Z) (K) (R) (C) (YT) (J) 0 (by omega))  gX6_copy_X6_finding rfl hyX6_finding rfl (by decide) (by decide) 0 rfl rfl rfl (Nat.le_of_ble_eq_true rfl) ⟨Nat.zero_le _, Nat.zero_le _⟩ dX6_copy_102 (fun w hw => ?_)
                  subst hw
                  exact r_iret hG hE dX6_copy_105 (by unfold s_copy; (try dsimp only); (repeat (first | rw [if_pos (by omega)] | rw [if_neg (by omega)])) <;> (first | rfl | skip)) ⟨YT, J, by unfold s_copy; (try dsimp only); (repeat (first | rw [if_pos (by omega)] | rw [if_neg (by omega)])) <;> (first | rfl | skip)⟩
            · refine r_aload_n (i := 0) hG dX6_copy_71 rfl rfl ?_
              refine r_iconst hG dX6_copy_72 ?_
              refine r_callVi hG (c_X6_finding (g_l G) (g_D G) a (Z) (K) (R) (C) (YT) (J) 2 (by omega))  gX6_copy_X6_finding rfl hyX6_finding rfl (by decide) (by decide) 0 rfl rfl rfl (Nat.le_of_ble_eq_true rfl) ⟨Nat.zero_le _, Nat.zero_le _⟩ dX6_copy_73 (fun w hw => ?_)
              subst hw
              exact r_iret hG hE dX6_copy_76 (by unfold s_copy; (try dsimp only); (repeat (first | rw [if_pos (by omega)] | rw [if_neg (by omega)])) <;> (first | rfl | skip)) ⟨YT, J, by unfold s_copy; (try dsimp only); (repeat (first | rw [if_pos (by omega)] | rw [if_neg (by omega)])) <;> (first | rfl | skip)⟩
          · try simp only [decide_eq_true_eq, decide_eq_false_iff_not] at c49
            refine r_aload_n (i := 0) hG dX6_copy_52 rfl rfl ?_
            refine r_iconst hG dX6_copy_53 ?_
            refine r_callVi hG (c_X6_finding (g_l G) (g_D G) a (Z) (K) (R) (C) (YT) (J) 5 (by omega))  gX6_copy_X6_finding rfl hyX6_finding rfl (by decide) (by decide) 0 rfl rfl rfl (Nat.le_of_ble_eq_true rfl) ⟨Nat.zero_le _, Nat.zero_le _⟩ dX6_copy_54 (fun w hw => ?_)
            subst hw
            exact r_iret hG hE dX6_copy_57 (by unfold s_copy; (try dsimp only); (repeat (first | rw [if_pos (by omega)] | rw [if_neg (by omega)])) <;> (first | rfl | skip)) ⟨YT, J, by unfold s_copy; (try dsimp only); (repeat (first | rw [if_pos (by omega)] | rw [if_neg (by omega)])) <;> (first | rfl | skip)⟩
      · subst hv4
        refine r_aload_n (i := 0) hG dX6_copy_20 rfl rfl ?_
        refine r_get hG cX6_copy_X6 0 6 rfl rfl (by decide) kX6_copy_43 rfl dX6_copy_21 ?_
        refine r_iload_n (i := 1) hG dX6_copy_24 rfl rfl ?_
        refine r_aldq hG 30 rfl (by omega) (by decide) dX6_copy_25 (v := .ref (a 31)) rfl ?_
        refine r_astore hG dX6_copy_26 (by decide) rfl ?_
        refine r_aload_n (i := 0) hG dX6_copy_28 rfl rfl ?_
        refine r_get hG cX6_copy_X6 0 6 rfl rfl (by decide) kX6_copy_43 rfl dX6_copy_29 ?_
        refine r_iload_n (i := 3) hG dX6_copy_32 rfl rfl ?_
        refine r_aldq hG 30 rfl (by omega) (by decide) dX6_copy_33 (v := .ref (a 37)) rfl ?_
        refine r_astore hG dX6_copy_34 (by decide) rfl ?_
        refine r_aload hG dX6_copy_36 rfl ?_
        refine r_midi hG (c_X2_isMissing (g_l G) (g_D G) (fun i => a (31 + i)) (fun jz => (C) (40 * 0 + jz)) ((R) 3 0) ((R) 4 0) (by omega)) (bobj (g_D G) a (R) ++ (yw (g_D G) (fun i => a (2 + i)) (Z) ((J) 0) ((J) 1) ((J) 2) ++ (yw (g_D G) (fun i => a (10 + i)) (K) ((J) 3) ((J) 4) ((J) 5) ++ (yw (g_D G) (fun i => a (18 + i)) (YT) ((J) 6) ((J) 7) ((J) 8) ++ (bestw (a 26) ((J) 9) ((J) 10) ++ (btxt (g_D G) a (R) (J) ++ ([(a 30, .inl ((g_D G).1 102, 4, .inr (.inr (.inr (.inr (fun k => some (a (31 + 2 * k))))))))]))))))) (sheetw (g_D G) (fun i => a (33 + i)) (fun jz => (C) (40 * 1 + jz)) ((R) 3 1) ((R) 4 1) ++ (sheetw (g_D G) (fun i => a (35 + i)) (fun jz => (C) (40 * 2 + jz)) ((R) 3 2) ((R) 4 2) ++ (sheetw (g_D G) (fun i => a (37 + i)) (fun jz => (C) (40 * 3 + jz)) ((R) 3 3) ((R) 4 3)))) rfl gX6_copy_X2_isMissing rfl hyX2_isMissing rfl (by decide) (by decide) 0 rfl rfl rfl (Nat.le_of_ble_eq_true rfl) ⟨Nat.zero_le _, Nat.zero_le _⟩ dX6_copy_38 ?_
        intro w hw
        subst hw
        refine V_ws (ws' := bw (g_D G) a (Z) (K) (R) (C) (YT) (J)) rfl ?_
        refine rb_if_ne (tgt := 52) hG dX6_copy_41 (by decide) (fun c41 => ?_) (fun c41 => ?_)
        · try simp only [decide_eq_true_eq, decide_eq_false_iff_not] at c41
          refine r_aload_n (i := 0) hG dX6_copy_52 rfl rfl ?_
          refine r_iconst hG dX6_copy_53 ?_
          refine r_callVi hG (c_X6_finding (g_l G) (g_D G) a (Z) (K) (R) (C) (YT) (J) 5 (by omega))  gX6_copy_X6_finding rfl hyX6_finding rfl (by decide) (by decide) 0 rfl rfl rfl (Nat.le_of_ble_eq_true rfl) ⟨Nat.zero_le _, Nat.zero_le _⟩ dX6_copy_54 (fun w hw => ?_)
          subst hw
          exact r_iret hG hE dX6_copy_57 (by unfold s_copy; (try dsimp only); (repeat (first | rw [if_pos (by omega)] | rw [if_neg (by omega)])) <;> (first | rfl | skip)) ⟨YT, J, by unfold s_copy; (try dsimp only); (repeat (first | rw [if_pos (by omega)] | rw [if_neg (by omega)])) <;> (first | rfl | skip)⟩
        · try simp only [decide_eq_true_eq, decide_eq_false_iff_not] at c41
          refine r_aload hG dX6_copy_44 rfl ?_
          refine r_midi hG (c_X2_isMissing (g_l G) (g_D G) (fun i => a (37 + i)) (fun jz => (C) (40 * 3 + jz)) ((R) 3 3) ((R) 4 3) (by omega)) (bobj (g_D G) a (R) ++ (yw (g_D G) (fun i => a (2 + i)) (Z) ((J) 0) ((J) 1) ((J) 2) ++ (yw (g_D G) (fun i => a (10 + i)) (K) ((J) 3) ((J) 4) ((J) 5) ++ (yw (g_D G) (fun i => a (18 + i)) (YT) ((J) 6) ((J) 7) ((J) 8) ++ (bestw (a 26) ((J) 9) ((J) 10) ++ (btxt (g_D G) a (R) (J) ++ ([(a 30, .inl ((g_D G).1 102, 4, .inr (.inr (.inr (.inr (fun k => some (a (31 + 2 * k))))))))] ++ (sheetw (g_D G) (fun i => a (31 + i)) (fun jz => (C) (40 * 0 + jz)) ((R) 3 0) ((R) 4 0) ++ (sheetw (g_D G) (fun i => a (33 + i)) (fun jz => (C) (40 * 1 + jz)) ((R) 3 1) ((R) 4 1) ++ (sheetw (g_D G) (fun i => a (35 + i)) (fun jz => (C) (40 * 2 + jz)) ((R) 3 2) ((R) 4 2))))))))))) ([]) rfl gX6_copy_X2_isMissing rfl hyX2_isMissing rfl (by decide) (by decide) 0 rfl rfl rfl (Nat.le_of_ble_eq_true rfl) ⟨Nat.zero_le _, Nat.zero_le _⟩ dX6_copy_46 ?_
          intro w hw
          subst hw
          refine V_ws (ws' := bw (g_D G) a (Z) (K) (R) (C) (YT) (J)) rfl ?_
          refine rb_if_eq (tgt := 58) hG dX6_copy_49 (by decide) (fun c49 => ?_) (fun c49 => ?_)
          · try simp only [decide_eq_true_eq, decide_eq_false_iff_not] at c49
            refine r_aload hG dX6_copy_58 rfl ?_
            refine r_get hG cX6_copy_X2 31 1 rfl rfl (by decide) kX6_copy_224 rfl dX6_copy_60 ?_
            refine r_aload hG dX6_copy_63 rfl ?_
            refine r_get hG cX6_copy_X2 37 1 rfl rfl (by decide) kX6_copy_224 rfl dX6_copy_65 ?_
            refine r_icmp_eq (tgt := 77) hG (by omega) (by omega) dX6_copy_68 (by decide) (fun c68 => ?_) (fun c68 => ?_)
            · refine r_aload hG dX6_copy_77 rfl ?_
              refine r_iload_n (i := 2) hG dX6_copy_79 rfl rfl ?_
              refine r_iload hG dX6_copy_80 rfl ?_
              refine r_midi hG (c_X2_hasSpan (g_l G) (g_D G) (fun i => a (31 + i)) (fun jz => (C) (40 * 0 + jz)) ((R) 3 0) ((R) 4 0) (by omega) _ _ (by omega) (by omega)) (bobj (g_D G) a (R) ++ (yw (g_D G) (fun i => a (2 + i)) (Z) ((J) 0) ((J) 1) ((J) 2) ++ (yw (g_D G) (fun i => a (10 + i)) (K) ((J) 3) ((J) 4) ((J) 5) ++ (yw (g_D G) (fun i => a (18 + i)) (YT) ((J) 6) ((J) 7) ((J) 8) ++ (bestw (a 26) ((J) 9) ((J) 10) ++ (btxt (g_D G) a (R) (J) ++ ([(a 30, .inl ((g_D G).1 102, 4, .inr (.inr (.inr (.inr (fun k => some (a (31 + 2 * k))))))))]))))))) (sheetw (g_D G) (fun i => a (33 + i)) (fun jz => (C) (40 * 1 + jz)) ((R) 3 1) ((R) 4 1) ++ (sheetw (g_D G) (fun i => a (35 + i)) (fun jz => (C) (40 * 2 + jz)) ((R) 3 2) ((R) 4 2) ++ (sheetw (g_D G) (fun i => a (37 + i)) (fun jz => (C) (40 * 3 + jz)) ((R) 3 3) ((R) 4 3)))) rfl gX6_copy_X2_hasSpan rfl hyX2_hasSpan rfl (by decide) (by decide) 0 rfl rfl rfl (Nat.le_of_ble_eq_true rfl) ⟨Nat.zero_le _, Nat.zero_le _⟩ dX6_copy_82 ?_
              intro w hw
              subst hw
              refine V_ws (ws' := bw (g_D G) a (Z) (K) (R) (C) (YT) (J)) rfl ?_
              refine rb_if_eq (tgt := 100) hG dX6_copy_85 (by decide) (fun c85 => ?_) (fun c85 => ?_)
              · try simp only [decide_eq_true_eq, decide_eq_false_iff_not] at c85
                refine r_aload_n (i := 0) hG dX6_copy_100 rfl rfl ?_
                refine r_iconst hG dX6_copy_101 ?_
                refine r_callVi hG (c_X6_finding (g_l G) (g_D G) a (Z) (K) (R) (C) (YT) (J) 0 (by omega))  gX6_copy_X6_finding rfl hyX6_finding rfl (by decide) (by decide) 0 rfl rfl rfl (Nat.le_of_ble_eq_true rfl) ⟨Nat.zero_le _, Nat.zero_le _⟩ dX6_copy_102 (fun w hw => ?_)
                subst hw
                exact r_iret hG hE dX6_copy_105 (by unfold s_copy; (try dsimp only); (repeat (first | rw [if_pos (by omega)] | rw [if_neg (by omega)])) <;> (first | rfl | skip)) ⟨YT, J, by unfold s_copy; (try dsimp only); (repeat (first | rw [if_pos (by omega)] | rw [if_neg (by omega)])) <;> (first | rfl | skip)⟩
              · try simp only [decide_eq_true_eq, decide_eq_false_iff_not] at c85
                refine r_aload hG dX6_copy_88 rfl ?_
                refine r_iload hG dX6_copy_90 rfl ?_
                refine r_iload hG dX6_copy_92 rfl ?_
                refine r_midi hG (c_X2_hasSpan (g_l G) (g_D G) (fun i => a (37 + i)) (fun jz => (C) (40 * 3 + jz)) ((R) 3 3) ((R) 4 3) (by omega) _ _ (by omega) (by omega)) (bobj (g_D G) a (R) ++ (yw (g_D G) (fun i => a (2 + i)) (Z) ((J) 0) ((J) 1) ((J) 2) ++ (yw (g_D G) (fun i => a (10 + i)) (K) ((J) 3) ((J) 4) ((J) 5) ++ (yw (g_D G) (fun i => a (18 + i)) (YT) ((J) 6) ((J) 7) ((J) 8) ++ (bestw (a 26) ((J) 9) ((J) 10) ++ (btxt (g_D G) a (R) (J) ++ ([(a 30, .inl ((g_D G).1 102, 4, .inr (.inr (.inr (.inr (fun k => some (a (31 + 2 * k))))))))] ++ (sheetw (g_D G) (fun i => a (31 + i)) (fun jz => (C) (40 * 0 + jz)) ((R) 3 0) ((R) 4 0) ++ (sheetw (g_D G) (fun i => a (33 + i)) (fun jz => (C) (40 * 1 + jz)) ((R) 3 1) ((R) 4 1) ++ (sheetw (g_D G) (fun i => a (35 + i)) (fun jz => (C) (40 * 2 + jz)) ((R) 3 2) ((R) 4 2))))))))))) ([]) rfl gX6_copy_X2_hasSpan rfl hyX2_hasSpan rfl (by decide) (by decide) 0 rfl rfl rfl (Nat.le_of_ble_eq_true rfl) ⟨Nat.zero_le _, Nat.zero_le _⟩ dX6_copy_94 ?_
                intro w hw
                subst hw
                refine V_ws (ws' := bw (g_D G) a (Z) (K) (R) (C) (YT) (J)) rfl ?_
                refine rb_if_ne (tgt := 106) hG dX6_copy_97 (by decide) (fun c97 => ?_) (fun c97 => ?_)
                · try simp only [decide_eq_true_eq, decide_eq_false_iff_not] at c97
                  refine r_aload hG dX6_copy_106 rfl ?_
                  refine r_get hG cX6_copy_X2 31 0 rfl rfl (by decide) kX6_copy_216 rfl dX6_copy_108 ?_
                  refine r_iload_n (i := 2) hG dX6_copy_111 rfl rfl ?_
                  refine r_aload hG dX6_copy_112 rfl ?_
                  refine r_get hG cX6_copy_X2 37 0 rfl rfl (by decide) kX6_copy_216 rfl dX6_copy_114 ?_
                  refine r_iload hG dX6_copy_117 rfl ?_
                  refine r_iload hG dX6_copy_119 rfl ?_
                  refine r_copyl hG 32 38 rfl rfl (by omega) (by omega) (by omega) (by omega) (by omega) (List.mem_of_getElem? (i := 4) rfl) (List.mem_of_getElem? (i := 5) rfl) (List.mem_of_getElem? (i := 6) rfl) (List.mem_of_getElem? (i := 7) rfl) (by decide) (Nat.le_of_ble_eq_true rfl) dX6_copy_121 (ws' := bwX (g_D G) a (Z) (K) (R) (fun jz => (C) (40 * 0 + jz)) (fun jz => (C) (40 * 1 + jz)) (fun jz => (C) (40 * 2 + jz)) (cpy1 (fun jz => (C) (40 * 0 + jz)) (fun jz => (C) (40 * 3 + jz)) f u n) (YT) (J)) rfl ?_
                  refine V_shC (C := cpyC C (40 * 0 + f) (40 * 3 + u) n) (fun j h0 h1 => cpy_other (by omega)) (fun j h0 h1 => cpy_other (by omega)) (fun j h0 h1 => cpy_other (by omega)) (fun j h0 h1 => cpy_same j) ?_
                  refine r_iload hG dX6_copy_124 rfl ?_
                  exact r_iret hG hE dX6_copy_126 (by unfold s_copy; (try dsimp only); (repeat (first | rw [if_pos (by omega)] | rw [if_neg (by omega)])) <;> (first | rfl | skip)) ⟨YT, J, by unfold s_copy; (try dsimp only); (repeat (first | rw [if_pos (by omega)] | rw [if_neg (by omega)])) <;> (first | rfl | skip)⟩
                · try simp only [decide_eq_true_eq, decide_eq_false_iff_not] at c97
                  refine r_aload_n (i := 0) hG dX6_copy_100 rfl rfl ?_
                  refine r_iconst hG dX6_copy_101 ?_
                  refine r_callVi hG (c_X6_finding (g_l G) (g_D G) a (Z) (K) (R) (C) (YT) (J) 0 (by omega))  gX6_copy_X6_finding rfl hyX6_finding rfl (by decide) (by decide) 0 rfl rfl rfl (Nat.le_of_ble_eq_true rfl) ⟨Nat.zero_le _, Nat.zero_le _⟩ dX6_copy_102 (fun w hw => ?_)
                  subst hw
                  exact r_iret hG hE dX6_copy_105 (by unfold s_copy; (try dsimp only); (repeat (first | rw [if_pos (by omega)] | rw [if_neg (by omega)])) <;> (first | rfl | skip)) ⟨YT, J, by unfold s_copy; (try dsimp only); (repeat (first | rw [if_pos (by omega)] | rw [if_neg (by omega)])) <;> (first | rfl | skip)⟩
            · refine r_aload_n (i := 0) hG dX6_copy_71 rfl rfl ?_
              refine r_iconst hG dX6_copy_72 ?_
              refine r_callVi hG (c_X6_finding (g_l G) (g_D G) a (Z) (K) (R) (C) (YT) (J) 2 (by omega))  gX6_copy_X6_finding rfl hyX6_finding rfl (by decide) (by decide) 0 rfl rfl rfl (Nat.le_of_ble_eq_true rfl) ⟨Nat.zero_le _, Nat.zero_le _⟩ dX6_copy_73 (fun w hw => ?_)
              subst hw
              exact r_iret hG hE dX6_copy_76 (by unfold s_copy; (try dsimp only); (repeat (first | rw [if_pos (by omega)] | rw [if_neg (by omega)])) <;> (first | rfl | skip)) ⟨YT, J, by unfold s_copy; (try dsimp only); (repeat (first | rw [if_pos (by omega)] | rw [if_neg (by omega)])) <;> (first | rfl | skip)⟩
          · try simp only [decide_eq_true_eq, decide_eq_false_iff_not] at c49
            refine r_aload_n (i := 0) hG dX6_copy_52 rfl rfl ?_
            refine r_iconst hG dX6_copy_53 ?_
            refine r_callVi hG (c_X6_finding (g_l G) (g_D G) a (Z) (K) (R) (C) (YT) (J) 5 (by omega))  gX6_copy_X6_finding rfl hyX6_finding rfl (by decide) (by decide) 0 rfl rfl rfl (Nat.le_of_ble_eq_true rfl) ⟨Nat.zero_le _, Nat.zero_le _⟩ dX6_copy_54 (fun w hw => ?_)
            subst hw
            exact r_iret hG hE dX6_copy_57 (by unfold s_copy; (try dsimp only); (repeat (first | rw [if_pos (by omega)] | rw [if_neg (by omega)])) <;> (first | rfl | skip)) ⟨YT, J, by unfold s_copy; (try dsimp only); (repeat (first | rw [if_pos (by omega)] | rw [if_neg (by omega)])) <;> (first | rfl | skip)⟩
    · subst hv4
      rcases (show t = 0 ∨ t = 1 ∨ t = 2 ∨ t = 3 by omega) with hv4 | hv4 | hv4 | hv4
      · subst hv4
        refine r_aload_n (i := 0) hG dX6_copy_20 rfl rfl ?_
        refine r_get hG cX6_copy_X6 0 6 rfl rfl (by decide) kX6_copy_43 rfl dX6_copy_21 ?_
        refine r_iload_n (i := 1) hG dX6_copy_24 rfl rfl ?_
        refine r_aldq hG 30 rfl (by omega) (by decide) dX6_copy_25 (v := .ref (a 33)) rfl ?_
        refine r_astore hG dX6_copy_26 (by decide) rfl ?_
        refine r_aload_n (i := 0) hG dX6_copy_28 rfl rfl ?_
        refine r_get hG cX6_copy_X6 0 6 rfl rfl (by decide) kX6_copy_43 rfl dX6_copy_29 ?_
        refine r_iload_n (i := 3) hG dX6_copy_32 rfl rfl ?_
        refine r_aldq hG 30 rfl (by omega) (by decide) dX6_copy_33 (v := .ref (a 31)) rfl ?_
        refine r_astore hG dX6_copy_34 (by decide) rfl ?_
        refine r_aload hG dX6_copy_36 rfl ?_
        refine r_midi hG (c_X2_isMissing (g_l G) (g_D G) (fun i => a (33 + i)) (fun jz => (C) (40 * 1 + jz)) ((R) 3 1) ((R) 4 1) (by omega)) (bobj (g_D G) a (R) ++ (yw (g_D G) (fun i => a (2 + i)) (Z) ((J) 0) ((J) 1) ((J) 2) ++ (yw (g_D G) (fun i => a (10 + i)) (K) ((J) 3) ((J) 4) ((J) 5) ++ (yw (g_D G) (fun i => a (18 + i)) (YT) ((J) 6) ((J) 7) ((J) 8) ++ (bestw (a 26) ((J) 9) ((J) 10) ++ (btxt (g_D G) a (R) (J) ++ ([(a 30, .inl ((g_D G).1 102, 4, .inr (.inr (.inr (.inr (fun k => some (a (31 + 2 * k))))))))] ++ (sheetw (g_D G) (fun i => a (31 + i)) (fun jz => (C) (40 * 0 + jz)) ((R) 3 0) ((R) 4 0))))))))) (sheetw (g_D G) (fun i => a (35 + i)) (fun jz => (C) (40 * 2 + jz)) ((R) 3 2) ((R) 4 2) ++ (sheetw (g_D G) (fun i => a (37 + i)) (fun jz => (C) (40 * 3 + jz)) ((R) 3 3) ((R) 4 3))) rfl gX6_copy_X2_isMissing rfl hyX2_isMissing rfl (by decide) (by decide) 0 rfl rfl rfl (Nat.le_of_ble_eq_true rfl) ⟨Nat.zero_le _, Nat.zero_le _⟩ dX6_copy_38 ?_
        intro w hw
        subst hw
        refine V_ws (ws' := bw (g_D G) a (Z) (K) (R) (C) (YT) (J)) rfl ?_
        refine rb_if_ne (tgt := 52) hG dX6_copy_41 (by decide) (fun c41 => ?_) (fun c41 => ?_)
        · try simp only [decide_eq_true_eq, decide_eq_false_iff_not] at c41
          refine r_aload_n (i := 0) hG dX6_copy_52 rfl rfl ?_
          refine r_iconst hG dX6_copy_53 ?_
          refine r_callVi hG (c_X6_finding (g_l G) (g_D G) a (Z) (K) (R) (C) (YT) (J) 5 (by omega))  gX6_copy_X6_finding rfl hyX6_finding rfl (by decide) (by decide) 0 rfl rfl rfl (Nat.le_of_ble_eq_true rfl) ⟨Nat.zero_le _, Nat.zero_le _⟩ dX6_copy_54 (fun w hw => ?_)
          subst hw
          exact r_iret hG hE dX6_copy_57 (by unfold s_copy; (try dsimp only); (repeat (first | rw [if_pos (by omega)] | rw [if_neg (by omega)])) <;> (first | rfl | skip)) ⟨YT, J, by unfold s_copy; (try dsimp only); (repeat (first | rw [if_pos (by omega)] | rw [if_neg (by omega)])) <;> (first | rfl | skip)⟩
        · try simp only [decide_eq_true_eq, decide_eq_false_iff_not] at c41
          refine r_aload hG dX6_copy_44 rfl ?_
          refine r_midi hG (c_X2_isMissing (g_l G) (g_D G) (fun i => a (31 + i)) (fun jz => (C) (40 * 0 + jz)) ((R) 3 0) ((R) 4 0) (by omega)) (bobj (g_D G) a (R) ++ (yw (g_D G) (fun i => a (2 + i)) (Z) ((J) 0) ((J) 1) ((J) 2) ++ (yw (g_D G) (fun i => a (10 + i)) (K) ((J) 3) ((J) 4) ((J) 5) ++ (yw (g_D G) (fun i => a (18 + i)) (YT) ((J) 6) ((J) 7) ((J) 8) ++ (bestw (a 26) ((J) 9) ((J) 10) ++ (btxt (g_D G) a (R) (J) ++ ([(a 30, .inl ((g_D G).1 102, 4, .inr (.inr (.inr (.inr (fun k => some (a (31 + 2 * k))))))))]))))))) (sheetw (g_D G) (fun i => a (33 + i)) (fun jz => (C) (40 * 1 + jz)) ((R) 3 1) ((R) 4 1) ++ (sheetw (g_D G) (fun i => a (35 + i)) (fun jz => (C) (40 * 2 + jz)) ((R) 3 2) ((R) 4 2) ++ (sheetw (g_D G) (fun i => a (37 + i)) (fun jz => (C) (40 * 3 + jz)) ((R) 3 3) ((R) 4 3)))) rfl gX6_copy_X2_isMissing rfl hyX2_isMissing rfl (by decide) (by decide) 0 rfl rfl rfl (Nat.le_of_ble_eq_true rfl) ⟨Nat.zero_le _, Nat.zero_le _⟩ dX6_copy_46 ?_
          intro w hw
          subst hw
          refine V_ws (ws' := bw (g_D G) a (Z) (K) (R) (C) (YT) (J)) rfl ?_
          refine rb_if_eq (tgt := 58) hG dX6_copy_49 (by decide) (fun c49 => ?_) (fun c49 => ?_)
          · try simp only [decide_eq_true_eq, decide_eq_false_iff_not] at c49
            refine r_aload hG dX6_copy_58 rfl ?_
            refine r_get hG cX6_copy_X2 33 1 rfl rfl (by decide) kX6_copy_224 rfl dX6_copy_60 ?_
            refine r_aload hG dX6_copy_63 rfl ?_
            refine r_get hG cX6_copy_X2 31 1 rfl rfl (by decide) kX6_copy_224 rfl dX6_copy_65 ?_
            refine r_icmp_eq (tgt := 77) hG (by omega) (by omega) dX6_copy_68 (by decide) (fun c68 => ?_) (fun c68 => ?_)
            · refine r_aload hG dX6_copy_77 rfl ?_
              refine r_iload_n (i := 2) hG dX6_copy_79 rfl rfl ?_
              refine r_iload hG dX6_copy_80 rfl ?_
              refine r_midi hG (c_X2_hasSpan (g_l G) (g_D G) (fun i => a (33 + i)) (fun jz => (C) (40 * 1 + jz)) ((R) 3 1) ((R) 4 1) (by omega) _ _ (by omega) (by omega)) (bobj (g_D G) a (R) ++ (yw (g_D G) (fun i => a (2 + i)) (Z) ((J) 0) ((J) 1) ((J) 2) ++ (yw (g_D G) (fun i => a (10 + i)) (K) ((J) 3) ((J) 4) ((J) 5) ++ (yw (g_D G) (fun i => a (18 + i)) (YT) ((J) 6) ((J) 7) ((J) 8) ++ (bestw (a 26) ((J) 9) ((J) 10) ++ (btxt (g_D G) a (R) (J) ++ ([(a 30, .inl ((g_D G).1 102, 4, .inr (.inr (.inr (.inr (fun k => some (a (31 + 2 * k))))))))] ++ (sheetw (g_D G) (fun i => a (31 + i)) (fun jz => (C) (40 * 0 + jz)) ((R) 3 0) ((R) 4 0))))))))) (sheetw (g_D G) (fun i => a (35 + i)) (fun jz => (C) (40 * 2 + jz)) ((R) 3 2) ((R) 4 2) ++ (sheetw (g_D G) (fun i => a (37 + i)) (fun jz => (C) (40 * 3 + jz)) ((R) 3 3) ((R) 4 3))) rfl gX6_copy_X2_hasSpan rfl hyX2_hasSpan rfl (by decide) (by decide) 0 rfl rfl rfl (Nat.le_of_ble_eq_true rfl) ⟨Nat.zero_le _, Nat.zero_le _⟩ dX6_copy_82 ?_
              intro w hw
              subst hw
              refine V_ws (ws' := bw (g_D G) a (Z) (K) (R) (C) (YT) (J)) rfl ?_
              refine rb_if_eq (tgt := 100) hG dX6_copy_85 (by decide) (fun c85 => ?_) (fun c85 => ?_)
              · try simp only [decide_eq_true_eq, decide_eq_false_iff_not] at c85
                refine r_aload_n (i := 0) hG dX6_copy_100 rfl rfl ?_
                refine r_iconst hG dX6_copy_101 ?_
                refine r_callVi hG (c_X6_finding (g_l G) (g_D G) a (Z) (K) (R) (C) (YT) (J) 0 (by omega))  gX6_copy_X6_finding rfl hyX6_finding rfl (by decide) (by decide) 0 rfl rfl rfl (Nat.le_of_ble_eq_true rfl) ⟨Nat.zero_le _, Nat.zero_le _⟩ dX6_copy_102 (fun w hw => ?_)
                subst hw
                exact r_iret hG hE dX6_copy_105 (by unfold s_copy; (try dsimp only); (repeat (first | rw [if_pos (by omega)] | rw [if_neg (by omega)])) <;> (first | rfl | skip)) ⟨YT, J, by unfold s_copy; (try dsimp only); (repeat (first | rw [if_pos (by omega)] | rw [if_neg (by omega)])) <;> (first | rfl | skip)⟩
              · try simp only [decide_eq_true_eq, decide_eq_false_iff_not] at c85
                refine r_aload hG dX6_copy_88 rfl ?_
                refine r_iload hG dX6_copy_90 rfl ?_
                refine r_iload hG dX6_copy_92 rfl ?_
                refine r_midi hG (c_X2_hasSpan (g_l G) (g_D G) (fun i => a (31 + i)) (fun jz => (C) (40 * 0 + jz)) ((R) 3 0) ((R) 4 0) (by omega) _ _ (by omega) (by omega)) (bobj (g_D G) a (R) ++ (yw (g_D G) (fun i => a (2 + i)) (Z) ((J) 0) ((J) 1) ((J) 2) ++ (yw (g_D G) (fun i => a (10 + i)) (K) ((J) 3) ((J) 4) ((J) 5) ++ (yw (g_D G) (fun i => a (18 + i)) (YT) ((J) 6) ((J) 7) ((J) 8) ++ (bestw (a 26) ((J) 9) ((J) 10) ++ (btxt (g_D G) a (R) (J) ++ ([(a 30, .inl ((g_D G).1 102, 4, .inr (.inr (.inr (.inr (fun k => some (a (31 + 2 * k))))))))]))))))) (sheetw (g_D G) (fun i => a (33 + i)) (fun jz => (C) (40 * 1 + jz)) ((R) 3 1) ((R) 4 1) ++ (sheetw (g_D G) (fun i => a (35 + i)) (fun jz => (C) (40 * 2 + jz)) ((R) 3 2) ((R) 4 2) ++ (sheetw (g_D G) (fun i => a (37 + i)) (fun jz => (C) (40 * 3 + jz)) ((R) 3 3) ((R) 4 3)))) rfl gX6_copy_X2_hasSpan rfl hyX2_hasSpan rfl (by decide) (by decide) 0 rfl rfl rfl (Nat.le_of_ble_eq_true rfl) ⟨Nat.zero_le _, Nat.zero_le _⟩ dX6_copy_94 ?_
                intro w hw
                subst hw
                refine V_ws (ws' := bw (g_D G) a (Z) (K) (R) (C) (YT) (J)) rfl ?_
                refine rb_if_ne (tgt := 106) hG dX6_copy_97 (by decide) (fun c97 => ?_) (fun c97 => ?_)
                · try simp only [decide_eq_true_eq, decide_eq_false_iff_not] at c97
                  refine r_aload hG dX6_copy_106 rfl ?_
                  refine r_get hG cX6_copy_X2 33 0 rfl rfl (by decide) kX6_copy_216 rfl dX6_copy_108 ?_
                  refine r_iload_n (i := 2) hG dX6_copy_111 rfl rfl ?_
                  refine r_aload hG dX6_copy_112 rfl ?_
                  refine r_get hG cX6_copy_X2 31 0 rfl rfl (by decide) kX6_copy_216 rfl dX6_copy_114 ?_
                  refine r_iload hG dX6_copy_117 rfl ?_
                  refine r_iload hG dX6_copy_119 rfl ?_
                  refine r_copyl hG 34 32 rfl rfl (by omega) (by omega) (by omega) (by omega) (by omega) (List.mem_of_getElem? (i := 4) rfl) (List.mem_of_getElem? (i := 5) rfl) (List.mem_of_getElem? (i := 6) rfl) (List.mem_of_getElem? (i := 7) rfl) (by decide) (Nat.le_of_ble_eq_true rfl) dX6_copy_121 (ws' := bwX (g_D G) a (Z) (K) (R) (cpy1 (fun jz => (C) (40 * 1 + jz)) (fun jz => (C) (40 * 0 + jz)) f u n) (fun jz => (C) (40 * 1 + jz)) (fun jz => (C) (40 * 2 + jz)) (fun jz => (C) (40 * 3 + jz)) (YT) (J)) rfl ?_
                  refine V_shC (C := cpyC C (40 * 1 + f) (40 * 0 + u) n) (fun j h0 h1 => cpy_same j) (fun j h0 h1 => cpy_other (by omega)) (fun j h0 h1 => cpy_other (by omega)) (fun j h0 h1 => cpy_other (by omega)) ?_
                  refine r_iload hG dX6_copy_124 rfl ?_
                  exact r_iret hG hE dX6_copy_126 (by unfold s_copy; (try dsimp only); (repeat (first | rw [if_pos (by omega)] | rw [if_neg (by omega)])) <;> (first | rfl | skip)) ⟨YT, J, by unfold s_copy; (try dsimp only); (repeat (first | rw [if_pos (by omega)] | rw [if_neg (by omega)])) <;> (first | rfl | skip)⟩
                · try simp only [decide_eq_true_eq, decide_eq_false_iff_not] at c97
                  refine r_aload_n (i := 0) hG dX6_copy_100 rfl rfl ?_
                  refine r_iconst hG dX6_copy_101 ?_
                  refine r_callVi hG (c_X6_finding (g_l G) (g_D G) a (Z) (K) (R) (C) (YT) (J) 0 (by omega))  gX6_copy_X6_finding rfl hyX6_finding rfl (by decide) (by decide) 0 rfl rfl rfl (Nat.le_of_ble_eq_true rfl) ⟨Nat.zero_le _, Nat.zero_le _⟩ dX6_copy_102 (fun w hw => ?_)
                  subst hw
                  exact r_iret hG hE dX6_copy_105 (by unfold s_copy; (try dsimp only); (repeat (first | rw [if_pos (by omega)] | rw [if_neg (by omega)])) <;> (first | rfl | skip)) ⟨YT, J, by unfold s_copy; (try dsimp only); (repeat (first | rw [if_pos (by omega)] | rw [if_neg (by omega)])) <;> (first | rfl | skip)⟩
            · refine r_aload_n (i := 0) hG dX6_copy_71 rfl rfl ?_
              refine r_iconst hG dX6_copy_72 ?_
              refine r_callVi hG (c_X6_finding (g_l G) (g_D G) a (Z) (K) (R) (C) (YT) (J) 2 (by omega))  gX6_copy_X6_finding rfl hyX6_finding rfl (by decide) (by decide) 0 rfl rfl rfl (Nat.le_of_ble_eq_true rfl) ⟨Nat.zero_le _, Nat.zero_le _⟩ dX6_copy_73 (fun w hw => ?_)
              subst hw
              exact r_iret hG hE dX6_copy_76 (by unfold s_copy; (try dsimp only); (repeat (first | rw [if_pos (by omega)] | rw [if_neg (by omega)])) <;> (first | rfl | skip)) ⟨YT, J, by unfold s_copy; (try dsimp only); (repeat (first | rw [if_pos (by omega)] | rw [if_neg (by omega)])) <;> (first | rfl | skip)⟩
          · try simp only [decide_eq_true_eq, decide_eq_false_iff_not] at c49
            refine r_aload_n (i := 0) hG dX6_copy_52 rfl rfl ?_
            refine r_iconst hG dX6_copy_53 ?_
            refine r_callVi hG (c_X6_finding (g_l G) (g_D G) a (Z) (K) (R) (C) (YT) (J) 5 (by omega))  gX6_copy_X6_finding rfl hyX6_finding rfl (by decide) (by decide) 0 rfl rfl rfl (Nat.le_of_ble_eq_true rfl) ⟨Nat.zero_le _, Nat.zero_le _⟩ dX6_copy_54 (fun w hw => ?_)
            subst hw
            exact r_iret hG hE dX6_copy_57 (by unfold s_copy; (try dsimp only); (repeat (first | rw [if_pos (by omega)] | rw [if_neg (by omega)])) <;> (first | rfl | skip)) ⟨YT, J, by unfold s_copy; (try dsimp only); (repeat (first | rw [if_pos (by omega)] | rw [if_neg (by omega)])) <;> (first | rfl | skip)⟩
      · subst hv4
        refine r_aload_n (i := 0) hG dX6_copy_20 rfl rfl ?_
        refine r_get hG cX6_copy_X6 0 6 rfl rfl (by decide) kX6_copy_43 rfl dX6_copy_21 ?_
        refine r_iload_n (i := 1) hG dX6_copy_24 rfl rfl ?_
        refine r_aldq hG 30 rfl (by omega) (by decide) dX6_copy_25 (v := .ref (a 33)) rfl ?_
        refine r_astore hG dX6_copy_26 (by decide) rfl ?_
        refine r_aload_n (i := 0) hG dX6_copy_28 rfl rfl ?_
        refine r_get hG cX6_copy_X6 0 6 rfl rfl (by decide) kX6_copy_43 rfl dX6_copy_29 ?_
        refine r_iload_n (i := 3) hG dX6_copy_32 rfl rfl ?_
        refine r_aldq hG 30 rfl (by omega) (by decide) dX6_copy_33 (v := .ref (a 33)) rfl ?_
        refine r_astore hG dX6_copy_34 (by decide) rfl ?_
        refine r_aload hG dX6_copy_36 rfl ?_
        refine r_midi hG (c_X2_isMissing (g_l G) (g_D G) (fun i => a (33 + i)) (fun jz => (C) (40 * 1 + jz)) ((R) 3 1) ((R) 4 1) (by omega)) (bobj (g_D G) a (R) ++ (yw (g_D G) (fun i => a (2 + i)) (Z) ((J) 0) ((J) 1) ((J) 2) ++ (yw (g_D G) (fun i => a (10 + i)) (K) ((J) 3) ((J) 4) ((J) 5) ++ (yw (g_D G) (fun i => a (18 + i)) (YT) ((J) 6) ((J) 7) ((J) 8) ++ (bestw (a 26) ((J) 9) ((J) 10) ++ (btxt (g_D G) a (R) (J) ++ ([(a 30, .inl ((g_D G).1 102, 4, .inr (.inr (.inr (.inr (fun k => some (a (31 + 2 * k))))))))] ++ (sheetw (g_D G) (fun i => a (31 + i)) (fun jz => (C) (40 * 0 + jz)) ((R) 3 0) ((R) 4 0))))))))) (sheetw (g_D G) (fun i => a (35 + i)) (fun jz => (C) (40 * 2 + jz)) ((R) 3 2) ((R) 4 2) ++ (sheetw (g_D G) (fun i => a (37 + i)) (fun jz => (C) (40 * 3 + jz)) ((R) 3 3) ((R) 4 3))) rfl gX6_copy_X2_isMissing rfl hyX2_isMissing rfl (by decide) (by decide) 0 rfl rfl rfl (Nat.le_of_ble_eq_true rfl) ⟨Nat.zero_le _, Nat.zero_le _⟩ dX6_copy_38 ?_
        intro w hw
        subst hw
        refine V_ws (ws' := bw (g_D G) a (Z) (K) (R) (C) (YT) (J)) rfl ?_
        refine rb_if_ne (tgt := 52) hG dX6_copy_41 (by decide) (fun c41 => ?_) (fun c41 => ?_)
        · try simp only [decide_eq_true_eq, decide_eq_false_iff_not] at c41
          refine r_aload_n (i := 0) hG dX6_copy_52 rfl rfl ?_
          refine r_iconst hG dX6_copy_53 ?_
          refine r_callVi hG (c_X6_finding (g_l G) (g_D G) a (Z) (K) (R) (C) (YT) (J) 5 (by omega))  gX6_copy_X6_finding rfl hyX6_finding rfl (by decide) (by decide) 0 rfl rfl rfl (Nat.le_of_ble_eq_true rfl) ⟨Nat.zero_le _, Nat.zero_le _⟩ dX6_copy_54 (fun w hw => ?_)
          subst hw
          exact r_iret hG hE dX6_copy_57 (by unfold s_copy; (try dsimp only); (repeat (first | rw [if_pos (by omega)] | rw [if_neg (by omega)])) <;> (first | rfl | skip)) ⟨YT, J, by unfold s_copy; (try dsimp only); (repeat (first | rw [if_pos (by omega)] | rw [if_neg (by omega)])) <;> (first | rfl | skip)⟩
        · try simp only [decide_eq_true_eq, decide_eq_false_iff_not] at c41
          refine r_aload hG dX6_copy_44 rfl ?_
          refine r_midi hG (c_X2_isMissing (g_l G) (g_D G) (fun i => a (33 + i)) (fun jz => (C) (40 * 1 + jz)) ((R) 3 1) ((R) 4 1) (by omega)) (bobj (g_D G) a (R) ++ (yw (g_D G) (fun i => a (2 + i)) (Z) ((J) 0) ((J) 1) ((J) 2) ++ (yw (g_D G) (fun i => a (10 + i)) (K) ((J) 3) ((J) 4) ((J) 5) ++ (yw (g_D G) (fun i => a (18 + i)) (YT) ((J) 6) ((J) 7) ((J) 8) ++ (bestw (a 26) ((J) 9) ((J) 10) ++ (btxt (g_D G) a (R) (J) ++ ([(a 30, .inl ((g_D G).1 102, 4, .inr (.inr (.inr (.inr (fun k => some (a (31 + 2 * k))))))))] ++ (sheetw (g_D G) (fun i => a (31 + i)) (fun jz => (C) (40 * 0 + jz)) ((R) 3 0) ((R) 4 0))))))))) (sheetw (g_D G) (fun i => a (35 + i)) (fun jz => (C) (40 * 2 + jz)) ((R) 3 2) ((R) 4 2) ++ (sheetw (g_D G) (fun i => a (37 + i)) (fun jz => (C) (40 * 3 + jz)) ((R) 3 3) ((R) 4 3))) rfl gX6_copy_X2_isMissing rfl hyX2_isMissing rfl (by decide) (by decide) 0 rfl rfl rfl (Nat.le_of_ble_eq_true rfl) ⟨Nat.zero_le _, Nat.zero_le _⟩ dX6_copy_46 ?_
          intro w hw
          subst hw
          refine V_ws (ws' := bw (g_D G) a (Z) (K) (R) (C) (YT) (J)) rfl ?_
          refine rb_if_eq (tgt := 58) hG dX6_copy_49 (by decide) (fun c49 => ?_) (fun c49 => ?_)
          · try simp only [decide_eq_true_eq, decide_eq_false_iff_not] at c49
            refine r_aload hG dX6_copy_58 rfl ?_
            refine r_get hG cX6_copy_X2 33 1 rfl rfl (by decide) kX6_copy_224 rfl dX6_copy_60 ?_
            refine r_aload hG dX6_copy_63 rfl ?_
            refine r_get hG cX6_copy_X2 33 1 rfl rfl (by decide) kX6_copy_224 rfl dX6_copy_65 ?_
            refine r_icmp_eq (tgt := 77) hG (by omega) (by omega) dX6_copy_68 (by decide) (fun c68 => ?_) (fun c68 => ?_)
            · refine r_aload hG dX6_copy_77 rfl ?_
              refine r_iload_n (i := 2) hG dX6_copy_79 rfl rfl ?_
              refine r_iload hG dX6_copy_80 rfl ?_
              refine r_midi hG (c_X2_hasSpan (g_l G) (g_D G) (fun i => a (33 + i)) (fun jz => (C) (40 * 1 + jz)) ((R) 3 1) ((R) 4 1) (by omega) _ _ (by omega) (by omega)) (bobj (g_D G) a (R) ++ (yw (g_D G) (fun i => a (2 + i)) (Z) ((J) 0) ((J) 1) ((J) 2) ++ (yw (g_D G) (fun i => a (10 + i)) (K) ((J) 3) ((J) 4) ((J) 5) ++ (yw (g_D G) (fun i => a (18 + i)) (YT) ((J) 6) ((J) 7) ((J) 8) ++ (bestw (a 26) ((J) 9) ((J) 10) ++ (btxt (g_D G) a (R) (J) ++ ([(a 30, .inl ((g_D G).1 102, 4, .inr (.inr (.inr (.inr (fun k => some (a (31 + 2 * k))))))))] ++ (sheetw (g_D G) (fun i => a (31 + i)) (fun jz => (C) (40 * 0 + jz)) ((R) 3 0) ((R) 4 0))))))))) (sheetw (g_D G) (fun i => a (35 + i)) (fun jz => (C) (40 * 2 + jz)) ((R) 3 2) ((R) 4 2) ++ (sheetw (g_D G) (fun i => a (37 + i)) (fun jz => (C) (40 * 3 + jz)) ((R) 3 3) ((R) 4 3))) rfl gX6_copy_X2_hasSpan rfl hyX2_hasSpan rfl (by decide) (by decide) 0 rfl rfl rfl (Nat.le_of_ble_eq_true rfl) ⟨Nat.zero_le _, Nat.zero_le _⟩ dX6_copy_82 ?_
              intro w hw
              subst hw
              refine V_ws (ws' := bw (g_D G) a (Z) (K) (R) (C) (YT) (J)) rfl ?_
              refine rb_if_eq (tgt := 100) hG dX6_copy_85 (by decide) (fun c85 => ?_) (fun c85 => ?_)
              · try simp only [decide_eq_true_eq, decide_eq_false_iff_not] at c85
                refine r_aload_n (i := 0) hG dX6_copy_100 rfl rfl ?_
                refine r_iconst hG dX6_copy_101 ?_
                refine r_callVi hG (c_X6_finding (g_l G) (g_D G) a (Z) (K) (R) (C) (YT) (J) 0 (by omega))  gX6_copy_X6_finding rfl hyX6_finding rfl (by decide) (by decide) 0 rfl rfl rfl (Nat.le_of_ble_eq_true rfl) ⟨Nat.zero_le _, Nat.zero_le _⟩ dX6_copy_102 (fun w hw => ?_)
                subst hw
                exact r_iret hG hE dX6_copy_105 (by unfold s_copy; (try dsimp only); (repeat (first | rw [if_pos (by omega)] | rw [if_neg (by omega)])) <;> (first | rfl | skip)) ⟨YT, J, by unfold s_copy; (try dsimp only); (repeat (first | rw [if_pos (by omega)] | rw [if_neg (by omega)])) <;> (first | rfl | skip)⟩
              · try simp only [decide_eq_true_eq, decide_eq_false_iff_not] at c85
                refine r_aload hG dX6_copy_88 rfl ?_
                refine r_iload hG dX6_copy_90 rfl ?_
                refine r_iload hG dX6_copy_92 rfl ?_
                refine r_midi hG (c_X2_hasSpan (g_l G) (g_D G) (fun i => a (33 + i)) (fun jz => (C) (40 * 1 + jz)) ((R) 3 1) ((R) 4 1) (by omega) _ _ (by omega) (by omega)) (bobj (g_D G) a (R) ++ (yw (g_D G) (fun i => a (2 + i)) (Z) ((J) 0) ((J) 1) ((J) 2) ++ (yw (g_D G) (fun i => a (10 + i)) (K) ((J) 3) ((J) 4) ((J) 5) ++ (yw (g_D G) (fun i => a (18 + i)) (YT) ((J) 6) ((J) 7) ((J) 8) ++ (bestw (a 26) ((J) 9) ((J) 10) ++ (btxt (g_D G) a (R) (J) ++ ([(a 30, .inl ((g_D G).1 102, 4, .inr (.inr (.inr (.inr (fun k => some (a (31 + 2 * k))))))))] ++ (sheetw (g_D G) (fun i => a (31 + i)) (fun jz => (C) (40 * 0 + jz)) ((R) 3 0) ((R) 4 0))))))))) (sheetw (g_D G) (fun i => a (35 + i)) (fun jz => (C) (40 * 2 + jz)) ((R) 3 2) ((R) 4 2) ++ (sheetw (g_D G) (fun i => a (37 + i)) (fun jz => (C) (40 * 3 + jz)) ((R) 3 3) ((R) 4 3))) rfl gX6_copy_X2_hasSpan rfl hyX2_hasSpan rfl (by decide) (by decide) 0 rfl rfl rfl (Nat.le_of_ble_eq_true rfl) ⟨Nat.zero_le _, Nat.zero_le _⟩ dX6_copy_94 ?_
                intro w hw
                subst hw
                refine V_ws (ws' := bw (g_D G) a (Z) (K) (R) (C) (YT) (J)) rfl ?_
                refine rb_if_ne (tgt := 106) hG dX6_copy_97 (by decide) (fun c97 => ?_) (fun c97 => ?_)
                · try simp only [decide_eq_true_eq, decide_eq_false_iff_not] at c97
                  refine r_aload hG dX6_copy_106 rfl ?_
                  refine r_get hG cX6_copy_X2 33 0 rfl rfl (by decide) kX6_copy_216 rfl dX6_copy_108 ?_
                  refine r_iload_n (i := 2) hG dX6_copy_111 rfl rfl ?_
                  refine r_aload hG dX6_copy_112 rfl ?_
                  refine r_get hG cX6_copy_X2 33 0 rfl rfl (by decide) kX6_copy_216 rfl dX6_copy_114 ?_
                  refine r_iload hG dX6_copy_117 rfl ?_
                  refine r_iload hG dX6_copy_119 rfl ?_
                  refine r_copyl hG 34 34 rfl rfl (by omega) (by omega) (by omega) (by omega) (by omega) (List.mem_of_getElem? (i := 4) rfl) (List.mem_of_getElem? (i := 5) rfl) (List.mem_of_getElem? (i := 6) rfl) (List.mem_of_getElem? (i := 7) rfl) (by decide) (Nat.le_of_ble_eq_true rfl) dX6_copy_121 (ws' := bwX (g_D G) a (Z) (K) (R) (fun jz => (C) (40 * 0 + jz)) (cpy1 (fun jz => (C) (40 * 1 + jz)) (fun jz => (C) (40 * 1 + jz)) f u n) (fun jz => (C) (40 * 2 + jz)) (fun jz => (C) (40 * 3 + jz)) (YT) (J)) rfl ?_
                  refine V_shC (C := cpyC C (40 * 1 + f) (40 * 1 + u) n) (fun j h0 h1 => cpy_other (by omega)) (fun j h0 h1 => cpy_same j) (fun j h0 h1 => cpy_other (by omega)) (fun j h0 h1 => cpy_other (by omega)) ?_
                  refine r_iload hG dX6_copy_124 rfl ?_
                  exact r_iret hG hE dX6_copy_126 (by unfold s_copy; (try dsimp only); (repeat (first | rw [if_pos (by omega)] | rw [if_neg (by omega)])) <;> (first | rfl | skip)) ⟨YT, J, by unfold s_copy; (try dsimp only); (repeat (first | rw [if_pos (by omega)] | rw [if_neg (by omega)])) <;> (first | rfl | skip)⟩
                · try simp only [decide_eq_true_eq, decide_eq_false_iff_not] at c97
                  refine r_aload_n (i := 0) hG dX6_copy_100 rfl rfl ?_
                  refine r_iconst hG dX6_copy_101 ?_
                  refine r_callVi hG (c_X6_finding (g_l G) (g_D G) a (Z) (K) (R) (C) (YT) (J) 0 (by omega))  gX6_copy_X6_finding rfl hyX6_finding rfl (by decide) (by decide) 0 rfl rfl rfl (Nat.le_of_ble_eq_true rfl) ⟨Nat.zero_le _, Nat.zero_le _⟩ dX6_copy_102 (fun w hw => ?_)
                  subst hw
                  exact r_iret hG hE dX6_copy_105 (by unfold s_copy; (try dsimp only); (repeat (first | rw [if_pos (by omega)] | rw [if_neg (by omega)])) <;> (first | rfl | skip)) ⟨YT, J, by unfold s_copy; (try dsimp only); (repeat (first | rw [if_pos (by omega)] | rw [if_neg (by omega)])) <;> (first | rfl | skip)⟩
            · exact absurd rfl c68
          · try simp only [decide_eq_true_eq, decide_eq_false_iff_not] at c49
            refine r_aload_n (i := 0) hG dX6_copy_52 rfl rfl ?_
            refine r_iconst hG dX6_copy_53 ?_
            refine r_callVi hG (c_X6_finding (g_l G) (g_D G) a (Z) (K) (R) (C) (YT) (J) 5 (by omega))  gX6_copy_X6_finding rfl hyX6_finding rfl (by decide) (by decide) 0 rfl rfl rfl (Nat.le_of_ble_eq_true rfl) ⟨Nat.zero_le _, Nat.zero_le _⟩ dX6_copy_54 (fun w hw => ?_)
            subst hw
            exact r_iret hG hE dX6_copy_57 (by unfold s_copy; (try dsimp only); (repeat (first | rw [if_pos (by omega)] | rw [if_neg (by omega)])) <;> (first | rfl | skip)) ⟨YT, J, by unfold s_copy; (try dsimp only); (repeat (first | rw [if_pos (by omega)] | rw [if_neg (by omega)])) <;> (first | rfl | skip)⟩
      · subst hv4
        refine r_aload_n (i := 0) hG dX6_copy_20 rfl rfl ?_
        refine r_get hG cX6_copy_X6 0 6 rfl rfl (by decide) kX6_copy_43 rfl dX6_copy_21 ?_
        refine r_iload_n (i := 1) hG dX6_copy_24 rfl rfl ?_
        refine r_aldq hG 30 rfl (by omega) (by decide) dX6_copy_25 (v := .ref (a 33)) rfl ?_
        refine r_astore hG dX6_copy_26 (by decide) rfl ?_
        refine r_aload_n (i := 0) hG dX6_copy_28 rfl rfl ?_
        refine r_get hG cX6_copy_X6 0 6 rfl rfl (by decide) kX6_copy_43 rfl dX6_copy_29 ?_
        refine r_iload_n (i := 3) hG dX6_copy_32 rfl rfl ?_
        refine r_aldq hG 30 rfl (by omega) (by decide) dX6_copy_33 (v := .ref (a 35)) rfl ?_
        refine r_astore hG dX6_copy_34 (by decide) rfl ?_
        refine r_aload hG dX6_copy_36 rfl ?_
        refine r_midi hG (c_X2_isMissing (g_l G) (g_D G) (fun i => a (33 + i)) (fun jz => (C) (40 * 1 + jz)) ((R) 3 1) ((R) 4 1) (by omega)) (bobj (g_D G) a (R) ++ (yw (g_D G) (fun i => a (2 + i)) (Z) ((J) 0) ((J) 1) ((J) 2) ++ (yw (g_D G) (fun i => a (10 + i)) (K) ((J) 3) ((J) 4) ((J) 5) ++ (yw (g_D G) (fun i => a (18 + i)) (YT) ((J) 6) ((J) 7) ((J) 8) ++ (bestw (a 26) ((J) 9) ((J) 10) ++ (btxt (g_D G) a (R) (J) ++ ([(a 30, .inl ((g_D G).1 102, 4, .inr (.inr (.inr (.inr (fun k => some (a (31 + 2 * k))))))))] ++ (sheetw (g_D G) (fun i => a (31 + i)) (fun jz => (C) (40 * 0 + jz)) ((R) 3 0) ((R) 4 0))))))))) (sheetw (g_D G) (fun i => a (35 + i)) (fun jz => (C) (40 * 2 + jz)) ((R) 3 2) ((R) 4 2) ++ (sheetw (g_D G) (fun i => a (37 + i)) (fun jz => (C) (40 * 3 + jz)) ((R) 3 3) ((R) 4 3))) rfl gX6_copy_X2_isMissing rfl hyX2_isMissing rfl (by decide) (by decide) 0 rfl rfl rfl (Nat.le_of_ble_eq_true rfl) ⟨Nat.zero_le _, Nat.zero_le _⟩ dX6_copy_38 ?_
        intro w hw
        subst hw
        refine V_ws (ws' := bw (g_D G) a (Z) (K) (R) (C) (YT) (J)) rfl ?_
        refine rb_if_ne (tgt := 52) hG dX6_copy_41 (by decide) (fun c41 => ?_) (fun c41 => ?_)
        · try simp only [decide_eq_true_eq, decide_eq_false_iff_not] at c41
          refine r_aload_n (i := 0) hG dX6_copy_52 rfl rfl ?_
          refine r_iconst hG dX6_copy_53 ?_
          refine r_callVi hG (c_X6_finding (g_l G) (g_D G) a (Z) (K) (R) (C) (YT) (J) 5 (by omega))  gX6_copy_X6_finding rfl hyX6_finding rfl (by decide) (by decide) 0 rfl rfl rfl (Nat.le_of_ble_eq_true rfl) ⟨Nat.zero_le _, Nat.zero_le _⟩ dX6_copy_54 (fun w hw => ?_)
          subst hw
          exact r_iret hG hE dX6_copy_57 (by unfold s_copy; (try dsimp only); (repeat (first | rw [if_pos (by omega)] | rw [if_neg (by omega)])) <;> (first | rfl | skip)) ⟨YT, J, by unfold s_copy; (try dsimp only); (repeat (first | rw [if_pos (by omega)] | rw [if_neg (by omega)])) <;> (first | rfl | skip)⟩
        · try simp only [decide_eq_true_eq, decide_eq_false_iff_not] at c41
          refine r_aload hG dX6_copy_44 rfl ?_
          refine r_midi hG (c_X2_isMissing (g_l G) (g_D G) (fun i => a (35 + i)) (fun jz => (C) (40 * 2 + jz)) ((R) 3 2) ((R) 4 2) (by omega)) (bobj (g_D G) a (R) ++ (yw (g_D G) (fun i => a (2 + i)) (Z) ((J) 0) ((J) 1) ((J) 2) ++ (yw (g_D G) (fun i => a (10 + i)) (K) ((J) 3) ((J) 4) ((J) 5) ++ (yw (g_D G) (fun i => a (18 + i)) (YT) ((J) 6) ((J) 7) ((J) 8) ++ (bestw (a 26) ((J) 9) ((J) 10) ++ (btxt (g_D G) a (R) (J) ++ ([(a 30, .inl ((g_D G).1 102, 4, .inr (.inr (.inr (.inr (fun k => some (a (31 + 2 * k))))))))] ++ (sheetw (g_D G) (fun i => a (31 + i)) (fun jz => (C) (40 * 0 + jz)) ((R) 3 0) ((R) 4 0) ++ (sheetw (g_D G) (fun i => a (33 + i)) (fun jz => (C) (40 * 1 + jz)) ((R) 3 1) ((R) 4 1)))))))))) (sheetw (g_D G) (fun i => a (37 + i)) (fun jz => (C) (40 * 3 + jz)) ((R) 3 3) ((R) 4 3)) rfl gX6_copy_X2_isMissing rfl hyX2_isMissing rfl (by decide) (by decide) 0 rfl rfl rfl (Nat.le_of_ble_eq_true rfl) ⟨Nat.zero_le _, Nat.zero_le _⟩ dX6_copy_46 ?_
          intro w hw
          subst hw
          refine V_ws (ws' := bw (g_D G) a (Z) (K) (R) (C) (YT) (J)) rfl ?_
          refine rb_if_eq (tgt := 58) hG dX6_copy_49 (by decide) (fun c49 => ?_) (fun c49 => ?_)
          · try simp only [decide_eq_true_eq, decide_eq_false_iff_not] at c49
            refine r_aload hG dX6_copy_58 rfl ?_
            refine r_get hG cX6_copy_X2 33 1 rfl rfl (by decide) kX6_copy_224 rfl dX6_copy_60 ?_
            refine r_aload hG dX6_copy_63 rfl ?_
            refine r_get hG cX6_copy_X2 35 1 rfl rfl (by decide) kX6_copy_224 rfl dX6_copy_65 ?_
            refine r_icmp_eq (tgt := 77) hG (by omega) (by omega) dX6_copy_68 (by decide) (fun c68 => ?_) (fun c68 => ?_)
            · refine r_aload hG dX6_copy_77 rfl ?_
              refine r_iload_n (i := 2) hG dX6_copy_79 rfl rfl ?_
              refine r_iload hG dX6_copy_80 rfl ?_
              refine r_midi hG (c_X2_hasSpan (g_l G) (g_D G) (fun i => a (33 + i)) (fun jz => (C) (40 * 1 + jz)) ((R) 3 1) ((R) 4 1) (by omega) _ _ (by omega) (by omega)) (bobj (g_D G) a (R) ++ (yw (g_D G) (fun i => a (2 + i)) (Z) ((J) 0) ((J) 1) ((J) 2) ++ (yw (g_D G) (fun i => a (10 + i)) (K) ((J) 3) ((J) 4) ((J) 5) ++ (yw (g_D G) (fun i => a (18 + i)) (YT) ((J) 6) ((J) 7) ((J) 8) ++ (bestw (a 26) ((J) 9) ((J) 10) ++ (btxt (g_D G) a (R) (J) ++ ([(a 30, .inl ((g_D G).1 102, 4, .inr (.inr (.inr (.inr (fun k => some (a (31 + 2 * k))))))))] ++ (sheetw (g_D G) (fun i => a (31 + i)) (fun jz => (C) (40 * 0 + jz)) ((R) 3 0) ((R) 4 0))))))))) (sheetw (g_D G) (fun i => a (35 + i)) (fun jz => (C) (40 * 2 + jz)) ((R) 3 2) ((R) 4 2) ++ (sheetw (g_D G) (fun i => a (37 + i)) (fun jz => (C) (40 * 3 + jz)) ((R) 3 3) ((R) 4 3))) rfl gX6_copy_X2_hasSpan rfl hyX2_hasSpan rfl (by decide) (by decide) 0 rfl rfl rfl (Nat.le_of_ble_eq_true rfl) ⟨Nat.zero_le _, Nat.zero_le _⟩ dX6_copy_82 ?_
              intro w hw
              subst hw
              refine V_ws (ws' := bw (g_D G) a (Z) (K) (R) (C) (YT) (J)) rfl ?_
              refine rb_if_eq (tgt := 100) hG dX6_copy_85 (by decide) (fun c85 => ?_) (fun c85 => ?_)
              · try simp only [decide_eq_true_eq, decide_eq_false_iff_not] at c85
                refine r_aload_n (i := 0) hG dX6_copy_100 rfl rfl ?_
                refine r_iconst hG dX6_copy_101 ?_
                refine r_callVi hG (c_X6_finding (g_l G) (g_D G) a (Z) (K) (R) (C) (YT) (J) 0 (by omega))  gX6_copy_X6_finding rfl hyX6_finding rfl (by decide) (by decide) 0 rfl rfl rfl (Nat.le_of_ble_eq_true rfl) ⟨Nat.zero_le _, Nat.zero_le _⟩ dX6_copy_102 (fun w hw => ?_)
                subst hw
                exact r_iret hG hE dX6_copy_105 (by unfold s_copy; (try dsimp only); (repeat (first | rw [if_pos (by omega)] | rw [if_neg (by omega)])) <;> (first | rfl | skip)) ⟨YT, J, by unfold s_copy; (try dsimp only); (repeat (first | rw [if_pos (by omega)] | rw [if_neg (by omega)])) <;> (first | rfl | skip)⟩
              · try simp only [decide_eq_true_eq, decide_eq_false_iff_not] at c85
                refine r_aload hG dX6_copy_88 rfl ?_
                refine r_iload hG dX6_copy_90 rfl ?_
                refine r_iload hG dX6_copy_92 rfl ?_
                refine r_midi hG (c_X2_hasSpan (g_l G) (g_D G) (fun i => a (35 + i)) (fun jz => (C) (40 * 2 + jz)) ((R) 3 2) ((R) 4 2) (by omega) _ _ (by omega) (by omega)) (bobj (g_D G) a (R) ++ (yw (g_D G) (fun i => a (2 + i)) (Z) ((J) 0) ((J) 1) ((J) 2) ++ (yw (g_D G) (fun i => a (10 + i)) (K) ((J) 3) ((J) 4) ((J) 5) ++ (yw (g_D G) (fun i => a (18 + i)) (YT) ((J) 6) ((J) 7) ((J) 8) ++ (bestw (a 26) ((J) 9) ((J) 10) ++ (btxt (g_D G) a (R) (J) ++ ([(a 30, .inl ((g_D G).1 102, 4, .inr (.inr (.inr (.inr (fun k => some (a (31 + 2 * k))))))))] ++ (sheetw (g_D G) (fun i => a (31 + i)) (fun jz => (C) (40 * 0 + jz)) ((R) 3 0) ((R) 4 0) ++ (sheetw (g_D G) (fun i => a (33 + i)) (fun jz => (C) (40 * 1 + jz)) ((R) 3 1) ((R) 4 1)))))))))) (sheetw (g_D G) (fun i => a (37 + i)) (fun jz => (C) (40 * 3 + jz)) ((R) 3 3) ((R) 4 3)) rfl gX6_copy_X2_hasSpan rfl hyX2_hasSpan rfl (by decide) (by decide) 0 rfl rfl rfl (Nat.le_of_ble_eq_true rfl) ⟨Nat.zero_le _, Nat.zero_le _⟩ dX6_copy_94 ?_
                intro w hw
                subst hw
                refine V_ws (ws' := bw (g_D G) a (Z) (K) (R) (C) (YT) (J)) rfl ?_
                refine rb_if_ne (tgt := 106) hG dX6_copy_97 (by decide) (fun c97 => ?_) (fun c97 => ?_)
                · try simp only [decide_eq_true_eq, decide_eq_false_iff_not] at c97
                  refine r_aload hG dX6_copy_106 rfl ?_
                  refine r_get hG cX6_copy_X2 33 0 rfl rfl (by decide) kX6_copy_216 rfl dX6_copy_108 ?_
                  refine r_iload_n (i := 2) hG dX6_copy_111 rfl rfl ?_
                  refine r_aload hG dX6_copy_112 rfl ?_
                  refine r_get hG cX6_copy_X2 35 0 rfl rfl (by decide) kX6_copy_216 rfl dX6_copy_114 ?_
                  refine r_iload hG dX6_copy_117 rfl ?_
                  refine r_iload hG dX6_copy_119 rfl ?_
                  refine r_copyl hG 34 36 rfl rfl (by omega) (by omega) (by omega) (by omega) (by omega) (List.mem_of_getElem? (i := 4) rfl) (List.mem_of_getElem? (i := 5) rfl) (List.mem_of_getElem? (i := 6) rfl) (List.mem_of_getElem? (i := 7) rfl) (by decide) (Nat.le_of_ble_eq_true rfl) dX6_copy_121 (ws' := bwX (g_D G) a (Z) (K) (R) (fun jz => (C) (40 * 0 + jz)) (fun jz => (C) (40 * 1 + jz)) (cpy1 (fun jz => (C) (40 * 1 + jz)) (fun jz => (C) (40 * 2 + jz)) f u n) (fun jz => (C) (40 * 3 + jz)) (YT) (J)) rfl ?_
                  refine V_shC (C := cpyC C (40 * 1 + f) (40 * 2 + u) n) (fun j h0 h1 => cpy_other (by omega)) (fun j h0 h1 => cpy_other (by omega)) (fun j h0 h1 => cpy_same j) (fun j h0 h1 => cpy_other (by omega)) ?_
                  refine r_iload hG dX6_copy_124 rfl ?_
                  exact r_iret hG hE dX6_copy_126 (by unfold s_copy; (try dsimp only); (repeat (first | rw [if_pos (by omega)] | rw [if_neg (by omega)])) <;> (first | rfl | skip)) ⟨YT, J, by unfold s_copy; (try dsimp only); (repeat (first | rw [if_pos (by omega)] | rw [if_neg (by omega)])) <;> (first | rfl | skip)⟩
                · try simp only [decide_eq_true_eq, decide_eq_false_iff_not] at c97
                  refine r_aload_n (i := 0) hG dX6_copy_100 rfl rfl ?_
                  refine r_iconst hG dX6_copy_101 ?_
                  refine r_callVi hG (c_X6_finding (g_l G) (g_D G) a (Z) (K) (R) (C) (YT) (J) 0 (by omega))  gX6_copy_X6_finding rfl hyX6_finding rfl (by decide) (by decide) 0 rfl rfl rfl (Nat.le_of_ble_eq_true rfl) ⟨Nat.zero_le _, Nat.zero_le _⟩ dX6_copy_102 (fun w hw => ?_)
                  subst hw
                  exact r_iret hG hE dX6_copy_105 (by unfold s_copy; (try dsimp only); (repeat (first | rw [if_pos (by omega)] | rw [if_neg (by omega)])) <;> (first | rfl | skip)) ⟨YT, J, by unfold s_copy; (try dsimp only); (repeat (first | rw [if_pos (by omega)] | rw [if_neg (by omega)])) <;> (first | rfl | skip)⟩
            · refine r_aload_n (i := 0) hG dX6_copy_71 rfl rfl ?_
              refine r_iconst hG dX6_copy_72 ?_
              refine r_callVi hG (c_X6_finding (g_l G) (g_D G) a (Z) (K) (R) (C) (YT) (J) 2 (by omega))  gX6_copy_X6_finding rfl hyX6_finding rfl (by decide) (by decide) 0 rfl rfl rfl (Nat.le_of_ble_eq_true rfl) ⟨Nat.zero_le _, Nat.zero_le _⟩ dX6_copy_73 (fun w hw => ?_)
              subst hw
              exact r_iret hG hE dX6_copy_76 (by unfold s_copy; (try dsimp only); (repeat (first | rw [if_pos (by omega)] | rw [if_neg (by omega)])) <;> (first | rfl | skip)) ⟨YT, J, by unfold s_copy; (try dsimp only); (repeat (first | rw [if_pos (by omega)] | rw [if_neg (by omega)])) <;> (first | rfl | skip)⟩
          · try simp only [decide_eq_true_eq, decide_eq_false_iff_not] at c49
            refine r_aload_n (i := 0) hG dX6_copy_52 rfl rfl ?_
            refine r_iconst hG dX6_copy_53 ?_
            refine r_callVi hG (c_X6_finding (g_l G) (g_D G) a (Z) (K) (R) (C) (YT) (J) 5 (by omega))  gX6_copy_X6_finding rfl hyX6_finding rfl (by decide) (by decide) 0 rfl rfl rfl (Nat.le_of_ble_eq_true rfl) ⟨Nat.zero_le _, Nat.zero_le _⟩ dX6_copy_54 (fun w hw => ?_)
            subst hw
            exact r_iret hG hE dX6_copy_57 (by unfold s_copy; (try dsimp only); (repeat (first | rw [if_pos (by omega)] | rw [if_neg (by omega)])) <;> (first | rfl | skip)) ⟨YT, J, by unfold s_copy; (try dsimp only); (repeat (first | rw [if_pos (by omega)] | rw [if_neg (by omega)])) <;> (first | rfl | skip)⟩
      · subst hv4
        refine r_aload_n (i := 0) hG dX6_copy_20 rfl rfl ?_
        refine r_get hG cX6_copy_X6 0 6 rfl rfl (by decide) kX6_copy_43 rfl dX6_copy_21 ?_
        refine r_iload_n (i := 1) hG dX6_copy_24 rfl rfl ?_
        refine r_aldq hG 30 rfl (by omega) (by decide) dX6_copy_25 (v := .ref (a 33)) rfl ?_
        refine r_astore hG dX6_copy_26 (by decide) rfl ?_
        refine r_aload_n (i := 0) hG dX6_copy_28 rfl rfl ?_
        refine r_get hG cX6_copy_X6 0 6 rfl rfl (by decide) kX6_copy_43 rfl dX6_copy_29 ?_
        refine r_iload_n (i := 3) hG dX6_copy_32 rfl rfl ?_
        refine r_aldq hG 30 rfl (by omega) (by decide) dX6_copy_33 (v := .ref (a 37)) rfl ?_
        refine r_astore hG dX6_copy_34 (by decide) rfl ?_
        refine r_aload hG dX6_copy_36 rfl ?_
        refine r_midi hG (c_X2_isMissing (g_l G) (g_D G) (fun i => a (33 + i)) (fun jz => (C) (40 * 1 + jz)) ((R) 3 1) ((R) 4 1) (by omega)) (bobj (g_D G) a (R) ++ (yw (g_D G) (fun i => a (2 + i)) (Z) ((J) 0) ((J) 1) ((J) 2) ++ (yw (g_D G) (fun i => a (10 + i)) (K) ((J) 3) ((J) 4) ((J) 5) ++ (yw (g_D G) (fun i => a (18 + i)) (YT) ((J) 6) ((J) 7) ((J) 8) ++ (bestw (a 26) ((J) 9) ((J) 10) ++ (btxt (g_D G) a (R) (J) ++ ([(a 30, .inl ((g_D G).1 102, 4, .inr (.inr (.inr (.inr (fun k => some (a (31 + 2 * k))))))))] ++ (sheetw (g_D G) (fun i => a (31 + i)) (fun jz => (C) (40 * 0 + jz)) ((R) 3 0) ((R) 4 0))))))))) (sheetw (g_D G) (fun i => a (35 + i)) (fun jz => (C) (40 * 2 + jz)) ((R) 3 2) ((R) 4 2) ++ (sheetw (g_D G) (fun i => a (37 + i)) (fun jz => (C) (40 * 3 + jz)) ((R) 3 3) ((R) 4 3))) rfl gX6_copy_X2_isMissing rfl hyX2_isMissing rfl (by decide) (by decide) 0 rfl rfl rfl (Nat.le_of_ble_eq_true rfl) ⟨Nat.zero_le _, Nat.zero_le _⟩ dX6_copy_38 ?_
        intro w hw
        subst hw
        refine V_ws (ws' := bw (g_D G) a (Z) (K) (R) (C) (YT) (J)) rfl ?_
        refine rb_if_ne (tgt := 52) hG dX6_copy_41 (by decide) (fun c41 => ?_) (fun c41 => ?_)
        · try simp only [decide_eq_true_eq, decide_eq_false_iff_not] at c41
          refine r_aload_n (i := 0) hG dX6_copy_52 rfl rfl ?_
          refine r_iconst hG dX6_copy_53 ?_
          refine r_callVi hG (c_X6_finding (g_l G) (g_D G) a (Z) (K) (R) (C) (YT) (J) 5 (by omega))  gX6_copy_X6_finding rfl hyX6_finding rfl (by decide) (by decide) 0 rfl rfl rfl (Nat.le_of_ble_eq_true rfl) ⟨Nat.zero_le _, Nat.zero_le _⟩ dX6_copy_54 (fun w hw => ?_)
          subst hw
          exact r_iret hG hE dX6_copy_57 (by unfold s_copy; (try dsimp only); (repeat (first | rw [if_pos (by omega)] | rw [if_neg (by omega)])) <;> (first | rfl | skip)) ⟨YT, J, by unfold s_copy; (try dsimp only); (repeat (first | rw [if_pos (by omega)] | rw [if_neg (by omega)])) <;> (first | rfl | skip)⟩
        · try simp only [decide_eq_true_eq, decide_eq_false_iff_not] at c41
          refine r_aload hG dX6_copy_44 rfl ?_
          refine r_midi hG (c_X2_isMissing (g_l G) (g_D G) (fun i => a (37 + i)) (fun jz => (C) (40 * 3 + jz)) ((R) 3 3) ((R) 4 3) (by omega)) (bobj (g_D G) a (R) ++ (yw (g_D G) (fun i => a (2 + i)) (Z) ((J) 0) ((J) 1) ((J) 2) ++ (yw (g_D G) (fun i => a (10 + i)) (K) ((J) 3) ((J) 4) ((J) 5) ++ (yw (g_D G) (fun i => a (18 + i)) (YT) ((J) 6) ((J) 7) ((J) 8) ++ (bestw (a 26) ((J) 9) ((J) 10) ++ (btxt (g_D G) a (R) (J) ++ ([(a 30, .inl ((g_D G).1 102, 4, .inr (.inr (.inr (.inr (fun k => some (a (31 + 2 * k))))))))] ++ (sheetw (g_D G) (fun i => a (31 + i)) (fun jz => (C) (40 * 0 + jz)) ((R) 3 0) ((R) 4 0) ++ (sheetw (g_D G) (fun i => a (33 + i)) (fun jz => (C) (40 * 1 + jz)) ((R) 3 1) ((R) 4 1) ++ (sheetw (g_D G) (fun i => a (35 + i)) (fun jz => (C) (40 * 2 + jz)) ((R) 3 2) ((R) 4 2))))))))))) ([]) rfl gX6_copy_X2_isMissing rfl hyX2_isMissing rfl (by decide) (by decide) 0 rfl rfl rfl (Nat.le_of_ble_eq_true rfl) ⟨Nat.zero_le _, Nat.zero_le _⟩ dX6_copy_46 ?_
          intro w hw
          subst hw
          refine V_ws (ws' := bw (g_D G) a (Z) (K) (R) (C) (YT) (J)) rfl ?_
          refine rb_if_eq (tgt := 58) hG dX6_copy_49 (by decide) (fun c49 => ?_) (fun c49 => ?_)
          · try simp only [decide_eq_true_eq, decide_eq_false_iff_not] at c49
            refine r_aload hG dX6_copy_58 rfl ?_
            refine r_get hG cX6_copy_X2 33 1 rfl rfl (by decide) kX6_copy_224 rfl dX6_copy_60 ?_
            refine r_aload hG dX6_copy_63 rfl ?_
            refine r_get hG cX6_copy_X2 37 1 rfl rfl (by decide) kX6_copy_224 rfl dX6_copy_65 ?_
            refine r_icmp_eq (tgt := 77) hG (by omega) (by omega) dX6_copy_68 (by decide) (fun c68 => ?_) (fun c68 => ?_)
            · refine r_aload hG dX6_copy_77 rfl ?_
              refine r_iload_n (i := 2) hG dX6_copy_79 rfl rfl ?_
              refine r_iload hG dX6_copy_80 rfl ?_
              refine r_midi hG (c_X2_hasSpan (g_l G) (g_D G) (fun i => a (33 + i)) (fun jz => (C) (40 * 1 + jz)) ((R) 3 1) ((R) 4 1) (by omega) _ _ (by omega) (by omega)) (bobj (g_D G) a (R) ++ (yw (g_D G) (fun i => a (2 + i)) (Z) ((J) 0) ((J) 1) ((J) 2) ++ (yw (g_D G) (fun i => a (10 + i)) (K) ((J) 3) ((J) 4) ((J) 5) ++ (yw (g_D G) (fun i => a (18 + i)) (YT) ((J) 6) ((J) 7) ((J) 8) ++ (bestw (a 26) ((J) 9) ((J) 10) ++ (btxt (g_D G) a (R) (J) ++ ([(a 30, .inl ((g_D G).1 102, 4, .inr (.inr (.inr (.inr (fun k => some (a (31 + 2 * k))))))))] ++ (sheetw (g_D G) (fun i => a (31 + i)) (fun jz => (C) (40 * 0 + jz)) ((R) 3 0) ((R) 4 0))))))))) (sheetw (g_D G) (fun i => a (35 + i)) (fun jz => (C) (40 * 2 + jz)) ((R) 3 2) ((R) 4 2) ++ (sheetw (g_D G) (fun i => a (37 + i)) (fun jz => (C) (40 * 3 + jz)) ((R) 3 3) ((R) 4 3))) rfl gX6_copy_X2_hasSpan rfl hyX2_hasSpan rfl (by decide) (by decide) 0 rfl rfl rfl (Nat.le_of_ble_eq_true rfl) ⟨Nat.zero_le _, Nat.zero_le _⟩ dX6_copy_82 ?_
              intro w hw
              subst hw
              refine V_ws (ws' := bw (g_D G) a (Z) (K) (R) (C) (YT) (J)) rfl ?_
              refine rb_if_eq (tgt := 100) hG dX6_copy_85 (by decide) (fun c85 => ?_) (fun c85 => ?_)
              · try simp only [decide_eq_true_eq, decide_eq_false_iff_not] at c85
                refine r_aload_n (i := 0) hG dX6_copy_100 rfl rfl ?_
                refine r_iconst hG dX6_copy_101 ?_
                refine r_callVi hG (c_X6_finding (g_l G) (g_D G) a (Z) (K) (R) (C) (YT) (J) 0 (by omega))  gX6_copy_X6_finding rfl hyX6_finding rfl (by decide) (by decide) 0 rfl rfl rfl (Nat.le_of_ble_eq_true rfl) ⟨Nat.zero_le _, Nat.zero_le _⟩ dX6_copy_102 (fun w hw => ?_)
                subst hw
                exact r_iret hG hE dX6_copy_105 (by unfold s_copy; (try dsimp only); (repeat (first | rw [if_pos (by omega)] | rw [if_neg (by omega)])) <;> (first | rfl | skip)) ⟨YT, J, by unfold s_copy; (try dsimp only); (repeat (first | rw [if_pos (by omega)] | rw [if_neg (by omega)])) <;> (first | rfl | skip)⟩
              · try simp only [decide_eq_true_eq, decide_eq_false_iff_not] at c85
                refine r_aload hG dX6_copy_88 rfl ?_
                refine r_iload hG dX6_copy_90 rfl ?_
                refine r_iload hG dX6_copy_92 rfl ?_
                refine r_midi hG (c_X2_hasSpan (g_l G) (g_D G) (fun i => a (37 + i)) (fun jz => (C) (40 * 3 + jz)) ((R) 3 3) ((R) 4 3) (by omega) _ _ (by omega) (by omega)) (bobj (g_D G) a (R) ++ (yw (g_D G) (fun i => a (2 + i)) (Z) ((J) 0) ((J) 1) ((J) 2) ++ (yw (g_D G) (fun i => a (10 + i)) (K) ((J) 3) ((J) 4) ((J) 5) ++ (yw (g_D G) (fun i => a (18 + i)) (YT) ((J) 6) ((J) 7) ((J) 8) ++ (bestw (a 26) ((J) 9) ((J) 10) ++ (btxt (g_D G) a (R) (J) ++ ([(a 30, .inl ((g_D G).1 102, 4, .inr (.inr (.inr (.inr (fun k => some (a (31 + 2 * k))))))))] ++ (sheetw (g_D G) (fun i => a (31 + i)) (fun jz => (C) (40 * 0 + jz)) ((R) 3 0) ((R) 4 0) ++ (sheetw (g_D G) (fun i => a (33 + i)) (fun jz => (C) (40 * 1 + jz)) ((R) 3 1) ((R) 4 1) ++ (sheetw (g_D G) (fun i => a (35 + i)) (fun jz => (C) (40 * 2 + jz)) ((R) 3 2) ((R) 4 2))))))))))) ([]) rfl gX6_copy_X2_hasSpan rfl hyX2_hasSpan rfl (by decide) (by decide) 0 rfl rfl rfl (Nat.le_of_ble_eq_true rfl) ⟨Nat.zero_le _, Nat.zero_le _⟩ dX6_copy_94 ?_
                intro w hw
                subst hw
                refine V_ws (ws' := bw (g_D G) a (Z) (K) (R) (C) (YT) (J)) rfl ?_
                refine rb_if_ne (tgt := 106) hG dX6_copy_97 (by decide) (fun c97 => ?_) (fun c97 => ?_)
                · try simp only [decide_eq_true_eq, decide_eq_false_iff_not] at c97
                  refine r_aload hG dX6_copy_106 rfl ?_
                  refine r_get hG cX6_copy_X2 33 0 rfl rfl (by decide) kX6_copy_216 rfl dX6_copy_108 ?_
                  refine r_iload_n (i := 2) hG dX6_copy_111 rfl rfl ?_
                  refine r_aload hG dX6_copy_112 rfl ?_
                  refine r_get hG cX6_copy_X2 37 0 rfl rfl (by decide) kX6_copy_216 rfl dX6_copy_114 ?_
                  refine r_iload hG dX6_copy_117 rfl ?_
                  refine r_iload hG dX6_copy_119 rfl ?_
                  refine r_copyl hG 34 38 rfl rfl (by omega) (by omega) (by omega) (by omega) (by omega) (List.mem_of_getElem? (i := 4) rfl) (List.mem_of_getElem? (i := 5) rfl) (List.mem_of_getElem? (i := 6) rfl) (List.mem_of_getElem? (i := 7) rfl) (by decide) (Nat.le_of_ble_eq_true rfl) dX6_copy_121 (ws' := bwX (g_D G) a (Z) (K) (R) (fun jz => (C) (40 * 0 + jz)) (fun jz => (C) (40 * 1 + jz)) (fun jz => (C) (40 * 2 + jz)) (cpy1 (fun jz => (C) (40 * 1 + jz)) (fun jz => (C) (40 * 3 + jz)) f u n) (YT) (J)) rfl ?_
                  refine V_shC (C := cpyC C (40 * 1 + f) (40 * 3 + u) n) (fun j h0 h1 => cpy_other (by omega)) (fun j h0 h1 => cpy_other (by omega)) (fun j h0 h1 => cpy_other (by omega)) (fun j h0 h1 => cpy_same j) ?_
                  refine r_iload hG dX6_copy_124 rfl ?_
                  exact r_iret hG hE dX6_copy_126 (by unfold s_copy; (try dsimp only); (repeat (first | rw [if_pos (by omega)] | rw [if_neg (by omega)])) <;> (first | rfl | skip)) ⟨YT, J, by unfold s_copy; (try dsimp only); (repeat (first | rw [if_pos (by omega)] | rw [if_neg (by omega)])) <;> (first | rfl | skip)⟩
                · try simp only [decide_eq_true_eq, decide_eq_false_iff_not] at c97
                  refine r_aload_n (i := 0) hG dX6_copy_100 rfl rfl ?_
                  refine r_iconst hG dX6_copy_101 ?_
                  refine r_callVi hG (c_X6_finding (g_l G) (g_D G) a (Z) (K) (R) (C) (YT) (J) 0 (by omega))  gX6_copy_X6_finding rfl hyX6_finding rfl (by decide) (by decide) 0 rfl rfl rfl (Nat.le_of_ble_eq_true rfl) ⟨Nat.zero_le _, Nat.zero_le _⟩ dX6_copy_102 (fun w hw => ?_)
                  subst hw
                  exact r_iret hG hE dX6_copy_105 (by unfold s_copy; (try dsimp only); (repeat (first | rw [if_pos (by omega)] | rw [if_neg (by omega)])) <;> (first | rfl | skip)) ⟨YT, J, by unfold s_copy; (try dsimp only); (repeat (first | rw [if_pos (by omega)] | rw [if_neg (by omega)])) <;> (first | rfl | skip)⟩
            · refine r_aload_n (i := 0) hG dX6_copy_71 rfl rfl ?_
              refine r_iconst hG dX6_copy_72 ?_
              refine r_callVi hG (c_X6_finding (g_l G) (g_D G) a (Z) (K) (R) (C) (YT) (J) 2 (by omega))  gX6_copy_X6_finding rfl hyX6_finding rfl (by decide) (by decide) 0 rfl rfl rfl (Nat.le_of_ble_eq_true rfl) ⟨Nat.zero_le _, Nat.zero_le _⟩ dX6_copy_73 (fun w hw => ?_)
              subst hw
              exact r_iret hG hE dX6_copy_76 (by unfold s_copy; (try dsimp only); (repeat (first | rw [if_pos (by omega)] | rw [if_neg (by omega)])) <;> (first | rfl | skip)) ⟨YT, J, by unfold s_copy; (try dsimp only); (repeat (first | rw [if_pos (by omega)] | rw [if_neg (by omega)])) <;> (first | rfl | skip)⟩
          · try simp only [decide_eq_true_eq, decide_eq_false_iff_not] at c49
            refine r_aload_n (i := 0) hG dX6_copy_52 rfl rfl ?_
            refine r_iconst hG dX6_copy_53 ?_
            refine r_callVi hG (c_X6_finding (g_l G) (g_D G) a (Z) (K) (R) (C) (YT) (J) 5 (by omega))  gX6_copy_X6_finding rfl hyX6_finding rfl (by decide) (by decide) 0 rfl rfl rfl (Nat.le_of_ble_eq_true rfl) ⟨Nat.zero_le _, Nat.zero_le _⟩ dX6_copy_54 (fun w hw => ?_)
            subst hw
            exact r_iret hG hE dX6_copy_57 (by unfold s_copy; (try dsimp only); (repeat (first | rw [if_pos (by omega)] | rw [if_neg (by omega)])) <;> (first | rfl | skip)) ⟨YT, J, by unfold s_copy; (try dsimp only); (repeat (first | rw [if_pos (by omega)] | rw [if_neg (by omega)])) <;> (first | rfl | skip)⟩
    · subst hv4
      rcases (show t = 0 ∨ t = 1 ∨ t = 2 ∨ t = 3 by omega) with hv4 | hv4 | hv4 | hv4
      · subst hv4
        refine r_aload_n (i := 0) hG dX6_copy_20 rfl rfl ?_
        refine r_get hG cX6_copy_X6 0 6 rfl rfl (by decide) kX6_copy_43 rfl dX6_copy_21 ?_
        refine r_iload_n (i := 1) hG dX6_copy_24 rfl rfl ?_
        refine r_aldq hG 30 rfl (by omega) (by decide) dX6_copy_25 (v := .ref (a 35)) rfl ?_
        refine r_astore hG dX6_copy_26 (by decide) rfl ?_
        refine r_aload_n (i := 0) hG dX6_copy_28 rfl rfl ?_
        refine r_get hG cX6_copy_X6 0 6 rfl rfl (by decide) kX6_copy_43 rfl dX6_copy_29 ?_
        refine r_iload_n (i := 3) hG dX6_copy_32 rfl rfl ?_
        refine r_aldq hG 30 rfl (by omega) (by decide) dX6_copy_33 (v := .ref (a 31)) rfl ?_
        refine r_astore hG dX6_copy_34 (by decide) rfl ?_
        refine r_aload hG dX6_copy_36 rfl ?_
        refine r_midi hG (c_X2_isMissing (g_l G) (g_D G) (fun i => a (35 + i)) (fun jz => (C) (40 * 2 + jz)) ((R) 3 2) ((R) 4 2) (by omega)) (bobj (g_D G) a (R) ++ (yw (g_D G) (fun i => a (2 + i)) (Z) ((J) 0) ((J) 1) ((J) 2) ++ (yw (g_D G) (fun i => a (10 + i)) (K) ((J) 3) ((J) 4) ((J) 5) ++ (yw (g_D G) (fun i => a (18 + i)) (YT) ((J) 6) ((J) 7) ((J) 8) ++ (bestw (a 26) ((J) 9) ((J) 10) ++ (btxt (g_D G) a (R) (J) ++ ([(a 30, .inl ((g_D G).1 102, 4, .inr (.inr (.inr (.inr (fun k => some (a (31 + 2 * k))))))))] ++ (sheetw (g_D G) (fun i => a (31 + i)) (fun jz => (C) (40 * 0 + jz)) ((R) 3 0) ((R) 4 0) ++ (sheetw (g_D G) (fun i => a (33 + i)) (fun jz => (C) (40 * 1 + jz)) ((R) 3 1) ((R) 4 1)))))))))) (sheetw (g_D G) (fun i => a (37 + i)) (fun jz => (C) (40 * 3 + jz)) ((R) 3 3) ((R) 4 3)) rfl gX6_copy_X2_isMissing rfl hyX2_isMissing rfl (by decide) (by decide) 0 rfl rfl rfl (Nat.le_of_ble_eq_true rfl) ⟨Nat.zero_le _, Nat.zero_le _⟩ dX6_copy_38 ?_
        intro w hw
        subst hw
        refine V_ws (ws' := bw (g_D G) a (Z) (K) (R) (C) (YT) (J)) rfl ?_
        refine rb_if_ne (tgt := 52) hG dX6_copy_41 (by decide) (fun c41 => ?_) (fun c41 => ?_)
        · try simp only [decide_eq_true_eq, decide_eq_false_iff_not] at c41
          refine r_aload_n (i := 0) hG dX6_copy_52 rfl rfl ?_
          refine r_iconst hG dX6_copy_53 ?_
          refine r_callVi hG (c_X6_finding (g_l G) (g_D G) a (Z) (K) (R) (C) (YT) (J) 5 (by omega))  gX6_copy_X6_finding rfl hyX6_finding rfl (by decide) (by decide) 0 rfl rfl rfl (Nat.le_of_ble_eq_true rfl) ⟨Nat.zero_le _, Nat.zero_le _⟩ dX6_copy_54 (fun w hw => ?_)
          subst hw
          exact r_iret hG hE dX6_copy_57 (by unfold s_copy; (try dsimp only); (repeat (first | rw [if_pos (by omega)] | rw [if_neg (by omega)])) <;> (first | rfl | skip)) ⟨YT, J, by unfold s_copy; (try dsimp only); (repeat (first | rw [if_pos (by omega)] | rw [if_neg (by omega)])) <;> (first | rfl | skip)⟩
        · try simp only [decide_eq_true_eq, decide_eq_false_iff_not] at c41
          refine r_aload hG dX6_copy_44 rfl ?_
          refine r_midi hG (c_X2_isMissing (g_l G) (g_D G) (fun i => a (31 + i)) (fun jz => (C) (40 * 0 + jz)) ((R) 3 0) ((R) 4 0) (by omega)) (bobj (g_D G) a (R) ++ (yw (g_D G) (fun i => a (2 + i)) (Z) ((J) 0) ((J) 1) ((J) 2) ++ (yw (g_D G) (fun i => a (10 + i)) (K) ((J) 3) ((J) 4) ((J) 5) ++ (yw (g_D G) (fun i => a (18 + i)) (YT) ((J) 6) ((J) 7) ((J) 8) ++ (bestw (a 26) ((J) 9) ((J) 10) ++ (btxt (g_D G) a (R) (J) ++ ([(a 30, .inl ((g_D G).1 102, 4, .inr (.inr (.inr (.inr (fun k => some (a (31 + 2 * k))))))))]))))))) (sheetw (g_D G) (fun i => a (33 + i)) (fun jz => (C) (40 * 1 + jz)) ((R) 3 1) ((R) 4 1) ++ (sheetw (g_D G) (fun i => a (35 + i)) (fun jz => (C) (40 * 2 + jz)) ((R) 3 2) ((R) 4 2) ++ (sheetw (g_D G) (fun i => a (37 + i)) (fun jz => (C) (40 * 3 + jz)) ((R) 3 3) ((R) 4 3)))) rfl gX6_copy_X2_isMissing rfl hyX2_isMissing rfl (by decide) (by decide) 0 rfl rfl rfl (Nat.le_of_ble_eq_true rfl) ⟨Nat.zero_le _, Nat.zero_le _⟩ dX6_copy_46 ?_
          intro w hw
          subst hw
          refine V_ws (ws' := bw (g_D G) a (Z) (K) (R) (C) (YT) (J)) rfl ?_
          refine rb_if_eq (tgt := 58) hG dX6_copy_49 (by decide) (fun c49 => ?_) (fun c49 => ?_)
          · try simp only [decide_eq_true_eq, decide_eq_false_iff_not] at c49
            refine r_aload hG dX6_copy_58 rfl ?_
            refine r_get hG cX6_copy_X2 35 1 rfl rfl (by decide) kX6_copy_224 rfl dX6_copy_60 ?_
            refine r_aload hG dX6_copy_63 rfl ?_
            refine r_get hG cX6_copy_X2 31 1 rfl rfl (by decide) kX6_copy_224 rfl dX6_copy_65 ?_
            refine r_icmp_eq (tgt := 77) hG (by omega) (by omega) dX6_copy_68 (by decide) (fun c68 => ?_) (fun c68 => ?_)
            · refine r_aload hG dX6_copy_77 rfl ?_
              refine r_iload_n (i := 2) hG dX6_copy_79 rfl rfl ?_
              refine r_iload hG dX6_copy_80 rfl ?_
              refine r_midi hG (c_X2_hasSpan (g_l G) (g_D G) (fun i => a (35 + i)) (fun jz => (C) (40 * 2 + jz)) ((R) 3 2) ((R) 4 2) (by omega) _ _ (by omega) (by omega)) (bobj (g_D G) a (R) ++ (yw (g_D G) (fun i => a (2 + i)) (Z) ((J) 0) ((J) 1) ((J) 2) ++ (yw (g_D G) (fun i => a (10 + i)) (K) ((J) 3) ((J) 4) ((J) 5) ++ (yw (g_D G) (fun i => a (18 + i)) (YT) ((J) 6) ((J) 7) ((J) 8) ++ (bestw (a 26) ((J) 9) ((J) 10) ++ (btxt (g_D G) a (R) (J) ++ ([(a 30, .inl ((g_D G).1 102, 4, .inr (.inr (.inr (.inr (fun k => some (a (31 + 2 * k))))))))] ++ (sheetw (g_D G) (fun i => a (31 + i)) (fun jz => (C) (40 * 0 + jz)) ((R) 3 0) ((R) 4 0) ++ (sheetw (g_D G) (fun i => a (33 + i)) (fun jz => (C) (40 * 1 + jz)) ((R) 3 1) ((R) 4 1)))))))))) (sheetw (g_D G) (fun i => a (37 + i)) (fun jz => (C) (40 * 3 + jz)) ((R) 3 3) ((R) 4 3)) rfl gX6_copy_X2_hasSpan rfl hyX2_hasSpan rfl (by decide) (by decide) 0 rfl rfl rfl (Nat.le_of_ble_eq_true rfl) ⟨Nat.zero_le _, Nat.zero_le _⟩ dX6_copy_82 ?_
              intro w hw
              subst hw
              refine V_ws (ws' := bw (g_D G) a (Z) (K) (R) (C) (YT) (J)) rfl ?_
              refine rb_if_eq (tgt := 100) hG dX6_copy_85 (by decide) (fun c85 => ?_) (fun c85 => ?_)
              · try simp only [decide_eq_true_eq, decide_eq_false_iff_not] at c85
                refine r_aload_n (i := 0) hG dX6_copy_100 rfl rfl ?_
                refine r_iconst hG dX6_copy_101 ?_
                refine r_callVi hG (c_X6_finding (g_l G) (g_D G) a (Z) (K) (R) (C) (YT) (J) 0 (by omega))  gX6_copy_X6_finding rfl hyX6_finding rfl (by decide) (by decide) 0 rfl rfl rfl (Nat.le_of_ble_eq_true rfl) ⟨Nat.zero_le _, Nat.zero_le _⟩ dX6_copy_102 (fun w hw => ?_)
                subst hw
                exact r_iret hG hE dX6_copy_105 (by unfold s_copy; (try dsimp only); (repeat (first | rw [if_pos (by omega)] | rw [if_neg (by omega)])) <;> (first | rfl | skip)) ⟨YT, J, by unfold s_copy; (try dsimp only); (repeat (first | rw [if_pos (by omega)] | rw [if_neg (by omega)])) <;> (first | rfl | skip)⟩
              · try simp only [decide_eq_true_eq, decide_eq_false_iff_not] at c85
                refine r_aload hG dX6_copy_88 rfl ?_
                refine r_iload hG dX6_copy_90 rfl ?_
                refine r_iload hG dX6_copy_92 rfl ?_
                refine r_midi hG (c_X2_hasSpan (g_l G) (g_D G) (fun i => a (31 + i)) (fun jz => (C) (40 * 0 + jz)) ((R) 3 0) ((R) 4 0) (by omega) _ _ (by omega) (by omega)) (bobj (g_D G) a (R) ++ (yw (g_D G) (fun i => a (2 + i)) (Z) ((J) 0) ((J) 1) ((J) 2) ++ (yw (g_D G) (fun i => a (10 + i)) (K) ((J) 3) ((J) 4) ((J) 5) ++ (yw (g_D G) (fun i => a (18 + i)) (YT) ((J) 6) ((J) 7) ((J) 8) ++ (bestw (a 26) ((J) 9) ((J) 10) ++ (btxt (g_D G) a (R) (J) ++ ([(a 30, .inl ((g_D G).1 102, 4, .inr (.inr (.inr (.inr (fun k => some (a (31 + 2 * k))))))))]))))))) (sheetw (g_D G) (fun i => a (33 + i)) (fun jz => (C) (40 * 1 + jz)) ((R) 3 1) ((R) 4 1) ++ (sheetw (g_D G) (fun i => a (35 + i)) (fun jz => (C) (40 * 2 + jz)) ((R) 3 2) ((R) 4 2) ++ (sheetw (g_D G) (fun i => a (37 + i)) (fun jz => (C) (40 * 3 + jz)) ((R) 3 3) ((R) 4 3)))) rfl gX6_copy_X2_hasSpan rfl hyX2_hasSpan rfl (by decide) (by decide) 0 rfl rfl rfl (Nat.le_of_ble_eq_true rfl) ⟨Nat.zero_le _, Nat.zero_le _⟩ dX6_copy_94 ?_
                intro w hw
                subst hw
                refine V_ws (ws' := bw (g_D G) a (Z) (K) (R) (C) (YT) (J)) rfl ?_
                refine rb_if_ne (tgt := 106) hG dX6_copy_97 (by decide) (fun c97 => ?_) (fun c97 => ?_)
                · try simp only [decide_eq_true_eq, decide_eq_false_iff_not] at c97
                  refine r_aload hG dX6_copy_106 rfl ?_
                  refine r_get hG cX6_copy_X2 35 0 rfl rfl (by decide) kX6_copy_216 rfl dX6_copy_108 ?_
                  refine r_iload_n (i := 2) hG dX6_copy_111 rfl rfl ?_
                  refine r_aload hG dX6_copy_112 rfl ?_
                  refine r_get hG cX6_copy_X2 31 0 rfl rfl (by decide) kX6_copy_216 rfl dX6_copy_114 ?_
                  refine r_iload hG dX6_copy_117 rfl ?_
                  refine r_iload hG dX6_copy_119 rfl ?_
                  refine r_copyl hG 36 32 rfl rfl (by omega) (by omega) (by omega) (by omega) (by omega) (List.mem_of_getElem? (i := 4) rfl) (List.mem_of_getElem? (i := 5) rfl) (List.mem_of_getElem? (i := 6) rfl) (List.mem_of_getElem? (i := 7) rfl) (by decide) (Nat.le_of_ble_eq_true rfl) dX6_copy_121 (ws' := bwX (g_D G) a (Z) (K) (R) (cpy1 (fun jz => (C) (40 * 2 + jz)) (fun jz => (C) (40 * 0 + jz)) f u n) (fun jz => (C) (40 * 1 + jz)) (fun jz => (C) (40 * 2 + jz)) (fun jz => (C) (40 * 3 + jz)) (YT) (J)) rfl ?_
                  refine V_shC (C := cpyC C (40 * 2 + f) (40 * 0 + u) n) (fun j h0 h1 => cpy_same j) (fun j h0 h1 => cpy_other (by omega)) (fun j h0 h1 => cpy_other (by omega)) (fun j h0 h1 => cpy_other (by omega)) ?_
                  refine r_iload hG dX6_copy_124 rfl ?_
                  exact r_iret hG hE dX6_copy_126 (by unfold s_copy; (try dsimp only); (repeat (first | rw [if_pos (by omega)] | rw [if_neg (by omega)])) <;> (first | rfl | skip)) ⟨YT, J, by unfold s_copy; (try dsimp only); (repeat (first | rw [if_pos (by omega)] | rw [if_neg (by omega)])) <;> (first | rfl | skip)⟩
                · try simp only [decide_eq_true_eq, decide_eq_false_iff_not] at c97
                  refine r_aload_n (i := 0) hG dX6_copy_100 rfl rfl ?_
                  refine r_iconst hG dX6_copy_101 ?_
                  refine r_callVi hG (c_X6_finding (g_l G) (g_D G) a (Z) (K) (R) (C) (YT) (J) 0 (by omega))  gX6_copy_X6_finding rfl hyX6_finding rfl (by decide) (by decide) 0 rfl rfl rfl (Nat.le_of_ble_eq_true rfl) ⟨Nat.zero_le _, Nat.zero_le _⟩ dX6_copy_102 (fun w hw => ?_)
                  subst hw
                  exact r_iret hG hE dX6_copy_105 (by unfold s_copy; (try dsimp only); (repeat (first | rw [if_pos (by omega)] | rw [if_neg (by omega)])) <;> (first | rfl | skip)) ⟨YT, J, by unfold s_copy; (try dsimp only); (repeat (first | rw [if_pos (by omega)] | rw [if_neg (by omega)])) <;> (first | rfl | skip)⟩
            · refine r_aload_n (i := 0) hG dX6_copy_71 rfl rfl ?_
              refine r_iconst hG dX6_copy_72 ?_
              refine r_callVi hG (c_X6_finding (g_l G) (g_D G) a (Z) (K) (R) (C) (YT) (J) 2 (by omega))  gX6_copy_X6_finding rfl hyX6_finding rfl (by decide) (by decide) 0 rfl rfl rfl (Nat.le_of_ble_eq_true rfl) ⟨Nat.zero_le _, Nat.zero_le _⟩ dX6_copy_73 (fun w hw => ?_)
              subst hw
              exact r_iret hG hE dX6_copy_76 (by unfold s_copy; (try dsimp only); (repeat (first | rw [if_pos (by omega)] | rw [if_neg (by omega)])) <;> (first | rfl | skip)) ⟨YT, J, by unfold s_copy; (try dsimp only); (repeat (first | rw [if_pos (by omega)] | rw [if_neg (by omega)])) <;> (first | rfl | skip)⟩
          · try simp only [decide_eq_true_eq, decide_eq_false_iff_not] at c49
            refine r_aload_n (i := 0) hG dX6_copy_52 rfl rfl ?_
            refine r_iconst hG dX6_copy_53 ?_
            refine r_callVi hG (c_X6_finding (g_l G) (g_D G) a (Z) (K) (R) (C) (YT) (J) 5 (by omega))  gX6_copy_X6_finding rfl hyX6_finding rfl (by decide) (by decide) 0 rfl rfl rfl (Nat.le_of_ble_eq_true rfl) ⟨Nat.zero_le _, Nat.zero_le _⟩ dX6_copy_54 (fun w hw => ?_)
            subst hw
            exact r_iret hG hE dX6_copy_57 (by unfold s_copy; (try dsimp only); (repeat (first | rw [if_pos (by omega)] | rw [if_neg (by omega)])) <;> (first | rfl | skip)) ⟨YT, J, by unfold s_copy; (try dsimp only); (repeat (first | rw [if_pos (by omega)] | rw [if_neg (by omega)])) <;> (first | rfl | skip)⟩
      · subst hv4
        refine r_aload_n (i := 0) hG dX6_copy_20 rfl rfl ?_
        refine r_get hG cX6_copy_X6 0 6 rfl rfl (by decide) kX6_copy_43 rfl dX6_copy_21 ?_
        refine r_iload_n (i := 1) hG dX6_copy_24 rfl rfl ?_
        refine r_aldq hG 30 rfl (by omega) (by decide) dX6_copy_25 (v := .ref (a 35)) rfl ?_
        refine r_astore hG dX6_copy_26 (by decide) rfl ?_
        refine r_aload_n (i := 0) hG dX6_copy_28 rfl rfl ?_
        refine r_get hG cX6_copy_X6 0 6 rfl rfl (by decide) kX6_copy_43 rfl dX6_copy_29 ?_
        refine r_iload_n (i := 3) hG dX6_copy_32 rfl rfl ?_
        refine r_aldq hG 30 rfl (by omega) (by decide) dX6_copy_33 (v := .ref (a 33)) rfl ?_
        refine r_astore hG dX6_copy_34 (by decide) rfl ?_
        refine r_aload hG dX6_copy_36 rfl ?_
        refine r_midi hG (c_X2_isMissing (g_l G) (g_D G) (fun i => a (35 + i)) (fun jz => (C) (40 * 2 + jz)) ((R) 3 2) ((R) 4 2) (by omega)) (bobj (g_D G) a (R) ++ (yw (g_D G) (fun i => a (2 + i)) (Z) ((J) 0) ((J) 1) ((J) 2) ++ (yw (g_D G) (fun i => a (10 + i)) (K) ((J) 3) ((J) 4) ((J) 5) ++ (yw (g_D G) (fun i => a (18 + i)) (YT) ((J) 6) ((J) 7) ((J) 8) ++ (bestw (a 26) ((J) 9) ((J) 10) ++ (btxt (g_D G) a (R) (J) ++ ([(a 30, .inl ((g_D G).1 102, 4, .inr (.inr (.inr (.inr (fun k => some (a (31 + 2 * k))))))))] ++ (sheetw (g_D G) (fun i => a (31 + i)) (fun jz => (C) (40 * 0 + jz)) ((R) 3 0) ((R) 4 0) ++ (sheetw (g_D G) (fun i => a (33 + i)) (fun jz => (C) (40 * 1 + jz)) ((R) 3 1) ((R) 4 1)))))))))) (sheetw (g_D G) (fun i => a (37 + i)) (fun jz => (C) (40 * 3 + jz)) ((R) 3 3) ((R) 4 3)) rfl gX6_copy_X2_isMissing rfl hyX2_isMissing rfl (by decide) (by decide) 0 rfl rfl rfl (Nat.le_of_ble_eq_true rfl) ⟨Nat.zero_le _, Nat.zero_le _⟩ dX6_copy_38 ?_
        intro w hw
        subst hw
        refine V_ws (ws' := bw (g_D G) a (Z) (K) (R) (C) (YT) (J)) rfl ?_
        refine rb_if_ne (tgt := 52) hG dX6_copy_41 (by decide) (fun c41 => ?_) (fun c41 => ?_)
        · try simp only [decide_eq_true_eq, decide_eq_false_iff_not] at c41
          refine r_aload_n (i := 0) hG dX6_copy_52 rfl rfl ?_
          refine r_iconst hG dX6_copy_53 ?_
          refine r_callVi hG (c_X6_finding (g_l G) (g_D G) a (Z) (K) (R) (C) (YT) (J) 5 (by omega))  gX6_copy_X6_finding rfl hyX6_finding rfl (by decide) (by decide) 0 rfl rfl rfl (Nat.le_of_ble_eq_true rfl) ⟨Nat.zero_le _, Nat.zero_le _⟩ dX6_copy_54 (fun w hw => ?_)
          subst hw
          exact r_iret hG hE dX6_copy_57 (by unfold s_copy; (try dsimp only); (repeat (first | rw [if_pos (by omega)] | rw [if_neg (by omega)])) <;> (first | rfl | skip)) ⟨YT, J, by unfold s_copy; (try dsimp only); (repeat (first | rw [if_pos (by omega)] | rw [if_neg (by omega)])) <;> (first | rfl | skip)⟩
        · try simp only [decide_eq_true_eq, decide_eq_false_iff_not] at c41
          refine r_aload hG dX6_copy_44 rfl ?_
          refine r_midi hG (c_X2_isMissing (g_l G) (g_D G) (fun i => a (33 + i)) (fun jz => (C) (40 * 1 + jz)) ((R) 3 1) ((R) 4 1) (by omega)) (bobj (g_D G) a (R) ++ (yw (g_D G) (fun i => a (2 + i)) (Z) ((J) 0) ((J) 1) ((J) 2) ++ (yw (g_D G) (fun i => a (10 + i)) (K) ((J) 3) ((J) 4) ((J) 5) ++ (yw (g_D G) (fun i => a (18 + i)) (YT) ((J) 6) ((J) 7) ((J) 8) ++ (bestw (a 26) ((J) 9) ((J) 10) ++ (btxt (g_D G) a (R) (J) ++ ([(a 30, .inl ((g_D G).1 102, 4, .inr (.inr (.inr (.inr (fun k => some (a (31 + 2 * k))))))))] ++ (sheetw (g_D G) (fun i => a (31 + i)) (fun jz => (C) (40 * 0 + jz)) ((R) 3 0) ((R) 4 0))))))))) (sheetw (g_D G) (fun i => a (35 + i)) (fun jz => (C) (40 * 2 + jz)) ((R) 3 2) ((R) 4 2) ++ (sheetw (g_D G) (fun i => a (37 + i)) (fun jz => (C) (40 * 3 + jz)) ((R) 3 3) ((R) 4 3))) rfl gX6_copy_X2_isMissing rfl hyX2_isMissing rfl (by decide) (by decide) 0 rfl rfl rfl (Nat.le_of_ble_eq_true rfl) ⟨Nat.zero_le _, Nat.zero_le _⟩ dX6_copy_46 ?_
          intro w hw
          subst hw
          refine V_ws (ws' := bw (g_D G) a (Z) (K) (R) (C) (YT) (J)) rfl ?_
          refine rb_if_eq (tgt := 58) hG dX6_copy_49 (by decide) (fun c49 => ?_) (fun c49 => ?_)
          · try simp only [decide_eq_true_eq, decide_eq_false_iff_not] at c49
            refine r_aload hG dX6_copy_58 rfl ?_
            refine r_get hG cX6_copy_X2 35 1 rfl rfl (by decide) kX6_copy_224 rfl dX6_copy_60 ?_
            refine r_aload hG dX6_copy_63 rfl ?_
            refine r_get hG cX6_copy_X2 33 1 rfl rfl (by decide) kX6_copy_224 rfl dX6_copy_65 ?_
            refine r_icmp_eq (tgt := 77) hG (by omega) (by omega) dX6_copy_68 (by decide) (fun c68 => ?_) (fun c68 => ?_)
            · refine r_aload hG dX6_copy_77 rfl ?_
              refine r_iload_n (i := 2) hG dX6_copy_79 rfl rfl ?_
              refine r_iload hG dX6_copy_80 rfl ?_
              refine r_midi hG (c_X2_hasSpan (g_l G) (g_D G) (fun i => a (35 + i)) (fun jz => (C) (40 * 2 + jz)) ((R) 3 2) ((R) 4 2) (by omega) _ _ (by omega) (by omega)) (bobj (g_D G) a (R) ++ (yw (g_D G) (fun i => a (2 + i)) (Z) ((J) 0) ((J) 1) ((J) 2) ++ (yw (g_D G) (fun i => a (10 + i)) (K) ((J) 3) ((J) 4) ((J) 5) ++ (yw (g_D G) (fun i => a (18 + i)) (YT) ((J) 6) ((J) 7) ((J) 8) ++ (bestw (a 26) ((J) 9) ((J) 10) ++ (btxt (g_D G) a (R) (J) ++ ([(a 30, .inl ((g_D G).1 102, 4, .inr (.inr (.inr (.inr (fun k => some (a (31 + 2 * k))))))))] ++ (sheetw (g_D G) (fun i => a (31 + i)) (fun jz => (C) (40 * 0 + jz)) ((R) 3 0) ((R) 4 0) ++ (sheetw (g_D G) (fun i => a (33 + i)) (fun jz => (C) (40 * 1 + jz)) ((R) 3 1) ((R) 4 1)))))))))) (sheetw (g_D G) (fun i => a (37 + i)) (fun jz => (C) (40 * 3 + jz)) ((R) 3 3) ((R) 4 3)) rfl gX6_copy_X2_hasSpan rfl hyX2_hasSpan rfl (by decide) (by decide) 0 rfl rfl rfl (Nat.le_of_ble_eq_true rfl) ⟨Nat.zero_le _, Nat.zero_le _⟩ dX6_copy_82 ?_
              intro w hw
              subst hw
              refine V_ws (ws' := bw (g_D G) a (Z) (K) (R) (C) (YT) (J)) rfl ?_
              refine rb_if_eq (tgt := 100) hG dX6_copy_85 (by decide) (fun c85 => ?_) (fun c85 => ?_)
              · try simp only [decide_eq_true_eq, decide_eq_false_iff_not] at c85
                refine r_aload_n (i := 0) hG dX6_copy_100 rfl rfl ?_
                refine r_iconst hG dX6_copy_101 ?_
                refine r_callVi hG (c_X6_finding (g_l G) (g_D G) a (Z) (K) (R) (C) (YT) (J) 0 (by omega))  gX6_copy_X6_finding rfl hyX6_finding rfl (by decide) (by decide) 0 rfl rfl rfl (Nat.le_of_ble_eq_true rfl) ⟨Nat.zero_le _, Nat.zero_le _⟩ dX6_copy_102 (fun w hw => ?_)
                subst hw
                exact r_iret hG hE dX6_copy_105 (by unfold s_copy; (try dsimp only); (repeat (first | rw [if_pos (by omega)] | rw [if_neg (by omega)])) <;> (first | rfl | skip)) ⟨YT, J, by unfold s_copy; (try dsimp only); (repeat (first | rw [if_pos (by omega)] | rw [if_neg (by omega)])) <;> (first | rfl | skip)⟩
              · try simp only [decide_eq_true_eq, decide_eq_false_iff_not] at c85
                refine r_aload hG dX6_copy_88 rfl ?_
                refine r_iload hG dX6_copy_90 rfl ?_
                refine r_iload hG dX6_copy_92 rfl ?_
                refine r_midi hG (c_X2_hasSpan (g_l G) (g_D G) (fun i => a (33 + i)) (fun jz => (C) (40 * 1 + jz)) ((R) 3 1) ((R) 4 1) (by omega) _ _ (by omega) (by omega)) (bobj (g_D G) a (R) ++ (yw (g_D G) (fun i => a (2 + i)) (Z) ((J) 0) ((J) 1) ((J) 2) ++ (yw (g_D G) (fun i => a (10 + i)) (K) ((J) 3) ((J) 4) ((J) 5) ++ (yw (g_D G) (fun i => a (18 + i)) (YT) ((J) 6) ((J) 7) ((J) 8) ++ (bestw (a 26) ((J) 9) ((J) 10) ++ (btxt (g_D G) a (R) (J) ++ ([(a 30, .inl ((g_D G).1 102, 4, .inr (.inr (.inr (.inr (fun k => some (a (31 + 2 * k))))))))] ++ (sheetw (g_D G) (fun i => a (31 + i)) (fun jz => (C) (40 * 0 + jz)) ((R) 3 0) ((R) 4 0))))))))) (sheetw (g_D G) (fun i => a (35 + i)) (fun jz => (C) (40 * 2 + jz)) ((R) 3 2) ((R) 4 2) ++ (sheetw (g_D G) (fun i => a (37 + i)) (fun jz => (C) (40 * 3 + jz)) ((R) 3 3) ((R) 4 3))) rfl gX6_copy_X2_hasSpan rfl hyX2_hasSpan rfl (by decide) (by decide) 0 rfl rfl rfl (Nat.le_of_ble_eq_true rfl) ⟨Nat.zero_le _, Nat.zero_le _⟩ dX6_copy_94 ?_
                intro w hw
                subst hw
                refine V_ws (ws' := bw (g_D G) a (Z) (K) (R) (C) (YT) (J)) rfl ?_
                refine rb_if_ne (tgt := 106) hG dX6_copy_97 (by decide) (fun c97 => ?_) (fun c97 => ?_)
                · try simp only [decide_eq_true_eq, decide_eq_false_iff_not] at c97
                  refine r_aload hG dX6_copy_106 rfl ?_
                  refine r_get hG cX6_copy_X2 35 0 rfl rfl (by decide) kX6_copy_216 rfl dX6_copy_108 ?_
                  refine r_iload_n (i := 2) hG dX6_copy_111 rfl rfl ?_
                  refine r_aload hG dX6_copy_112 rfl ?_
                  refine r_get hG cX6_copy_X2 33 0 rfl rfl (by decide) kX6_copy_216 rfl dX6_copy_114 ?_
                  refine r_iload hG dX6_copy_117 rfl ?_
                  refine r_iload hG dX6_copy_119 rfl ?_
                  refine r_copyl hG 36 34 rfl rfl (by omega) (by omega) (by omega) (by omega) (by omega) (List.mem_of_getElem? (i := 4) rfl) (List.mem_of_getElem? (i := 5) rfl) (List.mem_of_getElem? (i := 6) rfl) (List.mem_of_getElem? (i := 7) rfl) (by decide) (Nat.le_of_ble_eq_true rfl) dX6_copy_121 (ws' := bwX (g_D G) a (Z) (K) (R) (fun jz => (C) (40 * 0 + jz)) (cpy1 (fun jz => (C) (40 * 2 + jz)) (fun jz => (C) (40 * 1 + jz)) f u n) (fun jz => (C) (40 * 2 + jz)) (fun jz => (C) (40 * 3 + jz)) (YT) (J)) rfl ?_
                  refine V_shC (C := cpyC C (40 * 2 + f) (40 * 1 + u) n) (fun j h0 h1 => cpy_other (by omega)) (fun j h0 h1 => cpy_same j) (fun j h0 h1 => cpy_other (by omega)) (fun j h0 h1 => cpy_other (by omega)) ?_
                  refine r_iload hG dX6_copy_124 rfl ?_
                  exact r_iret hG hE dX6_copy_126 (by unfold s_copy; (try dsimp only); (repeat (first | rw [if_pos (by omega)] | rw [if_neg (by omega)])) <;> (first | rfl | skip)) ⟨YT, J, by unfold s_copy; (try dsimp only); (repeat (first | rw [if_pos (by omega)] | rw [if_neg (by omega)])) <;> (first | rfl | skip)⟩
                · try simp only [decide_eq_true_eq, decide_eq_false_iff_not] at c97
                  refine r_aload_n (i := 0) hG dX6_copy_100 rfl rfl ?_
                  refine r_iconst hG dX6_copy_101 ?_
                  refine r_callVi hG (c_X6_finding (g_l G) (g_D G) a (Z) (K) (R) (C) (YT) (J) 0 (by omega))  gX6_copy_X6_finding rfl hyX6_finding rfl (by decide) (by decide) 0 rfl rfl rfl (Nat.le_of_ble_eq_true rfl) ⟨Nat.zero_le _, Nat.zero_le _⟩ dX6_copy_102 (fun w hw => ?_)
                  subst hw
                  exact r_iret hG hE dX6_copy_105 (by unfold s_copy; (try dsimp only); (repeat (first | rw [if_pos (by omega)] | rw [if_neg (by omega)])) <;> (first | rfl | skip)) ⟨YT, J, by unfold s_copy; (try dsimp only); (repeat (first | rw [if_pos (by omega)] | rw [if_neg (by omega)])) <;> (first | rfl | skip)⟩
            · refine r_aload_n (i := 0) hG dX6_copy_71 rfl rfl ?_
              refine r_iconst hG dX6_copy_72 ?_
              refine r_callVi hG (c_X6_finding (g_l G) (g_D G) a (Z) (K) (R) (C) (YT) (J) 2 (by omega))  gX6_copy_X6_finding rfl hyX6_finding rfl (by decide) (by decide) 0 rfl rfl rfl (Nat.le_of_ble_eq_true rfl) ⟨Nat.zero_le _, Nat.zero_le _⟩ dX6_copy_73 (fun w hw => ?_)
              subst hw
              exact r_iret hG hE dX6_copy_76 (by unfold s_copy; (try dsimp only); (repeat (first | rw [if_pos (by omega)] | rw [if_neg (by omega)])) <;> (first | rfl | skip)) ⟨YT, J, by unfold s_copy; (try dsimp only); (repeat (first | rw [if_pos (by omega)] | rw [if_neg (by omega)])) <;> (first | rfl | skip)⟩
          · try simp only [decide_eq_true_eq, decide_eq_false_iff_not] at c49
            refine r_aload_n (i := 0) hG dX6_copy_52 rfl rfl ?_
            refine r_iconst hG dX6_copy_53 ?_
            refine r_callVi hG (c_X6_finding (g_l G) (g_D G) a (Z) (K) (R) (C) (YT) (J) 5 (by omega))  gX6_copy_X6_finding rfl hyX6_finding rfl (by decide) (by decide) 0 rfl rfl rfl (Nat.le_of_ble_eq_true rfl) ⟨Nat.zero_le _, Nat.zero_le _⟩ dX6_copy_54 (fun w hw => ?_)
            subst hw
            exact r_iret hG hE dX6_copy_57 (by unfold s_copy; (try dsimp only); (repeat (first | rw [if_pos (by omega)] | rw [if_neg (by omega)])) <;> (first | rfl | skip)) ⟨YT, J, by unfold s_copy; (try dsimp only); (repeat (first | rw [if_pos (by omega)] | rw [if_neg (by omega)])) <;> (first | rfl | skip)⟩
      · subst hv4
        refine r_aload_n (i := 0) hG dX6_copy_20 rfl rfl ?_
        refine r_get hG cX6_copy_X6 0 6 rfl rfl (by decide) kX6_copy_43 rfl dX6_copy_21 ?_
        refine r_iload_n (i := 1) hG dX6_copy_24 rfl rfl ?_
        refine r_aldq hG 30 rfl (by omega) (by decide) dX6_copy_25 (v := .ref (a 35)) rfl ?_
        refine r_astore hG dX6_copy_26 (by decide) rfl ?_
        refine r_aload_n (i := 0) hG dX6_copy_28 rfl rfl ?_
        refine r_get hG cX6_copy_X6 0 6 rfl rfl (by decide) kX6_copy_43 rfl dX6_copy_29 ?_
        refine r_iload_n (i := 3) hG dX6_copy_32 rfl rfl ?_
        refine r_aldq hG 30 rfl (by omega) (by decide) dX6_copy_33 (v := .ref (a 35)) rfl ?_
        refine r_astore hG dX6_copy_34 (by decide) rfl ?_
        refine r_aload hG dX6_copy_36 rfl ?_
        refine r_midi hG (c_X2_isMissing (g_l G) (g_D G) (fun i => a (35 + i)) (fun jz => (C) (40 * 2 + jz)) ((R) 3 2) ((R) 4 2) (by omega)) (bobj (g_D G) a (R) ++ (yw (g_D G) (fun i => a (2 + i)) (Z) ((J) 0) ((J) 1) ((J) 2) ++ (yw (g_D G) (fun i => a (10 + i)) (K) ((J) 3) ((J) 4) ((J) 5) ++ (yw (g_D G) (fun i => a (18 + i)) (YT) ((J) 6) ((J) 7) ((J) 8) ++ (bestw (a 26) ((J) 9) ((J) 10) ++ (btxt (g_D G) a (R) (J) ++ ([(a 30, .inl ((g_D G).1 102, 4, .inr (.inr (.inr (.inr (fun k => some (a (31 + 2 * k))))))))] ++ (sheetw (g_D G) (fun i => a (31 + i)) (fun jz => (C) (40 * 0 + jz)) ((R) 3 0) ((R) 4 0) ++ (sheetw (g_D G) (fun i => a (33 + i)) (fun jz => (C) (40 * 1 + jz)) ((R) 3 1) ((R) 4 1)))))))))) (sheetw (g_D G) (fun i => a (37 + i)) (fun jz => (C) (40 * 3 + jz)) ((R) 3 3) ((R) 4 3)) rfl gX6_copy_X2_isMissing rfl hyX2_isMissing rfl (by decide) (by decide) 0 rfl rfl rfl (Nat.le_of_ble_eq_true rfl) ⟨Nat.zero_le _, Nat.zero_le _⟩ dX6_copy_38 ?_
        intro w hw
        subst hw
        refine V_ws (ws' := bw (g_D G) a (Z) (K) (R) (C) (YT) (J)) rfl ?_
        refine rb_if_ne (tgt := 52) hG dX6_copy_41 (by decide) (fun c41 => ?_) (fun c41 => ?_)
        · try simp only [decide_eq_true_eq, decide_eq_false_iff_not] at c41
          refine r_aload_n (i := 0) hG dX6_copy_52 rfl rfl ?_
          refine r_iconst hG dX6_copy_53 ?_
          refine r_callVi hG (c_X6_finding (g_l G) (g_D G) a (Z) (K) (R) (C) (YT) (J) 5 (by omega))  gX6_copy_X6_finding rfl hyX6_finding rfl (by decide) (by decide) 0 rfl rfl rfl (Nat.le_of_ble_eq_true rfl) ⟨Nat.zero_le _, Nat.zero_le _⟩ dX6_copy_54 (fun w hw => ?_)
          subst hw
          exact r_iret hG hE dX6_copy_57 (by unfold s_copy; (try dsimp only); (repeat (first | rw [if_pos (by omega)] | rw [if_neg (by omega)])) <;> (first | rfl | skip)) ⟨YT, J, by unfold s_copy; (try dsimp only); (repeat (first | rw [if_pos (by omega)] | rw [if_neg (by omega)])) <;> (first | rfl | skip)⟩
        · try simp only [decide_eq_true_eq, decide_eq_false_iff_not] at c41
          refine r_aload hG dX6_copy_44 rfl ?_
          refine r_midi hG (c_X2_isMissing (g_l G) (g_D G) (fun i => a (35 + i)) (fun jz => (C) (40 * 2 + jz)) ((R) 3 2) ((R) 4 2) (by omega)) (bobj (g_D G) a (R) ++ (yw (g_D G) (fun i => a (2 + i)) (Z) ((J) 0) ((J) 1) ((J) 2) ++ (yw (g_D G) (fun i => a (10 + i)) (K) ((J) 3) ((J) 4) ((J) 5) ++ (yw (g_D G) (fun i => a (18 + i)) (YT) ((J) 6) ((J) 7) ((J) 8) ++ (bestw (a 26) ((J) 9) ((J) 10) ++ (btxt (g_D G) a (R) (J) ++ ([(a 30, .inl ((g_D G).1 102, 4, .inr (.inr (.inr (.inr (fun k => some (a (31 + 2 * k))))))))] ++ (sheetw (g_D G) (fun i => a (31 + i)) (fun jz => (C) (40 * 0 + jz)) ((R) 3 0) ((R) 4 0) ++ (sheetw (g_D G) (fun i => a (33 + i)) (fun jz => (C) (40 * 1 + jz)) ((R) 3 1) ((R) 4 1)))))))))) (sheetw (g_D G) (fun i => a (37 + i)) (fun jz => (C) (40 * 3 + jz)) ((R) 3 3) ((R) 4 3)) rfl gX6_copy_X2_isMissing rfl hyX2_isMissing rfl (by decide) (by decide) 0 rfl rfl rfl (Nat.le_of_ble_eq_true rfl) ⟨Nat.zero_le _, Nat.zero_le _⟩ dX6_copy_46 ?_
          intro w hw
          subst hw
          refine V_ws (ws' := bw (g_D G) a (Z) (K) (R) (C) (YT) (J)) rfl ?_
          refine rb_if_eq (tgt := 58) hG dX6_copy_49 (by decide) (fun c49 => ?_) (fun c49 => ?_)
          · try simp only [decide_eq_true_eq, decide_eq_false_iff_not] at c49
            refine r_aload hG dX6_copy_58 rfl ?_
            refine r_get hG cX6_copy_X2 35 1 rfl rfl (by decide) kX6_copy_224 rfl dX6_copy_60 ?_
            refine r_aload hG dX6_copy_63 rfl ?_
            refine r_get hG cX6_copy_X2 35 1 rfl rfl (by decide) kX6_copy_224 rfl dX6_copy_65 ?_
            refine r_icmp_eq (tgt := 77) hG (by omega) (by omega) dX6_copy_68 (by decide) (fun c68 => ?_) (fun c68 => ?_)
            · refine r_aload hG dX6_copy_77 rfl ?_
              refine r_iload_n (i := 2) hG dX6_copy_79 rfl rfl ?_
              refine r_iload hG dX6_copy_80 rfl ?_
              refine r_midi hG (c_X2_hasSpan (g_l G) (g_D G) (fun i => a (35 + i)) (fun jz => (C) (40 * 2 + jz)) ((R) 3 2) ((R) 4 2) (by omega) _ _ (by omega) (by omega)) (bobj (g_D G) a (R) ++ (yw (g_D G) (fun i => a (2 + i)) (Z) ((J) 0) ((J) 1) ((J) 2) ++ (yw (g_D G) (fun i => a (10 + i)) (K) ((J) 3) ((J) 4) ((J) 5) ++ (yw (g_D G) (fun i => a (18 + i)) (YT) ((J) 6) ((J) 7) ((J) 8) ++ (bestw (a 26) ((J) 9) ((J) 10) ++ (btxt (g_D G) a (R) (J) ++ ([(a 30, .inl ((g_D G).1 102, 4, .inr (.inr (.inr (.inr (fun k => some (a (31 + 2 * k))))))))] ++ (sheetw (g_D G) (fun i => a (31 + i)) (fun jz => (C) (40 * 0 + jz)) ((R) 3 0) ((R) 4 0) ++ (sheetw (g_D G) (fun i => a (33 + i)) (fun jz => (C) (40 * 1 + jz)) ((R) 3 1) ((R) 4 1)))))))))) (sheetw (g_D G) (fun i => a (37 + i)) (fun jz => (C) (40 * 3 + jz)) ((R) 3 3) ((R) 4 3)) rfl gX6_copy_X2_hasSpan rfl hyX2_hasSpan rfl (by decide) (by decide) 0 rfl rfl rfl (Nat.le_of_ble_eq_true rfl) ⟨Nat.zero_le _, Nat.zero_le _⟩ dX6_copy_82 ?_
              intro w hw
              subst hw
              refine V_ws (ws' := bw (g_D G) a (Z) (K) (R) (C) (YT) (J)) rfl ?_
              refine rb_if_eq (tgt := 100) hG dX6_copy_85 (by decide) (fun c85 => ?_) (fun c85 => ?_)
              · try simp only [decide_eq_true_eq, decide_eq_false_iff_not] at c85
                refine r_aload_n (i := 0) hG dX6_copy_100 rfl rfl ?_
                refine r_iconst hG dX6_copy_101 ?_
                refine r_callVi hG (c_X6_finding (g_l G) (g_D G) a (Z) (K) (R) (C) (YT) (J) 0 (by omega))  gX6_copy_X6_finding rfl hyX6_finding rfl (by decide) (by decide) 0 rfl rfl rfl (Nat.le_of_ble_eq_true rfl) ⟨Nat.zero_le _, Nat.zero_le _⟩ dX6_copy_102 (fun w hw => ?_)
                subst hw
                exact r_iret hG hE dX6_copy_105 (by unfold s_copy; (try dsimp only); (repeat (first | rw [if_pos (by omega)] | rw [if_neg (by omega)])) <;> (first | rfl | skip)) ⟨YT, J, by unfold s_copy; (try dsimp only); (repeat (first | rw [if_pos (by omega)] | rw [if_neg (by omega)])) <;> (first | rfl | skip)⟩
              · try simp only [decide_eq_true_eq, decide_eq_false_iff_not] at c85
                refine r_aload hG dX6_copy_88 rfl ?_
                refine r_iload hG dX6_copy_90 rfl ?_
                refine r_iload hG dX6_copy_92 rfl ?_
                refine r_midi hG (c_X2_hasSpan (g_l G) (g_D G) (fun i => a (35 + i)) (fun jz => (C) (40 * 2 + jz)) ((R) 3 2) ((R) 4 2) (by omega) _ _ (by omega) (by omega)) (bobj (g_D G) a (R) ++ (yw (g_D G) (fun i => a (2 + i)) (Z) ((J) 0) ((J) 1) ((J) 2) ++ (yw (g_D G) (fun i => a (10 + i)) (K) ((J) 3) ((J) 4) ((J) 5) ++ (yw (g_D G) (fun i => a (18 + i)) (YT) ((J) 6) ((J) 7) ((J) 8) ++ (bestw (a 26) ((J) 9) ((J) 10) ++ (btxt (g_D G) a (R) (J) ++ ([(a 30, .inl ((g_D G).1 102, 4, .inr (.inr (.inr (.inr (fun k => some (a (31 + 2 * k))))))))] ++ (sheetw (g_D G) (fun i => a (31 + i)) (fun jz => (C) (40 * 0 + jz)) ((R) 3 0) ((R) 4 0) ++ (sheetw (g_D G) (fun i => a (33 + i)) (fun jz => (C) (40 * 1 + jz)) ((R) 3 1) ((R) 4 1)))))))))) (sheetw (g_D G) (fun i => a (37 + i)) (fun jz => (C) (40 * 3 + jz)) ((R) 3 3) ((R) 4 3)) rfl gX6_copy_X2_hasSpan rfl hyX2_hasSpan rfl (by decide) (by decide) 0 rfl rfl rfl (Nat.le_of_ble_eq_true rfl) ⟨Nat.zero_le _, Nat.zero_le _⟩ dX6_copy_94 ?_
                intro w hw
                subst hw
                refine V_ws (ws' := bw (g_D G) a (Z) (K) (R) (C) (YT) (J)) rfl ?_
                refine rb_if_ne (tgt := 106) hG dX6_copy_97 (by decide) (fun c97 => ?_) (fun c97 => ?_)
                · try simp only [decide_eq_true_eq, decide_eq_false_iff_not] at c97
                  refine r_aload hG dX6_copy_106 rfl ?_
                  refine r_get hG cX6_copy_X2 35 0 rfl rfl (by decide) kX6_copy_216 rfl dX6_copy_108 ?_
                  refine r_iload_n (i := 2) hG dX6_copy_111 rfl rfl ?_
                  refine r_aload hG dX6_copy_112 rfl ?_
                  refine r_get hG cX6_copy_X2 35 0 rfl rfl (by decide) kX6_copy_216 rfl dX6_copy_114 ?_
                  refine r_iload hG dX6_copy_117 rfl ?_
                  refine r_iload hG dX6_copy_119 rfl ?_
                  refine r_copyl hG 36 36 rfl rfl (by omega) (by omega) (by omega) (by omega) (by omega) (List.mem_of_getElem? (i := 4) rfl) (List.mem_of_getElem? (i := 5) rfl) (List.mem_of_getElem? (i := 6) rfl) (List.mem_of_getElem? (i := 7) rfl) (by decide) (Nat.le_of_ble_eq_true rfl) dX6_copy_121 (ws' := bwX (g_D G) a (Z) (K) (R) (fun jz => (C) (40 * 0 + jz)) (fun jz => (C) (40 * 1 + jz)) (cpy1 (fun jz => (C) (40 * 2 + jz)) (fun jz => (C) (40 * 2 + jz)) f u n) (fun jz => (C) (40 * 3 + jz)) (YT) (J)) rfl ?_
                  refine V_shC (C := cpyC C (40 * 2 + f) (40 * 2 + u) n) (fun j h0 h1 => cpy_other (by omega)) (fun j h0 h1 => cpy_other (by omega)) (fun j h0 h1 => cpy_same j) (fun j h0 h1 => cpy_other (by omega)) ?_
                  refine r_iload hG dX6_copy_124 rfl ?_
                  exact r_iret hG hE dX6_copy_126 (by unfold s_copy; (try dsimp only); (repeat (first | rw [if_pos (by omega)] | rw [if_neg (by omega)])) <;> (first | rfl | skip)) ⟨YT, J, by unfold s_copy; (try dsimp only); (repeat (first | rw [if_pos (by omega)] | rw [if_neg (by omega)])) <;> (first | rfl | skip)⟩
                · try simp only [decide_eq_true_eq, decide_eq_false_iff_not] at c97
                  refine r_aload_n (i := 0) hG dX6_copy_100 rfl rfl ?_
                  refine r_iconst hG dX6_copy_101 ?_
                  refine r_callVi hG (c_X6_finding (g_l G) (g_D G) a (Z) (K) (R) (C) (YT) (J) 0 (by omega))  gX6_copy_X6_finding rfl hyX6_finding rfl (by decide) (by decide) 0 rfl rfl rfl (Nat.le_of_ble_eq_true rfl) ⟨Nat.zero_le _, Nat.zero_le _⟩ dX6_copy_102 (fun w hw => ?_)
                  subst hw
                  exact r_iret hG hE dX6_copy_105 (by unfold s_copy; (try dsimp only); (repeat (first | rw [if_pos (by omega)] | rw [if_neg (by omega)])) <;> (first | rfl | skip)) ⟨YT, J, by unfold s_copy; (try dsimp only); (repeat (first | rw [if_pos (by omega)] | rw [if_neg (by omega)])) <;> (first | rfl | skip)⟩
            · exact absurd rfl c68
          · try simp only [decide_eq_true_eq, decide_eq_false_iff_not] at c49
            refine r_aload_n (i := 0) hG dX6_copy_52 rfl rfl ?_
            refine r_iconst hG dX6_copy_53 ?_
            refine r_callVi hG (c_X6_finding (g_l G) (g_D G) a (Z) (K) (R) (C) (YT) (J) 5 (by omega))  gX6_copy_X6_finding rfl hyX6_finding rfl (by decide) (by decide) 0 rfl rfl rfl (Nat.le_of_ble_eq_true rfl) ⟨Nat.zero_le _, Nat.zero_le _⟩ dX6_copy_54 (fun w hw => ?_)
            subst hw
            exact r_iret hG hE dX6_copy_57 (by unfold s_copy; (try dsimp only); (repeat (first | rw [if_pos (by omega)] | rw [if_neg (by omega)])) <;> (first | rfl | skip)) ⟨YT, J, by unfold s_copy; (try dsimp only); (repeat (first | rw [if_pos (by omega)] | rw [if_neg (by omega)])) <;> (first | rfl | skip)⟩
      · subst hv4
        refine r_aload_n (i := 0) hG dX6_copy_20 rfl rfl ?_
        refine r_get hG cX6_copy_X6 0 6 rfl rfl (by decide) kX6_copy_43 rfl dX6_copy_21 ?_
        refine r_iload_n (i := 1) hG dX6_copy_24 rfl rfl ?_
        refine r_aldq hG 30 rfl (by omega) (by decide) dX6_copy_25 (v := .ref (a 35)) rfl ?_
        refine r_astore hG dX6_copy_26 (by decide) rfl ?_
        refine r_aload_n (i := 0) hG dX6_copy_28 rfl rfl ?_
        refine r_get hG cX6_copy_X6 0 6 rfl rfl (by decide) kX6_copy_43 rfl dX6_copy_29 ?_
        refine r_iload_n (i := 3) hG dX6_copy_32 rfl rfl ?_
        refine r_aldq hG 30 rfl (by omega) (by decide) dX6_copy_33 (v := .ref (a 37)) rfl ?_
        refine r_astore hG dX6_copy_34 (by decide) rfl ?_
        refine r_aload hG dX6_copy_36 rfl ?_
        refine r_midi hG (c_X2_isMissing (g_l G) (g_D G) (fun i => a (35 + i)) (fun jz => (C) (40 * 2 + jz)) ((R) 3 2) ((R) 4 2) (by omega)) (bobj (g_D G) a (R) ++ (yw (g_D G) (fun i => a (2 + i)) (Z) ((J) 0) ((J) 1) ((J) 2) ++ (yw (g_D G) (fun i => a (10 + i)) (K) ((J) 3) ((J) 4) ((J) 5) ++ (yw (g_D G) (fun i => a (18 + i)) (YT) ((J) 6) ((J) 7) ((J) 8) ++ (bestw (a 26) ((J) 9) ((J) 10) ++ (btxt (g_D G) a (R) (J) ++ ([(a 30, .inl ((g_D G).1 102, 4, .inr (.inr (.inr (.inr (fun k => some (a (31 + 2 * k))))))))] ++ (sheetw (g_D G) (fun i => a (31 + i)) (fun jz => (C) (40 * 0 + jz)) ((R) 3 0) ((R) 4 0) ++ (sheetw (g_D G) (fun i => a (33 + i)) (fun jz => (C) (40 * 1 + jz)) ((R) 3 1) ((R) 4 1)))))))))) (sheetw (g_D G) (fun i => a (37 + i)) (fun jz => (C) (40 * 3 + jz)) ((R) 3 3) ((R) 4 3)) rfl gX6_copy_X2_isMissing rfl hyX2_isMissing rfl (by decide) (by decide) 0 rfl rfl rfl (Nat.le_of_ble_eq_true rfl) ⟨Nat.zero_le _, Nat.zero_le _⟩ dX6_copy_38 ?_
        intro w hw
        subst hw
        refine V_ws (ws' := bw (g_D G) a (Z) (K) (R) (C) (YT) (J)) rfl ?_
        refine rb_if_ne (tgt := 52) hG dX6_copy_41 (by decide) (fun c41 => ?_) (fun c41 => ?_)
        · try simp only [decide_eq_true_eq, decide_eq_false_iff_not] at c41
          refine r_aload_n (i := 0) hG dX6_copy_52 rfl rfl ?_
          refine r_iconst hG dX6_copy_53 ?_
          refine r_callVi hG (c_X6_finding (g_l G) (g_D G) a (Z) (K) (R) (C) (YT) (J) 5 (by omega))  gX6_copy_X6_finding rfl hyX6_finding rfl (by decide) (by decide) 0 rfl rfl rfl (Nat.le_of_ble_eq_true rfl) ⟨Nat.zero_le _, Nat.zero_le _⟩ dX6_copy_54 (fun w hw => ?_)
          subst hw
          exact r_iret hG hE dX6_copy_57 (by unfold s_copy; (try dsimp only); (repeat (first | rw [if_pos (by omega)] | rw [if_neg (by omega)])) <;> (first | rfl | skip)) ⟨YT, J, by unfold s_copy; (try dsimp only); (repeat (first | rw [if_pos (by omega)] | rw [if_neg (by omega)])) <;> (first | rfl | skip)⟩
        · try simp only [decide_eq_true_eq, decide_eq_false_iff_not] at c41
          refine r_aload hG dX6_copy_44 rfl ?_
          refine r_midi hG (c_X2_isMissing (g_l G) (g_D G) (fun i => a (37 + i)) (fun jz => (C) (40 * 3 + jz)) ((R) 3 3) ((R) 4 3) (by omega)) (bobj (g_D G) a (R) ++ (yw (g_D G) (fun i => a (2 + i)) (Z) ((J) 0) ((J) 1) ((J) 2) ++ (yw (g_D G) (fun i => a (10 + i)) (K) ((J) 3) ((J) 4) ((J) 5) ++ (yw (g_D G) (fun i => a (18 + i)) (YT) ((J) 6) ((J) 7) ((J) 8) ++ (bestw (a 26) ((J) 9) ((J) 10) ++ (btxt (g_D G) a (R) (J) ++ ([(a 30, .inl ((g_D G).1 102, 4, .inr (.inr (.inr (.inr (fun k => some (a (31 + 2 * k))))))))] ++ (sheetw (g_D G) (fun i => a (31 + i)) (fun jz => (C) (40 * 0 + jz)) ((R) 3 0) ((R) 4 0) ++ (sheetw (g_D G) (fun i => a (33 + i)) (fun jz => (C) (40 * 1 + jz)) ((R) 3 1) ((R) 4 1) ++ (sheetw (g_D G) (fun i => a (35 + i)) (fun jz => (C) (40 * 2 + jz)) ((R) 3 2) ((R) 4 2))))))))))) ([]) rfl gX6_copy_X2_isMissing rfl hyX2_isMissing rfl (by decide) (by decide) 0 rfl rfl rfl (Nat.le_of_ble_eq_true rfl) ⟨Nat.zero_le _, Nat.zero_le _⟩ dX6_copy_46 ?_
          intro w hw
          subst hw
          refine V_ws (ws' := bw (g_D G) a (Z) (K) (R) (C) (YT) (J)) rfl ?_
          refine rb_if_eq (tgt := 58) hG dX6_copy_49 (by decide) (fun c49 => ?_) (fun c49 => ?_)
          · try simp only [decide_eq_true_eq, decide_eq_false_iff_not] at c49
            refine r_aload hG dX6_copy_58 rfl ?_
            refine r_get hG cX6_copy_X2 35 1 rfl rfl (by decide) kX6_copy_224 rfl dX6_copy_60 ?_
            refine r_aload hG dX6_copy_63 rfl ?_
            refine r_get hG cX6_copy_X2 37 1 rfl rfl (by decide) kX6_copy_224 rfl dX6_copy_65 ?_
            refine r_icmp_eq (tgt := 77) hG (by omega) (by omega) dX6_copy_68 (by decide) (fun c68 => ?_) (fun c68 => ?_)
            · refine r_aload hG dX6_copy_77 rfl ?_
              refine r_iload_n (i := 2) hG dX6_copy_79 rfl rfl ?_
              refine r_iload hG dX6_copy_80 rfl ?_
              refine r_midi hG (c_X2_hasSpan (g_l G) (g_D G) (fun i => a (35 + i)) (fun jz => (C) (40 * 2 + jz)) ((R) 3 2) ((R) 4 2) (by omega) _ _ (by omega) (by omega)) (bobj (g_D G) a (R) ++ (yw (g_D G) (fun i => a (2 + i)) (Z) ((J) 0) ((J) 1) ((J) 2) ++ (yw (g_D G) (fun i => a (10 + i)) (K) ((J) 3) ((J) 4) ((J) 5) ++ (yw (g_D G) (fun i => a (18 + i)) (YT) ((J) 6) ((J) 7) ((J) 8) ++ (bestw (a 26) ((J) 9) ((J) 10) ++ (btxt (g_D G) a (R) (J) ++ ([(a 30, .inl ((g_D G).1 102, 4, .inr (.inr (.inr (.inr (fun k => some (a (31 + 2 * k))))))))] ++ (sheetw (g_D G) (fun i => a (31 + i)) (fun jz => (C) (40 * 0 + jz)) ((R) 3 0) ((R) 4 0) ++ (sheetw (g_D G) (fun i => a (33 + i)) (fun jz => (C) (40 * 1 + jz)) ((R) 3 1) ((R) 4 1)))))))))) (sheetw (g_D G) (fun i => a (37 + i)) (fun jz => (C) (40 * 3 + jz)) ((R) 3 3) ((R) 4 3)) rfl gX6_copy_X2_hasSpan rfl hyX2_hasSpan rfl (by decide) (by decide) 0 rfl rfl rfl (Nat.le_of_ble_eq_true rfl) ⟨Nat.zero_le _, Nat.zero_le _⟩ dX6_copy_82 ?_
              intro w hw
              subst hw
              refine V_ws (ws' := bw (g_D G) a (Z) (K) (R) (C) (YT) (J)) rfl ?_
              refine rb_if_eq (tgt := 100) hG dX6_copy_85 (by decide) (fun c85 => ?_) (fun c85 => ?_)
              · try simp only [decide_eq_true_eq, decide_eq_false_iff_not] at c85
                refine r_aload_n (i := 0) hG dX6_copy_100 rfl rfl ?_
                refine r_iconst hG dX6_copy_101 ?_
                refine r_callVi hG (c_X6_finding (g_l G) (g_D G) a (Z) (K) (R) (C) (YT) (J) 0 (by omega))  gX6_copy_X6_finding rfl hyX6_finding rfl (by decide) (by decide) 0 rfl rfl rfl (Nat.le_of_ble_eq_true rfl) ⟨Nat.zero_le _, Nat.zero_le _⟩ dX6_copy_102 (fun w hw => ?_)
                subst hw
                exact r_iret hG hE dX6_copy_105 (by unfold s_copy; (try dsimp only); (repeat (first | rw [if_pos (by omega)] | rw [if_neg (by omega)])) <;> (first | rfl | skip)) ⟨YT, J, by unfold s_copy; (try dsimp only); (repeat (first | rw [if_pos (by omega)] | rw [if_neg (by omega)])) <;> (first | rfl | skip)⟩
              · try simp only [decide_eq_true_eq, decide_eq_false_iff_not] at c85
                refine r_aload hG dX6_copy_88 rfl ?_
                refine r_iload hG dX6_copy_90 rfl ?_
                refine r_iload hG dX6_copy_92 rfl ?_
                refine r_midi hG (c_X2_hasSpan (g_l G) (g_D G) (fun i => a (37 + i)) (fun jz => (C) (40 * 3 + jz)) ((R) 3 3) ((R) 4 3) (by omega) _ _ (by omega) (by omega)) (bobj (g_D G) a (R) ++ (yw (g_D G) (fun i => a (2 + i)) (Z) ((J) 0) ((J) 1) ((J) 2) ++ (yw (g_D G) (fun i => a (10 + i)) (K) ((J) 3) ((J) 4) ((J) 5) ++ (yw (g_D G) (fun i => a (18 + i)) (YT) ((J) 6) ((J) 7) ((J) 8) ++ (bestw (a 26) ((J) 9) ((J) 10) ++ (btxt (g_D G) a (R) (J) ++ ([(a 30, .inl ((g_D G).1 102, 4, .inr (.inr (.inr (.inr (fun k => some (a (31 + 2 * k))))))))] ++ (sheetw (g_D G) (fun i => a (31 + i)) (fun jz => (C) (40 * 0 + jz)) ((R) 3 0) ((R) 4 0) ++ (sheetw (g_D G) (fun i => a (33 + i)) (fun jz => (C) (40 * 1 + jz)) ((R) 3 1) ((R) 4 1) ++ (sheetw (g_D G) (fun i => a (35 + i)) (fun jz => (C) (40 * 2 + jz)) ((R) 3 2) ((R) 4 2))))))))))) ([]) rfl gX6_copy_X2_hasSpan rfl hyX2_hasSpan rfl (by decide) (by decide) 0 rfl rfl rfl (Nat.le_of_ble_eq_true rfl) ⟨Nat.zero_le _, Nat.zero_le _⟩ dX6_copy_94 ?_
                intro w hw
                subst hw
                refine V_ws (ws' := bw (g_D G) a (Z) (K) (R) (C) (YT) (J)) rfl ?_
                refine rb_if_ne (tgt := 106) hG dX6_copy_97 (by decide) (fun c97 => ?_) (fun c97 => ?_)
                · try simp only [decide_eq_true_eq, decide_eq_false_iff_not] at c97
                  refine r_aload hG dX6_copy_106 rfl ?_
                  refine r_get hG cX6_copy_X2 35 0 rfl rfl (by decide) kX6_copy_216 rfl dX6_copy_108 ?_
                  refine r_iload_n (i := 2) hG dX6_copy_111 rfl rfl ?_
                  refine r_aload hG dX6_copy_112 rfl ?_
                  refine r_get hG cX6_copy_X2 37 0 rfl rfl (by decide) kX6_copy_216 rfl dX6_copy_114 ?_
                  refine r_iload hG dX6_copy_117 rfl ?_
                  refine r_iload hG dX6_copy_119 rfl ?_
                  refine r_copyl hG 36 38 rfl rfl (by omega) (by omega) (by omega) (by omega) (by omega) (List.mem_of_getElem? (i := 4) rfl) (List.mem_of_getElem? (i := 5) rfl) (List.mem_of_getElem? (i := 6) rfl) (List.mem_of_getElem? (i := 7) rfl) (by decide) (Nat.le_of_ble_eq_true rfl) dX6_copy_121 (ws' := bwX (g_D G) a (Z) (K) (R) (fun jz => (C) (40 * 0 + jz)) (fun jz => (C) (40 * 1 + jz)) (fun jz => (C) (40 * 2 + jz)) (cpy1 (fun jz => (C) (40 * 2 + jz)) (fun jz => (C) (40 * 3 + jz)) f u n) (YT) (J)) rfl ?_
                  refine V_shC (C := cpyC C (40 * 2 + f) (40 * 3 + u) n) (fun j h0 h1 => cpy_other (by omega)) (fun j h0 h1 => cpy_other (by omega)) (fun j h0 h1 => cpy_other (by omega)) (fun j h0 h1 => cpy_same j) ?_
                  refine r_iload hG dX6_copy_124 rfl ?_
                  exact r_iret hG hE dX6_copy_126 (by unfold s_copy; (try dsimp only); (repeat (first | rw [if_pos (by omega)] | rw [if_neg (by omega)])) <;> (first | rfl | skip)) ⟨YT, J, by unfold s_copy; (try dsimp only); (repeat (first | rw [if_pos (by omega)] | rw [if_neg (by omega)])) <;> (first | rfl | skip)⟩
                · try simp only [decide_eq_true_eq, decide_eq_false_iff_not] at c97
                  refine r_aload_n (i := 0) hG dX6_copy_100 rfl rfl ?_
                  refine r_iconst hG dX6_copy_101 ?_
                  refine r_callVi hG (c_X6_finding (g_l G) (g_D G) a (Z) (K) (R) (C) (YT) (J) 0 (by omega))  gX6_copy_X6_finding rfl hyX6_finding rfl (by decide) (by decide) 0 rfl rfl rfl (Nat.le_of_ble_eq_true rfl) ⟨Nat.zero_le _, Nat.zero_le _⟩ dX6_copy_102 (fun w hw => ?_)
                  subst hw
                  exact r_iret hG hE dX6_copy_105 (by unfold s_copy; (try dsimp only); (repeat (first | rw [if_pos (by omega)] | rw [if_neg (by omega)])) <;> (first | rfl | skip)) ⟨YT, J, by unfold s_copy; (try dsimp only); (repeat (first | rw [if_pos (by omega)] | rw [if_neg (by omega)])) <;> (first | rfl | skip)⟩
            · refine r_aload_n (i := 0) hG dX6_copy_71 rfl rfl ?_
              refine r_iconst hG dX6_copy_72 ?_
              refine r_callVi hG (c_X6_finding (g_l G) (g_D G) a (Z) (K) (R) (C) (YT) (J) 2 (by omega))  gX6_copy_X6_finding rfl hyX6_finding rfl (by decide) (by decide) 0 rfl rfl rfl (Nat.le_of_ble_eq_true rfl) ⟨Nat.zero_le _, Nat.zero_le _⟩ dX6_copy_73 (fun w hw => ?_)
              subst hw
              exact r_iret hG hE dX6_copy_76 (by unfold s_copy; (try dsimp only); (repeat (first | rw [if_pos (by omega)] | rw [if_neg (by omega)])) <;> (first | rfl | skip)) ⟨YT, J, by unfold s_copy; (try dsimp only); (repeat (first | rw [if_pos (by omega)] | rw [if_neg (by omega)])) <;> (first | rfl | skip)⟩
          · try simp only [decide_eq_true_eq, decide_eq_false_iff_not] at c49
            refine r_aload_n (i := 0) hG dX6_copy_52 rfl rfl ?_
            refine r_iconst hG dX6_copy_53 ?_
            refine r_callVi hG (c_X6_finding (g_l G) (g_D G) a (Z) (K) (R) (C) (YT) (J) 5 (by omega))  gX6_copy_X6_finding rfl hyX6_finding rfl (by decide) (by decide) 0 rfl rfl rfl (Nat.le_of_ble_eq_true rfl) ⟨Nat.zero_le _, Nat.zero_le _⟩ dX6_copy_54 (fun w hw => ?_)
            subst hw
            exact r_iret hG hE dX6_copy_57 (by unfold s_copy; (try dsimp only); (repeat (first | rw [if_pos (by omega)] | rw [if_neg (by omega)])) <;> (first | rfl | skip)) ⟨YT, J, by unfold s_copy; (try dsimp only); (repeat (first | rw [if_pos (by omega)] | rw [if_neg (by omega)])) <;> (first | rfl | skip)⟩
    · subst hv4
      rcases (show t = 0 ∨ t = 1 ∨ t = 2 ∨ t = 3 by omega) with hv4 | hv4 | hv4 | hv4
      · subst hv4
        refine r_aload_n (i := 0) hG dX6_copy_20 rfl rfl ?_
        refine r_get hG cX6_copy_X6 0 6 rfl rfl (by decide) kX6_copy_43 rfl dX6_copy_21 ?_
        refine r_iload_n (i := 1) hG dX6_copy_24 rfl rfl ?_
        refine r_aldq hG 30 rfl (by omega) (by decide) dX6_copy_25 (v := .ref (a 37)) rfl ?_
        refine r_astore hG dX6_copy_26 (by decide) rfl ?_
        refine r_aload_n (i := 0) hG dX6_copy_28 rfl rfl ?_
        refine r_get hG cX6_copy_X6 0 6 rfl rfl (by decide) kX6_copy_43 rfl dX6_copy_29 ?_
        refine r_iload_n (i := 3) hG dX6_copy_32 rfl rfl ?_
        refine r_aldq hG 30 rfl (by omega) (by decide) dX6_copy_33 (v := .ref (a 31)) rfl ?_
        refine r_astore hG dX6_copy_34 (by decide) rfl ?_
        refine r_aload hG dX6_copy_36 rfl ?_
        refine r_midi hG (c_X2_isMissing (g_l G) (g_D G) (fun i => a (37 + i)) (fun jz => (C) (40 * 3 + jz)) ((R) 3 3) ((R) 4 3) (by omega)) (bobj (g_D G) a (R) ++ (yw (g_D G) (fun i => a (2 + i)) (Z) ((J) 0) ((J) 1) ((J) 2) ++ (yw (g_D G) (fun i => a (10 + i)) (K) ((J) 3) ((J) 4) ((J) 5) ++ (yw (g_D G) (fun i => a (18 + i)) (YT) ((J) 6) ((J) 7) ((J) 8) ++ (bestw (a 26) ((J) 9) ((J) 10) ++ (btxt (g_D G) a (R) (J) ++ ([(a 30, .inl ((g_D G).1 102, 4, .inr (.inr (.inr (.inr (fun k => some (a (31 + 2 * k))))))))] ++ (sheetw (g_D G) (fun i => a (31 + i)) (fun jz => (C) (40 * 0 + jz)) ((R) 3 0) ((R) 4 0) ++ (sheetw (g_D G) (fun i => a (33 + i)) (fun jz => (C) (40 * 1 + jz)) ((R) 3 1) ((R) 4 1) ++ (sheetw (g_D G) (fun i => a (35 + i)) (fun jz => (C) (40 * 2 + jz)) ((R) 3 2) ((R) 4 2))))))))))) ([]) rfl gX6_copy_X2_isMissing rfl hyX2_isMissing rfl (by decide) (by decide) 0 rfl rfl rfl (Nat.le_of_ble_eq_true rfl) ⟨Nat.zero_le _, Nat.zero_le _⟩ dX6_copy_38 ?_
        intro w hw
        subst hw
        refine V_ws (ws' := bw (g_D G) a (Z) (K) (R) (C) (YT) (J)) rfl ?_
        refine rb_if_ne (tgt := 52) hG dX6_copy_41 (by decide) (fun c41 => ?_) (fun c41 => ?_)
        · try simp only [decide_eq_true_eq, decide_eq_false_iff_not] at c41
          refine r_aload_n (i := 0) hG dX6_copy_52 rfl rfl ?_
          refine r_iconst hG dX6_copy_53 ?_
          refine r_callVi hG (c_X6_finding (g_l G) (g_D G) a (Z) (K) (R) (C) (YT) (J) 5 (by omega))  gX6_copy_X6_finding rfl hyX6_finding rfl (by decide) (by decide) 0 rfl rfl rfl (Nat.le_of_ble_eq_true rfl) ⟨Nat.zero_le _, Nat.zero_le _⟩ dX6_copy_54 (fun w hw => ?_)
          subst hw
          exact r_iret hG hE dX6_copy_57 (by unfold s_copy; (try dsimp only); (repeat (first | rw [if_pos (by omega)] | rw [if_neg (by omega)])) <;> (first | rfl | skip)) ⟨YT, J, by unfold s_copy; (try dsimp only); (repeat (first | rw [if_pos (by omega)] | rw [if_neg (by omega)])) <;> (first | rfl | skip)⟩
        · try simp only [decide_eq_true_eq, decide_eq_false_iff_not] at c41
          refine r_aload hG dX6_copy_44 rfl ?_
          refine r_midi hG (c_X2_isMissing (g_l G) (g_D G) (fun i => a (31 + i)) (fun jz => (C) (40 * 0 + jz)) ((R) 3 0) ((R) 4 0) (by omega)) (bobj (g_D G) a (R) ++ (yw (g_D G) (fun i => a (2 + i)) (Z) ((J) 0) ((J) 1) ((J) 2) ++ (yw (g_D G) (fun i => a (10 + i)) (K) ((J) 3) ((J) 4) ((J) 5) ++ (yw (g_D G) (fun i => a (18 + i)) (YT) ((J) 6) ((J) 7) ((J) 8) ++ (bestw (a 26) ((J) 9) ((J) 10) ++ (btxt (g_D G) a (R) (J) ++ ([(a 30, .inl ((g_D G).1 102, 4, .inr (.inr (.inr (.inr (fun k => some (a (31 + 2 * k))))))))]))))))) (sheetw (g_D G) (fun i => a (33 + i)) (fun jz => (C) (40 * 1 + jz)) ((R) 3 1) ((R) 4 1) ++ (sheetw (g_D G) (fun i => a (35 + i)) (fun jz => (C) (40 * 2 + jz)) ((R) 3 2) ((R) 4 2) ++ (sheetw (g_D G) (fun i => a (37 + i)) (fun jz => (C) (40 * 3 + jz)) ((R) 3 3) ((R) 4 3)))) rfl gX6_copy_X2_isMissing rfl hyX2_isMissing rfl (by decide) (by decide) 0 rfl rfl rfl (Nat.le_of_ble_eq_true rfl) ⟨Nat.zero_le _, Nat.zero_le _⟩ dX6_copy_46 ?_
          intro w hw
          subst hw
          refine V_ws (ws' := bw (g_D G) a (Z) (K) (R) (C) (YT) (J)) rfl ?_
          refine rb_if_eq (tgt := 58) hG dX6_copy_49 (by decide) (fun c49 => ?_) (fun c49 => ?_)
          · try simp only [decide_eq_true_eq, decide_eq_false_iff_not] at c49
            refine r_aload hG dX6_copy_58 rfl ?_
            refine r_get hG cX6_copy_X2 37 1 rfl rfl (by decide) kX6_copy_224 rfl dX6_copy_60 ?_
            refine r_aload hG dX6_copy_63 rfl ?_
            refine r_get hG cX6_copy_X2 31 1 rfl rfl (by decide) kX6_copy_224 rfl dX6_copy_65 ?_
            refine r_icmp_eq (tgt := 77) hG (by omega) (by omega) dX6_copy_68 (by decide) (fun c68 => ?_) (fun c68 => ?_)
            · refine r_aload hG dX6_copy_77 rfl ?_
              refine r_iload_n (i := 2) hG dX6_copy_79 rfl rfl ?_
              refine r_iload hG dX6_copy_80 rfl ?_
              refine r_midi hG (c_X2_hasSpan (g_l G) (g_D G) (fun i => a (37 + i)) (fun jz => (C) (40 * 3 + jz)) ((R) 3 3) ((R) 4 3) (by omega) _ _ (by omega) (by omega)) (bobj (g_D G) a (R) ++ (yw (g_D G) (fun i => a (2 + i)) (Z) ((J) 0) ((J) 1) ((J) 2) ++ (yw (g_D G) (fun i => a (10 + i)) (K) ((J) 3) ((J) 4) ((J) 5) ++ (yw (g_D G) (fun i => a (18 + i)) (YT) ((J) 6) ((J) 7) ((J) 8) ++ (bestw (a 26) ((J) 9) ((J) 10) ++ (btxt (g_D G) a (R) (J) ++ ([(a 30, .inl ((g_D G).1 102, 4, .inr (.inr (.inr (.inr (fun k => some (a (31 + 2 * k))))))))] ++ (sheetw (g_D G) (fun i => a (31 + i)) (fun jz => (C) (40 * 0 + jz)) ((R) 3 0) ((R) 4 0) ++ (sheetw (g_D G) (fun i => a (33 + i)) (fun jz => (C) (40 * 1 + jz)) ((R) 3 1) ((R) 4 1) ++ (sheetw (g_D G) (fun i => a (35 + i)) (fun jz => (C) (40 * 2 + jz)) ((R) 3 2) ((R) 4 2))))))))))) ([]) rfl gX6_copy_X2_hasSpan rfl hyX2_hasSpan rfl (by decide) (by decide) 0 rfl rfl rfl (Nat.le_of_ble_eq_true rfl) ⟨Nat.zero_le _, Nat.zero_le _⟩ dX6_copy_82 ?_
              intro w hw
              subst hw
              refine V_ws (ws' := bw (g_D G) a (Z) (K) (R) (C) (YT) (J)) rfl ?_
              refine rb_if_eq (tgt := 100) hG dX6_copy_85 (by decide) (fun c85 => ?_) (fun c85 => ?_)
              · try simp only [decide_eq_true_eq, decide_eq_false_iff_not] at c85
                refine r_aload_n (i := 0) hG dX6_copy_100 rfl rfl ?_
                refine r_iconst hG dX6_copy_101 ?_
                refine r_callVi hG (c_X6_finding (g_l G) (g_D G) a (Z) (K) (R) (C) (YT) (J) 0 (by omega))  gX6_copy_X6_finding rfl hyX6_finding rfl (by decide) (by decide) 0 rfl rfl rfl (Nat.le_of_ble_eq_true rfl) ⟨Nat.zero_le _, Nat.zero_le _⟩ dX6_copy_102 (fun w hw => ?_)
                subst hw
                exact r_iret hG hE dX6_copy_105 (by unfold s_copy; (try dsimp only); (repeat (first | rw [if_pos (by omega)] | rw [if_neg (by omega)])) <;> (first | rfl | skip)) ⟨YT, J, by unfold s_copy; (try dsimp only); (repeat (first | rw [if_pos (by omega)] | rw [if_neg (by omega)])) <;> (first | rfl | skip)⟩
              · try simp only [decide_eq_true_eq, decide_eq_false_iff_not] at c85
                refine r_aload hG dX6_copy_88 rfl ?_
                refine r_iload hG dX6_copy_90 rfl ?_
                refine r_iload hG dX6_copy_92 rfl ?_
                refine r_midi hG (c_X2_hasSpan (g_l G) (g_D G) (fun i => a (31 + i)) (fun jz => (C) (40 * 0 + jz)) ((R) 3 0) ((R) 4 0) (by omega) _ _ (by omega) (by omega)) (bobj (g_D G) a (R) ++ (yw (g_D G) (fun i => a (2 + i)) (Z) ((J) 0) ((J) 1) ((J) 2) ++ (yw (g_D G) (fun i => a (10 + i)) (K) ((J) 3) ((J) 4) ((J) 5) ++ (yw (g_D G) (fun i => a (18 + i)) (YT) ((J) 6) ((J) 7) ((J) 8) ++ (bestw (a 26) ((J) 9) ((J) 10) ++ (btxt (g_D G) a (R) (J) ++ ([(a 30, .inl ((g_D G).1 102, 4, .inr (.inr (.inr (.inr (fun k => some (a (31 + 2 * k))))))))]))))))) (sheetw (g_D G) (fun i => a (33 + i)) (fun jz => (C) (40 * 1 + jz)) ((R) 3 1) ((R) 4 1) ++ (sheetw (g_D G) (fun i => a (35 + i)) (fun jz => (C) (40 * 2 + jz)) ((R) 3 2) ((R) 4 2) ++ (sheetw (g_D G) (fun i => a (37 + i)) (fun jz => (C) (40 * 3 + jz)) ((R) 3 3) ((R) 4 3)))) rfl gX6_copy_X2_hasSpan rfl hyX2_hasSpan rfl (by decide) (by decide) 0 rfl rfl rfl (Nat.le_of_ble_eq_true rfl) ⟨Nat.zero_le _, Nat.zero_le _⟩ dX6_copy_94 ?_
                intro w hw
                subst hw
                refine V_ws (ws' := bw (g_D G) a (Z) (K) (R) (C) (YT) (J)) rfl ?_
                refine rb_if_ne (tgt := 106) hG dX6_copy_97 (by decide) (fun c97 => ?_) (fun c97 => ?_)
                · try simp only [decide_eq_true_eq, decide_eq_false_iff_not] at c97
                  refine r_aload hG dX6_copy_106 rfl ?_
                  refine r_get hG cX6_copy_X2 37 0 rfl rfl (by decide) kX6_copy_216 rfl dX6_copy_108 ?_
                  refine r_iload_n (i := 2) hG dX6_copy_111 rfl rfl ?_
                  refine r_aload hG dX6_copy_112 rfl ?_
                  refine r_get hG cX6_copy_X2 31 0 rfl rfl (by decide) kX6_copy_216 rfl dX6_copy_114 ?_
                  refine r_iload hG dX6_copy_117 rfl ?_
                  refine r_iload hG dX6_copy_119 rfl ?_
                  refine r_copyl hG 38 32 rfl rfl (by omega) (by omega) (by omega) (by omega) (by omega) (List.mem_of_getElem? (i := 4) rfl) (List.mem_of_getElem? (i := 5) rfl) (List.mem_of_getElem? (i := 6) rfl) (List.mem_of_getElem? (i := 7) rfl) (by decide) (Nat.le_of_ble_eq_true rfl) dX6_copy_121 (ws' := bwX (g_D G) a (Z) (K) (R) (cpy1 (fun jz => (C) (40 * 3 + jz)) (fun jz => (C) (40 * 0 + jz)) f u n) (fun jz => (C) (40 * 1 + jz)) (fun jz => (C) (40 * 2 + jz)) (fun jz => (C) (40 * 3 + jz)) (YT) (J)) rfl ?_
                  refine V_shC (C := cpyC C (40 * 3 + f) (40 * 0 + u) n) (fun j h0 h1 => cpy_same j) (fun j h0 h1 => cpy_other (by omega)) (fun j h0 h1 => cpy_other (by omega)) (fun j h0 h1 => cpy_other (by omega)) ?_
                  refine r_iload hG dX6_copy_124 rfl ?_
                  exact r_iret hG hE dX6_copy_126 (by unfold s_copy; (try dsimp only); (repeat (first | rw [if_pos (by omega)] | rw [if_neg (by omega)])) <;> (first | rfl | skip)) ⟨YT, J, by unfold s_copy; (try dsimp only); (repeat (first | rw [if_pos (by omega)] | rw [if_neg (by omega)])) <;> (first | rfl | skip)⟩
                · try simp only [decide_eq_true_eq, decide_eq_false_iff_not] at c97
                  refine r_aload_n (i := 0) hG dX6_copy_100 rfl rfl ?_
                  refine r_iconst hG dX6_copy_101 ?_
                  refine r_callVi hG (c_X6_finding (g_l G) (g_D G) a (Z) (K) (R) (C) (YT) (J) 0 (by omega))  gX6_copy_X6_finding rfl hyX6_finding rfl (by decide) (by decide) 0 rfl rfl rfl (Nat.le_of_ble_eq_true rfl) ⟨Nat.zero_le _, Nat.zero_le _⟩ dX6_copy_102 (fun w hw => ?_)
                  subst hw
                  exact r_iret hG hE dX6_copy_105 (by unfold s_copy; (try dsimp only); (repeat (first | rw [if_pos (by omega)] | rw [if_neg (by omega)])) <;> (first | rfl | skip)) ⟨YT, J, by unfold s_copy; (try dsimp only); (repeat (first | rw [if_pos (by omega)] | rw [if_neg (by omega)])) <;> (first | rfl | skip)⟩
            · refine r_aload_n (i := 0) hG dX6_copy_71 rfl rfl ?_
              refine r_iconst hG dX6_copy_72 ?_
              refine r_callVi hG (c_X6_finding (g_l G) (g_D G) a (Z) (K) (R) (C) (YT) (J) 2 (by omega))  gX6_copy_X6_finding rfl hyX6_finding rfl (by decide) (by decide) 0 rfl rfl rfl (Nat.le_of_ble_eq_true rfl) ⟨Nat.zero_le _, Nat.zero_le _⟩ dX6_copy_73 (fun w hw => ?_)
              subst hw
              exact r_iret hG hE dX6_copy_76 (by unfold s_copy; (try dsimp only); (repeat (first | rw [if_pos (by omega)] | rw [if_neg (by omega)])) <;> (first | rfl | skip)) ⟨YT, J, by unfold s_copy; (try dsimp only); (repeat (first | rw [if_pos (by omega)] | rw [if_neg (by omega)])) <;> (first | rfl | skip)⟩
          · try simp only [decide_eq_true_eq, decide_eq_false_iff_not] at c49
            refine r_aload_n (i := 0) hG dX6_copy_52 rfl rfl ?_
            refine r_iconst hG dX6_copy_53 ?_
            refine r_callVi hG (c_X6_finding (g_l G) (g_D G) a (Z) (K) (R) (C) (YT) (J) 5 (by omega))  gX6_copy_X6_finding rfl hyX6_finding rfl (by decide) (by decide) 0 rfl rfl rfl (Nat.le_of_ble_eq_true rfl) ⟨Nat.zero_le _, Nat.zero_le _⟩ dX6_copy_54 (fun w hw => ?_)
            subst hw
            exact r_iret hG hE dX6_copy_57 (by unfold s_copy; (try dsimp only); (repeat (first | rw [if_pos (by omega)] | rw [if_neg (by omega)])) <;> (first | rfl | skip)) ⟨YT, J, by unfold s_copy; (try dsimp only); (repeat (first | rw [if_pos (by omega)] | rw [if_neg (by omega)])) <;> (first | rfl | skip)⟩
      · subst hv4
        refine r_aload_n (i := 0) hG dX6_copy_20 rfl rfl ?_
        refine r_get hG cX6_copy_X6 0 6 rfl rfl (by decide) kX6_copy_43 rfl dX6_copy_21 ?_
        refine r_iload_n (i := 1) hG dX6_copy_24 rfl rfl ?_
        refine r_aldq hG 30 rfl (by omega) (by decide) dX6_copy_25 (v := .ref (a 37)) rfl ?_
        refine r_astore hG dX6_copy_26 (by decide) rfl ?_
        refine r_aload_n (i := 0) hG dX6_copy_28 rfl rfl ?_
        refine r_get hG cX6_copy_X6 0 6 rfl rfl (by decide) kX6_copy_43 rfl dX6_copy_29 ?_
        refine r_iload_n (i := 3) hG dX6_copy_32 rfl rfl ?_
        refine r_aldq hG 30 rfl (by omega) (by decide) dX6_copy_33 (v := .ref (a 33)) rfl ?_
        refine r_astore hG dX6_copy_34 (by decide) rfl ?_
        refine r_aload hG dX6_copy_36 rfl ?_
        refine r_midi hG (c_X2_isMissing (g_l G) (g_D G) (fun i => a (37 + i)) (fun jz => (C) (40 * 3 + jz)) ((R) 3 3) ((R) 4 3) (by omega)) (bobj (g_D G) a (R) ++ (yw (g_D G) (fun i => a (2 + i)) (Z) ((J) 0) ((J) 1) ((J) 2) ++ (yw (g_D G) (fun i => a (10 + i)) (K) ((J) 3) ((J) 4) ((J) 5) ++ (yw (g_D G) (fun i => a (18 + i)) (YT) ((J) 6) ((J) 7) ((J) 8) ++ (bestw (a 26) ((J) 9) ((J) 10) ++ (btxt (g_D G) a (R) (J) ++ ([(a 30, .inl ((g_D G).1 102, 4, .inr (.inr (.inr (.inr (fun k => some (a (31 + 2 * k))))))))] ++ (sheetw (g_D G) (fun i => a (31 + i)) (fun jz => (C) (40 * 0 + jz)) ((R) 3 0) ((R) 4 0) ++ (sheetw (g_D G) (fun i => a (33 + i)) (fun jz => (C) (40 * 1 + jz)) ((R) 3 1) ((R) 4 1) ++ (sheetw (g_D G) (fun i => a (35 + i)) (fun jz => (C) (40 * 2 + jz)) ((R) 3 2) ((R) 4 2))))))))))) ([]) rfl gX6_copy_X2_isMissing rfl hyX2_isMissing rfl (by decide) (by decide) 0 rfl rfl rfl (Nat.le_of_ble_eq_true rfl) ⟨Nat.zero_le _, Nat.zero_le _⟩ dX6_copy_38 ?_
        intro w hw
        subst hw
        refine V_ws (ws' := bw (g_D G) a (Z) (K) (R) (C) (YT) (J)) rfl ?_
        refine rb_if_ne (tgt := 52) hG dX6_copy_41 (by decide) (fun c41 => ?_) (fun c41 => ?_)
        · try simp only [decide_eq_true_eq, decide_eq_false_iff_not] at c41
          refine r_aload_n (i := 0) hG dX6_copy_52 rfl rfl ?_
          refine r_iconst hG dX6_copy_53 ?_
          refine r_callVi hG (c_X6_finding (g_l G) (g_D G) a (Z) (K) (R) (C) (YT) (J) 5 (by omega))  gX6_copy_X6_finding rfl hyX6_finding rfl (by decide) (by decide) 0 rfl rfl rfl (Nat.le_of_ble_eq_true rfl) ⟨Nat.zero_le _, Nat.zero_le _⟩ dX6_copy_54 (fun w hw => ?_)
          subst hw
          exact r_iret hG hE dX6_copy_57 (by unfold s_copy; (try dsimp only); (repeat (first | rw [if_pos (by omega)] | rw [if_neg (by omega)])) <;> (first | rfl | skip)) ⟨YT, J, by unfold s_copy; (try dsimp only); (repeat (first | rw [if_pos (by omega)] | rw [if_neg (by omega)])) <;> (first | rfl | skip)⟩
        · try simp only [decide_eq_true_eq, decide_eq_false_iff_not] at c41
          refine r_aload hG dX6_copy_44 rfl ?_
          refine r_midi hG (c_X2_isMissing (g_l G) (g_D G) (fun i => a (33 + i)) (fun jz => (C) (40 * 1 + jz)) ((R) 3 1) ((R) 4 1) (by omega)) (bobj (g_D G) a (R) ++ (yw (g_D G) (fun i => a (2 + i)) (Z) ((J) 0) ((J) 1) ((J) 2) ++ (yw (g_D G) (fun i => a (10 + i)) (K) ((J) 3) ((J) 4) ((J) 5) ++ (yw (g_D G) (fun i => a (18 + i)) (YT) ((J) 6) ((J) 7) ((J) 8) ++ (bestw (a 26) ((J) 9) ((J) 10) ++ (btxt (g_D G) a (R) (J) ++ ([(a 30, .inl ((g_D G).1 102, 4, .inr (.inr (.inr (.inr (fun k => some (a (31 + 2 * k))))))))] ++ (sheetw (g_D G) (fun i => a (31 + i)) (fun jz => (C) (40 * 0 + jz)) ((R) 3 0) ((R) 4 0))))))))) (sheetw (g_D G) (fun i => a (35 + i)) (fun jz => (C) (40 * 2 + jz)) ((R) 3 2) ((R) 4 2) ++ (sheetw (g_D G) (fun i => a (37 + i)) (fun jz => (C) (40 * 3 + jz)) ((R) 3 3) ((R) 4 3))) rfl gX6_copy_X2_isMissing rfl hyX2_isMissing rfl (by decide) (by decide) 0 rfl rfl rfl (Nat.le_of_ble_eq_true rfl) ⟨Nat.zero_le _, Nat.zero_le _⟩ dX6_copy_46 ?_
          intro w hw
          subst hw
          refine V_ws (ws' := bw (g_D G) a (Z) (K) (R) (C) (YT) (J)) rfl ?_
          refine rb_if_eq (tgt := 58) hG dX6_copy_49 (by decide) (fun c49 => ?_) (fun c49 => ?_)
          · try simp only [decide_eq_true_eq, decide_eq_false_iff_not] at c49
            refine r_aload hG dX6_copy_58 rfl ?_
            refine r_get hG cX6_copy_X2 37 1 rfl rfl (by decide) kX6_copy_224 rfl dX6_copy_60 ?_
            refine r_aload hG dX6_copy_63 rfl ?_
            refine r_get hG cX6_copy_X2 33 1 rfl rfl (by decide) kX6_copy_224 rfl dX6_copy_65 ?_
            refine r_icmp_eq (tgt := 77) hG (by omega) (by omega) dX6_copy_68 (by decide) (fun c68 => ?_) (fun c68 => ?_)
            · refine r_aload hG dX6_copy_77 rfl ?_
              refine r_iload_n (i := 2) hG dX6_copy_79 rfl rfl ?_
              refine r_iload hG dX6_copy_80 rfl ?_
              refine r_midi hG (c_X2_hasSpan (g_l G) (g_D G) (fun i => a (37 + i)) (fun jz => (C) (40 * 3 + jz)) ((R) 3 3) ((R) 4 3) (by omega) _ _ (by omega) (by omega)) (bobj (g_D G) a (R) ++ (yw (g_D G) (fun i => a (2 + i)) (Z) ((J) 0) ((J) 1) ((J) 2) ++ (yw (g_D G) (fun i => a (10 + i)) (K) ((J) 3) ((J) 4) ((J) 5) ++ (yw (g_D G) (fun i => a (18 + i)) (YT) ((J) 6) ((J) 7) ((J) 8) ++ (bestw (a 26) ((J) 9) ((J) 10) ++ (btxt (g_D G) a (R) (J) ++ ([(a 30, .inl ((g_D G).1 102, 4, .inr (.inr (.inr (.inr (fun k => some (a (31 + 2 * k))))))))] ++ (sheetw (g_D G) (fun i => a (31 + i)) (fun jz => (C) (40 * 0 + jz)) ((R) 3 0) ((R) 4 0) ++ (sheetw (g_D G) (fun i => a (33 + i)) (fun jz => (C) (40 * 1 + jz)) ((R) 3 1) ((R) 4 1) ++ (sheetw (g_D G) (fun i => a (35 + i)) (fun jz => (C) (40 * 2 + jz)) ((R) 3 2) ((R) 4 2))))))))))) ([]) rfl gX6_copy_X2_hasSpan rfl hyX2_hasSpan rfl (by decide) (by decide) 0 rfl rfl rfl (Nat.le_of_ble_eq_true rfl) ⟨Nat.zero_le _, Nat.zero_le _⟩ dX6_copy_82 ?_
              intro w hw
              subst hw
              refine V_ws (ws' := bw (g_D G) a (Z) (K) (R) (C) (YT) (J)) rfl ?_
              refine rb_if_eq (tgt := 100) hG dX6_copy_85 (by decide) (fun c85 => ?_) (fun c85 => ?_)
              · try simp only [decide_eq_true_eq, decide_eq_false_iff_not] at c85
                refine r_aload_n (i := 0) hG dX6_copy_100 rfl rfl ?_
                refine r_iconst hG dX6_copy_101 ?_
                refine r_callVi hG (c_X6_finding (g_l G) (g_D G) a (Z) (K) (R) (C) (YT) (J) 0 (by omega))  gX6_copy_X6_finding rfl hyX6_finding rfl (by decide) (by decide) 0 rfl rfl rfl (Nat.le_of_ble_eq_true rfl) ⟨Nat.zero_le _, Nat.zero_le _⟩ dX6_copy_102 (fun w hw => ?_)
                subst hw
                exact r_iret hG hE dX6_copy_105 (by unfold s_copy; (try dsimp only); (repeat (first | rw [if_pos (by omega)] | rw [if_neg (by omega)])) <;> (first | rfl | skip)) ⟨YT, J, by unfold s_copy; (try dsimp only); (repeat (first | rw [if_pos (by omega)] | rw [if_neg (by omega)])) <;> (first | rfl | skip)⟩
              · try simp only [decide_eq_true_eq, decide_eq_false_iff_not] at c85
                refine r_aload hG dX6_copy_88 rfl ?_
                refine r_iload hG dX6_copy_90 rfl ?_
                refine r_iload hG dX6_copy_92 rfl ?_
                refine r_midi hG (c_X2_hasSpan (g_l G) (g_D G) (fun i => a (33 + i)) (fun jz => (C) (40 * 1 + jz)) ((R) 3 1) ((R) 4 1) (by omega) _ _ (by omega) (by omega)) (bobj (g_D G) a (R) ++ (yw (g_D G) (fun i => a (2 + i)) (Z) ((J) 0) ((J) 1) ((J) 2) ++ (yw (g_D G) (fun i => a (10 + i)) (K) ((J) 3) ((J) 4) ((J) 5) ++ (yw (g_D G) (fun i => a (18 + i)) (YT) ((J) 6) ((J) 7) ((J) 8) ++ (bestw (a 26) ((J) 9) ((J) 10) ++ (btxt (g_D G) a (R) (J) ++ ([(a 30, .inl ((g_D G).1 102, 4, .inr (.inr (.inr (.inr (fun k => some (a (31 + 2 * k))))))))] ++ (sheetw (g_D G) (fun i => a (31 + i)) (fun jz => (C) (40 * 0 + jz)) ((R) 3 0) ((R) 4 0))))))))) (sheetw (g_D G) (fun i => a (35 + i)) (fun jz => (C) (40 * 2 + jz)) ((R) 3 2) ((R) 4 2) ++ (sheetw (g_D G) (fun i => a (37 + i)) (fun jz => (C) (40 * 3 + jz)) ((R) 3 3) ((R) 4 3))) rfl gX6_copy_X2_hasSpan rfl hyX2_hasSpan rfl (by decide) (by decide) 0 rfl rfl rfl (Nat.le_of_ble_eq_true rfl) ⟨Nat.zero_le _, Nat.zero_le _⟩ dX6_copy_94 ?_
                intro w hw
                subst hw
                refine V_ws (ws' := bw (g_D G) a (Z) (K) (R) (C) (YT) (J)) rfl ?_
                refine rb_if_ne (tgt := 106) hG dX6_copy_97 (by decide) (fun c97 => ?_) (fun c97 => ?_)
                · try simp only [decide_eq_true_eq, decide_eq_false_iff_not] at c97
                  refine r_aload hG dX6_copy_106 rfl ?_
                  refine r_get hG cX6_copy_X2 37 0 rfl rfl (by decide) kX6_copy_216 rfl dX6_copy_108 ?_
                  refine r_iload_n (i := 2) hG dX6_copy_111 rfl rfl ?_
                  refine r_aload hG dX6_copy_112 rfl ?_
                  refine r_get hG cX6_copy_X2 33 0 rfl rfl (by decide) kX6_copy_216 rfl dX6_copy_114 ?_
                  refine r_iload hG dX6_copy_117 rfl ?_
                  refine r_iload hG dX6_copy_119 rfl ?_
                  refine r_copyl hG 38 34 rfl rfl (by omega) (by omega) (by omega) (by omega) (by omega) (List.mem_of_getElem? (i := 4) rfl) (List.mem_of_getElem? (i := 5) rfl) (List.mem_of_getElem? (i := 6) rfl) (List.mem_of_getElem? (i := 7) rfl) (by decide) (Nat.le_of_ble_eq_true rfl) dX6_copy_121 (ws' := bwX (g_D G) a (Z) (K) (R) (fun jz => (C) (40 * 0 + jz)) (cpy1 (fun jz => (C) (40 * 3 + jz)) (fun jz => (C) (40 * 1 + jz)) f u n) (fun jz => (C) (40 * 2 + jz)) (fun jz => (C) (40 * 3 + jz)) (YT) (J)) rfl ?_
                  refine V_shC (C := cpyC C (40 * 3 + f) (40 * 1 + u) n) (fun j h0 h1 => cpy_other (by omega)) (fun j h0 h1 => cpy_same j) (fun j h0 h1 => cpy_other (by omega)) (fun j h0 h1 => cpy_other (by omega)) ?_
                  refine r_iload hG dX6_copy_124 rfl ?_
                  exact r_iret hG hE dX6_copy_126 (by unfold s_copy; (try dsimp only); (repeat (first | rw [if_pos (by omega)] | rw [if_neg (by omega)])) <;> (first | rfl | skip)) ⟨YT, J, by unfold s_copy; (try dsimp only); (repeat (first | rw [if_pos (by omega)] | rw [if_neg (by omega)])) <;> (first | rfl | skip)⟩
                · try simp only [decide_eq_true_eq, decide_eq_false_iff_not] at c97
                  refine r_aload_n (i := 0) hG dX6_copy_100 rfl rfl ?_
                  refine r_iconst hG dX6_copy_101 ?_
                  refine r_callVi hG (c_X6_finding (g_l G) (g_D G) a (Z) (K) (R) (C) (YT) (J) 0 (by omega))  gX6_copy_X6_finding rfl hyX6_finding rfl (by decide) (by decide) 0 rfl rfl rfl (Nat.le_of_ble_eq_true rfl) ⟨Nat.zero_le _, Nat.zero_le _⟩ dX6_copy_102 (fun w hw => ?_)
                  subst hw
                  exact r_iret hG hE dX6_copy_105 (by unfold s_copy; (try dsimp only); (repeat (first | rw [if_pos (by omega)] | rw [if_neg (by omega)])) <;> (first | rfl | skip)) ⟨YT, J, by unfold s_copy; (try dsimp only); (repeat (first | rw [if_pos (by omega)] | rw [if_neg (by omega)])) <;> (first | rfl | skip)⟩
            · refine r_aload_n (i := 0) hG dX6_copy_71 rfl rfl ?_
              refine r_iconst hG dX6_copy_72 ?_
              refine r_callVi hG (c_X6_finding (g_l G) (g_D G) a (Z) (K) (R) (C) (YT) (J) 2 (by omega))  gX6_copy_X6_finding rfl hyX6_finding rfl (by decide) (by decide) 0 rfl rfl rfl (Nat.le_of_ble_eq_true rfl) ⟨Nat.zero_le _, Nat.zero_le _⟩ dX6_copy_73 (fun w hw => ?_)
              subst hw
              exact r_iret hG hE dX6_copy_76 (by unfold s_copy; (try dsimp only); (repeat (first | rw [if_pos (by omega)] | rw [if_neg (by omega)])) <;> (first | rfl | skip)) ⟨YT, J, by unfold s_copy; (try dsimp only); (repeat (first | rw [if_pos (by omega)] | rw [if_neg (by omega)])) <;> (first | rfl | skip)⟩
          · try simp only [decide_eq_true_eq, decide_eq_false_iff_not] at c49
            refine r_aload_n (i := 0) hG dX6_copy_52 rfl rfl ?_
            refine r_iconst hG dX6_copy_53 ?_
            refine r_callVi hG (c_X6_finding (g_l G) (g_D G) a (Z) (K) (R) (C) (YT) (J) 5 (by omega))  gX6_copy_X6_finding rfl hyX6_finding rfl (by decide) (by decide) 0 rfl rfl rfl (Nat.le_of_ble_eq_true rfl) ⟨Nat.zero_le _, Nat.zero_le _⟩ dX6_copy_54 (fun w hw => ?_)
            subst hw
            exact r_iret hG hE dX6_copy_57 (by unfold s_copy; (try dsimp only); (repeat (first | rw [if_pos (by omega)] | rw [if_neg (by omega)])) <;> (first | rfl | skip)) ⟨YT, J, by unfold s_copy; (try dsimp only); (repeat (first | rw [if_pos (by omega)] | rw [if_neg (by omega)])) <;> (first | rfl | skip)⟩
      · subst hv4
        refine r_aload_n (i := 0) hG dX6_copy_20 rfl rfl ?_
        refine r_get hG cX6_copy_X6 0 6 rfl rfl (by decide) kX6_copy_43 rfl dX6_copy_21 ?_
        refine r_iload_n (i := 1) hG dX6_copy_24 rfl rfl ?_
        refine r_aldq hG 30 rfl (by omega) (by decide) dX6_copy_25 (v := .ref (a 37)) rfl ?_
        refine r_astore hG dX6_copy_26 (by decide) rfl ?_
        refine r_aload_n (i := 0) hG dX6_copy_28 rfl rfl ?_
        refine r_get hG cX6_copy_X6 0 6 rfl rfl (by decide) kX6_copy_43 rfl dX6_copy_29 ?_
        refine r_iload_n (i := 3) hG dX6_copy_32 rfl rfl ?_
        refine r_aldq hG 30 rfl (by omega) (by decide) dX6_copy_33 (v := .ref (a 35)) rfl ?_
        refine r_astore hG dX6_copy_34 (by decide) rfl ?_
        refine r_aload hG dX6_copy_36 rfl ?_
        refine r_midi hG (c_X2_isMissing (g_l G) (g_D G) (fun i => a (37 + i)) (fun jz => (C) (40 * 3 + jz)) ((R) 3 3) ((R) 4 3) (by omega)) (bobj (g_D G) a (R) ++ (yw (g_D G) (fun i => a (2 + i)) (Z) ((J) 0) ((J) 1) ((J) 2) ++ (yw (g_D G) (fun i => a (10 + i)) (K) ((J) 3) ((J) 4) ((J) 5) ++ (yw (g_D G) (fun i => a (18 + i)) (YT) ((J) 6) ((J) 7) ((J) 8) ++ (bestw (a 26) ((J) 9) ((J) 10) ++ (btxt (g_D G) a (R) (J) ++ ([(a 30, .inl ((g_D G).1 102, 4, .inr (.inr (.inr (.inr (fun k => some (a (31 + 2 * k))))))))] ++ (sheetw (g_D G) (fun i => a (31 + i)) (fun jz => (C) (40 * 0 + jz)) ((R) 3 0) ((R) 4 0) ++ (sheetw (g_D G) (fun i => a (33 + i)) (fun jz => (C) (40 * 1 + jz)) ((R) 3 1) ((R) 4 1) ++ (sheetw (g_D G) (fun i => a (35 + i)) (fun jz => (C) (40 * 2 + jz)) ((R) 3 2) ((R) 4 2))))))))))) ([]) rfl gX6_copy_X2_isMissing rfl hyX2_isMissing rfl (by decide) (by decide) 0 rfl rfl rfl (Nat.le_of_ble_eq_true rfl) ⟨Nat.zero_le _, Nat.zero_le _⟩ dX6_copy_38 ?_
        intro w hw
        subst hw
        refine V_ws (ws' := bw (g_D G) a (Z) (K) (R) (C) (YT) (J)) rfl ?_
        refine rb_if_ne (tgt := 52) hG dX6_copy_41 (by decide) (fun c41 => ?_) (fun c41 => ?_)
        · try simp only [decide_eq_true_eq, decide_eq_false_iff_not] at c41
          refine r_aload_n (i := 0) hG dX6_copy_52 rfl rfl ?_
          refine r_iconst hG dX6_copy_53 ?_
          refine r_callVi hG (c_X6_finding (g_l G) (g_D G) a (Z) (K) (R) (C) (YT) (J) 5 (by omega))  gX6_copy_X6_finding rfl hyX6_finding rfl (by decide) (by decide) 0 rfl rfl rfl (Nat.le_of_ble_eq_true rfl) ⟨Nat.zero_le _, Nat.zero_le _⟩ dX6_copy_54 (fun w hw => ?_)
          subst hw
          exact r_iret hG hE dX6_copy_57 (by unfold s_copy; (try dsimp only); (repeat (first | rw [if_pos (by omega)] | rw [if_neg (by omega)])) <;> (first | rfl | skip)) ⟨YT, J, by unfold s_copy; (try dsimp only); (repeat (first | rw [if_pos (by omega)] | rw [if_neg (by omega)])) <;> (first | rfl | skip)⟩
        · try simp only [decide_eq_true_eq, decide_eq_false_iff_not] at c41
          refine r_aload hG dX6_copy_44 rfl ?_
          refine r_midi hG (c_X2_isMissing (g_l G) (g_D G) (fun i => a (35 + i)) (fun jz => (C) (40 * 2 + jz)) ((R) 3 2) ((R) 4 2) (by omega)) (bobj (g_D G) a (R) ++ (yw (g_D G) (fun i => a (2 + i)) (Z) ((J) 0) ((J) 1) ((J) 2) ++ (yw (g_D G) (fun i => a (10 + i)) (K) ((J) 3) ((J) 4) ((J) 5) ++ (yw (g_D G) (fun i => a (18 + i)) (YT) ((J) 6) ((J) 7) ((J) 8) ++ (bestw (a 26) ((J) 9) ((J) 10) ++ (btxt (g_D G) a (R) (J) ++ ([(a 30, .inl ((g_D G).1 102, 4, .inr (.inr (.inr (.inr (fun k => some (a (31 + 2 * k))))))))] ++ (sheetw (g_D G) (fun i => a (31 + i)) (fun jz => (C) (40 * 0 + jz)) ((R) 3 0) ((R) 4 0) ++ (sheetw (g_D G) (fun i => a (33 + i)) (fun jz => (C) (40 * 1 + jz)) ((R) 3 1) ((R) 4 1)))))))))) (sheetw (g_D G) (fun i => a (37 + i)) (fun jz => (C) (40 * 3 + jz)) ((R) 3 3) ((R) 4 3)) rfl gX6_copy_X2_isMissing rfl hyX2_isMissing rfl (by decide) (by decide) 0 rfl rfl rfl (Nat.le_of_ble_eq_true rfl) ⟨Nat.zero_le _, Nat.zero_le _⟩ dX6_copy_46 ?_
          intro w hw
          subst hw
          refine V_ws (ws' := bw (g_D G) a (Z) (K) (R) (C) (YT) (J)) rfl ?_
          refine rb_if_eq (tgt := 58) hG dX6_copy_49 (by decide) (fun c49 => ?_) (fun c49 => ?_)
          · try simp only [decide_eq_true_eq, decide_eq_false_iff_not] at c49
            refine r_aload hG dX6_copy_58 rfl ?_
            refine r_get hG cX6_copy_X2 37 1 rfl rfl (by decide) kX6_copy_224 rfl dX6_copy_60 ?_
            refine r_aload hG dX6_copy_63 rfl ?_
            refine r_get hG cX6_copy_X2 35 1 rfl rfl (by decide) kX6_copy_224 rfl dX6_copy_65 ?_
            refine r_icmp_eq (tgt := 77) hG (by omega) (by omega) dX6_copy_68 (by decide) (fun c68 => ?_) (fun c68 => ?_)
            · refine r_aload hG dX6_copy_77 rfl ?_
              refine r_iload_n (i := 2) hG dX6_copy_79 rfl rfl ?_
              refine r_iload hG dX6_copy_80 rfl ?_
              refine r_midi hG (c_X2_hasSpan (g_l G) (g_D G) (fun i => a (37 + i)) (fun jz => (C) (40 * 3 + jz)) ((R) 3 3) ((R) 4 3) (by omega) _ _ (by omega) (by omega)) (bobj (g_D G) a (R) ++ (yw (g_D G) (fun i => a (2 + i)) (Z) ((J) 0) ((J) 1) ((J) 2) ++ (yw (g_D G) (fun i => a (10 + i)) (K) ((J) 3) ((J) 4) ((J) 5) ++ (yw (g_D G) (fun i => a (18 + i)) (YT) ((J) 6) ((J) 7) ((J) 8) ++ (bestw (a 26) ((J) 9) ((J) 10) ++ (btxt (g_D G) a (R) (J) ++ ([(a 30, .inl ((g_D G).1 102, 4, .inr (.inr (.inr (.inr (fun k => some (a (31 + 2 * k))))))))] ++ (sheetw (g_D G) (fun i => a (31 + i)) (fun jz => (C) (40 * 0 + jz)) ((R) 3 0) ((R) 4 0) ++ (sheetw (g_D G) (fun i => a (33 + i)) (fun jz => (C) (40 * 1 + jz)) ((R) 3 1) ((R) 4 1) ++ (sheetw (g_D G) (fun i => a (35 + i)) (fun jz => (C) (40 * 2 + jz)) ((R) 3 2) ((R) 4 2))))))))))) ([]) rfl gX6_copy_X2_hasSpan rfl hyX2_hasSpan rfl (by decide) (by decide) 0 rfl rfl rfl (Nat.le_of_ble_eq_true rfl) ⟨Nat.zero_le _, Nat.zero_le _⟩ dX6_copy_82 ?_
              intro w hw
              subst hw
              refine V_ws (ws' := bw (g_D G) a (Z) (K) (R) (C) (YT) (J)) rfl ?_
              refine rb_if_eq (tgt := 100) hG dX6_copy_85 (by decide) (fun c85 => ?_) (fun c85 => ?_)
              · try simp only [decide_eq_true_eq, decide_eq_false_iff_not] at c85
                refine r_aload_n (i := 0) hG dX6_copy_100 rfl rfl ?_
                refine r_iconst hG dX6_copy_101 ?_
                refine r_callVi hG (c_X6_finding (g_l G) (g_D G) a (Z) (K) (R) (C) (YT) (J) 0 (by omega))  gX6_copy_X6_finding rfl hyX6_finding rfl (by decide) (by decide) 0 rfl rfl rfl (Nat.le_of_ble_eq_true rfl) ⟨Nat.zero_le _, Nat.zero_le _⟩ dX6_copy_102 (fun w hw => ?_)
                subst hw
                exact r_iret hG hE dX6_copy_105 (by unfold s_copy; (try dsimp only); (repeat (first | rw [if_pos (by omega)] | rw [if_neg (by omega)])) <;> (first | rfl | skip)) ⟨YT, J, by unfold s_copy; (try dsimp only); (repeat (first | rw [if_pos (by omega)] | rw [if_neg (by omega)])) <;> (first | rfl | skip)⟩
              · try simp only [decide_eq_true_eq, decide_eq_false_iff_not] at c85
                refine r_aload hG dX6_copy_88 rfl ?_
                refine r_iload hG dX6_copy_90 rfl ?_
                refine r_iload hG dX6_copy_92 rfl ?_
                refine r_midi hG (c_X2_hasSpan (g_l G) (g_D G) (fun i => a (35 + i)) (fun jz => (C) (40 * 2 + jz)) ((R) 3 2) ((R) 4 2) (by omega) _ _ (by omega) (by omega)) (bobj (g_D G) a (R) ++ (yw (g_D G) (fun i => a (2 + i)) (Z) ((J) 0) ((J) 1) ((J) 2) ++ (yw (g_D G) (fun i => a (10 + i)) (K) ((J) 3) ((J) 4) ((J) 5) ++ (yw (g_D G) (fun i => a (18 + i)) (YT) ((J) 6) ((J) 7) ((J) 8) ++ (bestw (a 26) ((J) 9) ((J) 10) ++ (btxt (g_D G) a (R) (J) ++ ([(a 30, .inl ((g_D G).1 102, 4, .inr (.inr (.inr (.inr (fun k => some (a (31 + 2 * k))))))))] ++ (sheetw (g_D G) (fun i => a (31 + i)) (fun jz => (C) (40 * 0 + jz)) ((R) 3 0) ((R) 4 0) ++ (sheetw (g_D G) (fun i => a (33 + i)) (fun jz => (C) (40 * 1 + jz)) ((R) 3 1) ((R) 4 1)))))))))) (sheetw (g_D G) (fun i => a (37 + i)) (fun jz => (C) (40 * 3 + jz)) ((R) 3 3) ((R) 4 3)) rfl gX6_copy_X2_hasSpan rfl hyX2_hasSpan rfl (by decide) (by decide) 0 rfl rfl rfl (Nat.le_of_ble_eq_true rfl) ⟨Nat.zero_le _, Nat.zero_le _⟩ dX6_copy_94 ?_
                intro w hw
                subst hw
                refine V_ws (ws' := bw (g_D G) a (Z) (K) (R) (C) (YT) (J)) rfl ?_
                refine rb_if_ne (tgt := 106) hG dX6_copy_97 (by decide) (fun c97 => ?_) (fun c97 => ?_)
                · try simp only [decide_eq_true_eq, decide_eq_false_iff_not] at c97
                  refine r_aload hG dX6_copy_106 rfl ?_
                  refine r_get hG cX6_copy_X2 37 0 rfl rfl (by decide) kX6_copy_216 rfl dX6_copy_108 ?_
                  refine r_iload_n (i := 2) hG dX6_copy_111 rfl rfl ?_
                  refine r_aload hG dX6_copy_112 rfl ?_
                  refine r_get hG cX6_copy_X2 35 0 rfl rfl (by decide) kX6_copy_216 rfl dX6_copy_114 ?_
                  refine r_iload hG dX6_copy_117 rfl ?_
                  refine r_iload hG dX6_copy_119 rfl ?_
                  refine r_copyl hG 38 36 rfl rfl (by omega) (by omega) (by omega) (by omega) (by omega) (List.mem_of_getElem? (i := 4) rfl) (List.mem_of_getElem? (i := 5) rfl) (List.mem_of_getElem? (i := 6) rfl) (List.mem_of_getElem? (i := 7) rfl) (by decide) (Nat.le_of_ble_eq_true rfl) dX6_copy_121 (ws' := bwX (g_D G) a (Z) (K) (R) (fun jz => (C) (40 * 0 + jz)) (fun jz => (C) (40 * 1 + jz)) (cpy1 (fun jz => (C) (40 * 3 + jz)) (fun jz => (C) (40 * 2 + jz)) f u n) (fun jz => (C) (40 * 3 + jz)) (YT) (J)) rfl ?_
                  refine V_shC (C := cpyC C (40 * 3 + f) (40 * 2 + u) n) (fun j h0 h1 => cpy_other (by omega)) (fun j h0 h1 => cpy_other (by omega)) (fun j h0 h1 => cpy_same j) (fun j h0 h1 => cpy_other (by omega)) ?_
                  refine r_iload hG dX6_copy_124 rfl ?_
                  exact r_iret hG hE dX6_copy_126 (by unfold s_copy; (try dsimp only); (repeat (first | rw [if_pos (by omega)] | rw [if_neg (by omega)])) <;> (first | rfl | skip)) ⟨YT, J, by unfold s_copy; (try dsimp only); (repeat (first | rw [if_pos (by omega)] | rw [if_neg (by omega)])) <;> (first | rfl | skip)⟩
                · try simp only [decide_eq_true_eq, decide_eq_false_iff_not] at c97
                  refine r_aload_n (i := 0) hG dX6_copy_100 rfl rfl ?_
                  refine r_iconst hG dX6_copy_101 ?_
                  refine r_callVi hG (c_X6_finding (g_l G) (g_D G) a (Z) (K) (R) (C) (YT) (J) 0 (by omega))  gX6_copy_X6_finding rfl hyX6_finding rfl (by decide) (by decide) 0 rfl rfl rfl (Nat.le_of_ble_eq_true rfl) ⟨Nat.zero_le _, Nat.zero_le _⟩ dX6_copy_102 (fun w hw => ?_)
                  subst hw
                  exact r_iret hG hE dX6_copy_105 (by unfold s_copy; (try dsimp only); (repeat (first | rw [if_pos (by omega)] | rw [if_neg (by omega)])) <;> (first | rfl | skip)) ⟨YT, J, by unfold s_copy; (try dsimp only); (repeat (first | rw [if_pos (by omega)] | rw [if_neg (by omega)])) <;> (first | rfl | skip)⟩
            · refine r_aload_n (i := 0) hG dX6_copy_71 rfl rfl ?_
              refine r_iconst hG dX6_copy_72 ?_
              refine r_callVi hG (c_X6_finding (g_l G) (g_D G) a (Z) (K) (R) (C) (YT) (J) 2 (by omega))  gX6_copy_X6_finding rfl hyX6_finding rfl (by decide) (by decide) 0 rfl rfl rfl (Nat.le_of_ble_eq_true rfl) ⟨Nat.zero_le _, Nat.zero_le _⟩ dX6_copy_73 (fun w hw => ?_)
              subst hw
              exact r_iret hG hE dX6_copy_76 (by unfold s_copy; (try dsimp only); (repeat (first | rw [if_pos (by omega)] | rw [if_neg (by omega)])) <;> (first | rfl | skip)) ⟨YT, J, by unfold s_copy; (try dsimp only); (repeat (first | rw [if_pos (by omega)] | rw [if_neg (by omega)])) <;> (first | rfl | skip)⟩
          · try simp only [decide_eq_true_eq, decide_eq_false_iff_not] at c49
            refine r_aload_n (i := 0) hG dX6_copy_52 rfl rfl ?_
            refine r_iconst hG dX6_copy_53 ?_
            refine r_callVi hG (c_X6_finding (g_l G) (g_D G) a (Z) (K) (R) (C) (YT) (J) 5 (by omega))  gX6_copy_X6_finding rfl hyX6_finding rfl (by decide) (by decide) 0 rfl rfl rfl (Nat.le_of_ble_eq_true rfl) ⟨Nat.zero_le _, Nat.zero_le _⟩ dX6_copy_54 (fun w hw => ?_)
            subst hw
            exact r_iret hG hE dX6_copy_57 (by unfold s_copy; (try dsimp only); (repeat (first | rw [if_pos (by omega)] | rw [if_neg (by omega)])) <;> (first | rfl | skip)) ⟨YT, J, by unfold s_copy; (try dsimp only); (repeat (first | rw [if_pos (by omega)] | rw [if_neg (by omega)])) <;> (first | rfl | skip)⟩
      · subst hv4
        refine r_aload_n (i := 0) hG dX6_copy_20 rfl rfl ?_
        refine r_get hG cX6_copy_X6 0 6 rfl rfl (by decide) kX6_copy_43 rfl dX6_copy_21 ?_
        refine r_iload_n (i := 1) hG dX6_copy_24 rfl rfl ?_
        refine r_aldq hG 30 rfl (by omega) (by decide) dX6_copy_25 (v := .ref (a 37)) rfl ?_
        refine r_astore hG dX6_copy_26 (by decide) rfl ?_
        refine r_aload_n (i := 0) hG dX6_copy_28 rfl rfl ?_
        refine r_get hG cX6_copy_X6 0 6 rfl rfl (by decide) kX6_copy_43 rfl dX6_copy_29 ?_
        refine r_iload_n (i := 3) hG dX6_copy_32 rfl rfl ?_
        refine r_aldq hG 30 rfl (by omega) (by decide) dX6_copy_33 (v := .ref (a 37)) rfl ?_
        refine r_astore hG dX6_copy_34 (by decide) rfl ?_
        refine r_aload hG dX6_copy_36 rfl ?_
        refine r_midi hG (c_X2_isMissing (g_l G) (g_D G) (fun i => a (37 + i)) (fun jz => (C) (40 * 3 + jz)) ((R) 3 3) ((R) 4 3) (by omega)) (bobj (g_D G) a (R) ++ (yw (g_D G) (fun i => a (2 + i)) (Z) ((J) 0) ((J) 1) ((J) 2) ++ (yw (g_D G) (fun i => a (10 + i)) (K) ((J) 3) ((J) 4) ((J) 5) ++ (yw (g_D G) (fun i => a (18 + i)) (YT) ((J) 6) ((J) 7) ((J) 8) ++ (bestw (a 26) ((J) 9) ((J) 10) ++ (btxt (g_D G) a (R) (J) ++ ([(a 30, .inl ((g_D G).1 102, 4, .inr (.inr (.inr (.inr (fun k => some (a (31 + 2 * k))))))))] ++ (sheetw (g_D G) (fun i => a (31 + i)) (fun jz => (C) (40 * 0 + jz)) ((R) 3 0) ((R) 4 0) ++ (sheetw (g_D G) (fun i => a (33 + i)) (fun jz => (C) (40 * 1 + jz)) ((R) 3 1) ((R) 4 1) ++ (sheetw (g_D G) (fun i => a (35 + i)) (fun jz => (C) (40 * 2 + jz)) ((R) 3 2) ((R) 4 2))))))))))) ([]) rfl gX6_copy_X2_isMissing rfl hyX2_isMissing rfl (by decide) (by decide) 0 rfl rfl rfl (Nat.le_of_ble_eq_true rfl) ⟨Nat.zero_le _, Nat.zero_le _⟩ dX6_copy_38 ?_
        intro w hw
        subst hw
        refine V_ws (ws' := bw (g_D G) a (Z) (K) (R) (C) (YT) (J)) rfl ?_
        refine rb_if_ne (tgt := 52) hG dX6_copy_41 (by decide) (fun c41 => ?_) (fun c41 => ?_)
        · try simp only [decide_eq_true_eq, decide_eq_false_iff_not] at c41
          refine r_aload_n (i := 0) hG dX6_copy_52 rfl rfl ?_
          refine r_iconst hG dX6_copy_53 ?_
          refine r_callVi hG (c_X6_finding (g_l G) (g_D G) a (Z) (K) (R) (C) (YT) (J) 5 (by omega))  gX6_copy_X6_finding rfl hyX6_finding rfl (by decide) (by decide) 0 rfl rfl rfl (Nat.le_of_ble_eq_true rfl) ⟨Nat.zero_le _, Nat.zero_le _⟩ dX6_copy_54 (fun w hw => ?_)
          subst hw
          exact r_iret hG hE dX6_copy_57 (by unfold s_copy; (try dsimp only); (repeat (first | rw [if_pos (by omega)] | rw [if_neg (by omega)])) <;> (first | rfl | skip)) ⟨YT, J, by unfold s_copy; (try dsimp only); (repeat (first | rw [if_pos (by omega)] | rw [if_neg (by omega)])) <;> (first | rfl | skip)⟩
        · try simp only [decide_eq_true_eq, decide_eq_false_iff_not] at c41
          refine r_aload hG dX6_copy_44 rfl ?_
          refine r_midi hG (c_X2_isMissing (g_l G) (g_D G) (fun i => a (37 + i)) (fun jz => (C) (40 * 3 + jz)) ((R) 3 3) ((R) 4 3) (by omega)) (bobj (g_D G) a (R) ++ (yw (g_D G) (fun i => a (2 + i)) (Z) ((J) 0) ((J) 1) ((J) 2) ++ (yw (g_D G) (fun i => a (10 + i)) (K) ((J) 3) ((J) 4) ((J) 5) ++ (yw (g_D G) (fun i => a (18 + i)) (YT) ((J) 6) ((J) 7) ((J) 8) ++ (bestw (a 26) ((J) 9) ((J) 10) ++ (btxt (g_D G) a (R) (J) ++ ([(a 30, .inl ((g_D G).1 102, 4, .inr (.inr (.inr (.inr (fun k => some (a (31 + 2 * k))))))))] ++ (sheetw (g_D G) (fun i => a (31 + i)) (fun jz => (C) (40 * 0 + jz)) ((R) 3 0) ((R) 4 0) ++ (sheetw (g_D G) (fun i => a (33 + i)) (fun jz => (C) (40 * 1 + jz)) ((R) 3 1) ((R) 4 1) ++ (sheetw (g_D G) (fun i => a (35 + i)) (fun jz => (C) (40 * 2 + jz)) ((R) 3 2) ((R) 4 2))))))))))) ([]) rfl gX6_copy_X2_isMissing rfl hyX2_isMissing rfl (by decide) (by decide) 0 rfl rfl rfl (Nat.le_of_ble_eq_true rfl) ⟨Nat.zero_le _, Nat.zero_le _⟩ dX6_copy_46 ?_
          intro w hw
          subst hw
          refine V_ws (ws' := bw (g_D G) a (Z) (K) (R) (C) (YT) (J)) rfl ?_
          refine rb_if_eq (tgt := 58) hG dX6_copy_49 (by decide) (fun c49 => ?_) (fun c49 => ?_)
          · try simp only [decide_eq_true_eq, decide_eq_false_iff_not] at c49
            refine r_aload hG dX6_copy_58 rfl ?_
            refine r_get hG cX6_copy_X2 37 1 rfl rfl (by decide) kX6_copy_224 rfl dX6_copy_60 ?_
            refine r_aload hG dX6_copy_63 rfl ?_
            refine r_get hG cX6_copy_X2 37 1 rfl rfl (by decide) kX6_copy_224 rfl dX6_copy_65 ?_
            refine r_icmp_eq (tgt := 77) hG (by omega) (by omega) dX6_copy_68 (by decide) (fun c68 => ?_) (fun c68 => ?_)
            · refine r_aload hG dX6_copy_77 rfl ?_
              refine r_iload_n (i := 2) hG dX6_copy_79 rfl rfl ?_
              refine r_iload hG dX6_copy_80 rfl ?_
              refine r_midi hG (c_X2_hasSpan (g_l G) (g_D G) (fun i => a (37 + i)) (fun jz => (C) (40 * 3 + jz)) ((R) 3 3) ((R) 4 3) (by omega) _ _ (by omega) (by omega)) (bobj (g_D G) a (R) ++ (yw (g_D G) (fun i => a (2 + i)) (Z) ((J) 0) ((J) 1) ((J) 2) ++ (yw (g_D G) (fun i => a (10 + i)) (K) ((J) 3) ((J) 4) ((J) 5) ++ (yw (g_D G) (fun i => a (18 + i)) (YT) ((J) 6) ((J) 7) ((J) 8) ++ (bestw (a 26) ((J) 9) ((J) 10) ++ (btxt (g_D G) a (R) (J) ++ ([(a 30, .inl ((g_D G).1 102, 4, .inr (.inr (.inr (.inr (fun k => some (a (31 + 2 * k))))))))] ++ (sheetw (g_D G) (fun i => a (31 + i)) (fun jz => (C) (40 * 0 + jz)) ((R) 3 0) ((R) 4 0) ++ (sheetw (g_D G) (fun i => a (33 + i)) (fun jz => (C) (40 * 1 + jz)) ((R) 3 1) ((R) 4 1) ++ (sheetw (g_D G) (fun i => a (35 + i)) (fun jz => (C) (40 * 2 + jz)) ((R) 3 2) ((R) 4 2))))))))))) ([]) rfl gX6_copy_X2_hasSpan rfl hyX2_hasSpan rfl (by decide) (by decide) 0 rfl rfl rfl (Nat.le_of_ble_eq_true rfl) ⟨Nat.zero_le _, Nat.zero_le _⟩ dX6_copy_82 ?_
              intro w hw
              subst hw
              refine V_ws (ws' := bw (g_D G) a (Z) (K) (R) (C) (YT) (J)) rfl ?_
              refine rb_if_eq (tgt := 100) hG dX6_copy_85 (by decide) (fun c85 => ?_) (fun c85 => ?_)
              · try simp only [decide_eq_true_eq, decide_eq_false_iff_not] at c85
                refine r_aload_n (i := 0) hG dX6_copy_100 rfl rfl ?_
                refine r_iconst hG dX6_copy_101 ?_
                refine r_callVi hG (c_X6_finding (g_l G) (g_D G) a (Z) (K) (R) (C) (YT) (J) 0 (by omega))  gX6_copy_X6_finding rfl hyX6_finding rfl (by decide) (by decide) 0 rfl rfl rfl (Nat.le_of_ble_eq_true rfl) ⟨Nat.zero_le _, Nat.zero_le _⟩ dX6_copy_102 (fun w hw => ?_)
                subst hw
                exact r_iret hG hE dX6_copy_105 (by unfold s_copy; (try dsimp only); (repeat (first | rw [if_pos (by omega)] | rw [if_neg (by omega)])) <;> (first | rfl | skip)) ⟨YT, J, by unfold s_copy; (try dsimp only); (repeat (first | rw [if_pos (by omega)] | rw [if_neg (by omega)])) <;> (first | rfl | skip)⟩
              · try simp only [decide_eq_true_eq, decide_eq_false_iff_not] at c85
                refine r_aload hG dX6_copy_88 rfl ?_
                refine r_iload hG dX6_copy_90 rfl ?_
                refine r_iload hG dX6_copy_92 rfl ?_
                refine r_midi hG (c_X2_hasSpan (g_l G) (g_D G) (fun i => a (37 + i)) (fun jz => (C) (40 * 3 + jz)) ((R) 3 3) ((R) 4 3) (by omega) _ _ (by omega) (by omega)) (bobj (g_D G) a (R) ++ (yw (g_D G) (fun i => a (2 + i)) (Z) ((J) 0) ((J) 1) ((J) 2) ++ (yw (g_D G) (fun i => a (10 + i)) (K) ((J) 3) ((J) 4) ((J) 5) ++ (yw (g_D G) (fun i => a (18 + i)) (YT) ((J) 6) ((J) 7) ((J) 8) ++ (bestw (a 26) ((J) 9) ((J) 10) ++ (btxt (g_D G) a (R) (J) ++ ([(a 30, .inl ((g_D G).1 102, 4, .inr (.inr (.inr (.inr (fun k => some (a (31 + 2 * k))))))))] ++ (sheetw (g_D G) (fun i => a (31 + i)) (fun jz => (C) (40 * 0 + jz)) ((R) 3 0) ((R) 4 0) ++ (sheetw (g_D G) (fun i => a (33 + i)) (fun jz => (C) (40 * 1 + jz)) ((R) 3 1) ((R) 4 1) ++ (sheetw (g_D G) (fun i => a (35 + i)) (fun jz => (C) (40 * 2 + jz)) ((R) 3 2) ((R) 4 2))))))))))) ([]) rfl gX6_copy_X2_hasSpan rfl hyX2_hasSpan rfl (by decide) (by decide) 0 rfl rfl rfl (Nat.le_of_ble_eq_true rfl) ⟨Nat.zero_le _, Nat.zero_le _⟩ dX6_copy_94 ?_
                intro w hw
                subst hw
                refine V_ws (ws' := bw (g_D G) a (Z) (K) (R) (C) (YT) (J)) rfl ?_
                refine rb_if_ne (tgt := 106) hG dX6_copy_97 (by decide) (fun c97 => ?_) (fun c97 => ?_)
                · try simp only [decide_eq_true_eq, decide_eq_false_iff_not] at c97
                  refine r_aload hG dX6_copy_106 rfl ?_
                  refine r_get hG cX6_copy_X2 37 0 rfl rfl (by decide) kX6_copy_216 rfl dX6_copy_108 ?_
                  refine r_iload_n (i := 2) hG dX6_copy_111 rfl rfl ?_
                  refine r_aload hG dX6_copy_112 rfl ?_
                  refine r_get hG cX6_copy_X2 37 0 rfl rfl (by decide) kX6_copy_216 rfl dX6_copy_114 ?_
                  refine r_iload hG dX6_copy_117 rfl ?_
                  refine r_iload hG dX6_copy_119 rfl ?_
                  refine r_copyl hG 38 38 rfl rfl (by omega) (by omega) (by omega) (by omega) (by omega) (List.mem_of_getElem? (i := 4) rfl) (List.mem_of_getElem? (i := 5) rfl) (List.mem_of_getElem? (i := 6) rfl) (List.mem_of_getElem? (i := 7) rfl) (by decide) (Nat.le_of_ble_eq_true rfl) dX6_copy_121 (ws' := bwX (g_D G) a (Z) (K) (R) (fun jz => (C) (40 * 0 + jz)) (fun jz => (C) (40 * 1 + jz)) (fun jz => (C) (40 * 2 + jz)) (cpy1 (fun jz => (C) (40 * 3 + jz)) (fun jz => (C) (40 * 3 + jz)) f u n) (YT) (J)) rfl ?_
                  refine V_shC (C := cpyC C (40 * 3 + f) (40 * 3 + u) n) (fun j h0 h1 => cpy_other (by omega)) (fun j h0 h1 => cpy_other (by omega)) (fun j h0 h1 => cpy_other (by omega)) (fun j h0 h1 => cpy_same j) ?_
                  refine r_iload hG dX6_copy_124 rfl ?_
                  exact r_iret hG hE dX6_copy_126 (by unfold s_copy; (try dsimp only); (repeat (first | rw [if_pos (by omega)] | rw [if_neg (by omega)])) <;> (first | rfl | skip)) ⟨YT, J, by unfold s_copy; (try dsimp only); (repeat (first | rw [if_pos (by omega)] | rw [if_neg (by omega)])) <;> (first | rfl | skip)⟩
                · try simp only [decide_eq_true_eq, decide_eq_false_iff_not] at c97
                  refine r_aload_n (i := 0) hG dX6_copy_100 rfl rfl ?_
                  refine r_iconst hG dX6_copy_101 ?_
                  refine r_callVi hG (c_X6_finding (g_l G) (g_D G) a (Z) (K) (R) (C) (YT) (J) 0 (by omega))  gX6_copy_X6_finding rfl hyX6_finding rfl (by decide) (by decide) 0 rfl rfl rfl (Nat.le_of_ble_eq_true rfl) ⟨Nat.zero_le _, Nat.zero_le _⟩ dX6_copy_102 (fun w hw => ?_)
                  subst hw
                  exact r_iret hG hE dX6_copy_105 (by unfold s_copy; (try dsimp only); (repeat (first | rw [if_pos (by omega)] | rw [if_neg (by omega)])) <;> (first | rfl | skip)) ⟨YT, J, by unfold s_copy; (try dsimp only); (repeat (first | rw [if_pos (by omega)] | rw [if_neg (by omega)])) <;> (first | rfl | skip)⟩
            · exact absurd rfl c68
          · try simp only [decide_eq_true_eq, decide_eq_false_iff_not] at c49
            refine r_aload_n (i := 0) hG dX6_copy_52 rfl rfl ?_
            refine r_iconst hG dX6_copy_53 ?_
            refine r_callVi hG (c_X6_finding (g_l G) (g_D G) a (Z) (K) (R) (C) (YT) (J) 5 (by omega))  gX6_copy_X6_finding rfl hyX6_finding rfl (by decide) (by decide) 0 rfl rfl rfl (Nat.le_of_ble_eq_true rfl) ⟨Nat.zero_le _, Nat.zero_le _⟩ dX6_copy_54 (fun w hw => ?_)
            subst hw
            exact r_iret hG hE dX6_copy_57 (by unfold s_copy; (try dsimp only); (repeat (first | rw [if_pos (by omega)] | rw [if_neg (by omega)])) <;> (first | rfl | skip)) ⟨YT, J, by unfold s_copy; (try dsimp only); (repeat (first | rw [if_pos (by omega)] | rw [if_neg (by omega)])) <;> (first | rfl | skip)⟩
  refine r_iload_n (i := 1) hG dX6_copy_0 rfl rfl ?_
  refine r_call0i hG (c_X6_isSheet (g_l G) (g_D G) _ (by omega))  gX6_copy_X6_isSheet rfl hyX6_isSheet rfl (by decide) (by decide) rfl (Nat.le_of_ble_eq_true rfl) ⟨Nat.zero_le _, Nat.zero_le _⟩ dX6_copy_1 ?_
  refine rb_if_eq (tgt := 14) hG dX6_copy_4 (by decide) (fun c4 => ?_) (fun c4 => ?_)
  · try simp only [decide_eq_true_eq, decide_eq_false_iff_not] at c4
    refine r_aload_n (i := 0) hG dX6_copy_14 rfl rfl ?_
    refine r_iconst hG dX6_copy_15 ?_
    refine r_callVi hG (c_X6_finding (g_l G) (g_D G) a (Z) (K) (R) (C) (YT) (J) 0 (by omega))  gX6_copy_X6_finding rfl hyX6_finding rfl (by decide) (by decide) 0 rfl rfl rfl (Nat.le_of_ble_eq_true rfl) ⟨Nat.zero_le _, Nat.zero_le _⟩ dX6_copy_16 (fun w hw => ?_)
    subst hw
    exact r_iret hG hE dX6_copy_19 (by unfold s_copy; (try dsimp only); (repeat (first | rw [if_pos (by omega)] | rw [if_neg (by omega)])) <;> (first | rfl | skip)) ⟨YT, J, by unfold s_copy; (try dsimp only); (repeat (first | rw [if_pos (by omega)] | rw [if_neg (by omega)])) <;> (first | rfl | skip)⟩
  · try simp only [decide_eq_true_eq, decide_eq_false_iff_not] at c4
    refine r_iload_n (i := 3) hG dX6_copy_7 rfl rfl ?_
    refine r_call0i hG (c_X6_isSheet (g_l G) (g_D G) _ (by omega))  gX6_copy_X6_isSheet rfl hyX6_isSheet rfl (by decide) (by decide) rfl (Nat.le_of_ble_eq_true rfl) ⟨Nat.zero_le _, Nat.zero_le _⟩ dX6_copy_8 ?_
    refine rb_if_ne (tgt := 20) hG dX6_copy_11 (by decide) (fun c11 => ?_) (fun c11 => ?_)
    · try simp only [decide_eq_true_eq, decide_eq_false_iff_not] at c11
      exact V_lv (M (by omega) (by omega)) ⟨rfl, rfl, rfl, rfl, rfl, rfl, trivial⟩
    · try simp only [decide_eq_true_eq, decide_eq_false_iff_not] at c11
      refine r_aload_n (i := 0) hG dX6_copy_14 rfl rfl ?_
      refine r_iconst hG dX6_copy_15 ?_
      refine r_callVi hG (c_X6_finding (g_l G) (g_D G) a (Z) (K) (R) (C) (YT) (J) 0 (by omega))  gX6_copy_X6_finding rfl hyX6_finding rfl (by decide) (by decide) 0 rfl rfl rfl (Nat.le_of_ble_eq_true rfl) ⟨Nat.zero_le _, Nat.zero_le _⟩ dX6_copy_16 (fun w hw => ?_)
      subst hw
      exact r_iret hG hE dX6_copy_19 (by unfold s_copy; (try dsimp only); (repeat (first | rw [if_pos (by omega)] | rw [if_neg (by omega)])) <;> (first | rfl | skip)) ⟨YT, J, by unfold s_copy; (try dsimp only); (repeat (first | rw [if_pos (by omega)] | rw [if_neg (by omega)])) <;> (first | rfl | skip)⟩
