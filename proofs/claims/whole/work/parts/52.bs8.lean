theorem kX6_lays_43 : Cond.fieldLink RX6 43 "BreakSwaps" "sheets" "[LBreakSwaps$Sheet;" ∈ wsX6_lays := List.mem_of_getElem? (i := 1) rfl
theorem kX6_lays_212 : Cond.fieldLink RX6 212 "BreakSwaps$Sheet" "length" "I" ∈ wsX6_lays := List.mem_of_getElem? (i := 2) rfl
theorem kX6_lays_216 : Cond.fieldLink RX6 216 "BreakSwaps$Sheet" "row" "[J" ∈ wsX6_lays := List.mem_of_getElem? (i := 3) rfl
theorem kX6_lays_10 : Cond.fieldLink RX6 10 "BreakSwaps" "live" "LBreakSwaps$Yard;" ∈ wsX6_lays := List.mem_of_getElem? (i := 5) rfl
theorem cX6_lays_X2 : ∀ w ∈ wsX20, w ∈ wsX6_lays := fun _ h => List.mem_cons_of_mem _ (List.mem_append_left _ (List.mem_append_right _ h))
theorem cX6_lays_X6 : ∀ w ∈ wsX60, w ∈ wsX6_lays := fun _ h => List.mem_cons_of_mem _ (List.mem_append_left _ (List.mem_append_left _ (List.mem_append_right _ h)))
theorem hyX6_lays : hyV yX6_lays RX6 2 := by decide +kernel
set_option maxHeartbeats 4000000 in
set_option maxRecDepth 100000 in
theorem c_X6_lays (l : Launch) (D : va_G) (a : Nat → Nat) (Z K R : YS) (C : Int → Int64) (YT : YS) (J : Nat → Int) (hT : TI (Z, K, R, C)) (s c : Int) (hs : -2147483648 ≤ s ∧ s < 2147483648) (hc : -2147483648 ≤ c ∧ c < 2147483648) : Con l yX6_lays wsX6_lays 3 D (bw D a Z K R C YT J) [.ref (a 0), .int (iI s), .int (iI c)] (some (.int (iI ((s_lays (Z, K, R, C) s c).1)))) (fun ww => ∃ Y2 J2, ww = bwT D a (s_lays (Z, K, R, C) s c).2 Y2 J2) := by
  refine con_start (own := RX6) (by decide) rfl rfl (Nat.le_of_ble_eq_true rfl) ?_
  intro G hG hE hl hD
  subst hl
  subst hD
  have hI : Inv Z := hT.1.1
  have hH : Hol Z := hT.1.2.1
  have hN := hI.1
  have hr0 := hI.2.1
  have hu5 := hI.2.2.1
  have hrd : Z 5 0 ≤ 99999 := hT.1.2.2
  have hS : ∀ s, 0 ≤ s → s < 4 → (R 3 s = 0 ∨ R 3 s = 8 ∨ R 3 s = 16 ∨ R 3 s = 64) ∧ 0 ≤ R 4 s ∧ R 4 s ≤ 40 := hT.2.2.2
  have hsf := sfK_rng Z R s c
  have M : sfK Z R s c < 0 → V G 0 0 (bw (g_D G) a Z K R C YT J) 17 [(0, .ref (a 0)), (1, .int (iI s)), (2, .int (iI c)), (3, .int (iI (sfK Z R s c)))] [] := by
    intro hsk
    obtain ⟨h1, h2, h3⟩ := sfK_ok hsk
    have hsz := hS s h1.1 (by omega)
    have e0 : s_lays (Z, K, R, C) s c = (layK C s (layM (R 4 s)), sZ (Z, K, R, C) (layN Z C s c (layM (R 4 s)))) := onSheet_ok hsk
    have hM : (layM (R 4 s) : Int) = if R 4 s < 10 then R 4 s else 10 := by unfold layM; split <;> omega
    have hM2 : (layM (R 4 s) : Int) ≤ R 4 s ∧ (layM (R 4 s) : Int) ≤ 10 ∧ ((layM (R 4 s) : Int) = R 4 s ∨ (layM (R 4 s) : Int) = 10) := by split at hM <;> omega
    rcases (show s = 0 ∨ s = 1 ∨ s = 2 ∨ s = 3 by omega) with hv4 | hv4 | hv4 | hv4
    · subst hv4
      have L : ∀ i : Nat, i ≤ layM (R 4 0) → V G 0 0 (bw (g_D G) a (layN Z C 0 c i) K R C YT J) 31 [(0, .ref (a 0)), (2, .int (iI c)), (4, .ref (a 31)), (5, .int (iI (layK C 0 i))), (6, .int (iI (i : Int)))] [] := by
        refine down (fun i hi ih => ?_)
        have J90 : i < layM (R 4 0) → V G 0 0 (bw (g_D G) a (layN Z C 0 c (i + 1)) K R C YT J) 90 [(0, .ref (a 0)), (2, .int (iI c)), (4, .ref (a 31)), (5, .int (iI (layK C 0 (i + 1)))), (6, .int (iI (i : Int)))] [] := by
          intro hiN
          refine r_iinc hG dX6_lays_90 rfl (by decide) rfl ?_
          refine r_goto (tgt := 31) hG dX6_lays_93 (by decide) ?_
          exact V_lv (ih hiN) ⟨rfl, rfl, rfl, rfl, rfl, trivial⟩
        have Jf : i < layM (R 4 0) → okL C 0 i = false → V G 0 0 (bw (g_D G) a (layN Z C 0 c i) K R C YT J) 90 [(0, .ref (a 0)), (2, .int (iI c)), (4, .ref (a 31)), (5, .int (iI (layK C 0 i))), (6, .int (iI (i : Int)))] [] := fun hiN e1 =>
          V_ws (ws' := bw (g_D G) a (layN Z C 0 c (i + 1)) K R C YT J) (by rw [layN, e1]; rfl) (V_lv (J90 hiN) ⟨rfl, rfl, rfl, (congrArg (fun v => some (Value.int (iI v))) (by rw [layK, e1]; simp)), rfl, trivial⟩)
        have Jt : i < layM (R 4 0) → okL C 0 i = true → V G 0 0 (bw (g_D G) a (upY (layN Z C 0 c i) 4 (c * 10 + (i : Int)) (C (40 * 0 + (i : Int))).toInt) K R C YT J) 90 [(0, .ref (a 0)), (2, .int (iI c)), (4, .ref (a 31)), (5, .int (iI (layK C 0 i + 1))), (6, .int (iI (i : Int)))] [] := fun hiN e1 =>
          V_ws (ws' := bw (g_D G) a (layN Z C 0 c (i + 1)) K R C YT J) (by rw [layN, if_pos e1]) (V_lv (J90 hiN) ⟨rfl, rfl, rfl, (congrArg (fun v => some (Value.int (iI v))) (by rw [layK, if_pos e1])), rfl, trivial⟩)
        refine r_iload hG dX6_lays_31 rfl ?_
        refine r_bipush hG dX6_lays_33 rfl ?_
        refine r_icmp_ge (tgt := 96) hG (by omega) (by omega) dX6_lays_35 (by decide) (fun c35 => ?_) (fun c35 => ?_)
        · refine r_iload hG dX6_lays_96 rfl ?_
          have ei : i = layM (R 4 0) := by omega
          subst ei
          exact r_iret hG hE dX6_lays_98 (by rw [e0]) ⟨YT, J, by rw [e0]; rfl⟩
        · refine r_iload hG dX6_lays_38 rfl ?_
          refine r_aload hG dX6_lays_40 rfl ?_
          refine r_get hG cX6_lays_X2 31 2 rfl rfl (by decide) kX6_lays_212 rfl dX6_lays_42 ?_
          refine r_icmp_ge (tgt := 96) hG (by omega) (by omega) dX6_lays_45 (by decide) (fun c45 => ?_) (fun c45 => ?_)
          · refine r_iload hG dX6_lays_96 rfl ?_
            have ei : i = layM (R 4 0) := by omega
            subst ei
            exact r_iret hG hE dX6_lays_98 (by rw [e0]) ⟨YT, J, by rw [e0]; rfl⟩
          · refine r_aload hG dX6_lays_48 rfl ?_
            refine r_get hG cX6_lays_X2 31 0 rfl rfl (by decide) kX6_lays_216 rfl dX6_lays_50 ?_
            refine r_iload hG dX6_lays_53 rfl ?_
            refine r_lald hG 32 rfl (by omega) (by decide) dX6_lays_55 ?_
            refine r_lstore hG dX6_lays_56 (by decide) rfl ?_
            refine r_lload hG dX6_lays_58 rfl ?_
            refine r_lconst (v := 0) hG dX6_lays_60 rfl ?_
            refine r_lcmp hG dX6_lays_61 ?_
            refine rr_if_lt (tgt := 90) hG dX6_lays_62 (by decide) (fun c62 => ?_) (fun c62 => ?_)
            · first
                | exact V_lv (Jf (by omega) (okL_lt c62)) ⟨rfl, rfl, rfl, rfl, rfl, trivial⟩
                | exact V_lv (Jf (by omega) (okL_gt c71)) ⟨rfl, rfl, rfl, rfl, rfl, trivial⟩
                | exact V_lv (Jt (by omega) (okL_ok c62 c71)) ⟨rfl, rfl, rfl, rfl, rfl, trivial⟩
            · refine r_lload hG dX6_lays_65 rfl ?_
              refine r_ldc2 hG (List.mem_of_getElem? (i := 4) rfl) dX6_lays_67 ?_
              refine r_lcmp hG dX6_lays_70 ?_
              refine rr_if_gt (tgt := 90) hG dX6_lays_71 (by decide) (fun c71 => ?_) (fun c71 => ?_)
              · first
                  | exact V_lv (Jf (by omega) (okL_lt c62)) ⟨rfl, rfl, rfl, rfl, rfl, trivial⟩
                  | exact V_lv (Jf (by omega) (okL_gt c71)) ⟨rfl, rfl, rfl, rfl, rfl, trivial⟩
                  | exact V_lv (Jt (by omega) (okL_ok c62 c71)) ⟨rfl, rfl, rfl, rfl, rfl, trivial⟩
              · refine r_aload_n (i := 0) hG dX6_lays_74 rfl rfl ?_
                refine r_get hG cX6_lays_X6 0 0 rfl rfl (by decide) kX6_lays_10 rfl dX6_lays_75 ?_
                refine r_iload_n (i := 2) hG dX6_lays_78 rfl rfl ?_
                refine r_iload hG dX6_lays_79 rfl ?_
                refine r_lload hG dX6_lays_81 rfl ?_
                refine r_l2i hG dX6_lays_83 ?_
                refine V_top (x' := iI ((C (40 * 0 + (i : Int))).toInt)) (Int32.ofInt_int64ToInt _).symm ?_
                refine r_midv hG (c_X4_makeLike (g_l G) (g_D G) (fun i => a (2 + i)) (layN Z C 0 c i) ((J) 0) ((J) 1) ((J) 2) _ _ _ (by omega) (by omega)) (bobj (g_D G) a (R)) (yw (g_D G) (fun i => a (10 + i)) (K) ((J) 3) ((J) 4) ((J) 5) ++ (yw (g_D G) (fun i => a (18 + i)) (YT) ((J) 6) ((J) 7) ((J) 8) ++ (bestw (a 26) ((J) 9) ((J) 10) ++ (btxt (g_D G) a (R) (J) ++ bshs (g_D G) a (R) (C))))) rfl gX6_lays_X4_makeLike rfl hyX4_makeLike rfl (by decide) (by decide) 0 rfl rfl rfl (Nat.le_of_ble_eq_true rfl) ⟨Nat.zero_le _, Nat.zero_le _⟩ dX6_lays_84 ?_
                intro w hw
                subst hw
                refine V_ws (ws' := bw (g_D G) a (upY (layN Z C 0 c i) 4 (c * 10 + (i : Int)) (C (40 * 0 + (i : Int))).toInt) (K) (R) (C) (YT) (J)) rfl ?_
                refine r_iinc hG dX6_lays_87 rfl (by decide) rfl ?_
                first
                  | exact V_lv (Jf (by omega) (okL_lt c62)) ⟨rfl, rfl, rfl, rfl, rfl, trivial⟩
                  | exact V_lv (Jf (by omega) (okL_gt c71)) ⟨rfl, rfl, rfl, rfl, rfl, trivial⟩
                  | exact V_lv (Jt (by omega) (okL_ok c62 c71)) ⟨rfl, rfl, rfl, rfl, rfl, trivial⟩
      refine r_aload_n (i := 0) hG dX6_lays_17 rfl rfl ?_
      refine r_get hG cX6_lays_X6 0 6 rfl rfl (by decide) kX6_lays_43 rfl dX6_lays_18 ?_
      refine r_iload_n (i := 1) hG dX6_lays_21 rfl rfl ?_
      refine r_aldq hG 30 rfl (by omega) (by decide) dX6_lays_22 (v := .ref (a 31)) rfl ?_
      refine r_astore hG dX6_lays_23 (by decide) rfl ?_
      refine r_iconst hG dX6_lays_25 ?_
      refine r_istore hG dX6_lays_26 (by decide) rfl ?_
      refine r_iconst hG dX6_lays_28 ?_
      refine r_istore hG dX6_lays_29 (by decide) rfl ?_
      exact V_lv (L 0 (by omega)) ⟨rfl, rfl, rfl, rfl, rfl, trivial⟩
    · subst hv4
      have L : ∀ i : Nat, i ≤ layM (R 4 1) → V G 0 0 (bw (g_D G) a (layN Z C 1 c i) K R C YT J) 31 [(0, .ref (a 0)), (2, .int (iI c)), (4, .ref (a 33)), (5, .int (iI (layK C 1 i))), (6, .int (iI (i : Int)))] [] := by
        refine down (fun i hi ih => ?_)
        have J90 : i < layM (R 4 1) → V G 0 0 (bw (g_D G) a (layN Z C 1 c (i + 1)) K R C YT J) 90 [(0, .ref (a 0)), (2, .int (iI c)), (4, .ref (a 33)), (5, .int (iI (layK C 1 (i + 1)))), (6, .int (iI (i : Int)))] [] := by
          intro hiN
          refine r_iinc hG dX6_lays_90 rfl (by decide) rfl ?_
          refine r_goto (tgt := 31) hG dX6_lays_93 (by decide) ?_
          exact V_lv (ih hiN) ⟨rfl, rfl, rfl, rfl, rfl, trivial⟩
        have Jf : i < layM (R 4 1) → okL C 1 i = false → V G 0 0 (bw (g_D G) a (layN Z C 1 c i) K R C YT J) 90 [(0, .ref (a 0)), (2, .int (iI c)), (4, .ref (a 33)), (5, .int (iI (layK C 1 i))), (6, .int (iI (i : Int)))] [] := fun hiN e1 =>
          V_ws (ws' := bw (g_D G) a (layN Z C 1 c (i + 1)) K R C YT J) (by rw [layN, e1]; rfl) (V_lv (J90 hiN) ⟨rfl, rfl, rfl, (congrArg (fun v => some (Value.int (iI v))) (by rw [layK, e1]; simp)), rfl, trivial⟩)
        have Jt : i < layM (R 4 1) → okL C 1 i = true → V G 0 0 (bw (g_D G) a (upY (layN Z C 1 c i) 4 (c * 10 + (i : Int)) (C (40 * 1 + (i : Int))).toInt) K R C YT J) 90 [(0, .ref (a 0)), (2, .int (iI c)), (4, .ref (a 33)), (5, .int (iI (layK C 1 i + 1))), (6, .int (iI (i : Int)))] [] := fun hiN e1 =>
          V_ws (ws' := bw (g_D G) a (layN Z C 1 c (i + 1)) K R C YT J) (by rw [layN, if_pos e1]) (V_lv (J90 hiN) ⟨rfl, rfl, rfl, (congrArg (fun v => some (Value.int (iI v))) (by rw [layK, if_pos e1])), rfl, trivial⟩)
        refine r_iload hG dX6_lays_31 rfl ?_
        refine r_bipush hG dX6_lays_33 rfl ?_
        refine r_icmp_ge (tgt := 96) hG (by omega) (by omega) dX6_lays_35 (by decide) (fun c35 => ?_) (fun c35 => ?_)
        · refine r_iload hG dX6_lays_96 rfl ?_
          have ei : i = layM (R 4 1) := by omega
          subst ei
          exact r_iret hG hE dX6_lays_98 (by rw [e0]) ⟨YT, J, by rw [e0]; rfl⟩
        · refine r_iload hG dX6_lays_38 rfl ?_
          refine r_aload hG dX6_lays_40 rfl ?_
          refine r_get hG cX6_lays_X2 33 2 rfl rfl (by decide) kX6_lays_212 rfl dX6_lays_42 ?_
          refine r_icmp_ge (tgt := 96) hG (by omega) (by omega) dX6_lays_45 (by decide) (fun c45 => ?_) (fun c45 => ?_)
          · refine r_iload hG dX6_lays_96 rfl ?_
            have ei : i = layM (R 4 1) := by omega
            subst ei
            exact r_iret hG hE dX6_lays_98 (by rw [e0]) ⟨YT, J, by rw [e0]; rfl⟩
          · refine r_aload hG dX6_lays_48 rfl ?_
            refine r_get hG cX6_lays_X2 33 0 rfl rfl (by decide) kX6_lays_216 rfl dX6_lays_50 ?_
            refine r_iload hG dX6_lays_53 rfl ?_
            refine r_lald hG 34 rfl (by omega) (by decide) dX6_lays_55 ?_
            refine r_lstore hG dX6_lays_56 (by decide) rfl ?_
            refine r_lload hG dX6_lays_58 rfl ?_
            refine r_lconst (v := 0) hG dX6_lays_60 rfl ?_
            refine r_lcmp hG dX6_lays_61 ?_
            refine rr_if_lt (tgt := 90) hG dX6_lays_62 (by decide) (fun c62 => ?_) (fun c62 => ?_)
            · first
                | exact V_lv (Jf (by omega) (okL_lt c62)) ⟨rfl, rfl, rfl, rfl, rfl, trivial⟩
                | exact V_lv (Jf (by omega) (okL_gt c71)) ⟨rfl, rfl, rfl, rfl, rfl, trivial⟩
                | exact V_lv (Jt (by omega) (okL_ok c62 c71)) ⟨rfl, rfl, rfl, rfl, rfl, trivial⟩
            · refine r_lload hG dX6_lays_65 rfl ?_
              refine r_ldc2 hG (List.mem_of_getElem? (i := 4) rfl) dX6_lays_67 ?_
              refine r_lcmp hG dX6_lays_70 ?_
              refine rr_if_gt (tgt := 90) hG dX6_lays_71 (by decide) (fun c71 => ?_) (fun c71 => ?_)
              · first
                  | exact V_lv (Jf (by omega) (okL_lt c62)) ⟨rfl, rfl, rfl, rfl, rfl, trivial⟩
                  | exact V_lv (Jf (by omega) (okL_gt c71)) ⟨rfl, rfl, rfl, rfl, rfl, trivial⟩
                  | exact V_lv (Jt (by omega) (okL_ok c62 c71)) ⟨rfl, rfl, rfl, rfl, rfl, trivial⟩
              · refine r_aload_n (i := 0) hG dX6_lays_74 rfl rfl ?_
                refine r_get hG cX6_lays_X6 0 0 rfl rfl (by decide) kX6_lays_10 rfl dX6_lays_75 ?_
                refine r_iload_n (i := 2) hG dX6_lays_78 rfl rfl ?_
                refine r_iload hG dX6_lays_79 rfl ?_
                refine r_lload hG dX6_lays_81 rfl ?_
                refine r_l2i hG dX6_lays_83 ?_
                refine V_top (x' := iI ((C (40 * 1 + (i : Int))).toInt)) (Int32.ofInt_int64ToInt _).symm ?_
                refine r_midv hG (c_X4_makeLike (g_l G) (g_D G) (fun i => a (2 + i)) (layN Z C 1 c i) ((J) 0) ((J) 1) ((J) 2) _ _ _ (by omega) (by omega)) (bobj (g_D G) a (R)) (yw (g_D G) (fun i => a (10 + i)) (K) ((J) 3) ((J) 4) ((J) 5) ++ (yw (g_D G) (fun i => a (18 + i)) (YT) ((J) 6) ((J) 7) ((J) 8) ++ (bestw (a 26) ((J) 9) ((J) 10) ++ (btxt (g_D G) a (R) (J) ++ bshs (g_D G) a (R) (C))))) rfl gX6_lays_X4_makeLike rfl hyX4_makeLike rfl (by decide) (by decide) 0 rfl rfl rfl (Nat.le_of_ble_eq_true rfl) ⟨Nat.zero_le _, Nat.zero_le _⟩ dX6_lays_84 ?_
                intro w hw
                subst hw
                refine V_ws (ws' := bw (g_D G) a (upY (layN Z C 1 c i) 4 (c * 10 + (i : Int)) (C (40 * 1 + (i : Int))).toInt) (K) (R) (C) (YT) (J)) rfl ?_
                refine r_iinc hG dX6_lays_87 rfl (by decide) rfl ?_
                first
                  | exact V_lv (Jf (by omega) (okL_lt c62)) ⟨rfl, rfl, rfl, rfl, rfl, trivial⟩
                  | exact V_lv (Jf (by omega) (okL_gt c71)) ⟨rfl, rfl, rfl, rfl, rfl, trivial⟩
                  | exact V_lv (Jt (by omega) (okL_ok c62 c71)) ⟨rfl, rfl, rfl, rfl, rfl, trivial⟩
      refine r_aload_n (i := 0) hG dX6_lays_17 rfl rfl ?_
      refine r_get hG cX6_lays_X6 0 6 rfl rfl (by decide) kX6_lays_43 rfl dX6_lays_18 ?_
      refine r_iload_n (i := 1) hG dX6_lays_21 rfl rfl ?_
      refine r_aldq hG 30 rfl (by omega) (by decide) dX6_lays_22 (v := .ref (a 33)) rfl ?_
      refine r_astore hG dX6_lays_23 (by decide) rfl ?_
      refine r_iconst hG dX6_lays_25 ?_
      refine r_istore hG dX6_lays_26 (by decide) rfl ?_
      refine r_iconst hG dX6_lays_28 ?_
      refine r_istore hG dX6_lays_29 (by decide) rfl ?_
      exact V_lv (L 0 (by omega)) ⟨rfl, rfl, rfl, rfl, rfl, trivial⟩
    · subst hv4
      have L : ∀ i : Nat, i ≤ layM (R 4 2) → V G 0 0 (bw (g_D G) a (layN Z C 2 c i) K R C YT J) 31 [(0, .ref (a 0)), (2, .int (iI c)), (4, .ref (a 35)), (5, .int (iI (layK C 2 i))), (6, .int (iI (i : Int)))] [] := by
        refine down (fun i hi ih => ?_)
        have J90 : i < layM (R 4 2) → V G 0 0 (bw (g_D G) a (layN Z C 2 c (i + 1)) K R C YT J) 90 [(0, .ref (a 0)), (2, .int (iI c)), (4, .ref (a 35)), (5, .int (iI (layK C 2 (i + 1)))), (6, .int (iI (i : Int)))] [] := by
          intro hiN
          refine r_iinc hG dX6_lays_90 rfl (by decide) rfl ?_
          refine r_goto (tgt := 31) hG dX6_lays_93 (by decide) ?_
          exact V_lv (ih hiN) ⟨rfl, rfl, rfl, rfl, rfl, trivial⟩
        have Jf : i < layM (R 4 2) → okL C 2 i = false → V G 0 0 (bw (g_D G) a (layN Z C 2 c i) K R C YT J) 90 [(0, .ref (a 0)), (2, .int (iI c)), (4, .ref (a 35)), (5, .int (iI (layK C 2 i))), (6, .int (iI (i : Int)))] [] := fun hiN e1 =>
          V_ws (ws' := bw (g_D G) a (layN Z C 2 c (i + 1)) K R C YT J) (by rw [layN, e1]; rfl) (V_lv (J90 hiN) ⟨rfl, rfl, rfl, (congrArg (fun v => some (Value.int (iI v))) (by rw [layK, e1]; simp)), rfl, trivial⟩)
        have Jt : i < layM (R 4 2) → okL C 2 i = true → V G 0 0 (bw (g_D G) a (upY (layN Z C 2 c i) 4 (c * 10 + (i : Int)) (C (40 * 2 + (i : Int))).toInt) K R C YT J) 90 [(0, .ref (a 0)), (2, .int (iI c)), (4, .ref (a 35)), (5, .int (iI (layK C 2 i + 1))), (6, .int (iI (i : Int)))] [] := fun hiN e1 =>
          V_ws (ws' := bw (g_D G) a (layN Z C 2 c (i + 1)) K R C YT J) (by rw [layN, if_pos e1]) (V_lv (J90 hiN) ⟨rfl, rfl, rfl, (congrArg (fun v => some (Value.int (iI v))) (by rw [layK, if_pos e1])), rfl, trivial⟩)
        refine r_iload hG dX6_lays_31 rfl ?_
        refine r_bipush hG dX6_lays_33 rfl ?_
        refine r_icmp_ge (tgt := 96) hG (by omega) (by omega) dX6_lays_35 (by decide) (fun c35 => ?_) (fun c35 => ?_)
        · refine r_iload hG dX6_lays_96 rfl ?_
          have ei : i = layM (R 4 2) := by omega
          subst ei
          exact r_iret hG hE dX6_lays_98 (by rw [e0]) ⟨YT, J, by rw [e0]; rfl⟩
        · refine r_iload hG dX6_lays_38 rfl ?_
          refine r_aload hG dX6_lays_40 rfl ?_
          refine r_get hG cX6_lays_X2 35 2 rfl rfl (by decide) kX6_lays_212 rfl dX6_lays_42 ?_
          refine r_icmp_ge (tgt := 96) hG (by omega) (by omega) dX6_lays_45 (by decide) (fun c45 => ?_) (fun c45 => ?_)
          · refine r_iload hG dX6_lays_96 rfl ?_
            have ei : i = layM (R 4 2) := by omega
            subst ei
            exact r_iret hG hE dX6_lays_98 (by rw [e0]) ⟨YT, J, by rw [e0]; rfl⟩
          · refine r_aload hG dX6_lays_48 rfl ?_
            refine r_get hG cX6_lays_X2 35 0 rfl rfl (by decide) kX6_lays_216 rfl dX6_lays_50 ?_
            refine r_iload hG dX6_lays_53 rfl ?_
            refine r_lald hG 36 rfl (by omega) (by decide) dX6_lays_55 ?_
            refine r_lstore hG dX6_lays_56 (by decide) rfl ?_
            refine r_lload hG dX6_lays_58 rfl ?_
            refine r_lconst (v := 0) hG dX6_lays_60 rfl ?_
            refine r_lcmp hG dX6_lays_61 ?_
            refine rr_if_lt (tgt := 90) hG dX6_lays_62 (by decide) (fun c62 => ?_) (fun c62 => ?_)
            · first
                | exact V_lv (Jf (by omega) (okL_lt c62)) ⟨rfl, rfl, rfl, rfl, rfl, trivial⟩
                | exact V_lv (Jf (by omega) (okL_gt c71)) ⟨rfl, rfl, rfl, rfl, rfl, trivial⟩
                | exact V_lv (Jt (by omega) (okL_ok c62 c71)) ⟨rfl, rfl, rfl, rfl, rfl, trivial⟩
            · refine r_lload hG dX6_lays_65 rfl ?_
              refine r_ldc2 hG (List.mem_of_getElem? (i := 4) rfl) dX6_lays_67 ?_
              refine r_lcmp hG dX6_lays_70 ?_
              refine rr_if_gt (tgt := 90) hG dX6_lays_71 (by decide) (fun c71 => ?_) (fun c71 => ?_)
              · first
                  | exact V_lv (Jf (by omega) (okL_lt c62)) ⟨rfl, rfl, rfl, rfl, rfl, trivial⟩
                  | exact V_lv (Jf (by omega) (okL_gt c71)) ⟨rfl, rfl, rfl, rfl, rfl, trivial⟩
                  | exact V_lv (Jt (by omega) (okL_ok c62 c71)) ⟨rfl, rfl, rfl, rfl, rfl, trivial⟩
              · refine r_aload_n (i := 0) hG dX6_lays_74 rfl rfl ?_
                refine r_get hG cX6_lays_X6 0 0 rfl rfl (by decide) kX6_lays_10 rfl dX6_lays_75 ?_
                refine r_iload_n (i := 2) hG dX6_lays_78 rfl rfl ?_
                refine r_iload hG dX6_lays_79 rfl ?_
                refine r_lload hG dX6_lays_81 rfl ?_
                refine r_l2i hG dX6_lays_83 ?_
                refine V_top (x' := iI ((C (40 * 2 + (i : Int))).toInt)) (Int32.ofInt_int64ToInt _).symm ?_
                refine r_midv hG (c_X4_makeLike (g_l G) (g_D G) (fun i => a (2 + i)) (layN Z C 2 c i) ((J) 0) ((J) 1) ((J) 2) _ _ _ (by omega) (by omega)) (bobj (g_D G) a (R)) (yw (g_D G) (fun i => a (10 + i)) (K) ((J) 3) ((J) 4) ((J) 5) ++ (yw (g_D G) (fun i => a (18 + i)) (YT) ((J) 6) ((J) 7) ((J) 8) ++ (bestw (a 26) ((J) 9) ((J) 10) ++ (btxt (g_D G) a (R) (J) ++ bshs (g_D G) a (R) (C))))) rfl gX6_lays_X4_makeLike rfl hyX4_makeLike rfl (by decide) (by decide) 0 rfl rfl rfl (Nat.le_of_ble_eq_true rfl) ⟨Nat.zero_le _, Nat.zero_le _⟩ dX6_lays_84 ?_
                intro w hw
                subst hw
                refine V_ws (ws' := bw (g_D G) a (upY (layN Z C 2 c i) 4 (c * 10 + (i : Int)) (C (40 * 2 + (i : Int))).toInt) (K) (R) (C) (YT) (J)) rfl ?_
                refine r_iinc hG dX6_lays_87 rfl (by decide) rfl ?_
                first
                  | exact V_lv (Jf (by omega) (okL_lt c62)) ⟨rfl, rfl, rfl, rfl, rfl, trivial⟩
                  | exact V_lv (Jf (by omega) (okL_gt c71)) ⟨rfl, rfl, rfl, rfl, rfl, trivial⟩
                  | exact V_lv (Jt (by omega) (okL_ok c62 c71)) ⟨rfl, rfl, rfl, rfl, rfl, trivial⟩
      refine r_aload_n (i := 0) hG dX6_lays_17 rfl rfl ?_
      refine r_get hG cX6_lays_X6 0 6 rfl rfl (by decide) kX6_lays_43 rfl dX6_lays_18 ?_
      refine r_iload_n (i := 1) hG dX6_lays_21 rfl rfl ?_
      refine r_aldq hG 30 rfl (by omega) (by decide) dX6_lays_22 (v := .ref (a 35)) rfl ?_
      refine r_astore hG dX6_lays_23 (by decide) rfl ?_
      refine r_iconst hG dX6_lays_25 ?_
      refine r_istore hG dX6_lays_26 (by decide) rfl ?_
      refine r_iconst hG dX6_lays_28 ?_
      refine r_istore hG dX6_lays_29 (by decide) rfl ?_
      exact V_lv (L 0 (by omega)) ⟨rfl, rfl, rfl, rfl, rfl, trivial⟩
    · subst hv4
      have L : ∀ i : Nat, i ≤ layM (R 4 3) → V G 0 0 (bw (g_D G) a (layN Z C 3 c i) K R C YT J) 31 [(0, .ref (a 0)), (2, .int (iI c)), (4, .ref (a 37)), (5, .int (iI (layK C 3 i))), (6, .int (iI (i : Int)))] [] := by
        refine down (fun i hi ih => ?_)
        have J90 : i < layM (R 4 3) → V G 0 0 (bw (g_D G) a (layN Z C 3 c (i + 1)) K R C YT J) 90 [(0, .ref (a 0)), (2, .int (iI c)), (4, .ref (a 37)), (5, .int (iI (layK C 3 (i + 1)))), (6, .int (iI (i : Int)))] [] := by
          intro hiN
          refine r_iinc hG dX6_lays_90 rfl (by decide) rfl ?_
          refine r_goto (tgt := 31) hG dX6_lays_93 (by decide) ?_
          exact V_lv (ih hiN) ⟨rfl, rfl, rfl, rfl, rfl, trivial⟩
        have Jf : i < layM (R 4 3) → okL C 3 i = false → V G 0 0 (bw (g_D G) a (layN Z C 3 c i) K R C YT J) 90 [(0, .ref (a 0)), (2, .int (iI c)), (4, .ref (a 37)), (5, .int (iI (layK C 3 i))), (6, .int (iI (i : Int)))] [] := fun hiN e1 =>
          V_ws (ws' := bw (g_D G) a (layN Z C 3 c (i + 1)) K R C YT J) (by rw [layN, e1]; rfl) (V_lv (J90 hiN) ⟨rfl, rfl, rfl, (congrArg (fun v => some (Value.int (iI v))) (by rw [layK, e1]; simp)), rfl, trivial⟩)
        have Jt : i < layM (R 4 3) → okL C 3 i = true → V G 0 0 (bw (g_D G) a (upY (layN Z C 3 c i) 4 (c * 10 + (i : Int)) (C (40 * 3 + (i : Int))).toInt) K R C YT J) 90 [(0, .ref (a 0)), (2, .int (iI c)), (4, .ref (a 37)), (5, .int (iI (layK C 3 i + 1))), (6, .int (iI (i : Int)))] [] := fun hiN e1 =>
          V_ws (ws' := bw (g_D G) a (layN Z C 3 c (i + 1)) K R C YT J) (by rw [layN, if_pos e1]) (V_lv (J90 hiN) ⟨rfl, rfl, rfl, (congrArg (fun v => some (Value.int (iI v))) (by rw [layK, if_pos e1])), rfl, trivial⟩)
        refine r_iload hG dX6_lays_31 rfl ?_
        refine r_bipush hG dX6_lays_33 rfl ?_
        refine r_icmp_ge (tgt := 96) hG (by omega) (by omega) dX6_lays_35 (by decide) (fun c35 => ?_) (fun c35 => ?_)
        · refine r_iload hG dX6_lays_96 rfl ?_
          have ei : i = layM (R 4 3) := by omega
          subst ei
          exact r_iret hG hE dX6_lays_98 (by rw [e0]) ⟨YT, J, by rw [e0]; rfl⟩
        · refine r_iload hG dX6_lays_38 rfl ?_
          refine r_aload hG dX6_lays_40 rfl ?_
          refine r_get hG cX6_lays_X2 37 2 rfl rfl (by decide) kX6_lays_212 rfl dX6_lays_42 ?_
          refine r_icmp_ge (tgt := 96) hG (by omega) (by omega) dX6_lays_45 (by decide) (fun c45 => ?_) (fun c45 => ?_)
          · refine r_iload hG dX6_lays_96 rfl ?_
            have ei : i = layM (R 4 3) := by omega
            subst ei
            exact r_iret hG hE dX6_lays_98 (by rw [e0]) ⟨YT, J, by rw [e0]; rfl⟩
          · refine r_aload hG dX6_lays_48 rfl ?_
            refine r_get hG cX6_lays_X2 37 0 rfl rfl (by decide) kX6_lays_216 rfl dX6_lays_50 ?_
            refine r_iload hG dX6_lays_53 rfl ?_
            refine r_lald hG 38 rfl (by omega) (by decide) dX6_lays_55 ?_
            refine r_lstore hG dX6_lays_56 (by decide) rfl ?_
            refine r_lload hG dX6_lays_58 rfl ?_
            refine r_lconst (v := 0) hG dX6_lays_60 rfl ?_
            refine r_lcmp hG dX6_lays_61 ?_
            refine rr_if_lt (tgt := 90) hG dX6_lays_62 (by decide) (fun c62 => ?_) (fun c62 => ?_)
            · first
                | exact V_lv (Jf (by omega) (okL_lt c62)) ⟨rfl, rfl, rfl, rfl, rfl, trivial⟩
                | exact V_lv (Jf (by omega) (okL_gt c71)) ⟨rfl, rfl, rfl, rfl, rfl, trivial⟩
                | exact V_lv (Jt (by omega) (okL_ok c62 c71)) ⟨rfl, rfl, rfl, rfl, rfl, trivial⟩
            · refine r_lload hG dX6_lays_65 rfl ?_
              refine r_ldc2 hG (List.mem_of_getElem? (i := 4) rfl) dX6_lays_67 ?_
              refine r_lcmp hG dX6_lays_70 ?_
              refine rr_if_gt (tgt := 90) hG dX6_lays_71 (by decide) (fun c71 => ?_) (fun c71 => ?_)
              · first
                  | exact V_lv (Jf (by omega) (okL_lt c62)) ⟨rfl, rfl, rfl, rfl, rfl, trivial⟩
                  | exact V_lv (Jf (by omega) (okL_gt c71)) ⟨rfl, rfl, rfl, rfl, rfl, trivial⟩
                  | exact V_lv (Jt (by omega) (okL_ok c62 c71)) ⟨rfl, rfl, rfl, rfl, rfl, trivial⟩
              · refine r_aload_n (i := 0) hG dX6_lays_74 rfl rfl ?_
                refine r_get hG cX6_lays_X6 0 0 rfl rfl (by decide) kX6_lays_10 rfl dX6_lays_75 ?_
                refine r_iload_n (i := 2) hG dX6_lays_78 rfl rfl ?_
                refine r_iload hG dX6_lays_79 rfl ?_
                refine r_lload hG dX6_lays_81 rfl ?_
                refine r_l2i hG dX6_lays_83 ?_
                refine V_top (x' := iI ((C (40 * 3 + (i : Int))).toInt)) (Int32.ofInt_int64ToInt _).symm ?_
                refine r_midv hG (c_X4_makeLike (g_l G) (g_D G) (fun i => a (2 + i)) (layN Z C 3 c i) ((J) 0) ((J) 1) ((J) 2) _ _ _ (by omega) (by omega)) (bobj (g_D G) a (R)) (yw (g_D G) (fun i => a (10 + i)) (K) ((J) 3) ((J) 4) ((J) 5) ++ (yw (g_D G) (fun i => a (18 + i)) (YT) ((J) 6) ((J) 7) ((J) 8) ++ (bestw (a 26) ((J) 9) ((J) 10) ++ (btxt (g_D G) a (R) (J) ++ bshs (g_D G) a (R) (C))))) rfl gX6_lays_X4_makeLike rfl hyX4_makeLike rfl (by decide) (by decide) 0 rfl rfl rfl (Nat.le_of_ble_eq_true rfl) ⟨Nat.zero_le _, Nat.zero_le _⟩ dX6_lays_84 ?_
                intro w hw
                subst hw
                refine V_ws (ws' := bw (g_D G) a (upY (layN Z C 3 c i) 4 (c * 10 + (i : Int)) (C (40 * 3 + (i : Int))).toInt) (K) (R) (C) (YT) (J)) rfl ?_
                refine r_iinc hG dX6_lays_87 rfl (by decide) rfl ?_
                first
                  | exact V_lv (Jf (by omega) (okL_lt c62)) ⟨rfl, rfl, rfl, rfl, rfl, trivial⟩
                  | exact V_lv (Jf (by omega) (okL_gt c71)) ⟨rfl, rfl, rfl, rfl, rfl, trivial⟩
                  | exact V_lv (Jt (by omega) (okL_ok c62 c71)) ⟨rfl, rfl, rfl, rfl, rfl, trivial⟩
      refine r_aload_n (i := 0) hG dX6_lays_17 rfl rfl ?_
      refine r_get hG cX6_lays_X6 0 6 rfl rfl (by decide) kX6_lays_43 rfl dX6_lays_18 ?_
      refine r_iload_n (i := 1) hG dX6_lays_21 rfl rfl ?_
      refine r_aldq hG 30 rfl (by omega) (by decide) dX6_lays_22 (v := .ref (a 37)) rfl ?_
      refine r_astore hG dX6_lays_23 (by decide) rfl ?_
      refine r_iconst hG dX6_lays_25 ?_
      refine r_istore hG dX6_lays_26 (by decide) rfl ?_
      refine r_iconst hG dX6_lays_28 ?_
      refine r_istore hG dX6_lays_29 (by decide) rfl ?_
      exact V_lv (L 0 (by omega)) ⟨rfl, rfl, rfl, rfl, rfl, trivial⟩
  refine r_aload_n (i := 0) hG dX6_lays_0 rfl rfl ?_
  refine r_iload_n (i := 1) hG dX6_lays_1 rfl rfl ?_
  refine r_iload_n (i := 2) hG dX6_lays_2 rfl rfl ?_
  refine r_callVi hG (c_X6_sheetFinding (g_l G) (g_D G) a Z K R C YT J hI hS _ _ (by omega) (by omega))  gX6_lays_X6_sheetFinding rfl hyX6_sheetFinding rfl (by decide) (by decide) 0 rfl rfl rfl (Nat.le_of_ble_eq_true rfl) ⟨Nat.zero_le _, Nat.zero_le _⟩ dX6_lays_3 (fun w hw => ?_)
  subst hw
  refine r_istore_n (i := 3) hG dX6_lays_6 rfl (by decide) rfl ?_
  refine r_iload_n (i := 3) hG dX6_lays_7 rfl rfl ?_
  refine r_if_lt (tgt := 17) hG (by omega) dX6_lays_8 (by decide) (fun c8 => ?_) (fun c8 => ?_)
  · exact V_lv (M (by omega)) ⟨rfl, rfl, rfl, rfl, trivial⟩
  · refine r_aload_n (i := 0) hG dX6_lays_11 rfl rfl ?_
    refine r_iload_n (i := 3) hG dX6_lays_12 rfl rfl ?_
    refine r_callVi hG (c_X6_finding (g_l G) (g_D G) a (Z) (K) (R) (C) (YT) (J) (sfK Z R s c) (by omega))  gX6_lays_X6_finding rfl hyX6_finding rfl (by decide) (by decide) 0 rfl rfl rfl (Nat.le_of_ble_eq_true rfl) ⟨Nat.zero_le _, Nat.zero_le _⟩ dX6_lays_13 (fun w hw => ?_)
    subst hw
    exact r_iret hG hE dX6_lays_16 (by unfold s_lays; rw [onSheet_no (by omega)]; rfl) ⟨YT, J, by unfold s_lays; rw [onSheet_no (by omega)]; rfl⟩
theorem kX6_book_43 : Cond.fieldLink RX6 43 "BreakSwaps" "sheets" "[LBreakSwaps$Sheet;" ∈ wsX6_book := List.mem_of_getElem? (i := 1) rfl
theorem kX6_book_19 : Cond.fieldLink RX6 19 "BreakSwaps" "trial" "LBreakSwaps$Yard;" ∈ wsX6_book := List.mem_of_getElem? (i := 2) rfl
theorem kX6_book_10 : Cond.fieldLink RX6 10 "BreakSwaps" "live" "LBreakSwaps$Yard;" ∈ wsX6_book := List.mem_of_getElem? (i := 3) rfl
theorem kX6_book_212 : Cond.fieldLink RX6 212 "BreakSwaps$Sheet" "length" "I" ∈ wsX6_book := List.mem_of_getElem? (i := 4) rfl
theorem kX6_book_110 : Cond.fieldLink RX6 110 "BreakSwaps$Yard" "has" "[I" ∈ wsX6_book := List.mem_of_getElem? (i := 5) rfl
theorem cX6_book_X2 : ∀ w ∈ wsX20, w ∈ wsX6_book := fun _ h => List.mem_cons_of_mem _ (List.mem_append_left _ (List.mem_append_left _ (List.mem_append_right _ h)))
theorem cX6_book_X4 : ∀ w ∈ wsX40, w ∈ wsX6_book := fun _ h => List.mem_cons_of_mem _ (List.mem_append_left _ (List.mem_append_right _ h))
theorem cX6_book_X6 : ∀ w ∈ wsX60, w ∈ wsX6_book := fun _ h => List.mem_cons_of_mem _ (List.mem_append_left _ (List.mem_append_left _ (List.mem_append_left _ (List.mem_append_right _ h))))
theorem hyX6_book : hyV yX6_book RX6 2 := by decide +kernel
set_option maxHeartbeats 4000000 in
set_option maxRecDepth 100000 in
theorem c_X6_book (l : Launch) (D : va_G) (a : Nat → Nat) (Z K R : YS) (C : Int → Int64) (YT : YS) (J : Nat → Int) (hT : TI (Z, K, R, C)) (s c : Int) (hs : -2147483648 ≤ s ∧ s < 2147483648) (hc : -2147483648 ≤ c ∧ c < 2147483648) : Con l yX6_book wsX6_book 6 D (bw D a Z K R C YT J) [.ref (a 0), .int (iI s), .int (iI c)] (some (.int (iI ((s_book (Z, K, R, C) s c).1)))) (fun ww => ∃ Y2 J2, ww = bwT D a (s_book (Z, K, R, C) s c).2 Y2 J2) := by
  refine con_start (own := RX6) (by decide) rfl rfl (Nat.le_of_ble_eq_true rfl) ?_
  intro G hG hE hl hD
  subst hl
  subst hD
  have hI : Inv Z := hT.1.1
  have hH : Hol Z := hT.1.2.1
  have hN := hI.1
  have hr0 := hI.2.1
  have hu5 := hI.2.2.1
  have hrd : Z 5 0 ≤ 99999 := hT.1.2.2
  have hS : ∀ s, 0 ≤ s → s < 4 → (R 3 s = 0 ∨ R 3 s = 8 ∨ R 3 s = 16 ∨ R 3 s = 64) ∧ 0 ≤ R 4 s ∧ R 4 s ≤ 40 := hT.2.2.2
  have hsf := sfK_rng Z R s c
  have M : sfK Z R s c < 0 → V G 0 0 (bw (g_D G) a Z K R C YT J) 17 [(0, .ref (a 0)), (1, .int (iI s)), (2, .int (iI c)), (3, .int (iI (sfK Z R s c)))] [] := by
    intro hsk
    obtain ⟨h1, h2, h3⟩ := sfK_ok hsk
    have hsz := hS s h1.1 (by omega)
    have e0 : s_book (Z, K, R, C) s c = (R 4 s, (Z, K, R, bookC Z C (R 3 s) s c (R 4 s))) := onSheet_ok hsk
    rcases (show s = 0 ∨ s = 1 ∨ s = 2 ∨ s = 3 by omega) with hv4 | hv4 | hv4 | hv4
    · subst hv4
      have L : ∀ i : Nat, i ≤ (R 4 0).toNat → ∀ J1 : Nat → Int, QI (goZ Z i) (J1 8) → V G 0 0 (bw (g_D G) a (Z) (K) (R) (bookC Z C (R 3 0) 0 c (i)) (goZ Z i) (J1)) 39 [(0, .ref (a 0)), (2, .int (iI c)), (4, .ref (a 31)), (5, .int (iI (i : Int)))] [] := by
        refine down (fun i hi ih J1 hq => ?_)
        have hg := goZ_ok hI i
        have hc1 := Inv_c hg.1 (c := c) (by omega)
        refine r_iload hG dX6_book_39 rfl ?_
        refine r_aload hG dX6_book_41 rfl ?_
        refine r_get hG cX6_book_X2 31 2 rfl rfl (by decide) kX6_book_212 rfl dX6_book_43 ?_
        refine r_icmp_ge (tgt := 79) hG (by omega) (by omega) dX6_book_46 (by decide) (fun c46 => ?_) (fun c46 => ?_)
        · refine r_aload hG dX6_book_79 rfl ?_
          refine r_get hG cX6_book_X2 31 2 rfl rfl (by decide) kX6_book_212 rfl dX6_book_81 ?_
          have ei : (i : Int) = R 4 0 := by omega
          exact r_iret hG hE dX6_book_84 (by rw [e0]) ⟨goZ Z i, J1, by rw [e0, ← ei]; rfl⟩
        · refine r_aload hG dX6_book_49 rfl ?_
          refine r_iload hG dX6_book_51 rfl ?_
          refine r_aload_n (i := 0) hG dX6_book_53 rfl rfl ?_
          refine r_get hG cX6_book_X6 0 2 rfl rfl (by decide) kX6_book_19 rfl dX6_book_54 ?_
          refine r_get hG cX6_book_X4 18 4 rfl rfl (by decide) kX6_book_110 rfl dX6_book_57 ?_
          refine r_iload_n (i := 2) hG dX6_book_60 rfl rfl ?_
          refine r_iald hG 20 rfl (by omega) (by decide) dX6_book_61 ?_
          refine r_i2l hG dX6_book_62 ?_
          refine r_midv hG (c_X2_put (g_l G) (g_D G) (fun i => a (31 + i)) (fun jz => (bookC Z C (R 3 0) 0 c (i)) (40 * 0 + jz)) ((R) 3 0) ((R) 4 0) (by omega) i _ (by omega)) (bobj (g_D G) a (R) ++ (yw (g_D G) (fun i => a (2 + i)) (Z) ((J1) 0) ((J1) 1) ((J1) 2) ++ (yw (g_D G) (fun i => a (10 + i)) (K) ((J1) 3) ((J1) 4) ((J1) 5) ++ (yw (g_D G) (fun i => a (18 + i)) (goZ Z i) ((J1) 6) ((J1) 7) ((J1) 8) ++ (bestw (a 26) ((J1) 9) ((J1) 10) ++ (btxt (g_D G) a (R) (J1) ++ ([(a 30, .inl ((g_D G).1 102, 4, .inr (.inr (.inr (.inr (fun k => some (a (31 + 2 * k))))))))]))))))) (sheetw (g_D G) (fun i => a (33 + i)) (fun jz => (bookC Z C (R 3 0) 0 c (i)) (40 * 1 + jz)) ((R) 3 1) ((R) 4 1) ++ (sheetw (g_D G) (fun i => a (35 + i)) (fun jz => (bookC Z C (R 3 0) 0 c (i)) (40 * 2 + jz)) ((R) 3 2) ((R) 4 2) ++ (sheetw (g_D G) (fun i => a (37 + i)) (fun jz => (bookC Z C (R 3 0) 0 c (i)) (40 * 3 + jz)) ((R) 3 3) ((R) 4 3)))) rfl gX6_book_X2_put rfl hyX2_put rfl (by decide) (by decide) 0 rfl rfl rfl (Nat.le_of_ble_eq_true rfl) ⟨Nat.zero_le _, Nat.zero_le _⟩ dX6_book_63 ?_
          intro w hw
          subst hw
          refine V_ws (ws' := bwX (g_D G) a (Z) (K) (R) (up1 (fun jz => (bookC Z C (R 3 0) 0 c (i)) (40 * 0 + jz)) i (cutL (R 3 0) (iI ((goZ Z i) 1 c)).toInt64)) (fun jz => (bookC Z C (R 3 0) 0 c (i)) (40 * 1 + jz)) (fun jz => (bookC Z C (R 3 0) 0 c (i)) (40 * 2 + jz)) (fun jz => (bookC Z C (R 3 0) 0 c (i)) (40 * 3 + jz)) (goZ Z i) (J1)) rfl ?_
          refine V_shC (C := bookC Z C (R 3 0) 0 c ((i + 1 : Nat) : Int)) (fun j h0 h1 => book_same (i := (i : Int)) (by omega) j h0) (fun j h0 h1 => book_other (i := (i : Int)) (by omega)) (fun j h0 h1 => book_other (i := (i : Int)) (by omega)) (fun j h0 h1 => book_other (i := (i : Int)) (by omega)) ?_
          refine r_aload_n (i := 0) hG dX6_book_66 rfl rfl ?_
          refine r_get hG cX6_book_X6 0 2 rfl rfl (by decide) kX6_book_19 rfl dX6_book_67 ?_
          refine r_midv hG (c_X4_playRound (g_l G) (g_D G) (fun i => a (18 + i)) (goZ Z i) ((J1) 6) ((J1) 7) ((J1) 8) hg.1 (hg.2.2.2.2.2.2 hH) (by omega) hq) (bobj (g_D G) a (R) ++ (yw (g_D G) (fun i => a (2 + i)) (Z) ((J1) 0) ((J1) 1) ((J1) 2) ++ yw (g_D G) (fun i => a (10 + i)) (K) ((J1) 3) ((J1) 4) ((J1) 5))) (bestw (a 26) ((J1) 9) ((J1) 10) ++ (btxt (g_D G) a (R) (J1) ++ bshs (g_D G) a (R) (bookC Z C (R 3 0) 0 c ((i + 1 : Nat) : Int)))) rfl gX6_book_X4_playRound rfl hyX4_playRound rfl (by decide) (by decide) 0 rfl rfl rfl (Nat.le_of_ble_eq_true rfl) ⟨Nat.zero_le _, Nat.zero_le _⟩ dX6_book_70 ?_
          rintro w ⟨x2, z2, q2, rfl, hq2⟩
          obtain ⟨J2, hJ2⟩ : ∃ J2 : Nat → Int, J2 = jn (jn (jn J1 6 x2) 7 z2) 8 q2 := ⟨_, rfl⟩
          have hq3 : QI (goZ Z (i + 1)) (J2 8) := by rw [hJ2]; exact hq2
          refine V_ws (ws' := bw (g_D G) a (Z) (K) (R) (bookC Z C (R 3 0) 0 c ((i + 1 : Nat) : Int)) (goZ Z (i + 1)) (J2)) (by rw [hJ2]; rfl) ?_
          refine r_iinc hG dX6_book_73 rfl (by decide) rfl ?_
          refine r_goto (tgt := 39) hG dX6_book_76 (by decide) ?_
          exact V_lv (ih (by omega) J2 hq3) ⟨rfl, rfl, rfl, rfl, trivial⟩
      refine r_aload_n (i := 0) hG dX6_book_17 rfl rfl ?_
      refine r_get hG cX6_book_X6 0 6 rfl rfl (by decide) kX6_book_43 rfl dX6_book_18 ?_
      refine r_iload_n (i := 1) hG dX6_book_21 rfl rfl ?_
      refine r_aldq hG 30 rfl (by omega) (by decide) dX6_book_22 (v := .ref (a 31)) rfl ?_
      refine r_astore hG dX6_book_23 (by decide) rfl ?_
      refine r_aload_n (i := 0) hG dX6_book_25 rfl rfl ?_
      refine r_get hG cX6_book_X6 0 2 rfl rfl (by decide) kX6_book_19 rfl dX6_book_26 ?_
      refine r_aload_n (i := 0) hG dX6_book_29 rfl rfl ?_
      refine r_get hG cX6_book_X6 0 0 rfl rfl (by decide) kX6_book_10 rfl dX6_book_30 ?_
      refine r_becT hG gX6_book_X4_become (by decide) (Nat.le_of_ble_eq_true rfl) ⟨Nat.zero_le _, Nat.zero_le _⟩ dX6_book_33 ?_
      refine r_iconst hG dX6_book_36 ?_
      refine r_istore hG dX6_book_37 (by decide) rfl ?_
      refine V_ws (ws' := bw (g_D G) a (Z) (K) (R) (bookC Z C (R 3 0) 0 c (((0 : Nat) : Int))) (goZ Z 0) (jn J 8 0)) (by rw [show bookC Z C (R 3 0) 0 c ((0 : Nat) : Int) = C from book_0 _ _ _ _ _]; rfl) ?_
      exact V_lv (L 0 (by omega) (jn J 8 0) (Or.inl rfl)) ⟨rfl, rfl, rfl, rfl, trivial⟩
    · subst hv4
      have L : ∀ i : Nat, i ≤ (R 4 1).toNat → ∀ J1 : Nat → Int, QI (goZ Z i) (J1 8) → V G 0 0 (bw (g_D G) a (Z) (K) (R) (bookC Z C (R 3 1) 1 c (i)) (goZ Z i) (J1)) 39 [(0, .ref (a 0)), (2, .int (iI c)), (4, .ref (a 33)), (5, .int (iI (i : Int)))] [] := by
        refine down (fun i hi ih J1 hq => ?_)
        have hg := goZ_ok hI i
        have hc1 := Inv_c hg.1 (c := c) (by omega)
        refine r_iload hG dX6_book_39 rfl ?_
        refine r_aload hG dX6_book_41 rfl ?_
        refine r_get hG cX6_book_X2 33 2 rfl rfl (by decide) kX6_book_212 rfl dX6_book_43 ?_
        refine r_icmp_ge (tgt := 79) hG (by omega) (by omega) dX6_book_46 (by decide) (fun c46 => ?_) (fun c46 => ?_)
        · refine r_aload hG dX6_book_79 rfl ?_
          refine r_get hG cX6_book_X2 33 2 rfl rfl (by decide) kX6_book_212 rfl dX6_book_81 ?_
          have ei : (i : Int) = R 4 1 := by omega
          exact r_iret hG hE dX6_book_84 (by rw [e0]) ⟨goZ Z i, J1, by rw [e0, ← ei]; rfl⟩
        · refine r_aload hG dX6_book_49 rfl ?_
          refine r_iload hG dX6_book_51 rfl ?_
          refine r_aload_n (i := 0) hG dX6_book_53 rfl rfl ?_
          refine r_get hG cX6_book_X6 0 2 rfl rfl (by decide) kX6_book_19 rfl dX6_book_54 ?_
          refine r_get hG cX6_book_X4 18 4 rfl rfl (by decide) kX6_book_110 rfl dX6_book_57 ?_
          refine r_iload_n (i := 2) hG dX6_book_60 rfl rfl ?_
          refine r_iald hG 20 rfl (by omega) (by decide) dX6_book_61 ?_
          refine r_i2l hG dX6_book_62 ?_
          refine r_midv hG (c_X2_put (g_l G) (g_D G) (fun i => a (33 + i)) (fun jz => (bookC Z C (R 3 1) 1 c (i)) (40 * 1 + jz)) ((R) 3 1) ((R) 4 1) (by omega) i _ (by omega)) (bobj (g_D G) a (R) ++ (yw (g_D G) (fun i => a (2 + i)) (Z) ((J1) 0) ((J1) 1) ((J1) 2) ++ (yw (g_D G) (fun i => a (10 + i)) (K) ((J1) 3) ((J1) 4) ((J1) 5) ++ (yw (g_D G) (fun i => a (18 + i)) (goZ Z i) ((J1) 6) ((J1) 7) ((J1) 8) ++ (bestw (a 26) ((J1) 9) ((J1) 10) ++ (btxt (g_D G) a (R) (J1) ++ ([(a 30, .inl ((g_D G).1 102, 4, .inr (.inr (.inr (.inr (fun k => some (a (31 + 2 * k))))))))] ++ (sheetw (g_D G) (fun i => a (31 + i)) (fun jz => (bookC Z C (R 3 1) 1 c (i)) (40 * 0 + jz)) ((R) 3 0) ((R) 4 0))))))))) (sheetw (g_D G) (fun i => a (35 + i)) (fun jz => (bookC Z C (R 3 1) 1 c (i)) (40 * 2 + jz)) ((R) 3 2) ((R) 4 2) ++ (sheetw (g_D G) (fun i => a (37 + i)) (fun jz => (bookC Z C (R 3 1) 1 c (i)) (40 * 3 + jz)) ((R) 3 3) ((R) 4 3))) rfl gX6_book_X2_put rfl hyX2_put rfl (by decide) (by decide) 0 rfl rfl rfl (Nat.le_of_ble_eq_true rfl) ⟨Nat.zero_le _, Nat.zero_le _⟩ dX6_book_63 ?_
          intro w hw
          subst hw
          refine V_ws (ws' := bwX (g_D G) a (Z) (K) (R) (fun jz => (bookC Z C (R 3 1) 1 c (i)) (40 * 0 + jz)) (up1 (fun jz => (bookC Z C (R 3 1) 1 c (i)) (40 * 1 + jz)) i (cutL (R 3 1) (iI ((goZ Z i) 1 c)).toInt64)) (fun jz => (bookC Z C (R 3 1) 1 c (i)) (40 * 2 + jz)) (fun jz => (bookC Z C (R 3 1) 1 c (i)) (40 * 3 + jz)) (goZ Z i) (J1)) rfl ?_
          refine V_shC (C := bookC Z C (R 3 1) 1 c ((i + 1 : Nat) : Int)) (fun j h0 h1 => book_other (i := (i : Int)) (by omega)) (fun j h0 h1 => book_same (i := (i : Int)) (by omega) j h0) (fun j h0 h1 => book_other (i := (i : Int)) (by omega)) (fun j h0 h1 => book_other (i := (i : Int)) (by omega)) ?_
          refine r_aload_n (i := 0) hG dX6_book_66 rfl rfl ?_
          refine r_get hG cX6_book_X6 0 2 rfl rfl (by decide) kX6_book_19 rfl dX6_book_67 ?_
          refine r_midv hG (c_X4_playRound (g_l G) (g_D G) (fun i => a (18 + i)) (goZ Z i) ((J1) 6) ((J1) 7) ((J1) 8) hg.1 (hg.2.2.2.2.2.2 hH) (by omega) hq) (bobj (g_D G) a (R) ++ (yw (g_D G) (fun i => a (2 + i)) (Z) ((J1) 0) ((J1) 1) ((J1) 2) ++ yw (g_D G) (fun i => a (10 + i)) (K) ((J1) 3) ((J1) 4) ((J1) 5))) (bestw (a 26) ((J1) 9) ((J1) 10) ++ (btxt (g_D G) a (R) (J1) ++ bshs (g_D G) a (R) (bookC Z C (R 3 1) 1 c ((i + 1 : Nat) : Int)))) rfl gX6_book_X4_playRound rfl hyX4_playRound rfl (by decide) (by decide) 0 rfl rfl rfl (Nat.le_of_ble_eq_true rfl) ⟨Nat.zero_le _, Nat.zero_le _⟩ dX6_book_70 ?_
          rintro w ⟨x2, z2, q2, rfl, hq2⟩
          obtain ⟨J2, hJ2⟩ : ∃ J2 : Nat → Int, J2 = jn (jn (jn J1 6 x2) 7 z2) 8 q2 := ⟨_, rfl⟩
          have hq3 : QI (goZ Z (i + 1)) (J2 8) := by rw [hJ2]; exact hq2
          refine V_ws (ws' := bw (g_D G) a (Z) (K) (R) (bookC Z C (R 3 1) 1 c ((i + 1 : Nat) : Int)) (goZ Z (i + 1)) (J2)) (by rw [hJ2]; rfl) ?_
          refine r_iinc hG dX6_book_73 rfl (by decide) rfl ?_
          refine r_goto (tgt := 39) hG dX6_book_76 (by decide) ?_
          exact V_lv (ih (by omega) J2 hq3) ⟨rfl, rfl, rfl, rfl, trivial⟩
      refine r_aload_n (i := 0) hG dX6_book_17 rfl rfl ?_
      refine r_get hG cX6_book_X6 0 6 rfl rfl (by decide) kX6_book_43 rfl dX6_book_18 ?_
      refine r_iload_n (i := 1) hG dX6_book_21 rfl rfl ?_
      refine r_aldq hG 30 rfl (by omega) (by decide) dX6_book_22 (v := .ref (a 33)) rfl ?_
      refine r_astore hG dX6_book_23 (by decide) rfl ?_
      refine r_aload_n (i := 0) hG dX6_book_25 rfl rfl ?_
      refine r_get hG cX6_book_X6 0 2 rfl rfl (by decide) kX6_book_19 rfl dX6_book_26 ?_
      refine r_aload_n (i := 0) hG dX6_book_29 rfl rfl ?_
      refine r_get hG cX6_book_X6 0 0 rfl rfl (by decide) kX6_book_10 rfl dX6_book_30 ?_
      refine r_becT hG gX6_book_X4_become (by decide) (Nat.le_of_ble_eq_true rfl) ⟨Nat.zero_le _, Nat.zero_le _⟩ dX6_book_33 ?_
      refine r_iconst hG dX6_book_36 ?_
      refine r_istore hG dX6_book_37 (by decide) rfl ?_
      refine V_ws (ws' := bw (g_D G) a (Z) (K) (R) (bookC Z C (R 3 1) 1 c (((0 : Nat) : Int))) (goZ Z 0) (jn J 8 0)) (by rw [show bookC Z C (R 3 1) 1 c ((0 : Nat) : Int) = C from book_0 _ _ _ _ _]; rfl) ?_
      exact V_lv (L 0 (by omega) (jn J 8 0) (Or.inl rfl)) ⟨rfl, rfl, rfl, rfl, trivial⟩
    · subst hv4
      have L : ∀ i : Nat, i ≤ (R 4 2).toNat → ∀ J1 : Nat → Int, QI (goZ Z i) (J1 8) → V G 0 0 (bw (g_D G) a (Z) (K) (R) (bookC Z C (R 3 2) 2 c (i)) (goZ Z i) (J1)) 39 [(0, .ref (a 0)), (2, .int (iI c)), (4, .ref (a 35)), (5, .int (iI (i : Int)))] [] := by
        refine down (fun i hi ih J1 hq => ?_)
        have hg := goZ_ok hI i
        have hc1 := Inv_c hg.1 (c := c) (by omega)
        refine r_iload hG dX6_book_39 rfl ?_
        refine r_aload hG dX6_book_41 rfl ?_
        refine r_get hG cX6_book_X2 35 2 rfl rfl (by decide) kX6_book_212 rfl dX6_book_43 ?_
        refine r_icmp_ge (tgt := 79) hG (by omega) (by omega) dX6_book_46 (by decide) (fun c46 => ?_) (fun c46 => ?_)
        · refine r_aload hG dX6_book_79 rfl ?_
          refine r_get hG cX6_book_X2 35 2 rfl rfl (by decide) kX6_book_212 rfl dX6_book_81 ?_
          have ei : (i : Int) = R 4 2 := by omega
          exact r_iret hG hE dX6_book_84 (by rw [e0]) ⟨goZ Z i, J1, by rw [e0, ← ei]; rfl⟩
        · refine r_aload hG dX6_book_49 rfl ?_
          refine r_iload hG dX6_book_51 rfl ?_
          refine r_aload_n (i := 0) hG dX6_book_53 rfl rfl ?_
          refine r_get hG cX6_book_X6 0 2 rfl rfl (by decide) kX6_book_19 rfl dX6_book_54 ?_
          refine r_get hG cX6_book_X4 18 4 rfl rfl (by decide) kX6_book_110 rfl dX6_book_57 ?_
          refine r_iload_n (i := 2) hG dX6_book_60 rfl rfl ?_
          refine r_iald hG 20 rfl (by omega) (by decide) dX6_book_61 ?_
          refine r_i2l hG dX6_book_62 ?_
          refine r_midv hG (c_X2_put (g_l G) (g_D G) (fun i => a (35 + i)) (fun jz => (bookC Z C (R 3 2) 2 c (i)) (40 * 2 + jz)) ((R) 3 2) ((R) 4 2) (by omega) i _ (by omega)) (bobj (g_D G) a (R) ++ (yw (g_D G) (fun i => a (2 + i)) (Z) ((J1) 0) ((J1) 1) ((J1) 2) ++ (yw (g_D G) (fun i => a (10 + i)) (K) ((J1) 3) ((J1) 4) ((J1) 5) ++ (yw (g_D G) (fun i => a (18 + i)) (goZ Z i) ((J1) 6) ((J1) 7) ((J1) 8) ++ (bestw (a 26) ((J1) 9) ((J1) 10) ++ (btxt (g_D G) a (R) (J1) ++ ([(a 30, .inl ((g_D G).1 102, 4, .inr (.inr (.inr (.inr (fun k => some (a (31 + 2 * k))))))))] ++ (sheetw (g_D G) (fun i => a (31 + i)) (fun jz => (bookC Z C (R 3 2) 2 c (i)) (40 * 0 + jz)) ((R) 3 0) ((R) 4 0) ++ (sheetw (g_D G) (fun i => a (33 + i)) (fun jz => (bookC Z C (R 3 2) 2 c (i)) (40 * 1 + jz)) ((R) 3 1) ((R) 4 1)))))))))) (sheetw (g_D G) (fun i => a (37 + i)) (fun jz => (bookC Z C (R 3 2) 2 c (i)) (40 * 3 + jz)) ((R) 3 3) ((R) 4 3)) rfl gX6_book_X2_put rfl hyX2_put rfl (by decide) (by decide) 0 rfl rfl rfl (Nat.le_of_ble_eq_true rfl) ⟨Nat.zero_le _, Nat.zero_le _⟩ dX6_book_63 ?_
          intro w hw
          subst hw
          refine V_ws (ws' := bwX (g_D G) a (Z) (K) (R) (fun jz => (bookC Z C (R 3 2) 2 c (i)) (40 * 0 + jz)) (fun jz => (bookC Z C (R 3 2) 2 c (i)) (40 * 1 + jz)) (up1 (fun jz => (bookC Z C (R 3 2) 2 c (i)) (40 * 2 + jz)) i (cutL (R 3 2) (iI ((goZ Z i) 1 c)).toInt64)) (fun jz => (bookC Z C (R 3 2) 2 c (i)) (40 * 3 + jz)) (goZ Z i) (J1)) rfl ?_
          refine V_shC (C := bookC Z C (R 3 2) 2 c ((i + 1 : Nat) : Int)) (fun j h0 h1 => book_other (i := (i : Int)) (by omega)) (fun j h0 h1 => book_other (i := (i : Int)) (by omega)) (fun j h0 h1 => book_same (i := (i : Int)) (by omega) j h0) (fun j h0 h1 => book_other (i := (i : Int)) (by omega)) ?_
          refine r_aload_n (i := 0) hG dX6_book_66 rfl rfl ?_
          refine r_get hG cX6_book_X6 0 2 rfl rfl (by decide) kX6_book_19 rfl dX6_book_67 ?_
          refine r_midv hG (c_X4_playRound (g_l G) (g_D G) (fun i => a (18 + i)) (goZ Z i) ((J1) 6) ((J1) 7) ((J1) 8) hg.1 (hg.2.2.2.2.2.2 hH) (by omega) hq) (bobj (g_D G) a (R) ++ (yw (g_D G) (fun i => a (2 + i)) (Z) ((J1) 0) ((J1) 1) ((J1) 2) ++ yw (g_D G) (fun i => a (10 + i)) (K) ((J1) 3) ((J1) 4) ((J1) 5))) (bestw (a 26) ((J1) 9) ((J1) 10) ++ (btxt (g_D G) a (R) (J1) ++ bshs (g_D G) a (R) (bookC Z C (R 3 2) 2 c ((i + 1 : Nat) : Int)))) rfl gX6_book_X4_playRound rfl hyX4_playRound rfl (by decide) (by decide) 0 rfl rfl rfl (Nat.le_of_ble_eq_true rfl) ⟨Nat.zero_le _, Nat.zero_le _⟩ dX6_book_70 ?_
          rintro w ⟨x2, z2, q2, rfl, hq2⟩
          obtain ⟨J2, hJ2⟩ : ∃ J2 : Nat → Int, J2 = jn (jn (jn J1 6 x2) 7 z2) 8 q2 := ⟨_, rfl⟩
          have hq3 : QI (goZ Z (i + 1)) (J2 8) := by rw [hJ2]; exact hq2
          refine V_ws (ws' := bw (g_D G) a (Z) (K) (R) (bookC Z C (R 3 2) 2 c ((i + 1 : Nat) : Int)) (goZ Z (i + 1)) (J2)) (by rw [hJ2]; rfl) ?_
          refine r_iinc hG dX6_book_73 rfl (by decide) rfl ?_
          refine r_goto (tgt := 39) hG dX6_book_76 (by decide) ?_
          exact V_lv (ih (by omega) J2 hq3) ⟨rfl, rfl, rfl, rfl, trivial⟩
      refine r_aload_n (i := 0) hG dX6_book_17 rfl rfl ?_
      refine r_get hG cX6_book_X6 0 6 rfl rfl (by decide) kX6_book_43 rfl dX6_book_18 ?_
      refine r_iload_n (i := 1) hG dX6_book_21 rfl rfl ?_
      refine r_aldq hG 30 rfl (by omega) (by decide) dX6_book_22 (v := .ref (a 35)) rfl ?_
      refine r_astore hG dX6_book_23 (by decide) rfl ?_
      refine r_aload_n (i := 0) hG dX6_book_25 rfl rfl ?_
      refine r_get hG cX6_book_X6 0 2 rfl rfl (by decide) kX6_book_19 rfl dX6_book_26 ?_
      refine r_aload_n (i := 0) hG dX6_book_29 rfl rfl ?_
      refine r_get hG cX6_book_X6 0 0 rfl rfl (by decide) kX6_book_10 rfl dX6_book_30 ?_
      refine r_becT hG gX6_book_X4_become (by decide) (Nat.le_of_ble_eq_true rfl) ⟨Nat.zero_le _, Nat.zero_le _⟩ dX6_book_33 ?_
      refine r_iconst hG dX6_book_36 ?_
      refine r_istore hG dX6_book_37 (by decide) rfl ?_
      refine V_ws (ws' := bw (g_D G) a (Z) (K) (R) (bookC Z C (R 3 2) 2 c (((0 : Nat) : Int))) (goZ Z 0) (jn J 8 0)) (by rw [show bookC Z C (R 3 2) 2 c ((0 : Nat) : Int) = C from book_0 _ _ _ _ _]; rfl) ?_
      exact V_lv (L 0 (by omega) (jn J 8 0) (Or.inl rfl)) ⟨rfl, rfl, rfl, rfl, trivial⟩
    · subst hv4
      have L : ∀ i : Nat, i ≤ (R 4 3).toNat → ∀ J1 : Nat → Int, QI (goZ Z i) (J1 8) → V G 0 0 (bw (g_D G) a (Z) (K) (R) (bookC Z C (R 3 3) 3 c (i)) (goZ Z i) (J1)) 39 [(0, .ref (a 0)), (2, .int (iI c)), (4, .ref (a 37)), (5, .int (iI (i : Int)))] [] := by
        refine down (fun i hi ih J1 hq => ?_)
        have hg := goZ_ok hI i
        have hc1 := Inv_c hg.1 (c := c) (by omega)
        refine r_iload hG dX6_book_39 rfl ?_
        refine r_aload hG dX6_book_41 rfl ?_
        refine r_get hG cX6_book_X2 37 2 rfl rfl (by decide) kX6_book_212 rfl dX6_book_43 ?_
        refine r_icmp_ge (tgt := 79) hG (by omega) (by omega) dX6_book_46 (by decide) (fun c46 => ?_) (fun c46 => ?_)
        · refine r_aload hG dX6_book_79 rfl ?_
          refine r_get hG cX6_book_X2 37 2 rfl rfl (by decide) kX6_book_212 rfl dX6_book_81 ?_
          have ei : (i : Int) = R 4 3 := by omega
          exact r_iret hG hE dX6_book_84 (by rw [e0]) ⟨goZ Z i, J1, by rw [e0, ← ei]; rfl⟩
        · refine r_aload hG dX6_book_49 rfl ?_
          refine r_iload hG dX6_book_51 rfl ?_
          refine r_aload_n (i := 0) hG dX6_book_53 rfl rfl ?_
          refine r_get hG cX6_book_X6 0 2 rfl rfl (by decide) kX6_book_19 rfl dX6_book_54 ?_
          refine r_get hG cX6_book_X4 18 4 rfl rfl (by decide) kX6_book_110 rfl dX6_book_57 ?_
          refine r_iload_n (i := 2) hG dX6_book_60 rfl rfl ?_
          refine r_iald hG 20 rfl (by omega) (by decide) dX6_book_61 ?_
          refine r_i2l hG dX6_book_62 ?_
          refine r_midv hG (c_X2_put (g_l G) (g_D G) (fun i => a (37 + i)) (fun jz => (bookC Z C (R 3 3) 3 c (i)) (40 * 3 + jz)) ((R) 3 3) ((R) 4 3) (by omega) i _ (by omega)) (bobj (g_D G) a (R) ++ (yw (g_D G) (fun i => a (2 + i)) (Z) ((J1) 0) ((J1) 1) ((J1) 2) ++ (yw (g_D G) (fun i => a (10 + i)) (K) ((J1) 3) ((J1) 4) ((J1) 5) ++ (yw (g_D G) (fun i => a (18 + i)) (goZ Z i) ((J1) 6) ((J1) 7) ((J1) 8) ++ (bestw (a 26) ((J1) 9) ((J1) 10) ++ (btxt (g_D G) a (R) (J1) ++ ([(a 30, .inl ((g_D G).1 102, 4, .inr (.inr (.inr (.inr (fun k => some (a (31 + 2 * k))))))))] ++ (sheetw (g_D G) (fun i => a (31 + i)) (fun jz => (bookC Z C (R 3 3) 3 c (i)) (40 * 0 + jz)) ((R) 3 0) ((R) 4 0) ++ (sheetw (g_D G) (fun i => a (33 + i)) (fun jz => (bookC Z C (R 3 3) 3 c (i)) (40 * 1 + jz)) ((R) 3 1) ((R) 4 1) ++ (sheetw (g_D G) (fun i => a (35 + i)) (fun jz => (bookC Z C (R 3 3) 3 c (i)) (40 * 2 + jz)) ((R) 3 2) ((R) 4 2))))))))))) ([]) rfl gX6_book_X2_put rfl hyX2_put rfl (by decide) (by decide) 0 rfl rfl rfl (Nat.le_of_ble_eq_true rfl) ⟨Nat.zero_le _, Nat.zero_le _⟩ dX6_book_63 ?_
          intro w hw
          subst hw
          refine V_ws (ws' := bwX (g_D G) a (Z) (K) (R) (fun jz => (bookC Z C (R 3 3) 3 c (i)) (40 * 0 + jz)) (fun jz => (bookC Z C (R 3 3) 3 c (i)) (40 * 1 + jz)) (fun jz => (bookC Z C (R 3 3) 3 c (i)) (40 * 2 + jz)) (up1 (fun jz => (bookC Z C (R 3 3) 3 c (i)) (40 * 3 + jz)) i (cutL (R 3 3) (iI ((goZ Z i) 1 c)).toInt64)) (goZ Z i) (J1)) rfl ?_
          refine V_shC (C := bookC Z C (R 3 3) 3 c ((i + 1 : Nat) : Int)) (fun j h0 h1 => book_other (i := (i : Int)) (by omega)) (fun j h0 h1 => book_other (i := (i : Int)) (by omega)) (fun j h0 h1 => book_other (i := (i : Int)) (by omega)) (fun j h0 h1 => book_same (i := (i : Int)) (by omega) j h0) ?_
          refine r_aload_n (i := 0) hG dX6_book_66 rfl rfl ?_
          refine r_get hG cX6_book_X6 0 2 rfl rfl (by decide) kX6_book_19 rfl dX6_book_67 ?_
          refine r_midv hG (c_X4_playRound (g_l G) (g_D G) (fun i => a (18 + i)) (goZ Z i) ((J1) 6) ((J1) 7) ((J1) 8) hg.1 (hg.2.2.2.2.2.2 hH) (by omega) hq) (bobj (g_D G) a (R) ++ (yw (g_D G) (fun i => a (2 + i)) (Z) ((J1) 0) ((J1) 1) ((J1) 2) ++ yw (g_D G) (fun i => a (10 + i)) (K) ((J1) 3) ((J1) 4) ((J1) 5))) (bestw (a 26) ((J1) 9) ((J1) 10) ++ (btxt (g_D G) a (R) (J1) ++ bshs (g_D G) a (R) (bookC Z C (R 3 3) 3 c ((i + 1 : Nat) : Int)))) rfl gX6_book_X4_playRound rfl hyX4_playRound rfl (by decide) (by decide) 0 rfl rfl rfl (Nat.le_of_ble_eq_true rfl) ⟨Nat.zero_le _, Nat.zero_le _⟩ dX6_book_70 ?_
          rintro w ⟨x2, z2, q2, rfl, hq2⟩
          obtain ⟨J2, hJ2⟩ : ∃ J2 : Nat → Int, J2 = jn (jn (jn J1 6 x2) 7 z2) 8 q2 := ⟨_, rfl⟩
          have hq3 : QI (goZ Z (i + 1)) (J2 8) := by rw [hJ2]; exact hq2
          refine V_ws (ws' := bw (g_D G) a (Z) (K) (R) (bookC Z C (R 3 3) 3 c ((i + 1 : Nat) : Int)) (goZ Z (i + 1)) (J2)) (by rw [hJ2]; rfl) ?_
          refine r_iinc hG dX6_book_73 rfl (by decide) rfl ?_
          refine r_goto (tgt := 39) hG dX6_book_76 (by decide) ?_
          exact V_lv (ih (by omega) J2 hq3) ⟨rfl, rfl, rfl, rfl, trivial⟩
      refine r_aload_n (i := 0) hG dX6_book_17 rfl rfl ?_
      refine r_get hG cX6_book_X6 0 6 rfl rfl (by decide) kX6_book_43 rfl dX6_book_18 ?_
      refine r_iload_n (i := 1) hG dX6_book_21 rfl rfl ?_
      refine r_aldq hG 30 rfl (by omega) (by decide) dX6_book_22 (v := .ref (a 37)) rfl ?_
      refine r_astore hG dX6_book_23 (by decide) rfl ?_
      refine r_aload_n (i := 0) hG dX6_book_25 rfl rfl ?_
      refine r_get hG cX6_book_X6 0 2 rfl rfl (by decide) kX6_book_19 rfl dX6_book_26 ?_
      refine r_aload_n (i := 0) hG dX6_book_29 rfl rfl ?_
      refine r_get hG cX6_book_X6 0 0 rfl rfl (by decide) kX6_book_10 rfl dX6_book_30 ?_
      refine r_becT hG gX6_book_X4_become (by decide) (Nat.le_of_ble_eq_true rfl) ⟨Nat.zero_le _, Nat.zero_le _⟩ dX6_book_33 ?_
      refine r_iconst hG dX6_book_36 ?_
      refine r_istore hG dX6_book_37 (by decide) rfl ?_
      refine V_ws (ws' := bw (g_D G) a (Z) (K) (R) (bookC Z C (R 3 3) 3 c (((0 : Nat) : Int))) (goZ Z 0) (jn J 8 0)) (by rw [show bookC Z C (R 3 3) 3 c ((0 : Nat) : Int) = C from book_0 _ _ _ _ _]; rfl) ?_
      exact V_lv (L 0 (by omega) (jn J 8 0) (Or.inl rfl)) ⟨rfl, rfl, rfl, rfl, trivial⟩
  refine r_aload_n (i := 0) hG dX6_book_0 rfl rfl ?_
  refine r_iload_n (i := 1) hG dX6_book_1 rfl rfl ?_
  refine r_iload_n (i := 2) hG dX6_book_2 rfl rfl ?_
  refine r_callVi hG (c_X6_sheetFinding (g_l G) (g_D G) a Z K R C YT J hI hS _ _ (by omega) (by omega))  gX6_book_X6_sheetFinding rfl hyX6_sheetFinding rfl (by decide) (by decide) 0 rfl rfl rfl (Nat.le_of_ble_eq_true rfl) ⟨Nat.zero_le _, Nat.zero_le _⟩ dX6_book_3 (fun w hw => ?_)
  subst hw
  refine r_istore_n (i := 3) hG dX6_book_6 rfl (by decide) rfl ?_
  refine r_iload_n (i := 3) hG dX6_book_7 rfl rfl ?_
  refine r_if_lt (tgt := 17) hG (by omega) dX6_book_8 (by decide) (fun c8 => ?_) (fun c8 => ?_)
  · exact V_lv (M (by omega)) ⟨rfl, rfl, rfl, rfl, trivial⟩
  · refine r_aload_n (i := 0) hG dX6_book_11 rfl rfl ?_
    refine r_iload_n (i := 3) hG dX6_book_12 rfl rfl ?_
    refine r_callVi hG (c_X6_finding (g_l G) (g_D G) a (Z) (K) (R) (C) (YT) (J) (sfK Z R s c) (by omega))  gX6_book_X6_finding rfl hyX6_finding rfl (by decide) (by decide) 0 rfl rfl rfl (Nat.le_of_ble_eq_true rfl) ⟨Nat.zero_le _, Nat.zero_le _⟩ dX6_book_13 (fun w hw => ?_)
    subst hw
    exact r_iret hG hE dX6_book_16 (by unfold s_book; rw [onSheet_no (by omega)]; rfl) ⟨YT, J, by unfold s_book; rw [onSheet_no (by omega)]; rfl⟩
