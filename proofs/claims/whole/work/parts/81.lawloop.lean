theorem cL_X6 : ∀ w ∈ wsX60, w ∈ wsL_law := fun _ h => (List.mem_append_left _ (List.mem_append_left _ (List.mem_append_left _ (List.mem_append_left _ (List.mem_append_left _ (List.mem_append_left _ (List.mem_append_left _ (List.mem_append_right _ h))))))))
theorem cL_X7 : ∀ w ∈ wsX70, w ∈ wsL_law := fun _ h => (List.mem_append_left _ (List.mem_append_left _ (List.mem_append_left _ (List.mem_append_left _ (List.mem_append_left _ (List.mem_append_left _ (List.mem_append_right _ h)))))))
section VLS
variable {G : GJ} {cc : ByteArray} {nL : Nat} {ret : Option FieldType} {own : String} {Ts : List Cond} {dd kc ks pc : Nat} {ws : va_W} {lv : List (Nat × Value)} {st : List Value}
theorem r_initL {w0 : va_W} {y : MethodName} {wz wz' : List Cond} {bytes : ByteArray} {maxL d mc ms index b : Nat} {wp : va_W → Prop} (hG : Cx G cc nL ret own Ts dd) (hnp : NP (g_s G)) (hM : ConI (g_l G) y wz d mc ms (g_D G) w0 [.ref b] wp) (u : va_W) (hws : ws = u ++ (w0 ++ [])) (hT : GoodIn Ts wz) (hw : wz = Cond.code y bytes maxL none :: wz') (w0' : Cond.methodLink own index y ∈ Ts) (w1 : Cond.initialized y.cls ∈ Ts) (w2 : Cond.instanceMethod y ∈ Ts) (hyn : y.name = "<init>") (hy : y.cls ≠ "java/lang/invoke/MethodHandle" ∧ y.cls ≠ "java/lang/invoke/VarHandle" ∧ (parseMethodDescriptor y.desc).map (fun d => d.parameters.length) = some 0) (hdd : d + 1 ≤ dd) (hmL : maxL ≤ 21) (hcat : (st.map fun v => v.category).sum ≤ 8) (hf : kc + mc ≤ (g_R G).cells ∧ ks + ms ≤ (g_R G).slots) (hd : decode cc pc = .ok (.invokespecial index, 3)) (k : ∀ w, wp w → V G (kc + mc) (ks + ms) (u ++ (w ++ [])) (pc + 3) lv st) : V G kc ks ws pc lv (.ref b :: st) := by
  intro H locs ls hP hD hS hl
  subst hws
  have hF := midF hG hD hS
  have run : QRun G H locs kc ks mc ms pc ls (.ref b :: st) st w0 none wp :=
    va_runI (As := []) (rest := st) ⟨hG.exec, hG.code, hG.maxL, hG.own, hG.hts⟩ (hM H.size) (cwI 0 hG.hts hT hw rfl rfl (hG.hts _ w1) (hG.hts _ w0') (hG.hts _ w2) hyn hy ⟨Nat.le_trans hdd hG.room.1, by have := hG.room.2; show 8 + (maxL + 11) + 40 * d ≤ _; omega⟩) ⟨blindI, preI hG hnp (midP hP) (D_l (D_r hD)) hS hF⟩ rfl rfl (hl.1.trans hG.n) rfl (lv_room hcat) hd hf
  exact q_after run hS hF (fun w H1 locs1 h1 h2 h3 h4 h5 => by
    obtain ⟨hP', hD'⟩ := join_mid hP hD h4 hF h2 h3
    exact k w h1 H1 locs1 ls hP' hD' h5 hl)
end VLS
set_option maxHeartbeats 4000000 in
set_option maxRecDepth 100000 in
theorem law_loop {G : GJ} {kc ks : Nat} {b0 L : Nat} {xs : Nat → Int32} {a b : Nat → Nat} {rt : Option FieldType} (hG : Cx G cL_law 4 rt RL wsL_law 12) (hX : Scr G b0 L xs) (hf0 : kc ≤ (g_R G).cells ∧ ks ≤ (g_R G).slots) (END : ∀ (ws : va_W) (lv : List (Nat × Value)), V G kc ks ws 1388 lv []) : ∀ (f i : Nat), L ≤ i + 6 * f → i ≤ L + 6 → ∀ (T : TS) (YT : YS) (J : Nat → Int) (U : YS), TI T → V G kc ks (LW G a b T YT J U) 18 (LV b0 a b i) [] := by
  intro f
  have hL := hX.2.2.2
  induction f with
  | zero =>
    intro i h1 h2 T YT J U hT
    refine r_iload_n (i := 3) hG dL_law_18 rfl rfl ?_
    refine r_aload_n (i := 0) hG dL_law_19 rfl rfl ?_
    refine r_slen0 hG hX dL_law_20 ?_
    refine r_bipush hG dL_law_21 rfl ?_
    refine r_isub hG dL_law_23 ?_
    refine r_icmp_gt (tgt := 1388) hG (by omega) (by omega) dL_law_24 (by decide) (fun c24 => ?_) (fun c24 => ?_)
    · exact END _ _
    · exfalso; omega
  | succ f ih =>
    intro i h1 h2 T YT J U hT
    refine r_iload_n (i := 3) hG dL_law_18 rfl rfl ?_
    refine r_aload_n (i := 0) hG dL_law_19 rfl rfl ?_
    refine r_slen0 hG hX dL_law_20 ?_
    refine r_bipush hG dL_law_21 rfl ?_
    refine r_isub hG dL_law_23 ?_
    refine r_icmp_gt (tgt := 1388) hG (by omega) (by omega) dL_law_24 (by decide) (fun c24 => ?_) (fun c24 => ?_)
    · exact END _ _
    · have hi : (i : Int) + 6 ≤ L := by omega
      have K9 : ∀ (T2 : TS) (YT2 : YS) (J2 : Nat → Int) (U2 : YS), TI T2 → V G kc ks (LW G a b T2 YT2 J2 U2) 1382 (LV b0 a b i) [] := by
        intro T2 YT2 J2 U2 hT2
        refine r_iinc hG dL_law_1382 rfl (by decide) rfl ?_
        refine r_goto (tgt := 18) hG dL_law_1385 (by decide) ?_
        exact V_lv (ih (i + 6) (by omega) (by omega) T2 YT2 J2 U2 hT2) ⟨rfl, rfl, rfl, congrArg (fun z => some (Value.int (iI z))) (by omega), trivial⟩
      obtain ⟨Z, K, R, C⟩ := T
      refine V_ws (ws' := bw (g_D G) a Z K R C YT J ++ mw (g_D G) b Z K U R C) rfl ?_
      refine r_aload_n (i := 0) hG dL_law_27 rfl rfl ?_
      refine r_iload_n (i := 3) hG dL_law_28 rfl rfl ?_
      refine V_top (x' := iI ((i : Int) + 0)) (by rw [Int.add_zero]) ?_
      refine r_sld hG hX (by omega) dL_law_29 ?_
      refine r_bipush hG dL_law_30 rfl ?_
      refine rr_iand hG dL_law_32 ?_
      refine V_topI (fun op hop _ => ?_)
      rcases (show op = 0 ∨ op = 1 ∨ op = 2 ∨ op = 3 ∨ op = 4 ∨ op = 5 ∨ op = 6 ∨ op = 7 ∨ op = 8 ∨ op = 9 ∨ op = 10 ∨ op = 11 ∨ op = 12 ∨ op = 13 ∨ op = 14 ∨ op = 15 ∨ op = 16 ∨ op = 17 ∨ op = 18 ∨ op = 19 ∨ op = 20 ∨ op = 21 ∨ op = 22 ∨ op = 23 ∨ op = 24 ∨ op = 25 ∨ op = 26 ∨ op = 27 ∨ op = 28 ∨ op = 29 ∨ op = 30 ∨ op = 31 ∨ op = 32 ∨ op = 33 ∨ op = 34 ∨ op = 35 ∨ op = 36 ∨ op = 37 ∨ op = 38 ∨ (op < 0 ∨ 38 < op) by omega) with c33 | c33 | c33 | c33 | c33 | c33 | c33 | c33 | c33 | c33 | c33 | c33 | c33 | c33 | c33 | c33 | c33 | c33 | c33 | c33 | c33 | c33 | c33 | c33 | c33 | c33 | c33 | c33 | c33 | c33 | c33 | c33 | c33 | c33 | c33 | c33 | c33 | c33 | c33 | c33
      · refine r_tsIn (tgt := 204) hG 0 c33 dL_law_33 (by omega) rfl (by decide) ?_
        exact V_lv (law_teacher hG hX hf0 hT hi K9) ⟨rfl, rfl, rfl, rfl, trivial⟩
      · refine r_tsIn (tgt := 227) hG 1 c33 dL_law_33 (by omega) rfl (by decide) ?_
        exact V_lv (law_now hG hX hf0 hT hi K9) ⟨rfl, rfl, rfl, rfl, trivial⟩
      · refine r_tsIn (tgt := 250) hG 2 c33 dL_law_33 (by omega) rfl (by decide) ?_
        exact V_lv (law_who hG hX hf0 hT hi K9) ⟨rfl, rfl, rfl, rfl, trivial⟩
      · refine r_tsIn (tgt := 273) hG 3 c33 dL_law_33 (by omega) rfl (by decide) ?_
        exact V_lv (law_child hG hX hf0 hT hi K9) ⟨rfl, rfl, rfl, rfl, trivial⟩
      · refine r_tsIn (tgt := 306) hG 4 c33 dL_law_33 (by omega) rfl (by decide) ?_
        exact V_lv (law_of hG hX hf0 hT hi K9) ⟨rfl, rfl, rfl, rfl, trivial⟩
      · refine r_tsIn (tgt := 339) hG 5 c33 dL_law_33 (by omega) rfl (by decide) ?_
        exact V_lv (law_set hG hX hf0 hT hi K9) ⟨rfl, rfl, rfl, rfl, trivial⟩
      · refine r_tsIn (tgt := 382) hG 6 c33 dL_law_33 (by omega) rfl (by decide) ?_
        exact V_lv (law_likes hG hX hf0 hT hi K9) ⟨rfl, rfl, rfl, rfl, trivial⟩
      · refine r_tsIn (tgt := 425) hG 7 c33 dL_law_33 (by omega) rfl (by decide) ?_
        exact V_lv (law_worth hG hX hf0 hT hi K9) ⟨rfl, rfl, rfl, rfl, trivial⟩
      · refine r_tsIn (tgt := 458) hG 8 c33 dL_law_33 (by omega) rfl (by decide) ?_
        exact V_lv (law_agrees hG hX hf0 hT hi K9) ⟨rfl, rfl, rfl, rfl, trivial⟩
      · refine r_tsIn (tgt := 491) hG 9 c33 dL_law_33 (by omega) rfl (by decide) ?_
        exact V_lv (law_turn hG hX hf0 hT hi K9) ⟨rfl, rfl, rfl, rfl, trivial⟩
      · refine r_tsIn (tgt := 524) hG 10 c33 dL_law_33 (by omega) rfl (by decide) ?_
        exact V_lv (law_as hG hX hf0 hT hi K9) ⟨rfl, rfl, rfl, rfl, trivial⟩
      · refine r_tsIn (tgt := 557) hG 11 c33 dL_law_33 (by omega) rfl (by decide) ?_
        exact V_lv (law_swap hG hX hf0 hT hi K9) ⟨rfl, rfl, rfl, rfl, trivial⟩
      · refine r_tsIn (tgt := 590) hG 12 c33 dL_law_33 (by omega) rfl (by decide) ?_
        exact V_lv (law_mates hG hX hf0 hT hi K9) ⟨rfl, rfl, rfl, rfl, trivial⟩
      · refine r_tsIn (tgt := 613) hG 13 c33 dL_law_33 (by omega) rfl (by decide) ?_
        exact V_lv (law_ring hG hX hf0 hT hi K9) ⟨rfl, rfl, rfl, rfl, trivial⟩
      · refine r_tsIn (tgt := 626) hG 14 c33 dL_law_33 (by omega) rfl (by decide) ?_
        exact V_lv (law_rounds hG hX hf0 hT hi K9) ⟨rfl, rfl, rfl, rfl, trivial⟩
      · refine r_tsIn (tgt := 649) hG 15 c33 dL_law_33 (by omega) rfl (by decide) ?_
        exact V_lv (law_on hG hX hf0 hT hi K9) ⟨rfl, rfl, rfl, rfl, trivial⟩
      · refine r_tsIn (tgt := 692) hG 16 c33 dL_law_33 (by omega) rfl (by decide) ?_
        exact V_lv (law_glad hG hX hf0 hT hi K9) ⟨rfl, rfl, rfl, rfl, trivial⟩
      · refine r_tsIn (tgt := 715) hG 17 c33 dL_law_33 (by omega) rfl (by decide) ?_
        exact V_lv (law_gets hG hX hf0 hT hi K9) ⟨rfl, rfl, rfl, rfl, trivial⟩
      · refine r_tsIn (tgt := 748) hG 18 c33 dL_law_33 (by omega) rfl (by decide) ?_
        exact V_lv (law_over hG hX hf0 hT hi K9) ⟨rfl, rfl, rfl, rfl, trivial⟩
      · refine r_tsIn (tgt := 761) hG 19 c33 dL_law_33 (by omega) rfl (by decide) ?_
        exact V_lv (law_first hG hX hf0 hT hi K9) ⟨rfl, rfl, rfl, rfl, trivial⟩
      · refine r_tsIn (tgt := 794) hG 20 c33 dL_law_33 (by omega) rfl (by decide) ?_
        exact V_lv (law_bring hG hX hf0 hT hi K9) ⟨rfl, rfl, rfl, rfl, trivial⟩
      · refine r_tsIn (tgt := 827) hG 21 c33 dL_law_33 (by omega) rfl (by decide) ?_
        exact V_lv (law_kind hG hX hf0 hT hi K9) ⟨rfl, rfl, rfl, rfl, trivial⟩
      · refine r_tsIn (tgt := 860) hG 22 c33 dL_law_33 (by omega) rfl (by decide) ?_
        exact V_lv (law_trust hG hX hf0 hT hi K9) ⟨rfl, rfl, rfl, rfl, trivial⟩
      · refine r_tsIn (tgt := 903) hG 23 c33 dL_law_33 (by omega) rfl (by decide) ?_
        exact V_lv (law_away hG hX hf0 hT hi K9) ⟨rfl, rfl, rfl, rfl, trivial⟩
      · refine r_tsIn (tgt := 926) hG 24 c33 dL_law_33 (by omega) rfl (by decide) ?_
        exact V_lv (law_winner hG hX hf0 hT hi K9) ⟨rfl, rfl, rfl, rfl, trivial⟩
      · refine r_tsIn (tgt := 949) hG 25 c33 dL_law_33 (by omega) rfl (by decide) ?_
        exact V_lv (law_feed hG hX hf0 hT hi K9) ⟨rfl, rfl, rfl, rfl, trivial⟩
      · refine r_tsIn (tgt := 982) hG 26 c33 dL_law_33 (by omega) rfl (by decide) ?_
        exact V_lv (law_wipe hG hX hf0 hT hi K9) ⟨rfl, rfl, rfl, rfl, trivial⟩
      · refine r_tsIn (tgt := 995) hG 27 c33 dL_law_33 (by omega) rfl (by decide) ?_
        exact V_lv (law_yard hG hX hf0 hT hi K9) ⟨rfl, rfl, rfl, rfl, trivial⟩
      · refine r_tsIn (tgt := 1008) hG 28 c33 dL_law_33 (by omega) rfl (by decide) ?_
        exact V_lv (law_sheet hG hX hf0 hT hi K9) ⟨rfl, rfl, rfl, rfl, trivial⟩
      · refine r_tsIn (tgt := 1051) hG 29 c33 dL_law_33 (by omega) rfl (by decide) ?_
        exact V_lv (law_write hG hX hf0 hT hi K9) ⟨rfl, rfl, rfl, rfl, trivial⟩
      · refine r_tsIn (tgt := 1125) hG 30 c33 dL_law_33 (by omega) rfl (by decide) ?_
        exact V_lv (law_copy hG hX hf0 hT hi K9) ⟨rfl, rfl, rfl, rfl, trivial⟩
      · refine r_tsIn (tgt := 1188) hG 31 c33 dL_law_33 (by omega) rfl (by decide) ?_
        exact V_lv (law_lays hG hX hf0 hT hi K9) ⟨rfl, rfl, rfl, rfl, trivial⟩
      · refine r_tsIn (tgt := 1221) hG 32 c33 dL_law_33 (by omega) rfl (by decide) ?_
        exact V_lv (law_book hG hX hf0 hT hi K9) ⟨rfl, rfl, rfl, rfl, trivial⟩
      · refine r_tsIn (tgt := 1254) hG 33 c33 dL_law_33 (by omega) rfl (by decide) ?_
        exact V_lv (law_read hG hX hf0 hT hi K9) ⟨rfl, rfl, rfl, rfl, trivial⟩
      · refine r_tsIn (tgt := 1297) hG 34 c33 dL_law_33 (by omega) rfl (by decide) ?_
        exact V_lv (law_image hG hX hf0 hT hi K9) ⟨rfl, rfl, rfl, rfl, trivial⟩
      · refine r_tsIn (tgt := 1310) hG 35 c33 dL_law_33 (by omega) rfl (by decide) ?_
        exact V_lv (law_undo hG hX hf0 hT hi K9) ⟨rfl, rfl, rfl, rfl, trivial⟩
      · refine r_tsIn (tgt := 1323) hG 36 c33 dL_law_33 (by omega) rfl (by decide) ?_
        exact V_lv (law_tear hG hX hf0 hT hi K9) ⟨rfl, rfl, rfl, rfl, trivial⟩
      · refine r_tsIn (tgt := 1336) hG 37 c33 dL_law_33 (by omega) rfl (by decide) ?_
        exact V_lv (law_count hG hX hf0 hT hi K9) ⟨rfl, rfl, rfl, rfl, trivial⟩
      · refine r_tsIn (tgt := 1359) hG 38 c33 dL_law_33 (by omega) rfl (by decide) ?_
        exact V_lv (law_status hG hX hf0 hT hi K9) ⟨rfl, rfl, rfl, rfl, trivial⟩
      · refine r_tsOut (tgt := 1382) hG (by omega) dL_law_33 c33 (by decide) ?_
        exact V_lv (K9 (Z, K, R, C) YT J U hT) ⟨rfl, rfl, rfl, rfl, trivial⟩
