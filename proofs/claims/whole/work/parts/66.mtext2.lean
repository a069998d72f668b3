theorem kX7_reads_169 : Cond.fieldLink RX7 169 "BreakSwapsModel" "at" "I" ∈ wsX7_reads := List.mem_of_getElem? (i := 1) rfl
theorem kX7_reads_166 : Cond.fieldLink RX7 166 "BreakSwapsModel" "begin" "I" ∈ wsX7_reads := List.mem_of_getElem? (i := 2) rfl
theorem kX7_reads_178 : Cond.fieldLink RX7 178 "BreakSwapsModel" "value" "I" ∈ wsX7_reads := List.mem_of_getElem? (i := 3) rfl
theorem kX7_reads_159 : Cond.fieldLink RX7 159 "BreakSwapsModel" "taped" "I" ∈ wsX7_reads := List.mem_of_getElem? (i := 4) rfl
theorem kX7_reads_181 : Cond.fieldLink RX7 181 "BreakSwapsModel" "token" "I" ∈ wsX7_reads := List.mem_of_getElem? (i := 5) rfl
theorem kX7_reads_22 : Cond.fieldLink RX7 22 "BreakSwapsModel" "tape" "[I" ∈ wsX7_reads := List.mem_of_getElem? (i := 6) rfl
theorem cX7_reads_X7 : ∀ w ∈ wsX70, w ∈ wsX7_reads := fun _ h => List.mem_cons_of_mem _ (List.mem_append_right _ h)
theorem hyX7_reads : hyV yX7_reads RX7 0 := by decide +kernel
set_option maxHeartbeats 4000000 in
set_option maxRecDepth 100000 in
theorem c_X7_reads (l : Launch) (D : va_G) (a : Nat → Nat) (Z K U R : YS) (C : Int → Int64) (n tk bg p va bd : Int) (hB : bytesOk (R 2)) (hn : 0 ≤ n ∧ n ≤ 120) (hp : 0 ≤ p ∧ p ≤ n) : Con l yX7_reads wsX7_reads 2 D (mwt D a (Z) K U R C (n) (tk) (bg) (p) (va) (bd)) [.ref (a 0)] none (fun w => w = mwp D a Z K U R C n p bd) := by
  refine con_start (own := RX7) (by decide) rfl rfl (Nat.le_of_ble_eq_true rfl) ?_
  intro G hG hE hl hD
  subst hl
  subst hD
  have hs := (tE_rng (B := (R 2)) hp).1
  have RET : ∀ tk1 at1 va1 : Int, (tokM (R 2) n p = tk1 ∧ tE (R 2) n p = at1 ∧ tV (R 2) n p = va1) → V G 0 0 (mwt (g_D G) a (Z) K U R C (n) (tk1) ((tS (R 2) n p)) (at1) (va1) (bd)) 244 [(0, .ref (a 0))] [] := by
    intro tk1 at1 va1 he
    exact r_vret hG hE dX7_reads_244 (by unfold mwp; rw [he.1, he.2.1, he.2.2])
  have L2 : ¬ n ≤ (tS (R 2) n p) → isL ((R 2) (tS (R 2) n p)) = true → ∀ k : Nat, ∀ p1 : Int, n - p1 = k → (tS (R 2) n p) ≤ p1 → scanF isL (R 2) n p1 = scanF isL (R 2) n (tS (R 2) n p) → V G 0 0 (mwt (g_D G) a (Z) K U R C (n) (tk) ((tS (R 2) n p)) (p1) (0) (bd)) 76 [(0, .ref (a 0))] [] := by
    intro h1 h2 k
    have et := tkm_word h1 h2
    induction k with
    | zero =>
      intro p1 hk h0 he
      have e2 : tE (R 2) n p = p1 := et.2.1.trans (he.symm.trans (scanF_stop (Or.inl (by omega))))
      refine r_aload_n (i := 0) hG dX7_reads_76 rfl rfl ?_
      refine r_aload_n (i := 0) hG dX7_reads_77 rfl rfl ?_
      refine r_get hG cX7_reads_X7 0 9 rfl rfl (by decide) kX7_reads_169 rfl dX7_reads_78 ?_
      refine r_bipush hG dX7_reads_81 rfl ?_
      refine r_bipush hG dX7_reads_83 rfl ?_
      refine r_callVi hG (c_X7_isByte (g_l G) (g_D G) a Z K U R C n tk (tS (R 2) n p) p1 0 bd hB hn _ _ _ (by omega) (by omega) (by omega))  gX7_reads_X7_isByte rfl hyX7_isByte rfl (by decide) (by decide) 0 rfl rfl rfl (Nat.le_of_ble_eq_true rfl) ⟨Nat.zero_le _, Nat.zero_le _⟩ dX7_reads_85 (fun w hw => ?_)
      subst hw
      refine rb_if_eq (tgt := 104) hG dX7_reads_88 (by decide) (fun c88 => ?_) (fun c88 => ?_)
      · try simp only [decide_eq_true_eq, decide_eq_false_iff_not] at c88
        refine r_aload_n (i := 0) hG dX7_reads_104 rfl rfl ?_
        refine r_aload_n (i := 0) hG dX7_reads_105 rfl rfl ?_
        refine r_callVi hG (c_X7_wordHere (g_l G) (g_D G) a Z K U R C n tk (tS (R 2) n p) p1 0 bd hB hn (by omega))  gX7_reads_X7_wordHere rfl hyX7_wordHere rfl (by decide) (by decide) 0 rfl rfl rfl (Nat.le_of_ble_eq_true rfl) ⟨Nat.zero_le _, Nat.zero_le _⟩ dX7_reads_106 (fun w hw => ?_)
        subst hw
        refine r_put hG cX7_reads_X7 0 7 tyX7 tyX7_ok nmX7 rfl rfl (by decide) kX7_reads_181 rfl rfl rfl (Nat.le_of_ble_eq_true rfl) dX7_reads_109 rfl ?_
        refine r_goto (tgt := 244) hG dX7_reads_112 (by decide) ?_
        exact RET _ _ _ ⟨by rw [et.1, e2], e2, et.2.2⟩
      · try simp only [decide_eq_true_eq, decide_eq_false_iff_not] at c88
        (exfalso; omega)
    | succ k ih =>
      intro p1 hk h0 he
      have hb := hB p1 (by omega) (by omega)
      have e3 : ¬ (97 ≤ (R 2) p1 ∧ (R 2) p1 ≤ 122) → tE (R 2) n p = p1 := fun h => et.2.1.trans (he.symm.trans (scanF_stop (Or.inr (Bool.eq_false_iff.mpr (fun q => h (isL_iff.mp q))))))
      refine r_aload_n (i := 0) hG dX7_reads_76 rfl rfl ?_
      refine r_aload_n (i := 0) hG dX7_reads_77 rfl rfl ?_
      refine r_get hG cX7_reads_X7 0 9 rfl rfl (by decide) kX7_reads_169 rfl dX7_reads_78 ?_
      refine r_bipush hG dX7_reads_81 rfl ?_
      refine r_bipush hG dX7_reads_83 rfl ?_
      refine r_callVi hG (c_X7_isByte (g_l G) (g_D G) a Z K U R C n tk (tS (R 2) n p) p1 0 bd hB hn _ _ _ (by omega) (by omega) (by omega))  gX7_reads_X7_isByte rfl hyX7_isByte rfl (by decide) (by decide) 0 rfl rfl rfl (Nat.le_of_ble_eq_true rfl) ⟨Nat.zero_le _, Nat.zero_le _⟩ dX7_reads_85 (fun w hw => ?_)
      subst hw
      refine rb_if_eq (tgt := 104) hG dX7_reads_88 (by decide) (fun c88 => ?_) (fun c88 => ?_)
      · try simp only [decide_eq_true_eq, decide_eq_false_iff_not] at c88
        refine r_aload_n (i := 0) hG dX7_reads_104 rfl rfl ?_
        refine r_aload_n (i := 0) hG dX7_reads_105 rfl rfl ?_
        refine r_callVi hG (c_X7_wordHere (g_l G) (g_D G) a Z K U R C n tk (tS (R 2) n p) p1 0 bd hB hn (by omega))  gX7_reads_X7_wordHere rfl hyX7_wordHere rfl (by decide) (by decide) 0 rfl rfl rfl (Nat.le_of_ble_eq_true rfl) ⟨Nat.zero_le _, Nat.zero_le _⟩ dX7_reads_106 (fun w hw => ?_)
        subst hw
        refine r_put hG cX7_reads_X7 0 7 tyX7 tyX7_ok nmX7 rfl rfl (by decide) kX7_reads_181 rfl rfl rfl (Nat.le_of_ble_eq_true rfl) dX7_reads_109 rfl ?_
        refine r_goto (tgt := 244) hG dX7_reads_112 (by decide) ?_
        have e4 := e3 (by omega)
        exact RET _ _ _ ⟨by rw [et.1, e4], e4, et.2.2⟩
      · try simp only [decide_eq_true_eq, decide_eq_false_iff_not] at c88
        refine r_aload_n (i := 0) hG dX7_reads_91 rfl rfl ?_
        refine r_dup hG dX7_reads_92 rfl ?_
        refine r_get hG cX7_reads_X7 0 9 rfl rfl (by decide) kX7_reads_169 rfl dX7_reads_93 ?_
        refine r_iconst hG dX7_reads_96 ?_
        refine r_iadd hG dX7_reads_97 ?_
        refine r_put hG cX7_reads_X7 0 9 tyX7 tyX7_ok nmX7 rfl rfl (by decide) kX7_reads_169 rfl rfl rfl (Nat.le_of_ble_eq_true rfl) dX7_reads_98 rfl ?_
        refine r_goto (tgt := 76) hG dX7_reads_101 (by decide) ?_
        exact V_lv (ih (p1 + 1) (by omega) (by omega) ((scanF_go (by omega) (isL_iff.mpr (by omega))).symm.trans he)) ⟨rfl, trivial⟩
  have L3 : ¬ n ≤ (tS (R 2) n p) → ¬ isL ((R 2) (tS (R 2) n p)) = true → isD ((R 2) (tS (R 2) n p)) = true → ∀ k : Nat, ∀ p1 v1 : Int, n - p1 = k → (tS (R 2) n p) ≤ p1 → (0 ≤ v1 ∧ v1 ≤ 9999) → scanF isD (R 2) n p1 = scanF isD (R 2) n (tS (R 2) n p) → numF (R 2) n p1 v1 = numF (R 2) n (tS (R 2) n p) 0 → V G 0 0 (mwt (g_D G) a (Z) K U R C (n) (tk) ((tS (R 2) n p)) (p1) (v1) (bd)) 130 [(0, .ref (a 0))] [] := by
    intro h1 h2 h3 k
    have et := tkm_num h1 h2 h3
    induction k with
    | zero =>
      intro p1 v1 hk h0 hv he hu
      refine r_aload_n (i := 0) hG dX7_reads_130 rfl rfl ?_
      refine r_aload_n (i := 0) hG dX7_reads_131 rfl rfl ?_
      refine r_get hG cX7_reads_X7 0 9 rfl rfl (by decide) kX7_reads_169 rfl dX7_reads_132 ?_
      refine r_bipush hG dX7_reads_135 rfl ?_
      refine r_bipush hG dX7_reads_137 rfl ?_
      refine r_callVi hG (c_X7_isByte (g_l G) (g_D G) a Z K U R C n tk (tS (R 2) n p) p1 v1 bd hB hn _ _ _ (by omega) (by omega) (by omega))  gX7_reads_X7_isByte rfl hyX7_isByte rfl (by decide) (by decide) 0 rfl rfl rfl (Nat.le_of_ble_eq_true rfl) ⟨Nat.zero_le _, Nat.zero_le _⟩ dX7_reads_139 (fun w hw => ?_)
      subst hw
      refine rb_if_eq (tgt := 199) hG dX7_reads_142 (by decide) (fun c142 => ?_) (fun c142 => ?_)
      · try simp only [decide_eq_true_eq, decide_eq_false_iff_not] at c142
        refine r_aload_n (i := 0) hG dX7_reads_199 rfl rfl ?_
        refine r_bipush hG dX7_reads_200 rfl ?_
        refine r_put hG cX7_reads_X7 0 7 tyX7 tyX7_ok nmX7 rfl rfl (by decide) kX7_reads_181 rfl rfl rfl (Nat.le_of_ble_eq_true rfl) dX7_reads_202 rfl ?_
        refine r_goto (tgt := 244) hG dX7_reads_205 (by decide) ?_
        exact RET _ _ _ ⟨et.1, et.2.1.trans (he.symm.trans (scanF_stop (Or.inl (by omega)))), et.2.2.trans (hu.symm.trans (numF_stop (Or.inl (by omega))))⟩
      · try simp only [decide_eq_true_eq, decide_eq_false_iff_not] at c142
        (exfalso; omega)
    | succ k ih =>
      intro p1 v1 hk h0 hv he hu
      have hb := hB p1 (by omega) (by omega)
      have K183 : isD ((R 2) p1) = true → ∀ v2 : Int, v2 = (if v1 ≤ 999 then 10 * v1 + (R 2) p1 - 48 else v1) → V G 0 0 (mwt (g_D G) a (Z) K U R C (n) (tk) ((tS (R 2) n p)) (p1) (v1) (bd)) 183 [(0, .ref (a 0))] [.int (iI v2), .ref (a 0)] := by
        intro hd v2 hv2
        have hd2 := isD_iff.mp hd
        have hr2 : 0 ≤ v2 ∧ v2 ≤ 9999 := by rw [hv2]; split <;> omega
        refine r_put hG cX7_reads_X7 0 10 tyX7 tyX7_ok nmX7 rfl rfl (by decide) kX7_reads_178 rfl rfl rfl (Nat.le_of_ble_eq_true rfl) dX7_reads_183 rfl ?_
        refine r_aload_n (i := 0) hG dX7_reads_186 rfl rfl ?_
        refine r_dup hG dX7_reads_187 rfl ?_
        refine r_get hG cX7_reads_X7 0 9 rfl rfl (by decide) kX7_reads_169 rfl dX7_reads_188 ?_
        refine r_iconst hG dX7_reads_191 ?_
        refine r_iadd hG dX7_reads_192 ?_
        refine r_put hG cX7_reads_X7 0 9 tyX7 tyX7_ok nmX7 rfl rfl (by decide) kX7_reads_169 rfl rfl rfl (Nat.le_of_ble_eq_true rfl) dX7_reads_193 rfl ?_
        refine r_goto (tgt := 130) hG dX7_reads_196 (by decide) ?_
        exact V_lv (ih (p1 + 1) v2 (by omega) (by omega) hr2 ((scanF_go (by omega) hd).symm.trans he) (by rw [hv2]; exact (numF_go (by omega) hd).symm.trans hu)) ⟨rfl, trivial⟩
      refine r_aload_n (i := 0) hG dX7_reads_130 rfl rfl ?_
      refine r_aload_n (i := 0) hG dX7_reads_131 rfl rfl ?_
      refine r_get hG cX7_reads_X7 0 9 rfl rfl (by decide) kX7_reads_169 rfl dX7_reads_132 ?_
      refine r_bipush hG dX7_reads_135 rfl ?_
      refine r_bipush hG dX7_reads_137 rfl ?_
      refine r_callVi hG (c_X7_isByte (g_l G) (g_D G) a Z K U R C n tk (tS (R 2) n p) p1 v1 bd hB hn _ _ _ (by omega) (by omega) (by omega))  gX7_reads_X7_isByte rfl hyX7_isByte rfl (by decide) (by decide) 0 rfl rfl rfl (Nat.le_of_ble_eq_true rfl) ⟨Nat.zero_le _, Nat.zero_le _⟩ dX7_reads_139 (fun w hw => ?_)
      subst hw
      refine rb_if_eq (tgt := 199) hG dX7_reads_142 (by decide) (fun c142 => ?_) (fun c142 => ?_)
      · try simp only [decide_eq_true_eq, decide_eq_false_iff_not] at c142
        refine r_aload_n (i := 0) hG dX7_reads_199 rfl rfl ?_
        refine r_bipush hG dX7_reads_200 rfl ?_
        refine r_put hG cX7_reads_X7 0 7 tyX7 tyX7_ok nmX7 rfl rfl (by decide) kX7_reads_181 rfl rfl rfl (Nat.le_of_ble_eq_true rfl) dX7_reads_202 rfl ?_
        refine r_goto (tgt := 244) hG dX7_reads_205 (by decide) ?_
        have hf : isD ((R 2) p1) = false := Bool.eq_false_iff.mpr (fun q => by have := isD_iff.mp q; omega)
        exact RET _ _ _ ⟨et.1, et.2.1.trans (he.symm.trans (scanF_stop (Or.inr hf))), et.2.2.trans (hu.symm.trans (numF_stop (Or.inr hf)))⟩
      · try simp only [decide_eq_true_eq, decide_eq_false_iff_not] at c142
        refine r_aload_n (i := 0) hG dX7_reads_145 rfl rfl ?_
        refine r_aload_n (i := 0) hG dX7_reads_146 rfl rfl ?_
        refine r_get hG cX7_reads_X7 0 10 rfl rfl (by decide) kX7_reads_178 rfl dX7_reads_147 ?_
        refine r_sipush hG dX7_reads_150 rfl ?_
        refine r_icmp_le (tgt := 163) hG (by omega) (by omega) dX7_reads_153 (by decide) (fun c153 => ?_) (fun c153 => ?_)
        · refine r_bipush hG dX7_reads_163 rfl ?_
          refine r_aload_n (i := 0) hG dX7_reads_165 rfl rfl ?_
          refine r_get hG cX7_reads_X7 0 10 rfl rfl (by decide) kX7_reads_178 rfl dX7_reads_166 ?_
          refine r_imul hG dX7_reads_169 ?_
          refine r_aload_n (i := 0) hG dX7_reads_170 rfl rfl ?_
          refine r_get hG cX7_reads_X7 0 5 rfl rfl (by decide) kX7_reads_22 rfl dX7_reads_171 ?_
          refine r_aload_n (i := 0) hG dX7_reads_174 rfl rfl ?_
          refine r_get hG cX7_reads_X7 0 9 rfl rfl (by decide) kX7_reads_169 rfl dX7_reads_175 ?_
          refine r_iald hG 5 rfl (by omega) (by decide) dX7_reads_178 ?_
          refine r_iadd hG dX7_reads_179 ?_
          refine r_bipush hG dX7_reads_180 rfl ?_
          refine r_isub hG dX7_reads_182 ?_
          first
            | exact K183 (isD_iff.mpr (by omega)) _ (if_neg (by omega)).symm
            | exact K183 (isD_iff.mpr (by omega)) _ (if_pos (by omega)).symm
        · refine r_aload_n (i := 0) hG dX7_reads_156 rfl rfl ?_
          refine r_get hG cX7_reads_X7 0 10 rfl rfl (by decide) kX7_reads_178 rfl dX7_reads_157 ?_
          refine r_goto (tgt := 183) hG dX7_reads_160 (by decide) ?_
          first
            | exact K183 (isD_iff.mpr (by omega)) _ (if_neg (by omega)).symm
            | exact K183 (isD_iff.mpr (by omega)) _ (if_pos (by omega)).symm
  have M : V G 0 0 (mwt (g_D G) a (Z) K U R C (n) (tk) (bg) ((tS (R 2) n p)) (va) (bd)) 28 [(0, .ref (a 0))] [] := by
    have hb := fun h : ¬ n ≤ (tS (R 2) n p) => hB (tS (R 2) n p) (by omega) (by omega)
    refine r_aload_n (i := 0) hG dX7_reads_28 rfl rfl ?_
    refine r_aload_n (i := 0) hG dX7_reads_29 rfl rfl ?_
    refine r_get hG cX7_reads_X7 0 9 rfl rfl (by decide) kX7_reads_169 rfl dX7_reads_30 ?_
    refine r_put hG cX7_reads_X7 0 8 tyX7 tyX7_ok nmX7 rfl rfl (by decide) kX7_reads_166 rfl rfl rfl (Nat.le_of_ble_eq_true rfl) dX7_reads_33 rfl ?_
    refine r_aload_n (i := 0) hG dX7_reads_36 rfl rfl ?_
    refine r_iconst hG dX7_reads_37 ?_
    refine r_put hG cX7_reads_X7 0 10 tyX7 tyX7_ok nmX7 rfl rfl (by decide) kX7_reads_178 rfl rfl rfl (Nat.le_of_ble_eq_true rfl) dX7_reads_38 rfl ?_
    refine r_aload_n (i := 0) hG dX7_reads_41 rfl rfl ?_
    refine r_get hG cX7_reads_X7 0 9 rfl rfl (by decide) kX7_reads_169 rfl dX7_reads_42 ?_
    refine r_aload_n (i := 0) hG dX7_reads_45 rfl rfl ?_
    refine r_get hG cX7_reads_X7 0 6 rfl rfl (by decide) kX7_reads_159 rfl dX7_reads_46 ?_
    refine r_icmp_ne (tgt := 61) hG (by omega) (by omega) dX7_reads_49 (by decide) (fun c49 => ?_) (fun c49 => ?_)
    · refine r_aload_n (i := 0) hG dX7_reads_61 rfl rfl ?_
      refine r_aload_n (i := 0) hG dX7_reads_62 rfl rfl ?_
      refine r_get hG cX7_reads_X7 0 9 rfl rfl (by decide) kX7_reads_169 rfl dX7_reads_63 ?_
      refine r_bipush hG dX7_reads_66 rfl ?_
      refine r_bipush hG dX7_reads_68 rfl ?_
      refine r_callVi hG (c_X7_isByte (g_l G) (g_D G) a Z K U R C n tk (tS (R 2) n p) (tS (R 2) n p) 0 bd hB hn _ _ _ (by omega) (by omega) (by omega))  gX7_reads_X7_isByte rfl hyX7_isByte rfl (by decide) (by decide) 0 rfl rfl rfl (Nat.le_of_ble_eq_true rfl) ⟨Nat.zero_le _, Nat.zero_le _⟩ dX7_reads_70 (fun w hw => ?_)
      subst hw
      refine rb_if_eq (tgt := 115) hG dX7_reads_73 (by decide) (fun c73 => ?_) (fun c73 => ?_)
      · try simp only [decide_eq_true_eq, decide_eq_false_iff_not] at c73
        refine r_aload_n (i := 0) hG dX7_reads_115 rfl rfl ?_
        refine r_aload_n (i := 0) hG dX7_reads_116 rfl rfl ?_
        refine r_get hG cX7_reads_X7 0 9 rfl rfl (by decide) kX7_reads_169 rfl dX7_reads_117 ?_
        refine r_bipush hG dX7_reads_120 rfl ?_
        refine r_bipush hG dX7_reads_122 rfl ?_
        refine r_callVi hG (c_X7_isByte (g_l G) (g_D G) a Z K U R C n tk (tS (R 2) n p) (tS (R 2) n p) 0 bd hB hn _ _ _ (by omega) (by omega) (by omega))  gX7_reads_X7_isByte rfl hyX7_isByte rfl (by decide) (by decide) 0 rfl rfl rfl (Nat.le_of_ble_eq_true rfl) ⟨Nat.zero_le _, Nat.zero_le _⟩ dX7_reads_124 (fun w hw => ?_)
        subst hw
        refine rb_if_eq (tgt := 208) hG dX7_reads_127 (by decide) (fun c127 => ?_) (fun c127 => ?_)
        · try simp only [decide_eq_true_eq, decide_eq_false_iff_not] at c127
          refine r_aload_n (i := 0) hG dX7_reads_208 rfl rfl ?_
          refine r_aload_n (i := 0) hG dX7_reads_209 rfl rfl ?_
          refine r_aload_n (i := 0) hG dX7_reads_210 rfl rfl ?_
          refine r_get hG cX7_reads_X7 0 9 rfl rfl (by decide) kX7_reads_169 rfl dX7_reads_211 ?_
          refine r_bipush hG dX7_reads_214 rfl ?_
          refine r_bipush hG dX7_reads_216 rfl ?_
          refine r_callVi hG (c_X7_isByte (g_l G) (g_D G) a Z K U R C n tk (tS (R 2) n p) (tS (R 2) n p) 0 bd hB hn _ _ _ (by omega) (by omega) (by omega))  gX7_reads_X7_isByte rfl hyX7_isByte rfl (by decide) (by decide) 0 rfl rfl rfl (Nat.le_of_ble_eq_true rfl) ⟨Nat.zero_le _, Nat.zero_le _⟩ dX7_reads_218 (fun w hw => ?_)
          subst hw
          refine rb_if_eq (tgt := 229) hG dX7_reads_221 (by decide) (fun c221 => ?_) (fun c221 => ?_)
          · try simp only [decide_eq_true_eq, decide_eq_false_iff_not] at c221
            refine r_bipush hG dX7_reads_229 rfl ?_
            refine r_put hG cX7_reads_X7 0 7 tyX7 tyX7_ok nmX7 rfl rfl (by decide) kX7_reads_181 rfl rfl rfl (Nat.le_of_ble_eq_true rfl) dX7_reads_231 rfl ?_
            refine r_aload_n (i := 0) hG dX7_reads_234 rfl rfl ?_
            refine r_dup hG dX7_reads_235 rfl ?_
            refine r_get hG cX7_reads_X7 0 9 rfl rfl (by decide) kX7_reads_169 rfl dX7_reads_236 ?_
            refine r_iconst hG dX7_reads_239 ?_
            refine r_iadd hG dX7_reads_240 ?_
            refine r_put hG cX7_reads_X7 0 9 tyX7 tyX7_ok nmX7 rfl rfl (by decide) kX7_reads_169 rfl rfl rfl (Nat.le_of_ble_eq_true rfl) dX7_reads_241 rfl ?_
            first
              | exact RET _ _ _ (tkm_end (by omega))
              | exact RET _ _ _ (tkm_semi (by omega) (by omega))
              | exact RET _ _ _ (tkm_oth (by omega) (fun q => by have := isL_iff.mp q; omega) (fun q => by have := isD_iff.mp q; omega) (by omega))
          · try simp only [decide_eq_true_eq, decide_eq_false_iff_not] at c221
            refine r_bipush hG dX7_reads_224 rfl ?_
            refine r_goto (tgt := 231) hG dX7_reads_226 (by decide) ?_
            refine r_put hG cX7_reads_X7 0 7 tyX7 tyX7_ok nmX7 rfl rfl (by decide) kX7_reads_181 rfl rfl rfl (Nat.le_of_ble_eq_true rfl) dX7_reads_231 rfl ?_
            refine r_aload_n (i := 0) hG dX7_reads_234 rfl rfl ?_
            refine r_dup hG dX7_reads_235 rfl ?_
            refine r_get hG cX7_reads_X7 0 9 rfl rfl (by decide) kX7_reads_169 rfl dX7_reads_236 ?_
            refine r_iconst hG dX7_reads_239 ?_
            refine r_iadd hG dX7_reads_240 ?_
            refine r_put hG cX7_reads_X7 0 9 tyX7 tyX7_ok nmX7 rfl rfl (by decide) kX7_reads_169 rfl rfl rfl (Nat.le_of_ble_eq_true rfl) dX7_reads_241 rfl ?_
            first
              | exact RET _ _ _ (tkm_end (by omega))
              | exact RET _ _ _ (tkm_semi (by omega) (by omega))
              | exact RET _ _ _ (tkm_oth (by omega) (fun q => by have := isL_iff.mp q; omega) (fun q => by have := isD_iff.mp q; omega) (by omega))
        · try simp only [decide_eq_true_eq, decide_eq_false_iff_not] at c127
          exact V_lv (L3 (by omega) (fun q => by have := isL_iff.mp q; omega) (isD_iff.mpr (by omega)) (n - (tS (R 2) n p)).toNat _ 0 (by omega) (by omega) (by omega) rfl rfl) ⟨rfl, trivial⟩
      · try simp only [decide_eq_true_eq, decide_eq_false_iff_not] at c73
        exact V_lv (L2 (by omega) (isL_iff.mpr (by omega)) (n - (tS (R 2) n p)).toNat _ (by omega) (by omega) rfl) ⟨rfl, trivial⟩
    · refine r_aload_n (i := 0) hG dX7_reads_52 rfl rfl ?_
      refine r_bipush hG dX7_reads_53 rfl ?_
      refine r_put hG cX7_reads_X7 0 7 tyX7 tyX7_ok nmX7 rfl rfl (by decide) kX7_reads_181 rfl rfl rfl (Nat.le_of_ble_eq_true rfl) dX7_reads_55 rfl ?_
      refine r_goto (tgt := 244) hG dX7_reads_58 (by decide) ?_
      first
        | exact RET _ _ _ (tkm_end (by omega))
        | exact RET _ _ _ (tkm_semi (by omega) (by omega))
        | exact RET _ _ _ (tkm_oth (by omega) (fun q => by have := isL_iff.mp q; omega) (fun q => by have := isD_iff.mp q; omega) (by omega))
  have L1 : ∀ k : Nat, ∀ p1 : Int, n - p1 = k → p ≤ p1 → scanF isS (R 2) n p1 = (tS (R 2) n p) → V G 0 0 (mwt (g_D G) a (Z) K U R C (n) (tk) (bg) (p1) (va) (bd)) 0 [(0, .ref (a 0))] [] := by
    intro k
    induction k with
    | zero =>
      intro p1 hk h0 he
      have e1 : (tS (R 2) n p) = p1 := he.symm.trans (scanF_stop (Or.inl (by omega)))
      refine r_aload_n (i := 0) hG dX7_reads_0 rfl rfl ?_
      refine r_aload_n (i := 0) hG dX7_reads_1 rfl rfl ?_
      refine r_get hG cX7_reads_X7 0 9 rfl rfl (by decide) kX7_reads_169 rfl dX7_reads_2 ?_
      refine r_bipush hG dX7_reads_5 rfl ?_
      refine r_bipush hG dX7_reads_7 rfl ?_
      refine r_callVi hG (c_X7_isByte (g_l G) (g_D G) a Z K U R C n tk bg p1 va bd hB hn _ _ _ (by omega) (by omega) (by omega))  gX7_reads_X7_isByte rfl hyX7_isByte rfl (by decide) (by decide) 0 rfl rfl rfl (Nat.le_of_ble_eq_true rfl) ⟨Nat.zero_le _, Nat.zero_le _⟩ dX7_reads_9 (fun w hw => ?_)
      subst hw
      refine rb_if_eq (tgt := 28) hG dX7_reads_12 (by decide) (fun c12 => ?_) (fun c12 => ?_)
      · try simp only [decide_eq_true_eq, decide_eq_false_iff_not] at c12
        refine V_ws (ws' := mwt (g_D G) a (Z) K U R C (n) (tk) (bg) ((tS (R 2) n p)) (va) (bd)) (by rw [e1]) ?_
        exact V_lv M ⟨rfl, trivial⟩
      · try simp only [decide_eq_true_eq, decide_eq_false_iff_not] at c12
        (exfalso; omega)
    | succ k ih =>
      intro p1 hk h0 he
      have hb := hB p1 (by omega) (by omega)
      have e1 : ¬ (R 2) p1 = 32 → (tS (R 2) n p) = p1 := fun h => he.symm.trans (scanF_stop (Or.inr (Bool.eq_false_iff.mpr (fun q => h (isS_iff.mp q)))))
      refine r_aload_n (i := 0) hG dX7_reads_0 rfl rfl ?_
      refine r_aload_n (i := 0) hG dX7_reads_1 rfl rfl ?_
      refine r_get hG cX7_reads_X7 0 9 rfl rfl (by decide) kX7_reads_169 rfl dX7_reads_2 ?_
      refine r_bipush hG dX7_reads_5 rfl ?_
      refine r_bipush hG dX7_reads_7 rfl ?_
      refine r_callVi hG (c_X7_isByte (g_l G) (g_D G) a Z K U R C n tk bg p1 va bd hB hn _ _ _ (by omega) (by omega) (by omega))  gX7_reads_X7_isByte rfl hyX7_isByte rfl (by decide) (by decide) 0 rfl rfl rfl (Nat.le_of_ble_eq_true rfl) ⟨Nat.zero_le _, Nat.zero_le _⟩ dX7_reads_9 (fun w hw => ?_)
      subst hw
      refine rb_if_eq (tgt := 28) hG dX7_reads_12 (by decide) (fun c12 => ?_) (fun c12 => ?_)
      · try simp only [decide_eq_true_eq, decide_eq_false_iff_not] at c12
        have e9 := e1 (by omega)
        refine V_ws (ws' := mwt (g_D G) a (Z) K U R C (n) (tk) (bg) ((tS (R 2) n p)) (va) (bd)) (by rw [e9]) ?_
        exact V_lv M ⟨rfl, trivial⟩
      · try simp only [decide_eq_true_eq, decide_eq_false_iff_not] at c12
        refine r_aload_n (i := 0) hG dX7_reads_15 rfl rfl ?_
        refine r_dup hG dX7_reads_16 rfl ?_
        refine r_get hG cX7_reads_X7 0 9 rfl rfl (by decide) kX7_reads_169 rfl dX7_reads_17 ?_
        refine r_iconst hG dX7_reads_20 ?_
        refine r_iadd hG dX7_reads_21 ?_
        refine r_put hG cX7_reads_X7 0 9 tyX7 tyX7_ok nmX7 rfl rfl (by decide) kX7_reads_169 rfl rfl rfl (Nat.le_of_ble_eq_true rfl) dX7_reads_22 rfl ?_
        refine r_goto (tgt := 0) hG dX7_reads_25 (by decide) ?_
        exact V_lv (ih (p1 + 1) (by omega) (by omega) ((scanF_go (by omega) (isS_iff.mpr (by omega))).symm.trans he)) ⟨rfl, trivial⟩
  exact L1 (n - p).toNat p (by omega) (by omega) rfl
