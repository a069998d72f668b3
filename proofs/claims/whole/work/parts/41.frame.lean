/-! ===== a call on a block in the middle of a world ===== -/
theorem P_mem {D : va_G} {ws : va_W} {H : Heap} : va_P D vwCl ws H ↔ ∀ q ∈ ws, va_at D vwCl q H :=
  ⟨fun h q hq => by
    obtain ⟨k, hk⟩ := List.getElem?_of_mem hq
    exact h k q hk, fun h k q hk => h q (List.mem_of_getElem? hk)⟩
theorem ap_l {α : Type} {x y : List α} {i : Nat} {p : α} (h : x[i]? = some p) : (x ++ y)[i]? = some p := by
  have hi := (List.getElem?_eq_some_iff.mp h).1
  rw [List.getElem?_append_left hi]
  exact h
theorem ap_r {α : Type} {x y : List α} {i : Nat} {p : α} (h : y[i]? = some p) : (x ++ y)[x.length + i]? = some p := by
  rw [List.getElem?_append_right (by omega), Nat.add_sub_cancel_left]
  exact h
theorem D_l {A : Nat → Prop} {x y : va_W} (h : va_D A (x ++ y)) : va_D A x := ⟨fun i j p q h1 h2 e => h.1 i j p q (ap_l h1) (ap_l h2) e, fun k q hk => h.2 k q (ap_l hk)⟩
theorem D_r {A : Nat → Prop} {x y : va_W} (h : va_D A (x ++ y)) : va_D A y := ⟨fun i j p q h1 h2 e => by
  have := h.1 _ _ p q (ap_r h1) (ap_r h2) e
  omega, fun k q hk => h.2 _ q (ap_r hk)⟩
theorem D_x {A : Nat → Prop} {x y : va_W} (h : va_D A (x ++ y)) {i j : Nat} {p q : Nat × va_E} (h1 : x[i]? = some p) (h2 : y[j]? = some q) : p.1 ≠ q.1 := fun e => by
  have := h.1 _ _ p q (ap_l h1) (ap_r h2) e
  have hi := (List.getElem?_eq_some_iff.mp h1).1
  omega
theorem join_mid {D : va_G} {A : Nat → Prop} {u w0 v w : va_W} {H H1 : Heap} (hP : va_P D vwCl (u ++ (w0 ++ v)) H) (hD : va_D A (u ++ (w0 ++ v))) (hk : ∀ q, q < H.size → ¬ va_A w0 H.size q → H1[q]? = H[q]?) (hF : ∀ q, va_A w0 H.size q → A q) (hP1 : va_P D vwCl w H1) (hD1 : va_D (va_A w0 H.size) w) : va_P D vwCl (u ++ (w ++ v)) H1 ∧ va_D A (u ++ (w ++ v)) := by
  have hu : ∀ (i : Nat) (q : Nat × va_E), u[i]? = some q → q.1 < H.size ∧ ¬ va_A w0 H.size q.1 := fun i q hq => by
    have hl := (hP i q (ap_l hq)).lt
    refine ⟨hl, fun z => ?_⟩
    rcases z with ⟨k, e, h⟩ | h
    · exact D_x hD hq (ap_l h) rfl
    · omega
  have hv : ∀ (i : Nat) (q : Nat × va_E), v[i]? = some q → q.1 < H.size ∧ ¬ va_A w0 H.size q.1 := fun i q hq => by
    have hl := (hP _ q (ap_r (ap_r hq))).lt
    refine ⟨hl, fun z => ?_⟩
    rcases z with ⟨k, e, h⟩ | h
    · exact D_x (D_r hD) h hq rfl
    · omega
  have hw : ∀ (i : Nat) (q : Nat × va_E), w[i]? = some q → va_A w0 H.size q.1 := hD1.2
  constructor
  · rw [P_mem]
    intro q hq
    rcases List.mem_append.mp hq with h | h
    · obtain ⟨i, hi⟩ := List.getElem?_of_mem h
      exact (hP i q (ap_l hi)).kept (hk q.1 (hu i q hi).1 (hu i q hi).2)
    · rcases List.mem_append.mp h with h | h
      · exact P_mem.mp hP1 q h
      · obtain ⟨i, hi⟩ := List.getElem?_of_mem h
        exact (hP _ q (ap_r (ap_r hi))).kept (hk q.1 (hv i q hi).1 (hv i q hi).2)
  · refine va_D.app (D_l hD) (va_D.app ⟨hD1.1, fun k q hq => hF _ (hD1.2 k q hq)⟩ (D_r (D_r hD)) (fun i j p q h1 h2 e => (hv j q h2).2 (by rw [← e]; exact hw i p h1))) (fun i j p q h1 h2 e => ?_)
    rcases List.mem_append.mp (List.mem_of_getElem? h2) with h | h
    · obtain ⟨k, hk2⟩ := List.getElem?_of_mem h
      exact (hu i p h1).2 (by rw [e]; exact hw k q hk2)
    · obtain ⟨k, hk2⟩ := List.getElem?_of_mem h
      exact D_x hD h1 (ap_r hk2) e
section VM
variable {G : GJ} {cc : ByteArray} {nL : Nat} {ret : Option FieldType} {own : String} {Ts : List Cond} {dd kc ks pc : Nat} {ws : va_W} {lv : List (Nat × Value)} {st : List Value}
theorem midF {u w0 v : va_W} {H : Heap} {locs : List Loc} (hG : Cx G cc nL ret own Ts dd) (hD : va_D (g_A G) (u ++ (w0 ++ v))) (hS : va_S (g_A G) (g_s G).heap H locs) : ∀ q, va_A w0 H.size q → g_A G q := fun q h => by
  rcases h with ⟨k, e, h⟩ | h
  · exact (D_l (D_r hD)).2 k _ h
  · exact hG.hA q (Nat.le_trans hS.1 h)
theorem midP {D : va_G} {u w0 v : va_W} {H : Heap} (h : va_P D vwCl (u ++ (w0 ++ v)) H) : va_P D vwCl w0 H := P_mem.mpr (fun q hq => P_mem.mp h q (List.mem_append_right _ (List.mem_append_left _ hq)))
theorem r_midi {v : Value} {w0 : va_W} {y : MethodName} {wz wz' : List Cond} {C : String} {bytes : ByteArray} {maxL d n index b ci : Nat} {cret : Option FieldType} {As fs stk : List Value} {T : u_T} {N : Nat} {wp : va_W → Prop} (hG : Cx G cc nL ret own Ts dd) (hM : Con (g_l G) y wz d (g_D G) w0 (.ref b :: As) (some v) wp) (u : va_W) (x : va_W) (hws : ws = u ++ (w0 ++ x)) (hT : GoodIn Ts (wsV own index C y wz)) (hw : wz = Cond.code y bytes maxL cret :: wz') (hy : hyV y C n) (hn : As.length = n) (hdd : d + 1 ≤ dd) (hmL : maxL ≤ 21) (q0 : Nat) (hc : vwCl[ci]? = some (C, T, N)) (he : w0[q0]? = some (b, .inr (ci, fs))) (hst : stk = As.reverse ++ .ref b :: st) (hcat : (st.map fun v => v.category).sum ≤ 8) (hf : kc ≤ (g_R G).cells ∧ ks ≤ (g_R G).slots) (hd : decode cc pc = .ok (.invokevirtual index, 3)) (k : ∀ w, wp w → V G kc ks (u ++ (w ++ x)) (pc + 3) lv (v :: st)) : V G kc ks ws pc lv stk := by
  intro H locs ls hP hD hS hl
  subst hws
  have hF := midF hG hD hS
  exact q_after (q_runV hG hM hT hw hy hn hdd hmL (va_recv hG.hK (midP hP) hc he) (preW hG (midP hP) (D_l (D_r hD)) hS hF) (hl.1.trans hG.n) hst hcat hd hf) hS hF (fun w H1 locs1 h1 h2 h3 h4 h5 => by
    obtain ⟨hP', hD'⟩ := join_mid hP hD h4 hF h2 h3
    exact k w h1 H1 locs1 ls hP' hD' h5 hl)
theorem r_midv {w0 : va_W} {y : MethodName} {wz wz' : List Cond} {C : String} {bytes : ByteArray} {maxL d n index b ci : Nat} {cret : Option FieldType} {As fs stk : List Value} {T : u_T} {N : Nat} {wp : va_W → Prop} (hG : Cx G cc nL ret own Ts dd) (hM : Con (g_l G) y wz d (g_D G) w0 (.ref b :: As) none wp) (u : va_W) (x : va_W) (hws : ws = u ++ (w0 ++ x)) (hT : GoodIn Ts (wsV own index C y wz)) (hw : wz = Cond.code y bytes maxL cret :: wz') (hy : hyV y C n) (hn : As.length = n) (hdd : d + 1 ≤ dd) (hmL : maxL ≤ 21) (q0 : Nat) (hc : vwCl[ci]? = some (C, T, N)) (he : w0[q0]? = some (b, .inr (ci, fs))) (hst : stk = As.reverse ++ .ref b :: st) (hcat : (st.map fun v => v.category).sum ≤ 8) (hf : kc ≤ (g_R G).cells ∧ ks ≤ (g_R G).slots) (hd : decode cc pc = .ok (.invokevirtual index, 3)) (k : ∀ w, wp w → V G kc ks (u ++ (w ++ x)) (pc + 3) lv st) : V G kc ks ws pc lv stk := by
  intro H locs ls hP hD hS hl
  subst hws
  have hF := midF hG hD hS
  exact q_after (q_runV hG hM hT hw hy hn hdd hmL (va_recv hG.hK (midP hP) hc he) (preW hG (midP hP) (D_l (D_r hD)) hS hF) (hl.1.trans hG.n) hst hcat hd hf) hS hF (fun w H1 locs1 h1 h2 h3 h4 h5 => by
    obtain ⟨hP', hD'⟩ := join_mid hP hD h4 hF h2 h3
    exact k w h1 H1 locs1 ls hP' hD' h5 hl)
end VM
