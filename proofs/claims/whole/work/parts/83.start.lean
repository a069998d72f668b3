set_option maxHeartbeats 4000000 in
set_option maxRecDepth 100000 in
theorem whole_start {p : Program} {e : Env} {s : State} {m : MethodId} {below : List Frame} {meth : Method} {c : Code} (l : Launch) (hflags : l.flags = flags0) {b L : Nat} {xs : Nat → Int32} (hL : L ≤ 3072) (C0 : lw_At p s m meth c b L xs) : W p l e room_1 s m #[Value.ref b] below meth c s.heap [] 0 0 (lw_Z below #[Value.ref b] s) (entryFrame m ([Value.ref b] : List Value).toArray 4) := by
  obtain ⟨hx, hb, hr, hml, hown, hts, hX, hbl, hlocks, hgv⟩ := C0
  obtain ⟨D, hK, hSP, hNP⟩ := law_facts hts hgv
  have hG : Cx ((p, l, e, room_1, s), (m, #[Value.ref b], below, meth, c), (4, D, (fun q => s.heap.size ≤ q), lw_Z below #[Value.ref b] s)) cL_law 4 ret RL wsL_law 12 := ⟨hx, hb, hml, hr, hown, fun w hw => hts w (wsL_law_in w hw), hK, fun q h => h, hlocks, rfl, hSP, Nat.le_of_ble_eq_true rfl, Nat.le_of_ble_eq_true rfl⟩
  generalize hGG : (((p, l, e, room_1, s), (m, #[Value.ref b], below, meth, c), (4, D, (fun q => s.heap.size ≤ q), lw_Z below #[Value.ref b] s)) : GJ) = G at hG
  have hScr : Scr G b L xs := by rw [← hGG]; exact ⟨hX, hbl, Nat.not_le.mpr hbl, hL⟩
  have hnp : NP (g_s G) := by rw [← hGG]; exact hNP
  have hR : g_R G = room_1 := by rw [← hGG]
  have END : ∀ (kc ks : Nat), kc ≤ 600000 → ks ≤ 7302250 → ∀ (ws : va_W) (lv : List (Nat × Value)), V G kc ks ws 1388 lv [] := by
    intro kc ks h1 h2 ws lv
    rw [← hGG]
    intro H locs ls hP hD hS hl
    refine lv_iconst hx hb dL_law_1388 rfl ?_
    refine W.widen (k := 600000) (n := 7302250) h1 h2 ?_
    exact va_forget hS.2.2 (lw_ret hx hb hr hlocks dL_law_1389)
  have key : V G 0 0 [] 0 (lv_args 0 [Value.ref b]) [] := by
    refine r_new (ci := 5) hG cL_X6 tyX6 tyX6_ok (List.mem_append_left _ (List.mem_append_left _ (List.mem_append_left _ (List.mem_append_left _ (List.mem_append_left _ (List.mem_append_left _ (List.mem_append_left _ (List.mem_append_left _ (List.mem_append_left _ (List.mem_of_getElem? (i := 0) rfl)))))))))) (List.mem_append_left _ (List.mem_append_left _ (List.mem_append_left _ (List.mem_append_left _ (List.mem_append_left _ (List.mem_append_left _ (List.mem_append_left _ (List.mem_append_left _ (List.mem_append_left _ (List.mem_of_getElem? (i := 1) rfl)))))))))) (List.mem_append_left _ (List.mem_append_left _ (List.mem_append_left _ (List.mem_append_left _ (List.mem_append_left _ (List.mem_append_left _ (List.mem_append_left _ (List.mem_append_left _ (List.mem_append_left _ (List.mem_of_getElem? (i := 2) rfl)))))))))) rfl [.null, .null, .null, .null, .null, .null, .null, .null, .int 0] (fun j hj => by rcases (show j = 0 ∨ j = 1 ∨ j = 2 ∨ j = 3 ∨ j = 4 ∨ j = 5 ∨ j = 6 ∨ j = 7 ∨ j = 8 by omega) with h | h | h | h | h | h | h | h | h <;> subst h <;> rfl) (by rw [hR]; exact Nat.le_of_ble_eq_true rfl) (by rw [hR]; exact Nat.le_of_ble_eq_true rfl) dL_law_0 (fun q0 => ?_)
    refine r_dup hG dL_law_3 rfl ?_
    refine r_initL hG hnp (c_X6_init (g_l G) (g_D G) q0) [] rfl gL_law_X6_init rfl (List.mem_append_left _ (List.mem_append_left _ (List.mem_append_left _ (List.mem_append_left _ (List.mem_append_left _ (List.mem_append_left _ (List.mem_append_left _ (List.mem_append_left _ (List.mem_append_left _ (List.mem_of_getElem? (i := 7) rfl)))))))))) (List.mem_append_left _ (List.mem_append_left _ (List.mem_append_left _ (List.mem_append_left _ (List.mem_append_left _ (List.mem_append_left _ (List.mem_append_left _ (List.mem_append_left _ (List.mem_append_left _ (List.mem_of_getElem? (i := 2) rfl)))))))))) (List.mem_append_left _ (List.mem_append_left _ (List.mem_append_left _ (List.mem_append_left _ (List.mem_append_left _ (List.mem_append_left _ (List.mem_append_left _ (List.mem_append_left _ (List.mem_append_left _ (List.mem_of_getElem? (i := 8) rfl)))))))))) rfl (by decide +kernel) (by decide) (by decide) (Nat.le_of_ble_eq_true rfl) (by rw [hR]; exact ⟨Nat.le_of_ble_eq_true rfl, Nat.le_of_ble_eq_true rfl⟩) dL_law_4 ?_
    rintro w ⟨qa, hqa, rfl⟩
    subst hqa
    refine V_ws (ws' := bw (g_D G) qa (fun _ _ => 0) (fun _ _ => 0) (fun _ _ => 0) (fun _ => 0) (fun _ _ => 0) jz) rfl ?_
    refine r_astore_n (i := 1) hG dL_law_7 rfl (by decide) rfl ?_
    refine r_new (ci := 6) hG cL_X7 tyX7 tyX7_ok (List.mem_append_left _ (List.mem_append_left _ (List.mem_append_left _ (List.mem_append_left _ (List.mem_append_left _ (List.mem_append_left _ (List.mem_append_left _ (List.mem_append_left _ (List.mem_append_left _ (List.mem_of_getElem? (i := 3) rfl)))))))))) (List.mem_append_left _ (List.mem_append_left _ (List.mem_append_left _ (List.mem_append_left _ (List.mem_append_left _ (List.mem_append_left _ (List.mem_append_left _ (List.mem_append_left _ (List.mem_append_left _ (List.mem_of_getElem? (i := 4) rfl)))))))))) (List.mem_append_left _ (List.mem_append_left _ (List.mem_append_left _ (List.mem_append_left _ (List.mem_append_left _ (List.mem_append_left _ (List.mem_append_left _ (List.mem_append_left _ (List.mem_append_left _ (List.mem_of_getElem? (i := 5) rfl)))))))))) rfl [.null, .null, .null, .int 0, .null, .null, .int 0, .int 0, .int 0, .int 0, .int 0, .int 0, .null, .null, .null] (fun j hj => by rcases (show j = 0 ∨ j = 1 ∨ j = 2 ∨ j = 3 ∨ j = 4 ∨ j = 5 ∨ j = 6 ∨ j = 7 ∨ j = 8 ∨ j = 9 ∨ j = 10 ∨ j = 11 ∨ j = 12 ∨ j = 13 ∨ j = 14 by omega) with h | h | h | h | h | h | h | h | h | h | h | h | h | h | h <;> subst h <;> rfl) (by rw [hR]; exact Nat.le_of_ble_eq_true rfl) (by rw [hR]; exact Nat.le_of_ble_eq_true rfl) dL_law_8 (fun q8 => ?_)
    refine r_dup hG dL_law_11 rfl ?_
    refine r_initL hG hnp (c_X7_init (g_l G) (g_D G) q8) (bw (g_D G) qa (fun _ _ => 0) (fun _ _ => 0) (fun _ _ => 0) (fun _ => 0) (fun _ _ => 0) jz) rfl gL_law_X7_init rfl (List.mem_append_left _ (List.mem_append_left _ (List.mem_append_left _ (List.mem_append_left _ (List.mem_append_left _ (List.mem_append_left _ (List.mem_append_left _ (List.mem_append_left _ (List.mem_append_right _ (List.mem_append_right _ (List.mem_append_right _ (List.mem_append_left _ (List.mem_of_getElem? (i := 7) rfl))))))))))))) (List.mem_append_left _ (List.mem_append_left _ (List.mem_append_left _ (List.mem_append_left _ (List.mem_append_left _ (List.mem_append_left _ (List.mem_append_left _ (List.mem_append_left _ (List.mem_append_left _ (List.mem_of_getElem? (i := 5) rfl)))))))))) (List.mem_append_left _ (List.mem_append_left _ (List.mem_append_left _ (List.mem_append_left _ (List.mem_append_left _ (List.mem_append_left _ (List.mem_append_left _ (List.mem_append_left _ (List.mem_append_right _ (List.mem_append_right _ (List.mem_append_right _ (List.mem_append_left _ (List.mem_of_getElem? (i := 8) rfl))))))))))))) rfl (by decide +kernel) (by decide) (by decide) (Nat.le_of_ble_eq_true rfl) (by rw [hR]; exact ⟨Nat.le_of_ble_eq_true rfl, Nat.le_of_ble_eq_true rfl⟩) dL_law_12 ?_
    rintro w ⟨qb, hqb, rfl⟩
    subst hqb
    refine V_ws (ws' := LW G qa qb ((fun _ _ => 0), (fun _ _ => 0), (fun _ _ => 0), (fun _ => 0)) (fun _ _ => 0) jz (fun _ _ => 0)) rfl ?_
    refine r_astore_n (i := 2) hG dL_law_15 rfl (by decide) rfl ?_
    refine r_iconst hG dL_law_16 ?_
    refine r_istore_n (i := 3) hG dL_law_17 rfl (by decide) rfl ?_
    exact V_lv (law_loop hG hScr (by rw [hR]; exact ⟨Nat.le_of_ble_eq_true rfl, Nat.le_of_ble_eq_true rfl⟩) (END _ _ (Nat.le_of_ble_eq_true rfl) (Nat.le_of_ble_eq_true rfl)) 512 0 (by omega) (by omega) _ _ _ _ TI_0) ⟨rfl, rfl, rfl, rfl, trivial⟩
  rw [← hGG] at key
  rw [lg_entry_eq]
  exact key s.heap [] _ (fun k q h => by simp at h) ⟨fun i j p q h => by simp at h, fun k q h => by simp at h⟩ va_S.rf (lv_entry [Value.ref b] (Nat.le_of_ble_eq_true rfl))

