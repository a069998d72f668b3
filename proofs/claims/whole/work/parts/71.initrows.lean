/-! ===== constructors ===== -/
/-- what the tables say of the nest mates' constructors, and of the row of sheets -/
def NP (U : State) : Prop := (va_Nw (.methodLinkNest RX4 42 yX0_init RX6) U ∧ va_Nw (.methodLinkNest RX5 11 yX3_init RX6) U) ∧ (va_Nw (.methodLinkNest RX6 9 yX4_init RX6) U ∧ va_Nw (.methodLinkNest RX6 24 yX0_init RX6) U ∧ va_Nw (.methodLinkNest RX6 31 yX5_init RX6) U ∧ va_Nw (.methodLinkNest RX6 55 yX2_init RX6) U) ∧ va_AO RX2 U
theorem NP.warm {s U : State} (hW : s.WarmedH U.vm) (h : NP s) : NP U := ⟨⟨va_Nw.warmM hW h.1.1, va_Nw.warmM hW h.1.2⟩, ⟨va_Nw.warmM hW h.2.1.1, va_Nw.warmM hW h.2.1.2.1, va_Nw.warmM hW h.2.1.2.2.1, va_Nw.warmM hW h.2.1.2.2.2⟩, va_AO.moved hW.alike h.2.2⟩
theorem NP.same {u U : State} (hv : u.vm = U.vm) (h : NP u) : NP U := ⟨⟨va_Nw.same rfl hv h.1.1, va_Nw.same rfl hv h.1.2⟩, ⟨va_Nw.same rfl hv h.2.1.1, va_Nw.same rfl hv h.2.1.2.1, va_Nw.same rfl hv h.2.1.2.2.1, va_Nw.same rfl hv h.2.1.2.2.2⟩, va_AO.moved (by rw [hv]; exact Vm.Alike.refl U.vm) h.2.2⟩
def PcI (D : va_G) (w0 : va_W) (av : List Value) (sz : Nat) : Array Value → State → Prop := va_Pc av (fun U => U.heap.size = sz ∧ va_P D vwCl w0 U.heap ∧ va_K D vwCl (tyD D) U ∧ va_D (fun _ => True) w0 ∧ SP D (va_A w0 sz) U U.heap ∧ NP U)
def ConI (l : Launch) (y : MethodName) (wz : List Cond) (d mc ms : Nat) (D : va_G) (w0 : va_W) (av : List Value) (wp : va_W → Prop) : Prop :=
  ∀ sz : Nat, Met l y wz (rmD d mc ms) (PcI D w0 av sz) (QcW D none wp (va_A w0 sz)) mc ms (va_A w0 sz)
section VI
variable {G : GJ} {cc : ByteArray} {nL : Nat} {ret : Option FieldType} {own : String} {Ts : List Cond} {dd kc ks pc : Nat} {ws : va_W} {lv : List (Nat × Value)} {st : List Value}
theorem coni_start {l : Launch} {y : MethodName} {wz wz' : List Cond} {maxL d mc ms : Nat} {D : va_G} {w0 : va_W} {av : List Value} {wp : va_W → Prop} (hy : plainName y.cls = true) (hw : wz = Cond.code y cc maxL none :: wz') (ho : y.cls = own) (hi : y.name = "<init>") (hlen : (lg_sl av).length ≤ maxL)
    (body : ∀ G : GJ, Cx G cc maxL none own wz d → Ex G mc ms none wp → g_R G = rmD d mc ms → (g_t G).name = "<init>" → NP (g_s G) → g_l G = l → g_D G = D → V G 0 0 w0 0 (lv_args 0 av) []) : ConI l y wz d mc ms D w0 av wp := by
  intro sz
  refine Met.ofW (cc := cc) (maxL := maxL) (ret := none) hy hw ?_
  intro p e s m args below meth c s₁ B hml hv
  obtain ⟨rfl, hsz, hP, hK, hD0, hSP, hNP⟩ := hv
  have hts := atoms_spec (ws := wz) B.pre
  have hown : s.vm.findClass own = some m.cls := by rw [← ho]; exact findClass_of_methodNamed B.named
  have hin : meth.name = "<init>" := (name_of_methodNamed B.named B.method).1.trans hi
  subst hsz
  have hD := hD0.self (sz := s.heap.size)
  have key := body ((p, l, e, rmD d mc ms, s), (m, av.toArray, below, meth, c), (maxL, D, va_A w0 s.heap.size, MQ below (QcW D none wp (va_A w0 s.heap.size)) av.toArray s mc ms (va_A w0 s.heap.size))) ⟨B.exec, B.bytes, hml, B.returns, hown, hts, hK, fun q h => Or.inr h, B.notSynchronized, rfl, hSP, Nat.le_refl _, Nat.le_refl _⟩ rfl rfl hin hNP rfl rfl
  rw [lg_entry_eq]
  exact key s.heap [] _ hP hD va_S.rf (lv_entry av hlen)
theorem r_objInit (hG : Cx G cc nL ret own Ts dd) {index a : Nat} (w1 : Cond.methodLink own index objectInit ∈ Ts) (w2 : Cond.instanceMethod objectInit ∈ Ts) (w3 : Cond.code objectInit ⟨#[0xb1]⟩ 1 none ∈ Ts) (hdd : 1 ≤ dd) (hd : decode cc pc = .ok (.invokespecial index, 3)) (k : V G kc ks ws (pc + 3) lv []) : V G kc ks ws pc lv [.ref a] := by
  intro H locs ls hP hD hS hl
  have hr := hG.room
  refine W.objInit hG.exec hG.code hG.own (hG.hts _ w1) (hG.hts _ w2) (hG.hts _ w3) rfl (by rw [hG.maxL]; exact hl.1.trans hG.n) rfl hd (by omega) (by show _ ≤ _; simp; omega) ?_
  exact k H locs ls hP hD hS hl
theorem cA_int {D : va_G} {s : State} {cA : ClassId} {tys : List (ClassId × FieldType)} (hK : va_K D vwCl (tyD D) s) (h : va_K D vwCl (tyD D ++ [(cA, .int)]) s) : cA = D.1 100 := by
  have h1 : s.vm.findClass ("[" ++ FieldType.int.toString) = some (D.1 100) := (hK.2 0 _ rfl).2
  have h2 : s.vm.findClass ("[" ++ FieldType.int.toString) = some cA := (h.2 3 _ rfl).2
  rw [h1] at h2
  exact (Option.some.inj h2).symm
theorem cA_long {D : va_G} {s : State} {cA : ClassId} (hK : va_K D vwCl (tyD D) s) (h : va_K D vwCl (tyD D ++ [(cA, .long)]) s) : cA = D.1 101 := by
  have h1 : s.vm.findClass ("[" ++ FieldType.long.toString) = some (D.1 101) := (hK.2 1 _ rfl).2
  have h2 : s.vm.findClass ("[" ++ FieldType.long.toString) = some cA := (h.2 3 _ rfl).2
  rw [h1] at h2
  exact (Option.some.inj h2).symm
theorem cA_sheet {D : va_G} {s : State} {cA : ClassId} (hK : va_K D vwCl (tyD D) s) (h : va_K D vwCl (tyD D ++ [(cA, .object "BreakSwaps$Sheet")]) s) : cA = D.1 102 := by
  obtain ⟨_, _, -, -, -, h1⟩ := (hK.2 2 _ rfl).2
  obtain ⟨_, _, -, -, -, h2⟩ := (h.2 3 _ rfl).2
  rw [h1] at h2
  exact (Option.some.inj h2).symm
theorem r_newi (hG : Cx G cc nL ret own Ts dd) (w1 : Cond.arrayClass .int ∈ Ts) {n : Int} (N : Nat) (hn : n = N) (hN : N ≤ 1000) (h1 : kc + 1 ≤ (g_R G).cells) (h2 : ks + N ≤ (g_R G).slots) (hd : decode cc pc = .ok (.newarray .int, 2)) (k : ∀ q : Nat, V G (kc + 1) (ks + N) (ws ++ [(q, .inl ((g_D G).1 100, N, .inl (ia (fun _ => 0))))]) (pc + 2) lv (.ref q :: st)) : V G kc ks ws pc lv (.int (iI n) :: st) := by
  intro H locs ls hP hD hS hl
  subst hn
  refine va_newa (atype := .int) (ty := .int) (a0 := (N, .inl (ia (fun _ => 0)))) hG.exec hG.code (hG.hts _ w1) rfl hG.hK hP hD hS hG.hA (fun cA => rfl) (iI_nn (by omega)) (iI_tn (by omega)) (by show N * 4 ≤ _; omega) h1 h2 hd (fun q cA H1 hK1 hP1 hD1 hS1 => ?_)
  have e := cA_int (tys := []) hG.hK hK1
  subst e
  exact k q H1 locs ls hP1 hD1 hS1 hl
theorem r_newl (hG : Cx G cc nL ret own Ts dd) (w1 : Cond.arrayClass .long ∈ Ts) {n : Int} (N : Nat) (hn : n = N) (hN : N ≤ 1000) (h1 : kc + 1 ≤ (g_R G).cells) (h2 : ks + N ≤ (g_R G).slots) (hd : decode cc pc = .ok (.newarray .long, 2)) (k : ∀ q : Nat, V G (kc + 1) (ks + N) (ws ++ [(q, .inl ((g_D G).1 101, N, .inr (.inl (la (fun _ => 0)))))]) (pc + 2) lv (.ref q :: st)) : V G kc ks ws pc lv (.int (iI n) :: st) := by
  intro H locs ls hP hD hS hl
  subst hn
  refine va_newa (atype := .long) (ty := .long) (a0 := (N, .inr (.inl (la (fun _ => 0))))) hG.exec hG.code (hG.hts _ w1) rfl hG.hK hP hD hS hG.hA (fun cA => rfl) (iI_nn (by omega)) (iI_tn (by omega)) (by show N * 8 ≤ _; omega) h1 h2 hd (fun q cA H1 hK1 hP1 hD1 hS1 => ?_)
  have e := cA_long hG.hK hK1
  subst e
  exact k q H1 locs ls hP1 hD1 hS1 hl
theorem r_newq (hG : Cx G cc nL ret own Ts dd) (hnp : NP (g_s G)) {index : Nat} (w1 : Cond.classLink own index RX2 ∈ Ts) {n : Int} (N : Nat) (hn : n = N) (hN : N ≤ 1000) (h1 : kc + 1 ≤ (g_R G).cells) (h2 : ks + N ≤ (g_R G).slots) (hd : decode cc pc = .ok (.anewarray index, 3)) (k : ∀ q : Nat, V G (kc + 1) (ks + N) (ws ++ [(q, .inl ((g_D G).1 102, N, .inr (.inr (.inr (.inr (fun _ => none))))))]) (pc + 3) lv (.ref q :: st)) : V G kc ks ws pc lv (.int (iI n) :: st) := by
  intro H locs ls hP hD hS hl
  subst hn
  refine va_newq (C := RX2) hG.exec hG.code hG.own (hG.hts _ w1) hnp.2.2 hG.hK hP hD hS hG.hA (iI_nn (by omega)) (iI_tn (by omega)) (by omega) h1 h2 hd (fun q cA H1 hK1 hP1 hD1 hS1 => ?_)
  have e := cA_sheet hG.hK hK1
  subst e
  exact k q H1 locs ls hP1 hD1 hS1 hl
theorem r_new (hG : Cx G cc nL ret own Ts dd) {C : String} {T : u_T} {N ci index : Nat} (hC : ∀ w ∈ u_ws C T N, w ∈ Ts) (ty : Nat → FieldType) (hty : ∀ k, k < N → parseFieldDescriptor (T k).2.2.1 = some (ty k)) (w1 : Cond.classLink own index C ∈ Ts) (w2 : Cond.instantiable C N ∈ Ts) (w3 : Cond.initialized C ∈ Ts) (hc : vwCl[ci]? = some (C, T, N)) (fs : List Value) (hfs : ∀ j, j < N → defaultValue (ty j) = vp_V fs j) (h1 : kc + 1 ≤ (g_R G).cells) (h2 : ks + N ≤ (g_R G).slots) (hd : decode cc pc = .ok (.new index, 3)) (k : ∀ q : Nat, V G (kc + 1) (ks + N) (ws ++ [(q, .inr (ci, fs))]) (pc + 3) lv (.ref q :: st)) : V G kc ks ws pc lv st := by
  intro H locs ls hP hD hS hl
  exact va_new hG.exec hG.code hG.hts hC ty hty hG.own (hG.hts _ w1) (hG.hts _ w2) (hG.hts _ w3) hG.hK hP hD hS hG.hA hc hfs h1 h2 hd (fun q H1 hP1 hD1 hS1 => k q H1 locs ls hP1 hD1 hS1 hl)
theorem r_putF (hG : Cx G cc nL ret own Ts dd) (hin2 : (g_t G).name = "<init>") {C : String} {T : u_T} {N ci index a : Nat} {fs : List Value} {v : Value} (hC : ∀ w ∈ u_ws C T N, w ∈ Ts) (q0 k0 : Nat) (ty0 : Nat → FieldType) (hty : ∀ k, k < N → parseFieldDescriptor (T k).2.2.1 = some (ty0 k)) (hnm : ∀ a, a < N → ∀ b, b < N → a ≠ b → (T a).2.1 ≠ (T b).2.1) (he : ws[q0]? = some (a, .inr (ci, fs))) (hc : vwCl[ci]? = some (C, T, N)) (hk : k0 < N) (hlink : Cond.fieldLink own index (T k0).1 (T k0).2.1 (T k0).2.2.1 ∈ Ts) (hfin : (T k0).2.2.2 = true) (hdecl : (T k0).1 = own) (hn : narrow (ty0 k0) v = v) (hfit : fits (ty0 k0) v = true) (hl0 : k0 < fs.length) (hd : decode cc pc = .ok (.putfield index, 3)) {ws' : va_W} (hw : ws.set q0 (a, .inr (ci, fs.set k0 v)) = ws') (k : V G kc ks ws' (pc + 3) lv st) : V G kc ks ws pc lv (v :: .ref a :: st) :=
  fun H locs ls hP hD hS hl => va_putF hG.exec hG.code hG.hts hC ty0 hty hnm hG.own hG.hK hP hD hS q0 he hc k0 hk (hG.hts _ hlink) (fun _ h => h) hfin hin2 hdecl (hty k0 hk) hn hfit hl0 hd (fun H1 locs1 hP1 hD1 hS1 => k H1 locs1 ls (hw ▸ hP1) (hw ▸ hD1) hS1 hl)
theorem blindI {D : va_G} {w0 : va_W} {av : List Value} {sz : Nat} : FrameBlind (PcI D w0 av sz) := fun a U g mk q => by
  obtain ⟨q0, q1, qP, qK, qD, qS, qN⟩ := q
  exact ⟨q0, q1, qP, va_K.moved (u := U) (U := U.calling g mk a) (Vm.Alike.refl U.vm) qK, qD, SP.same (u := U) (U := U.calling g mk a) rfl qS, NP.same (u := U) (U := U.calling g mk a) rfl qN⟩
theorem preI {H : Heap} {locs : List Loc} {w0 : va_W} {av : List Value} (hG : Cx G cc nL ret own Ts dd) (hnp : NP (g_s G)) (hP0 : va_P (g_D G) vwCl w0 H) (hD0 : va_D (g_A G) w0) (hS : va_S (g_A G) (g_s G).heap H locs) (hF : ∀ q, va_A w0 H.size q → g_A G q) : ∀ U : State, U.heap = H → (g_s G).WarmedH U.vm → PcI (g_D G) w0 av H.size av.toArray U := fun U hU hW =>
  ⟨rfl, by rw [hU], by rw [hU]; exact hP0, va_K.moved hW.alike hG.hK, hD0.weaken (fun _ _ _ _ => trivial), by rw [hU]; exact ((SP.warm hW hG.sp).kept hS.2.1).narrow hF, NP.warm hW hnp⟩
/-- a nest mate's constructor on the newest object -/
theorem r_initN {w0 : va_W} {y : MethodName} {wz wz' : List Cond} {bytes : ByteArray} {maxL d mc ms index b : Nat} {wp : va_W → Prop} (hG : Cx G cc nL ret own Ts dd) (hnp : NP (g_s G)) (hM : ConI (g_l G) y wz d mc ms (g_D G) w0 [.ref b] wp) (u : va_W) (hws : ws = u ++ (w0 ++ [])) (hT : GoodIn Ts wz) (hw : wz = Cond.code y bytes maxL none :: wz') (hN : va_Nw (.methodLinkNest own index y RX6) (g_s G)) (w1 : Cond.initialized y.cls ∈ Ts) (w2 : Cond.instanceMethod y ∈ Ts) (hyn : y.name = "<init>") (hy : y.cls ≠ "java/lang/invoke/MethodHandle" ∧ y.cls ≠ "java/lang/invoke/VarHandle" ∧ (parseMethodDescriptor y.desc).map (fun d => d.parameters.length) = some 0) (hdd : d + 1 ≤ dd) (hmL : maxL ≤ 21) (hcat : (st.map fun v => v.category).sum ≤ 8) (hf : kc + mc ≤ (g_R G).cells ∧ ks + ms ≤ (g_R G).slots) (hd : decode cc pc = .ok (.invokespecial index, 3)) (k : ∀ w, wp w → V G (kc + mc) (ks + ms) (u ++ (w ++ [])) (pc + 3) lv st) : V G kc ks ws pc lv (.ref b :: st) := by
  intro H locs ls hP hD hS hl
  subst hws
  have hF := midF hG hD hS
  have run : QRun G H locs kc ks mc ms pc ls (.ref b :: st) st w0 none wp :=
    va_runIN (As := []) (rest := st) ⟨hG.exec, hG.code, hG.maxL, hG.own, hG.hts⟩ (hM H.size) ⟨va_cnB 0 hG.hts hT hw rfl rfl hN (hG.hts _ w1) hy ⟨Nat.le_trans hdd hG.room.1, by have := hG.room.2; show 8 + (maxL + 11) + 40 * d ≤ _; omega⟩, hyn, hG.hts _ w2⟩ ⟨blindI, preI hG hnp (midP hP) (D_l (D_r hD)) hS hF⟩ rfl rfl (hl.1.trans hG.n) rfl (lv_room hcat) hd hf
  exact q_after run hS hF (fun w H1 locs1 h1 h2 h3 h4 h5 => by
    obtain ⟨hP', hD'⟩ := join_mid hP hD h4 hF h2 h3
    exact k w h1 H1 locs1 ls hP' hD' h5 hl)
end VI
