section VW
variable {G : GJ} {cc : ByteArray} {nL : Nat} {ret : Option FieldType} {own : String} {Ts : List Cond} {dd kc ks pc : Nat} {ws : va_W} {lv : List (Nat × Value)} {st : List Value}
theorem fm_of {α β : Type} {f : α → Option β} : ∀ {is : List α} {w : List β}, is.map f = w.map some → is.filterMap f = w
  | [], w, h => by
    cases w with
    | nil => rfl
    | cons b w => cases h
  | a :: is, w, h => by
    cases w with
    | nil => cases h
    | cons b w =>
      have h1 : f a = some b ∧ is.map f = w.map some := by
        rw [List.map_cons, List.map_cons] at h
        exact ⟨(List.cons.inj h).1, (List.cons.inj h).2⟩
      rw [List.filterMap_cons, h1.1, fm_of h1.2]
theorem iI_div {a b : Int} (ha : 0 ≤ a ∧ a < 2147483648) (hb : 0 < b ∧ b < 2147483648) : iI a / iI b = iI (a / b) := by
  have h1 : Int32.minValue.toInt = -2147483648 := rfl
  have h2 : Int32.maxValue.toInt = 2147483647 := rfl
  have h := Int32.ofInt_tdiv (a := a) (b := b) (by omega) (by omega) (by omega) (by omega)
  rw [Int.tdiv_eq_ediv_of_nonneg ha.1] at h
  exact h.symm
theorem con_start {l : Launch} {y : MethodName} {wz wz' : List Cond} {maxL d mc ms : Nat} {D : va_G} {w0 : va_W} {av : List Value} {rv : Option Value} {wp : va_W → Prop} (hy : plainName y.cls = true) (hw : wz = Cond.code y cc maxL ret :: wz') (ho : y.cls = own) (hlen : (lg_sl av).length ≤ maxL)
    (body : ∀ G : GJ, Cx G cc maxL ret own wz d → Ex G mc ms rv wp → g_l G = l → g_D G = D → V G 0 0 w0 0 (lv_args 0 av) []) : ConA l y wz d mc ms D w0 av rv wp := by
  intro sz
  refine Met.ofW (cc := cc) (maxL := maxL) (ret := ret) hy hw ?_
  intro p e s m args below meth c s₁ B hml hv
  obtain ⟨rfl, hsz, hP, hK, hD0, hSP⟩ := hv
  have hts := atoms_spec (ws := wz) B.pre
  have hown : s.vm.findClass own = some m.cls := by rw [← ho]; exact findClass_of_methodNamed B.named
  subst hsz
  have hD := hD0.self (sz := s.heap.size)
  have key := body ((p, l, e, rmD d mc ms, s), (m, av.toArray, below, meth, c), (maxL, D, va_A w0 s.heap.size, MQ below (QcW D rv wp (va_A w0 s.heap.size)) av.toArray s mc ms (va_A w0 s.heap.size))) ⟨B.exec, B.bytes, hml, B.returns, hown, hts, hK, fun q h => Or.inr h, B.notSynchronized, rfl, hSP, Nat.le_refl _, Nat.le_refl _⟩ rfl rfl rfl
  rw [lg_entry_eq]
  exact key s.heap [] _ hP hD va_S.rf (lv_entry av hlen)
theorem V_lv {lv' : List (Nat × Value)} (k : V G kc ks ws pc lv' st) (h : lvs lv lv') : V G kc ks ws pc lv st := fun H locs ls hP hD hS hl => k H locs ls hP hD hS (lv_has_sub hl (lvs_mem h))
theorem V_sub {ws' : va_W} (is : List Nat) (hn : va_nd is = true) (hs : is.map (fun i => ws[i]?) = ws'.map some) (k : V G kc ks ws' pc lv st) : V G kc ks ws pc lv st := fun H locs ls hP hD hS hl => k H locs ls (hP.sub is (fm_of hs)) (hD.sub is hn hs) hS hl
theorem V_ws {ws' : va_W} (h : ws = ws') (k : V G kc ks ws' pc lv st) : V G kc ks ws pc lv st := h ▸ k
theorem V_st {st' : List Value} (h : st = st') (k : V G kc ks ws pc lv st') : V G kc ks ws pc lv st := h ▸ k
theorem V_top {x x' : Int32} (h : x = x') (k : V G kc ks ws pc lv (.int x' :: st)) : V G kc ks ws pc lv (.int x :: st) := h ▸ k
theorem V_topI {x : Int32} (k : ∀ a : Int, -2147483648 ≤ a ∧ a < 2147483648 → x = iI a → V G kc ks ws pc lv (.int (iI a) :: st)) : V G kc ks ws pc lv (.int x :: st) := V_top (iI_of x).symm (k x.toInt (iI_rng x) (iI_of x).symm)
theorem V_wide {kc' ks' : Nat} (h1 : kc ≤ kc') (h2 : ks ≤ ks') (k : V G kc' ks' ws pc lv st) : V G kc ks ws pc lv st := fun H locs ls hP hD hS hl => W.widen h1 h2 (k H locs ls hP hD hS hl)
theorem r_iconst (hG : Cx G cc nL ret own Ts dd) {n : Int} (hd : decode cc pc = .ok (.iconst n, 1)) (k : V G kc ks ws (pc + 1) lv (.int (iI n) :: st)) : V G kc ks ws pc lv st := fun H locs ls hP hD hS hl => lv_iconst hG.exec hG.code hd rfl (k H locs ls hP hD hS hl)
theorem r_bipush (hG : Cx G cc nL ret own Ts dd) {n : Int} (hd : decode cc pc = .ok (.bipush n, 2)) (hn : (Int8.ofInt n).toInt32 = iI n) (k : V G kc ks ws (pc + 2) lv (.int (iI n) :: st)) : V G kc ks ws pc lv st := fun H locs ls hP hD hS hl => lv_bipush hG.exec hG.code hd hn (k H locs ls hP hD hS hl)
theorem r_sipush (hG : Cx G cc nL ret own Ts dd) {n : Int} (hd : decode cc pc = .ok (.sipush n, 3)) (hn : (Int16.ofInt n).toInt32 = iI n) (k : V G kc ks ws (pc + 3) lv (.int (iI n) :: st)) : V G kc ks ws pc lv st := fun H locs ls hP hD hS hl => lv_sipush hG.exec hG.code hd hn (k H locs ls hP hD hS hl)
theorem r_ldc (hG : Cx G cc nL ret own Ts dd) {n : Int} {index : Nat} {v : Int32} (hc : Cond.constant own index v ∈ Ts) (hn : v = iI n) (hd : decode cc pc = .ok (.ldc index, 2)) (k : V G kc ks ws (pc + 2) lv (.int (iI n) :: st)) : V G kc ks ws pc lv st := fun H locs ls hP hD hS hl => lv_ldc hG.exec hG.code hG.own (hG.hts _ hc) hd (by rw [hn]; exact k H locs ls hP hD hS hl)
theorem r_ldc2 (hG : Cx G cc nL ret own Ts dd) {index : Nat} {v : Int64} (hc : Cond.constantLong own index v ∈ Ts) (hd : decode cc pc = .ok (.ldc2_w index, 3)) (k : V G kc ks ws (pc + 3) lv (.long v :: st)) : V G kc ks ws pc lv st := fun H locs ls hP hD hS hl => lv_ldc2 hG.exec hG.code hG.own (hG.hts _ hc) hd (k H locs ls hP hD hS hl)
theorem r_lconst (hG : Cx G cc nL ret own Ts dd) {n : Fin 2} {v : Int64} (hd : decode cc pc = .ok (.lconst n, 1)) (hv : Int64.ofNat (n : Nat) = v) (k : V G kc ks ws (pc + 1) lv (.long v :: st)) : V G kc ks ws pc lv st := fun H locs ls hP hD hS hl => lv_lconst hG.exec hG.code hd hv (k H locs ls hP hD hS hl)
theorem r_iload_n (hG : Cx G cc nL ret own Ts dd) {j : Fin 4} {i : Nat} {x : Int32} (hd : decode cc pc = .ok (.iload_n j, 1)) (hi : (j : Nat) = i) (hl : lvg lv i = some (.int x)) (k : V G kc ks ws (pc + 1) lv (.int x :: st)) : V G kc ks ws pc lv st := fun H locs ls hP hD hS h => lv_iload_n hG.exec hG.code hd hi (h.2.2 _ (lvg_mem hl)) (k H locs ls hP hD hS h)
theorem r_iload (hG : Cx G cc nL ret own Ts dd) {i : Nat} {x : Int32} (hd : decode cc pc = .ok (.iload i, 2)) (hl : lvg lv i = some (.int x)) (k : V G kc ks ws (pc + 2) lv (.int x :: st)) : V G kc ks ws pc lv st := fun H locs ls hP hD hS h => lv_iload hG.exec hG.code hd (h.2.2 _ (lvg_mem hl)) (k H locs ls hP hD hS h)
theorem r_lload_n (hG : Cx G cc nL ret own Ts dd) {j : Fin 4} {i : Nat} {x : Int64} (hd : decode cc pc = .ok (.lload_n j, 1)) (hi : (j : Nat) = i) (hl : lvg lv i = some (.long x)) (k : V G kc ks ws (pc + 1) lv (.long x :: st)) : V G kc ks ws pc lv st := fun H locs ls hP hD hS h => lv_lload_n hG.exec hG.code hd hi (h.2.2 _ (lvg_mem hl)) (k H locs ls hP hD hS h)
theorem r_lload (hG : Cx G cc nL ret own Ts dd) {i : Nat} {x : Int64} (hd : decode cc pc = .ok (.lload i, 2)) (hl : lvg lv i = some (.long x)) (k : V G kc ks ws (pc + 2) lv (.long x :: st)) : V G kc ks ws pc lv st := fun H locs ls hP hD hS h => lv_lload hG.exec hG.code hd (h.2.2 _ (lvg_mem hl)) (k H locs ls hP hD hS h)
theorem r_aload_n (hG : Cx G cc nL ret own Ts dd) {j : Fin 4} {i : Nat} {x : Nat} (hd : decode cc pc = .ok (.aload_n j, 1)) (hi : (j : Nat) = i) (hl : lvg lv i = some (.ref x)) (k : V G kc ks ws (pc + 1) lv (.ref x :: st)) : V G kc ks ws pc lv st := fun H locs ls hP hD hS h => lv_aload_n hG.exec hG.code hd hi (h.2.2 _ (lvg_mem hl)) (k H locs ls hP hD hS h)
theorem r_aload (hG : Cx G cc nL ret own Ts dd) {i : Nat} {x : Nat} (hd : decode cc pc = .ok (.aload i, 2)) (hl : lvg lv i = some (.ref x)) (k : V G kc ks ws (pc + 2) lv (.ref x :: st)) : V G kc ks ws pc lv st := fun H locs ls hP hD hS h => lv_aload hG.exec hG.code hd (h.2.2 _ (lvg_mem hl)) (k H locs ls hP hD hS h)
theorem r_istore_n (hG : Cx G cc nL ret own Ts dd) {j : Fin 4} {i : Nat} {x : Int32} (hd : decode cc pc = .ok (.istore_n j, 1)) (hi : (j : Nat) = i) (hn : i < nL) (hk : lvk lv i = true) (k : V G kc ks ws (pc + 1) (lvp lv i (.int x)) st) : V G kc ks ws pc lv (.int x :: st) := fun H locs ls hP hD hS h => lv_istore_n hG.exec hG.code hd hi h (by rw [hG.n]; exact hn) rfl (fun ls2 h2 => k H locs ls2 hP hD hS (lv_has_put hk h2))
theorem r_istore (hG : Cx G cc nL ret own Ts dd) {i : Nat} {x : Int32} (hd : decode cc pc = .ok (.istore i, 2)) (hn : i < nL) (hk : lvk lv i = true) (k : V G kc ks ws (pc + 2) (lvp lv i (.int x)) st) : V G kc ks ws pc lv (.int x :: st) := fun H locs ls hP hD hS h => lv_istore hG.exec hG.code hd h (by rw [hG.n]; exact hn) rfl (fun ls2 h2 => k H locs ls2 hP hD hS (lv_has_put hk h2))
theorem r_astore_n (hG : Cx G cc nL ret own Ts dd) {j : Fin 4} {i : Nat} {x : Nat} (hd : decode cc pc = .ok (.astore_n j, 1)) (hi : (j : Nat) = i) (hn : i < nL) (hk : lvk lv i = true) (k : V G kc ks ws (pc + 1) (lvp lv i (.ref x)) st) : V G kc ks ws pc lv (.ref x :: st) := fun H locs ls hP hD hS h => lv_astore_n hG.exec hG.code hd hi h (by rw [hG.n]; exact hn) rfl (fun ls2 h2 => k H locs ls2 hP hD hS (lv_has_put hk h2))
theorem r_astore (hG : Cx G cc nL ret own Ts dd) {i : Nat} {x : Nat} (hd : decode cc pc = .ok (.astore i, 2)) (hn : i < nL) (hk : lvk lv i = true) (k : V G kc ks ws (pc + 2) (lvp lv i (.ref x)) st) : V G kc ks ws pc lv (.ref x :: st) := fun H locs ls hP hD hS h => lv_astore hG.exec hG.code hd h (by rw [hG.n]; exact hn) rfl (fun ls2 h2 => k H locs ls2 hP hD hS (lv_has_put hk h2))
theorem r_lstore (hG : Cx G cc nL ret own Ts dd) {i : Nat} {x : Int64} {lv' : List (Nat × Value)} (hd : decode cc pc = .ok (.lstore i, 2)) (hn : i + 1 < nL) (hl : (i, Value.long x) :: lv.filter (fun q => !(q.1 == i) && (!(q.1 == i + 1) && !(q.1 + 1 == i && q.2.category == 2))) = lv') (k : V G kc ks ws (pc + 2) lv' st) : V G kc ks ws pc lv (.long x :: st) := fun H locs ls hP hD hS h => lv_lstore hG.exec hG.code hd h (by rw [hG.n]; exact hn) hl (fun ls2 h2 => k H locs ls2 hP hD hS h2)
theorem r_iinc (hG : Cx G cc nL ret own Ts dd) {i : Nat} {n : Int} {x : Int} (hd : decode cc pc = .ok (.iinc i n, 3)) (hl : lvg lv i = some (.int (iI x))) (hn : i < nL) (hk : lvk lv i = true) (k : V G kc ks ws (pc + 3) (lvp lv i (.int (iI (x + n)))) st) : V G kc ks ws pc lv st := by
  intro H locs ls hP hD hS h
  obtain ⟨q, hq⟩ := List.getElem?_of_mem (lvg_mem hl)
  exact lv_iinc hG.exec hG.code hd h hq (iI_add x n) (by rw [hG.n]; exact hn) rfl (fun ls2 h2 => k H locs ls2 hP hD hS (lv_has_put hk h2))
theorem r_iadd (hG : Cx G cc nL ret own Ts dd) {a b : Int} (hd : decode cc pc = .ok (.iadd, 1)) (k : V G kc ks ws (pc + 1) lv (.int (iI (a + b)) :: st)) : V G kc ks ws pc lv (.int (iI b) :: .int (iI a) :: st) := fun H locs ls hP hD hS hl => lv_iadd hG.exec hG.code hd (by rw [iI_add]; exact k H locs ls hP hD hS hl)
theorem r_isub (hG : Cx G cc nL ret own Ts dd) {a b : Int} (hd : decode cc pc = .ok (.isub, 1)) (k : V G kc ks ws (pc + 1) lv (.int (iI (a - b)) :: st)) : V G kc ks ws pc lv (.int (iI b) :: .int (iI a) :: st) := fun H locs ls hP hD hS hl => lv_isub hG.exec hG.code hd (by rw [iI_sub]; exact k H locs ls hP hD hS hl)
theorem r_imul (hG : Cx G cc nL ret own Ts dd) {a b : Int} (hd : decode cc pc = .ok (.imul, 1)) (k : V G kc ks ws (pc + 1) lv (.int (iI (a * b)) :: st)) : V G kc ks ws pc lv (.int (iI b) :: .int (iI a) :: st) := fun H locs ls hP hD hS hl => lv_imul hG.exec hG.code hd (by rw [iI_mul]; exact k H locs ls hP hD hS hl)
theorem rr_iand (hG : Cx G cc nL ret own Ts dd) {x y : Int32} (hd : decode cc pc = .ok (.iand, 1)) (k : V G kc ks ws (pc + 1) lv (.int (x &&& y) :: st)) : V G kc ks ws pc lv (.int y :: .int x :: st) := fun H locs ls hP hD hS hl => lv_iand hG.exec hG.code hd (k H locs ls hP hD hS hl)
theorem rr_ior (hG : Cx G cc nL ret own Ts dd) {x y : Int32} (hd : decode cc pc = .ok (.ior, 1)) (k : V G kc ks ws (pc + 1) lv (.int (x ||| y) :: st)) : V G kc ks ws pc lv (.int y :: .int x :: st) := fun H locs ls hP hD hS hl => lv_ior hG.exec hG.code hd (k H locs ls hP hD hS hl)
theorem rr_ishl (hG : Cx G cc nL ret own Ts dd) {x y : Int32} (hd : decode cc pc = .ok (.ishl, 1)) (k : V G kc ks ws (pc + 1) lv (.int (x <<< (y &&& 31)) :: st)) : V G kc ks ws pc lv (.int y :: .int x :: st) := fun H locs ls hP hD hS hl => lv_ishl hG.exec hG.code hd (k H locs ls hP hD hS hl)
theorem rr_ishr (hG : Cx G cc nL ret own Ts dd) {x y : Int32} (hd : decode cc pc = .ok (.ishr, 1)) (k : V G kc ks ws (pc + 1) lv (.int (x >>> (y &&& 31)) :: st)) : V G kc ks ws pc lv (.int y :: .int x :: st) := fun H locs ls hP hD hS hl => lv_ishr hG.exec hG.code hd (k H locs ls hP hD hS hl)
theorem rr_iadd (hG : Cx G cc nL ret own Ts dd) {x y : Int32} (hd : decode cc pc = .ok (.iadd, 1)) (k : V G kc ks ws (pc + 1) lv (.int (x + y) :: st)) : V G kc ks ws pc lv (.int y :: .int x :: st) := fun H locs ls hP hD hS hl => lv_iadd hG.exec hG.code hd (k H locs ls hP hD hS hl)
theorem rr_isub (hG : Cx G cc nL ret own Ts dd) {x y : Int32} (hd : decode cc pc = .ok (.isub, 1)) (k : V G kc ks ws (pc + 1) lv (.int (x - y) :: st)) : V G kc ks ws pc lv (.int y :: .int x :: st) := fun H locs ls hP hD hS hl => lv_isub hG.exec hG.code hd (k H locs ls hP hD hS hl)
theorem rr_iushr (hG : Cx G cc nL ret own Ts dd) {x y : Int32} {v : Int32} (hd : decode cc pc = .ok (.iushr, 1)) (hv : (x.toUInt32 >>> (y.toUInt32 &&& Int32.toUInt32 31)).toInt32 = v) (k : V G kc ks ws (pc + 1) lv (.int v :: st)) : V G kc ks ws pc lv (.int y :: .int x :: st) := fun H locs ls hP hD hS hl => lv_iushr hG.exec hG.code hd hv (k H locs ls hP hD hS hl)
theorem r_idiv (hG : Cx G cc nL ret own Ts dd) {a b : Int} (ha : 0 ≤ a ∧ a < 2147483648) (hb : 0 < b ∧ b < 2147483648) (hd : decode cc pc = .ok (.idiv, 1)) (k : V G kc ks ws (pc + 1) lv (.int (iI (a / b)) :: st)) : V G kc ks ws pc lv (.int (iI b) :: .int (iI a) :: st) := by
  intro H locs ls hP hD hS hl
  have h0 : ¬ iI b = 0 := fun h => by
    have := (iI_eq (a := b) (b := 0) (by omega) (by omega)).mp h
    omega
  exact lv_idiv hG.exec hG.code hd h0 (by rw [iI_div ha hb]; exact k H locs ls hP hD hS hl)
theorem r_irem (hG : Cx G cc nL ret own Ts dd) {a b : Int} (ha : 0 ≤ a ∧ a < 2147483648) (hb : 0 < b ∧ b < 2147483648) (hd : decode cc pc = .ok (.irem, 1)) (k : V G kc ks ws (pc + 1) lv (.int (iI (a % b)) :: st)) : V G kc ks ws pc lv (.int (iI b) :: .int (iI a) :: st) := by
  intro H locs ls hP hD hS hl
  have h0 : ¬ iI b = 0 := fun h => by
    have := (iI_eq (a := b) (b := 0) (by omega) (by omega)).mp h
    omega
  have e : iI a - iI a / iI b * iI b = iI (a % b) := by
    rw [iI_div ha hb, iI_mul, iI_sub, Int.mul_comm, ← Int.emod_def]
  exact lv_irem hG.exec hG.code hd h0 (by rw [e]; exact k H locs ls hP hD hS hl)
theorem r_i2l (hG : Cx G cc nL ret own Ts dd) {x : Int32} (hd : decode cc pc = .ok (.i2l, 1)) (k : V G kc ks ws (pc + 1) lv (.long x.toInt64 :: st)) : V G kc ks ws pc lv (.int x :: st) := fun H locs ls hP hD hS hl => lv_i2l hG.exec hG.code hd rfl (k H locs ls hP hD hS hl)
theorem r_l2i (hG : Cx G cc nL ret own Ts dd) {x : Int64} (hd : decode cc pc = .ok (.l2i, 1)) (k : V G kc ks ws (pc + 1) lv (.int x.toInt32 :: st)) : V G kc ks ws pc lv (.long x :: st) := fun H locs ls hP hD hS hl => lv_l2i hG.exec hG.code hd rfl (k H locs ls hP hD hS hl)
theorem r_i2b (hG : Cx G cc nL ret own Ts dd) {x : Int32} (hd : decode cc pc = .ok (.i2b, 1)) (k : V G kc ks ws (pc + 1) lv (.int x.toInt8.toInt32 :: st)) : V G kc ks ws pc lv (.int x :: st) := fun H locs ls hP hD hS hl => lv_i2b hG.exec hG.code hd rfl (k H locs ls hP hD hS hl)
theorem r_i2s (hG : Cx G cc nL ret own Ts dd) {x : Int32} (hd : decode cc pc = .ok (.i2s, 1)) (k : V G kc ks ws (pc + 1) lv (.int x.toInt16.toInt32 :: st)) : V G kc ks ws pc lv (.int x :: st) := fun H locs ls hP hD hS hl => lv_i2s hG.exec hG.code hd rfl (k H locs ls hP hD hS hl)
theorem r_land (hG : Cx G cc nL ret own Ts dd) {x y : Int64} (hd : decode cc pc = .ok (.land, 1)) (k : V G kc ks ws (pc + 1) lv (.long (x &&& y) :: st)) : V G kc ks ws pc lv (.long y :: .long x :: st) := fun H locs ls hP hD hS hl => lv_land hG.exec hG.code hd (k H locs ls hP hD hS hl)
theorem r_lor (hG : Cx G cc nL ret own Ts dd) {x y : Int64} (hd : decode cc pc = .ok (.lor, 1)) (k : V G kc ks ws (pc + 1) lv (.long (x ||| y) :: st)) : V G kc ks ws pc lv (.long y :: .long x :: st) := fun H locs ls hP hD hS hl => lv_lor hG.exec hG.code hd (k H locs ls hP hD hS hl)
theorem r_ladd (hG : Cx G cc nL ret own Ts dd) {x y : Int64} (hd : decode cc pc = .ok (.ladd, 1)) (k : V G kc ks ws (pc + 1) lv (.long (x + y) :: st)) : V G kc ks ws pc lv (.long y :: .long x :: st) := fun H locs ls hP hD hS hl => lv_ladd hG.exec hG.code hd (k H locs ls hP hD hS hl)
theorem r_lsub (hG : Cx G cc nL ret own Ts dd) {x y : Int64} (hd : decode cc pc = .ok (.lsub, 1)) (k : V G kc ks ws (pc + 1) lv (.long (x - y) :: st)) : V G kc ks ws pc lv (.long y :: .long x :: st) := fun H locs ls hP hD hS hl => lv_lsub hG.exec hG.code hd (k H locs ls hP hD hS hl)
theorem r_lcmp (hG : Cx G cc nL ret own Ts dd) {x y : Int64} (hd : decode cc pc = .ok (.lcmp, 1)) (k : V G kc ks ws (pc + 1) lv (.int (lg_cmp x y) :: st)) : V G kc ks ws pc lv (.long y :: .long x :: st) := fun H locs ls hP hD hS hl => W.lcmp hG.exec hG.code hd (k H locs ls hP hD hS hl)
theorem r_dup (hG : Cx G cc nL ret own Ts dd) {v : Value} (hd : decode cc pc = .ok (.dup, 1)) (hv : v.category = 1) (k : V G kc ks ws (pc + 1) lv (v :: v :: st)) : V G kc ks ws pc lv (v :: st) := fun H locs ls hP hD hS hl => lv_dup hG.exec hG.code hd hv (k H locs ls hP hD hS hl)
theorem r_dup2 (hG : Cx G cc nL ret own Ts dd) {u v : Value} (hd : decode cc pc = .ok (.dup2, 1)) (hu : u.category = 1) (hv : v.category = 1) (k : V G kc ks ws (pc + 1) lv (u :: v :: u :: v :: st)) : V G kc ks ws pc lv (u :: v :: st) := fun H locs ls hP hD hS hl => lv_dup2_11 hG.exec hG.code hd hu hv (k H locs ls hP hD hS hl)
theorem r_pop (hG : Cx G cc nL ret own Ts dd) {v : Value} (hd : decode cc pc = .ok (.pop, 1)) (hv : v.category = 1) (k : V G kc ks ws (pc + 1) lv st) : V G kc ks ws pc lv (v :: st) := fun H locs ls hP hD hS hl => lv_pop hG.exec hG.code hd hv (k H locs ls hP hD hS hl)
theorem r_goto (hG : Cx G cc nL ret own Ts dd) {off : Int} {tgt : Nat} (hd : decode cc pc = .ok (.goto off, 3)) (ht : (pc : Int) + off = (tgt : Int)) (k : V G kc ks ws tgt lv st) : V G kc ks ws pc lv st := fun H locs ls hP hD hS hl => lv_goto hG.exec hG.code hd ht (k H locs ls hP hD hS hl)
theorem r_if_eq (hG : Cx G cc nL ret own Ts dd) {a : Int} (ha : -2147483648 ≤ a ∧ a < 2147483648) {off : Int} {tgt : Nat} (hd : decode cc pc = .ok (.ifCond .eq off, 3)) (ht : (pc : Int) + off = (tgt : Int)) (kt : a = 0 → V G kc ks ws tgt lv st) (kf : ¬ a = 0 → V G kc ks ws (pc + 3) lv st) : V G kc ks ws pc lv (.int (iI a) :: st) := fun H locs ls hP hD hS hl => lv_if_eq hG.exec hG.code hd ht (fun h => kt ((iI_eq (a := a) (b := 0) ha (by omega)).mp h) H locs ls hP hD hS hl) (fun h => kf (fun q => h ((iI_eq (a := a) (b := 0) ha (by omega)).mpr q)) H locs ls hP hD hS hl)
theorem r_if_lt (hG : Cx G cc nL ret own Ts dd) {a : Int} (ha : -2147483648 ≤ a ∧ a < 2147483648) {off : Int} {tgt : Nat} (hd : decode cc pc = .ok (.ifCond .lt off, 3)) (ht : (pc : Int) + off = (tgt : Int)) (kt : a < 0 → V G kc ks ws tgt lv st) (kf : ¬ a < 0 → V G kc ks ws (pc + 3) lv st) : V G kc ks ws pc lv (.int (iI a) :: st) := fun H locs ls hP hD hS hl => lv_if_lt hG.exec hG.code hd ht (fun h => kt ((iI_lt (a := a) (b := 0) ha (by omega)).mp h) H locs ls hP hD hS hl) (fun h => kf (fun q => h ((iI_lt (a := a) (b := 0) ha (by omega)).mpr q)) H locs ls hP hD hS hl)
theorem r_if_le (hG : Cx G cc nL ret own Ts dd) {a : Int} (ha : -2147483648 ≤ a ∧ a < 2147483648) {off : Int} {tgt : Nat} (hd : decode cc pc = .ok (.ifCond .le off, 3)) (ht : (pc : Int) + off = (tgt : Int)) (kt : a ≤ 0 → V G kc ks ws tgt lv st) (kf : ¬ a ≤ 0 → V G kc ks ws (pc + 3) lv st) : V G kc ks ws pc lv (.int (iI a) :: st) := fun H locs ls hP hD hS hl => lv_if_le hG.exec hG.code hd ht (fun h => kt ((iI_le (a := a) (b := 0) ha (by omega)).mp h) H locs ls hP hD hS hl) (fun h => kf (fun q => h ((iI_le (a := a) (b := 0) ha (by omega)).mpr q)) H locs ls hP hD hS hl)
theorem r_if_gt (hG : Cx G cc nL ret own Ts dd) {a : Int} (ha : -2147483648 ≤ a ∧ a < 2147483648) {off : Int} {tgt : Nat} (hd : decode cc pc = .ok (.ifCond .gt off, 3)) (ht : (pc : Int) + off = (tgt : Int)) (kt : 0 < a → V G kc ks ws tgt lv st) (kf : ¬ 0 < a → V G kc ks ws (pc + 3) lv st) : V G kc ks ws pc lv (.int (iI a) :: st) := fun H locs ls hP hD hS hl => lv_if_gt hG.exec hG.code hd ht (fun h => kt ((iI_lt (a := 0) (b := a) (by omega) ha).mp h) H locs ls hP hD hS hl) (fun h => kf (fun q => h ((iI_lt (a := 0) (b := a) (by omega) ha).mpr q)) H locs ls hP hD hS hl)
theorem r_if_ge (hG : Cx G cc nL ret own Ts dd) {a : Int} (ha : -2147483648 ≤ a ∧ a < 2147483648) {off : Int} {tgt : Nat} (hd : decode cc pc = .ok (.ifCond .ge off, 3)) (ht : (pc : Int) + off = (tgt : Int)) (kt : 0 ≤ a → V G kc ks ws tgt lv st) (kf : ¬ 0 ≤ a → V G kc ks ws (pc + 3) lv st) : V G kc ks ws pc lv (.int (iI a) :: st) := fun H locs ls hP hD hS hl => lv_if_ge hG.exec hG.code hd ht (fun h => kt ((iI_le (a := 0) (b := a) (by omega) ha).mp h) H locs ls hP hD hS hl) (fun h => kf (fun q => h ((iI_le (a := 0) (b := a) (by omega) ha).mpr q)) H locs ls hP hD hS hl)
theorem r_if_ne (hG : Cx G cc nL ret own Ts dd) {a : Int} (ha : -2147483648 ≤ a ∧ a < 2147483648) {off : Int} {tgt : Nat} (hd : decode cc pc = .ok (.ifCond .ne off, 3)) (ht : (pc : Int) + off = (tgt : Int)) (kt : ¬ a = 0 → V G kc ks ws tgt lv st) (kf : a = 0 → V G kc ks ws (pc + 3) lv st) : V G kc ks ws pc lv (.int (iI a) :: st) := fun H locs ls hP hD hS hl => lv_if_ne hG.exec hG.code hd ht (fun h => kt (fun q => h ((iI_eq (a := a) (b := 0) ha (by omega)).mpr q)) H locs ls hP hD hS hl) (fun h => kf ((iI_eq (a := a) (b := 0) ha (by omega)).mp h) H locs ls hP hD hS hl)
theorem r_icmp_eq (hG : Cx G cc nL ret own Ts dd) {a b : Int} (ha : -2147483648 ≤ a ∧ a < 2147483648) (hb : -2147483648 ≤ b ∧ b < 2147483648) {off : Int} {tgt : Nat} (hd : decode cc pc = .ok (.if_icmp .eq off, 3)) (ht : (pc : Int) + off = (tgt : Int)) (kt : a = b → V G kc ks ws tgt lv st) (kf : ¬ a = b → V G kc ks ws (pc + 3) lv st) : V G kc ks ws pc lv (.int (iI b) :: .int (iI a) :: st) := fun H locs ls hP hD hS hl => lv_icmp_eq hG.exec hG.code hd ht (fun h => kt ((iI_eq ha hb).mp h) H locs ls hP hD hS hl) (fun h => kf (fun q => h ((iI_eq ha hb).mpr q)) H locs ls hP hD hS hl)
theorem r_icmp_lt (hG : Cx G cc nL ret own Ts dd) {a b : Int} (ha : -2147483648 ≤ a ∧ a < 2147483648) (hb : -2147483648 ≤ b ∧ b < 2147483648) {off : Int} {tgt : Nat} (hd : decode cc pc = .ok (.if_icmp .lt off, 3)) (ht : (pc : Int) + off = (tgt : Int)) (kt : a < b → V G kc ks ws tgt lv st) (kf : ¬ a < b → V G kc ks ws (pc + 3) lv st) : V G kc ks ws pc lv (.int (iI b) :: .int (iI a) :: st) := fun H locs ls hP hD hS hl => lv_icmp_lt hG.exec hG.code hd ht (fun h => kt ((iI_lt ha hb).mp h) H locs ls hP hD hS hl) (fun h => kf (fun q => h ((iI_lt ha hb).mpr q)) H locs ls hP hD hS hl)
theorem r_icmp_le (hG : Cx G cc nL ret own Ts dd) {a b : Int} (ha : -2147483648 ≤ a ∧ a < 2147483648) (hb : -2147483648 ≤ b ∧ b < 2147483648) {off : Int} {tgt : Nat} (hd : decode cc pc = .ok (.if_icmp .le off, 3)) (ht : (pc : Int) + off = (tgt : Int)) (kt : a ≤ b → V G kc ks ws tgt lv st) (kf : ¬ a ≤ b → V G kc ks ws (pc + 3) lv st) : V G kc ks ws pc lv (.int (iI b) :: .int (iI a) :: st) := fun H locs ls hP hD hS hl => lv_icmp_le hG.exec hG.code hd ht (fun h => kt ((iI_le ha hb).mp h) H locs ls hP hD hS hl) (fun h => kf (fun q => h ((iI_le ha hb).mpr q)) H locs ls hP hD hS hl)
theorem r_icmp_gt (hG : Cx G cc nL ret own Ts dd) {a b : Int} (ha : -2147483648 ≤ a ∧ a < 2147483648) (hb : -2147483648 ≤ b ∧ b < 2147483648) {off : Int} {tgt : Nat} (hd : decode cc pc = .ok (.if_icmp .gt off, 3)) (ht : (pc : Int) + off = (tgt : Int)) (kt : b < a → V G kc ks ws tgt lv st) (kf : ¬ b < a → V G kc ks ws (pc + 3) lv st) : V G kc ks ws pc lv (.int (iI b) :: .int (iI a) :: st) := fun H locs ls hP hD hS hl => lv_icmp_gt hG.exec hG.code hd ht (fun h => kt ((iI_lt hb ha).mp h) H locs ls hP hD hS hl) (fun h => kf (fun q => h ((iI_lt hb ha).mpr q)) H locs ls hP hD hS hl)
theorem r_icmp_ge (hG : Cx G cc nL ret own Ts dd) {a b : Int} (ha : -2147483648 ≤ a ∧ a < 2147483648) (hb : -2147483648 ≤ b ∧ b < 2147483648) {off : Int} {tgt : Nat} (hd : decode cc pc = .ok (.if_icmp .ge off, 3)) (ht : (pc : Int) + off = (tgt : Int)) (kt : b ≤ a → V G kc ks ws tgt lv st) (kf : ¬ b ≤ a → V G kc ks ws (pc + 3) lv st) : V G kc ks ws pc lv (.int (iI b) :: .int (iI a) :: st) := fun H locs ls hP hD hS hl => lv_icmp_ge hG.exec hG.code hd ht (fun h => kt ((iI_le hb ha).mp h) H locs ls hP hD hS hl) (fun h => kf (fun q => h ((iI_le hb ha).mpr q)) H locs ls hP hD hS hl)
theorem r_icmp_ne (hG : Cx G cc nL ret own Ts dd) {a b : Int} (ha : -2147483648 ≤ a ∧ a < 2147483648) (hb : -2147483648 ≤ b ∧ b < 2147483648) {off : Int} {tgt : Nat} (hd : decode cc pc = .ok (.if_icmp .ne off, 3)) (ht : (pc : Int) + off = (tgt : Int)) (kt : ¬ a = b → V G kc ks ws tgt lv st) (kf : a = b → V G kc ks ws (pc + 3) lv st) : V G kc ks ws pc lv (.int (iI b) :: .int (iI a) :: st) := fun H locs ls hP hD hS hl => lv_icmp_ne hG.exec hG.code hd ht (fun h => kt (fun q => h ((iI_eq ha hb).mpr q)) H locs ls hP hD hS hl) (fun h => kf ((iI_eq ha hb).mp h) H locs ls hP hD hS hl)
theorem rr_if_eq (hG : Cx G cc nL ret own Ts dd) {x : Int32} {off : Int} {tgt : Nat} (hd : decode cc pc = .ok (.ifCond .eq off, 3)) (ht : (pc : Int) + off = (tgt : Int)) (kt : x = 0 → V G kc ks ws tgt lv st) (kf : ¬ x = 0 → V G kc ks ws (pc + 3) lv st) : V G kc ks ws pc lv (.int x :: st) := fun H locs ls hP hD hS hl => lv_if_eq hG.exec hG.code hd ht (fun h => kt h H locs ls hP hD hS hl) (fun h => kf h H locs ls hP hD hS hl)
theorem rr_if_ne (hG : Cx G cc nL ret own Ts dd) {x : Int32} {off : Int} {tgt : Nat} (hd : decode cc pc = .ok (.ifCond .ne off, 3)) (ht : (pc : Int) + off = (tgt : Int)) (kt : ¬ x = 0 → V G kc ks ws tgt lv st) (kf : x = 0 → V G kc ks ws (pc + 3) lv st) : V G kc ks ws pc lv (.int x :: st) := fun H locs ls hP hD hS hl => lv_if_ne hG.exec hG.code hd ht (fun h => kt h H locs ls hP hD hS hl) (fun h => kf h H locs ls hP hD hS hl)
theorem rr_if_lt (hG : Cx G cc nL ret own Ts dd) {x : Int32} {off : Int} {tgt : Nat} (hd : decode cc pc = .ok (.ifCond .lt off, 3)) (ht : (pc : Int) + off = (tgt : Int)) (kt : x < 0 → V G kc ks ws tgt lv st) (kf : ¬ x < 0 → V G kc ks ws (pc + 3) lv st) : V G kc ks ws pc lv (.int x :: st) := fun H locs ls hP hD hS hl => lv_if_lt hG.exec hG.code hd ht (fun h => kt h H locs ls hP hD hS hl) (fun h => kf h H locs ls hP hD hS hl)
theorem rr_if_ge (hG : Cx G cc nL ret own Ts dd) {x : Int32} {off : Int} {tgt : Nat} (hd : decode cc pc = .ok (.ifCond .ge off, 3)) (ht : (pc : Int) + off = (tgt : Int)) (kt : 0 ≤ x → V G kc ks ws tgt lv st) (kf : ¬ 0 ≤ x → V G kc ks ws (pc + 3) lv st) : V G kc ks ws pc lv (.int x :: st) := fun H locs ls hP hD hS hl => lv_if_ge hG.exec hG.code hd ht (fun h => kt h H locs ls hP hD hS hl) (fun h => kf h H locs ls hP hD hS hl)
theorem rr_if_gt (hG : Cx G cc nL ret own Ts dd) {x : Int32} {off : Int} {tgt : Nat} (hd : decode cc pc = .ok (.ifCond .gt off, 3)) (ht : (pc : Int) + off = (tgt : Int)) (kt : 0 < x → V G kc ks ws tgt lv st) (kf : ¬ 0 < x → V G kc ks ws (pc + 3) lv st) : V G kc ks ws pc lv (.int x :: st) := fun H locs ls hP hD hS hl => lv_if_gt hG.exec hG.code hd ht (fun h => kt h H locs ls hP hD hS hl) (fun h => kf h H locs ls hP hD hS hl)
theorem rr_if_le (hG : Cx G cc nL ret own Ts dd) {x : Int32} {off : Int} {tgt : Nat} (hd : decode cc pc = .ok (.ifCond .le off, 3)) (ht : (pc : Int) + off = (tgt : Int)) (kt : x ≤ 0 → V G kc ks ws tgt lv st) (kf : ¬ x ≤ 0 → V G kc ks ws (pc + 3) lv st) : V G kc ks ws pc lv (.int x :: st) := fun H locs ls hP hD hS hl => lv_if_le hG.exec hG.code hd ht (fun h => kt h H locs ls hP hD hS hl) (fun h => kf h H locs ls hP hD hS hl)
theorem rr_icmp_eq (hG : Cx G cc nL ret own Ts dd) {x y : Int32} {off : Int} {tgt : Nat} (hd : decode cc pc = .ok (.if_icmp .eq off, 3)) (ht : (pc : Int) + off = (tgt : Int)) (kt : x = y → V G kc ks ws tgt lv st) (kf : ¬ x = y → V G kc ks ws (pc + 3) lv st) : V G kc ks ws pc lv (.int y :: .int x :: st) := fun H locs ls hP hD hS hl => lv_icmp_eq hG.exec hG.code hd ht (fun h => kt h H locs ls hP hD hS hl) (fun h => kf h H locs ls hP hD hS hl)
theorem rr_icmp_ne (hG : Cx G cc nL ret own Ts dd) {x y : Int32} {off : Int} {tgt : Nat} (hd : decode cc pc = .ok (.if_icmp .ne off, 3)) (ht : (pc : Int) + off = (tgt : Int)) (kt : ¬ x = y → V G kc ks ws tgt lv st) (kf : x = y → V G kc ks ws (pc + 3) lv st) : V G kc ks ws pc lv (.int y :: .int x :: st) := fun H locs ls hP hD hS hl => lv_icmp_ne hG.exec hG.code hd ht (fun h => kt h H locs ls hP hD hS hl) (fun h => kf h H locs ls hP hD hS hl)
theorem b2_0 {b : Bool} : iI (b2 b) = 0 ↔ b = false := by cases b <;> decide
theorem rb_if_eq (hG : Cx G cc nL ret own Ts dd) {b : Bool} {off : Int} {tgt : Nat} (hd : decode cc pc = .ok (.ifCond .eq off, 3)) (ht : (pc : Int) + off = (tgt : Int)) (kt : b = false → V G kc ks ws tgt lv st) (kf : b = true → V G kc ks ws (pc + 3) lv st) : V G kc ks ws pc lv (.int (iI (b2 b)) :: st) := rr_if_eq hG hd ht (fun h => kt (b2_0.mp h)) (fun h => kf (by cases b; exact absurd rfl h; rfl))
theorem rb_if_ne (hG : Cx G cc nL ret own Ts dd) {b : Bool} {off : Int} {tgt : Nat} (hd : decode cc pc = .ok (.ifCond .ne off, 3)) (ht : (pc : Int) + off = (tgt : Int)) (kt : b = true → V G kc ks ws tgt lv st) (kf : b = false → V G kc ks ws (pc + 3) lv st) : V G kc ks ws pc lv (.int (iI (b2 b)) :: st) := rr_if_ne hG hd ht (fun h => kt (by cases b; exact absurd rfl h; rfl)) (fun h => kf (b2_0.mp h))
theorem r_tsIn (hG : Cx G cc nL ret own Ts dd) {a : Int} (n : Int) (h : a = n) {dflt lo hi : Int} {offs : Array Int} {len : Nat} {off : Int} {tgt : Nat} (hd : decode cc pc = .ok (.tableswitch dflt lo hi offs, len)) (hr : (-2147483648 ≤ n ∧ n < 2147483648) ∧ lo ≤ n ∧ n ≤ hi) (ho : offs[(n - lo).toNat]? = some off) (ht : (pc : Int) + off = (tgt : Int)) (k : V G kc ks ws tgt lv st) : V G kc ks ws pc lv (.int (iI a) :: st) := by
  intro H locs ls hP hD hS hl
  subst h
  exact lv_tableIn hG.exec hG.code hd (by rw [iI_toInt hr.1]; omega) (by rw [iI_toInt hr.1]; omega) (by rw [iI_toInt hr.1]; exact ho) ht (k H locs ls hP hD hS hl)
theorem r_tsOut (hG : Cx G cc nL ret own Ts dd) {a : Int} (ha : -2147483648 ≤ a ∧ a < 2147483648) {dflt lo hi : Int} {offs : Array Int} {len : Nat} {tgt : Nat} (hd : decode cc pc = .ok (.tableswitch dflt lo hi offs, len)) (h : a < lo ∨ hi < a) (ht : (pc : Int) + dflt = (tgt : Int)) (k : V G kc ks ws tgt lv st) : V G kc ks ws pc lv (.int (iI a) :: st) := by
  intro H locs ls hP hD hS hl
  exact lv_tableOut hG.exec hG.code hd (by rw [iI_toInt ha]; exact h) ht (k H locs ls hP hD hS hl)
theorem r_lsw (hG : Cx G cc nL ret own Ts dd) {a : Int} (ha : -2147483648 ≤ a ∧ a < 2147483648) {dflt : Int} {ps : Array (Int × Int)} {len : Nat} {off : Int} {tgt : Nat} (hd : decode cc pc = .ok (.lookupswitch dflt ps, len)) (hp : (ps.toList.zip (ps.toList.drop 1)).all (fun (a, next) => a.1 < next.1) = true) (ho : Op.lookupswitch.offset ps.toList dflt a = off) (ht : (pc : Int) + off = (tgt : Int)) (k : V G kc ks ws tgt lv st) : V G kc ks ws pc lv (.int (iI a) :: st) := by
  intro H locs ls hP hD hS hl
  exact lv_lookup hG.exec hG.code hd hp (by rw [iI_toInt ha]; exact ho) ht (k H locs ls hP hD hS hl)
theorem r_get (hG : Cx G cc nL ret own Ts dd) {C : String} {T : u_T} {N ci index a : Nat} {fs : List Value} {v : Value} (hC : ∀ w ∈ u_ws C T N, w ∈ Ts) (q0 k0 : Nat) (he : ws[q0]? = some (a, .inr (ci, fs))) (hc : vwCl[ci]? = some (C, T, N)) (hk : k0 < N) (hlink : Cond.fieldLink own index (T k0).1 (T k0).2.1 (T k0).2.2.1 ∈ Ts) (hv : fs[k0]? = some v) (hd : decode cc pc = .ok (.getfield index, 3)) (k : V G kc ks ws (pc + 3) lv (v :: st)) : V G kc ks ws pc lv (.ref a :: st) :=
  fun H locs ls hP hD hS hl => va_get hG.exec hG.code hG.hts hC hG.own hG.hK hP q0 he hc k0 hk (hG.hts _ hlink) (fun _ h => h) hv hd (k H locs ls hP hD hS hl)
theorem r_put (hG : Cx G cc nL ret own Ts dd) {C : String} {T : u_T} {N ci index a : Nat} {fs : List Value} {v : Value} (hC : ∀ w ∈ u_ws C T N, w ∈ Ts) (q0 k0 : Nat) (ty0 : Nat → FieldType) (hty : ∀ k, k < N → parseFieldDescriptor (T k).2.2.1 = some (ty0 k)) (hnm : ∀ a, a < N → ∀ b, b < N → a ≠ b → (T a).2.1 ≠ (T b).2.1) (he : ws[q0]? = some (a, .inr (ci, fs))) (hc : vwCl[ci]? = some (C, T, N)) (hk : k0 < N) (hlink : Cond.fieldLink own index (T k0).1 (T k0).2.1 (T k0).2.2.1 ∈ Ts) (hfin : (T k0).2.2.2 = false) (hn : narrow (ty0 k0) v = v) (hfit : fits (ty0 k0) v = true) (hl0 : k0 < fs.length) (hd : decode cc pc = .ok (.putfield index, 3)) {ws' : va_W} (hw : ws.set q0 (a, .inr (ci, fs.set k0 v)) = ws') (k : V G kc ks ws' (pc + 3) lv st) : V G kc ks ws pc lv (v :: .ref a :: st) :=
  fun H locs ls hP hD hS hl => va_put hG.exec hG.code hG.hts hC ty0 hty hnm hG.own hG.hK hP hD hS q0 he hc k0 hk (hG.hts _ hlink) (fun _ h => h) hfin (hty k0 hk) hn hfit hl0 hd (fun H1 locs1 hP1 hD1 hS1 => k H1 locs1 ls (hw ▸ hP1) (hw ▸ hD1) hS1 hl)
theorem ia_upd {f : Int → Int} {i v : Int} (h : 0 ≤ i ∧ i < 2147483648) : upd (ia f) (iI i).toNatClampNeg (iI v) = ia (up1 f i v) := by
  rw [iI_tn h]
  funext k
  unfold upd ia up1
  by_cases e : k = i.toNat
  · rw [if_pos e, if_pos (by omega)]
  · rw [if_neg e, if_neg (by omega)]
theorem la_upd {f : Int → Int64} {i : Int} {v : Int64} (h : 0 ≤ i ∧ i < 2147483648) : vp_updL (la f) (iI i).toNatClampNeg v = la (up1 f i v) := by
  rw [iI_tn h]
  funext k
  unfold vp_updL la up1
  by_cases e : k = i.toNat
  · rw [if_pos e, if_pos (by omega)]
  · rw [if_neg e, if_neg (by omega)]
theorem arrV_congr {cA : ClassId} {n : Nat} {f g : Nat → Value} (h : ∀ k, k < n → f k = g k) : arrV cA n f = arrV cA n g := by
  have e : (fun j : Fin n => f j.val) = fun j => g j.val := funext (fun j => h j.val j.isLt)
  unfold arrV
  rw [e]
theorem r_iald (hG : Cx G cc nL ret own Ts dd) {a n : Nat} {f : Int → Int} {i : Int} (q0 : Nat) (he : ws[q0]? = some (a, .inl ((g_D G).1 100, n, .inl (ia f)))) (hi : 0 ≤ i ∧ i < n) (hn : n < 2147483648) (hd : decode cc pc = .ok (.iaload, 1)) (k : V G kc ks ws (pc + 1) lv (.int (iI (f i)) :: st)) : V G kc ks ws pc lv (.int (iI i) :: .ref a :: st) := by
  intro H locs ls hP hD hS hl
  refine va_iald hG.exec hG.code hG.hK hP q0 0 he rfl (iI_in hi hn) hd ?_
  rw [iI_tn (by omega)]
  unfold ia
  rw [show ((i.toNat : Nat) : Int) = i by omega]
  exact k H locs ls hP hD hS hl
theorem r_iast (hG : Cx G cc nL ret own Ts dd) {a n : Nat} {f : Int → Int} {i v : Int} (q0 : Nat) (he : ws[q0]? = some (a, .inl ((g_D G).1 100, n, .inl (ia f)))) (hi : 0 ≤ i ∧ i < n) (hn : n < 2147483648) (hd : decode cc pc = .ok (.iastore, 1)) {ws' : va_W} (hw : ws.set q0 (a, .inl ((g_D G).1 100, n, .inl (ia (up1 f i v)))) = ws') (k : V G kc ks ws' (pc + 1) lv st) : V G kc ks ws pc lv (.int (iI v) :: .int (iI i) :: .ref a :: st) := by
  intro H locs ls hP hD hS hl
  refine va_iast hG.exec hG.code hG.hK hP hD hS q0 0 he rfl (iI_in hi hn) hd (fun H1 locs1 hP1 hD1 hS1 => ?_)
  rw [ia_upd (by omega), hw] at hP1 hD1
  exact k H1 locs1 ls hP1 hD1 hS1 hl
theorem r_lald (hG : Cx G cc nL ret own Ts dd) {a n : Nat} {f : Int → Int64} {i : Int} (q0 : Nat) (he : ws[q0]? = some (a, .inl ((g_D G).1 101, n, .inr (.inl (la f))))) (hi : 0 ≤ i ∧ i < n) (hn : n < 2147483648) (hd : decode cc pc = .ok (.laload, 1)) (k : V G kc ks ws (pc + 1) lv (.long (f i) :: st)) : V G kc ks ws pc lv (.int (iI i) :: .ref a :: st) := by
  intro H locs ls hP hD hS hl
  refine va_lald hG.exec hG.code hG.hK hP q0 1 he rfl (iI_in hi hn) hd ?_
  rw [iI_tn (by omega)]
  unfold la
  rw [show ((i.toNat : Nat) : Int) = i by omega]
  exact k H locs ls hP hD hS hl
theorem r_last (hG : Cx G cc nL ret own Ts dd) {a n : Nat} {f : Int → Int64} {i : Int} {v : Int64} (q0 : Nat) (he : ws[q0]? = some (a, .inl ((g_D G).1 101, n, .inr (.inl (la f))))) (hi : 0 ≤ i ∧ i < n) (hn : n < 2147483648) (hd : decode cc pc = .ok (.lastore, 1)) {ws' : va_W} (hw : ws.set q0 (a, .inl ((g_D G).1 101, n, .inr (.inl (la (up1 f i v))))) = ws') (k : V G kc ks ws' (pc + 1) lv st) : V G kc ks ws pc lv (.long v :: .int (iI i) :: .ref a :: st) := by
  intro H locs ls hP hD hS hl
  refine va_last hG.exec hG.code hG.hK hP hD hS q0 1 he rfl (iI_in hi hn) hd (fun H1 locs1 hP1 hD1 hS1 => ?_)
  rw [la_upd (by omega), hw] at hP1 hD1
  exact k H1 locs1 ls hP1 hD1 hS1 hl
/-- only the first n places of a row count -/
theorem V_ia {a n : Nat} {c : ClassId} {f g : Int → Int} (q0 : Nat) (he : ws[q0]? = some (a, .inl (c, n, .inl (ia f)))) (hfg : ∀ j : Int, 0 ≤ j → j < n → f j = g j) {ws' : va_W} (hw : ws.set q0 (a, .inl (c, n, .inl (ia g))) = ws') (k : V G kc ks ws' pc lv st) : V G kc ks ws pc lv st := by
  intro H locs ls hP hD hS hl
  have e : vp_cell c (n, .inl (ia f)) = vp_cell c (n, .inl (ia g)) := by
    rw [vp_cell_i, vp_cell_i]
    exact arrV_congr (fun k hk => by unfold ia; rw [hfg k (by omega) (by omega)])
  have h1 : va_P (g_D G) vwCl ws' H := by
    rw [← hw]
    exact hP.set hD he (show H[a]? = some (vp_cell c (n, .inl (ia g))) by rw [← e]; exact hP q0 _ he) (fun _ _ => rfl)
  exact k H locs ls h1 (hw ▸ hD.set he) hS hl
theorem V_la {a n : Nat} {c : ClassId} {f g : Int → Int64} (q0 : Nat) (he : ws[q0]? = some (a, .inl (c, n, .inr (.inl (la f))))) (hfg : ∀ j : Int, 0 ≤ j → j < n → f j = g j) {ws' : va_W} (hw : ws.set q0 (a, .inl (c, n, .inr (.inl (la g)))) = ws') (k : V G kc ks ws' pc lv st) : V G kc ks ws pc lv st := by
  intro H locs ls hP hD hS hl
  have e : vp_cell c (n, .inr (.inl (la f))) = vp_cell c (n, .inr (.inl (la g))) := by
    rw [vp_cell_l, vp_cell_l]
    exact arrV_congr (fun k hk => by unfold la; rw [hfg k (by omega) (by omega)])
  have h1 : va_P (g_D G) vwCl ws' H := by
    rw [← hw]
    exact hP.set hD he (show H[a]? = some (vp_cell c (n, .inr (.inl (la g)))) by rw [← e]; exact hP q0 _ he) (fun _ _ => rfl)
  exact k H locs ls h1 (hw ▸ hD.set he) hS hl
theorem fits_b2 (b : Bool) : fits .boolean (.int (iI (b2 b))) = true := by cases b <;> rfl
theorem narrow_b2 (b : Bool) : narrow .boolean (.int (iI (b2 b))) = .int (iI (b2 b)) := by cases b <;> rfl
theorem r_iret {wp : va_W → Prop} {x v : Int32} (hG : Cx G cc nL (some .int) own Ts dd) (hE : Ex G kc ks (some (.int v)) wp) (hd : decode cc pc = .ok (.ireturn, 1)) (hx : x = v) (hw : wp ws) : V G kc ks ws pc lv [.int x] := by
  intro H locs ls hP hD hS hl
  subst hx
  rw [show g_Q G = _ from hE]
  exact W.iret hG.exec hG.code hG.rt (fun t ht hW => ⟨⟨ws, rfl, hw, by rw [ht]; exact hP, hD⟩, hS.F ht⟩) hS.2.2 hd hG.locks
theorem r_zret {wp : va_W → Prop} {x : Int32} {b : Bool} (hG : Cx G cc nL (some .boolean) own Ts dd) (hE : Ex G kc ks (some (.int (iI (b2 b)))) wp) (hd : decode cc pc = .ok (.ireturn, 1)) (hx : x = iI (b2 b)) (hw : wp ws) : V G kc ks ws pc lv [.int x] := by
  intro H locs ls hP hD hS hl
  subst hx
  rw [show g_Q G = _ from hE]
  exact W.zret hG.exec hG.code hG.rt (narrow_b2 b) (fun t ht hW => ⟨⟨ws, rfl, hw, by rw [ht]; exact hP, hD⟩, hS.F ht⟩) hS.2.2 hd hG.locks
theorem r_nret {wp : va_W → Prop} {x v : Int32} {ty : FieldType} (hG : Cx G cc nL (some ty) own Ts dd) (hE : Ex G kc ks (some (.int v)) wp) (hn : narrow ty (.int v) = .int v) (hd : decode cc pc = .ok (.ireturn, 1)) (hx : x = v) (hw : wp ws) : V G kc ks ws pc lv [.int x] := by
  intro H locs ls hP hD hS hl
  subst hx
  rw [show g_Q G = _ from hE]
  exact W.zret hG.exec hG.code hG.rt hn (fun t ht hW => ⟨⟨ws, rfl, hw, by rw [ht]; exact hP, hD⟩, hS.F ht⟩) hS.2.2 hd hG.locks
theorem r_lret {wp : va_W → Prop} {x v : Int64} (hG : Cx G cc nL (some .long) own Ts dd) (hE : Ex G kc ks (some (.long v)) wp) (hd : decode cc pc = .ok (.lreturn, 1)) (hx : x = v) (hw : wp ws) : V G kc ks ws pc lv [.long x] := by
  intro H locs ls hP hD hS hl
  subst hx
  rw [show g_Q G = _ from hE]
  exact W.lret hG.exec hG.code hG.rt (fun t ht hW => ⟨⟨ws, rfl, hw, by rw [ht]; exact hP, hD⟩, hS.F ht⟩) hS.2.2 hd hG.locks
theorem r_vret {wp : va_W → Prop} (hG : Cx G cc nL none own Ts dd) (hE : Ex G kc ks none wp) (hd : decode cc pc = .ok (.return_, 1)) (hw : wp ws) : V G kc ks ws pc lv [] := by
  intro H locs ls hP hD hS hl
  rw [show g_Q G = _ from hE]
  exact W.vret hG.exec hG.code hG.rt (fun t ht hW => ⟨⟨ws, rfl, hw, by rw [ht]; exact hP, hD⟩, hS.F ht⟩) hS.2.2 hd hG.locks
theorem r_aret {wp : va_W → Prop} {x : Nat} {C : String} (hG : Cx G cc nL (some (.object C)) own Ts dd) (hE : Ex G kc ks (some (.ref x)) wp) (hd : decode cc pc = .ok (.areturn, 1)) (hw : wp ws) : V G kc ks ws pc lv [.ref x] := by
  intro H locs ls hP hD hS hl
  rw [show g_Q G = _ from hE]
  exact W.aret hG.exec hG.code hG.rt (Or.inl ⟨_, rfl⟩) (Or.inr ⟨_, rfl⟩) (fun t ht hW => ⟨⟨ws, rfl, hw, by rw [ht]; exact hP, hD⟩, hS.F ht⟩) hS.2.2 hd hG.locks
/-- what a call gives back, read by the caller -/
def QRun (G : GJ) (H : Heap) (locs : List Loc) (kc ks mc ms : Nat) (pc : Nat) (ls : Array Slot) (stk st : List Value) (w0 : va_W) (rv : Option Value) (wp : va_W → Prop) : Prop := va_Run (g_p G) (g_l G) (g_e G) (g_R G) (g_s G) (g_m G) (g_a G) (g_b G) (g_t G) (g_c G) H locs kc ks mc ms (F0 (g_m G) pc ls stk) st (QcW (g_D G) rv wp (va_A w0 H.size) #[]) (va_A w0 H.size)
theorem q_after {H : Heap} {locs : List Loc} {mc ms : Nat} {ls : Array Slot} {stk st0 : List Value} {w0 : va_W} {rv : Option Value} {wp : va_W → Prop} (hr : QRun G H locs kc ks mc ms pc ls stk st0 w0 rv wp) (hS : va_S (g_A G) (g_s G).heap H locs) (hF : ∀ q, va_A w0 H.size q → g_A G q)
    (kk : ∀ (w : va_W) (H1 : Heap) (locs1 : List Loc), wp w → va_P (g_D G) vwCl w H1 → va_D (va_A w0 H.size) w → (∀ q : Nat, q < H.size → ¬ va_A w0 H.size q → H1[q]? = H[q]?) → va_S (g_A G) (g_s G).heap H1 locs1 → W (g_p G) (g_l G) (g_e G) (g_R G) (g_s G) (g_m G) (g_a G) (g_b G) (g_t G) (g_c G) H1 locs1 (kc + mc) (ks + ms) (g_Q G) (F0 (g_m G) (pc + 3) ls (rv.toList ++ st0))) : W (g_p G) (g_l G) (g_e G) (g_R G) (g_s G) (g_m G) (g_a G) (g_b G) (g_t G) (g_c G) H locs kc ks (g_Q G) (F0 (g_m G) pc ls stk) := by
  intro T hT X
  obtain ⟨v, st₀, t, T', L, h0, X', hL, e1, e2, ⟨⟨w, hv, hp, hb, hd⟩, hz, hk⟩, gs⟩ := hr T hT X
  cases hv
  rw [h0] at hz hk
  obtain ⟨t2, a1, b1⟩ := kk w T'.heap (locs ++ L) hp (by rw [e1]; exact hb) hd (fun q h1 h2 => by rw [e1]; exact hk q h1 h2)
    ⟨Nat.le_trans hS.1 (by rw [e1]; exact hz), fun q h1 h2 => by rw [e1, hk q (Nat.lt_of_lt_of_le h1 hS.1) (fun h3 => h2 (hF q h3))]; exact hS.2.1 q h1 h2, fun x hx => by
      rcases List.mem_append.mp hx with h | h
      · exact hS.2.2 x h
      · exact hF _ (hL x h)⟩ T' rfl X'
  exact ⟨t2, gs t2 a1, b1⟩
theorem blindW {D : va_G} {w0 : va_W} {av : List Value} {sz : Nat} : FrameBlind (PcW D w0 av sz) := fun a U g mk q => by
  obtain ⟨q0, q1, qP, qK, qD, qS⟩ := q
  exact ⟨q0, q1, qP, va_K.moved (u := U) (U := U.calling g mk a) (Vm.Alike.refl U.vm) qK, qD, SP.same (u := U) (U := U.calling g mk a) rfl qS⟩
theorem preW {H : Heap} {locs : List Loc} {w0 : va_W} {av : List Value} (hG : Cx G cc nL ret own Ts dd) (hP0 : va_P (g_D G) vwCl w0 H) (hD0 : va_D (g_A G) w0) (hS : va_S (g_A G) (g_s G).heap H locs) (hF : ∀ q, va_A w0 H.size q → g_A G q) : ∀ U : State, U.heap = H → (g_s G).WarmedH U.vm → PcW (g_D G) w0 av H.size av.toArray U := fun U hU hW =>
  ⟨rfl, by rw [hU], by rw [hU]; exact hP0, va_K.moved hW.alike hG.hK, hD0.weaken (fun _ _ _ _ => trivial), by rw [hU]; exact ((SP.warm hW hG.sp).kept hS.2.1).narrow hF⟩
theorem freeW {H : Heap} {locs : List Loc} (hG : Cx G cc nL ret own Ts dd) (hD : va_D (g_A G) ws) (hS : va_S (g_A G) (g_s G).heap H locs) : ∀ q, va_A ws H.size q → g_A G q := fun q h => by
  rcases h with ⟨k, e, h⟩ | h
  · exact hD.2 k _ h
  · exact hG.hA q (Nat.le_trans hS.1 h)
abbrev hyV (y : MethodName) (C : String) (n : Nat) : Prop := y.cls = C ∧ y.cls ≠ "java/lang/invoke/MethodHandle" ∧ y.cls ≠ "java/lang/invoke/VarHandle" ∧ (parseMethodDescriptor y.desc).map (fun d => d.parameters.length) = some n
abbrev hyS (y : MethodName) (n : Nat) : Prop := y.cls ≠ "java/lang/invoke/MethodHandle" ∧ y.cls ≠ "java/lang/invoke/VarHandle" ∧ (parseMethodDescriptor y.desc).map (fun d => d.parameters.length) = some n
theorem q_runV {H : Heap} {locs : List Loc} {ls : Array Slot} {stk : List Value} {w0 : va_W} {y : MethodName} {wz wz' : List Cond} {C : String} {bytes : ByteArray} {maxL d mc ms n index b : Nat} {cret : Option FieldType} {As : List Value} {rv : Option Value} {wp : va_W → Prop} (hG : Cx G cc nL ret own Ts dd) (hM : ConA (g_l G) y wz d mc ms (g_D G) w0 (.ref b :: As) rv wp) (hT : GoodIn Ts (wsV own index C y wz)) (hw : wz = Cond.code y bytes maxL cret :: wz') (hy : hyV y C n) (hn : As.length = n) (hdd : d + 1 ≤ dd) (hmL : maxL ≤ 21)
    (hrecv : ∃ cell : Cell, H[b]? = some cell ∧ cell.vm.isStatics = false ∧ (g_s G).vm.findClass C = some cell.cls) (hpre : ∀ U : State, U.heap = H → (g_s G).WarmedH U.vm → PcW (g_D G) w0 (.ref b :: As) H.size (Value.ref b :: As).toArray U) (hsz : ls.size = nL) (hst : stk = As.reverse ++ .ref b :: st) (hcat : (st.map fun v => v.category).sum ≤ 8) (hd : decode cc pc = .ok (.invokevirtual index, 3)) (hf : kc + mc ≤ (g_R G).cells ∧ ks + ms ≤ (g_R G).slots) : QRun G H locs kc ks mc ms pc ls stk st w0 rv wp :=
  va_runV (As := As) (rest := st) ⟨hG.exec, hG.code, hG.maxL, hG.own, hG.hts⟩ (hM H.size) (cwV n hG.hts hT hw rfl rfl hy ⟨Nat.le_trans hdd hG.room.1, by have := hG.room.2; show 8 + (maxL + 11) + 40 * d ≤ _; omega⟩) ⟨blindW, hrecv, hpre⟩ rfl hn hsz hst (lv_room hcat) hd hf
theorem q_runS {H : Heap} {locs : List Loc} {ls : Array Slot} {stk : List Value} {w0 : va_W} {y : MethodName} {wz wz' : List Cond} {bytes : ByteArray} {maxL d mc ms n index : Nat} {cret : Option FieldType} {As : List Value} {rv : Option Value} {wp : va_W → Prop} (hG : Cx G cc nL ret own Ts dd) (hM : ConA (g_l G) y wz d mc ms (g_D G) w0 As rv wp) (hT : GoodIn Ts (va_wsS own index y wz)) (hw : wz = Cond.code y bytes maxL cret :: wz') (hy : hyS y n) (hn : As.length = n) (hdd : d + 1 ≤ dd) (hmL : maxL ≤ 21)
    (hpre : ∀ U : State, U.heap = H → (g_s G).WarmedH U.vm → PcW (g_D G) w0 As H.size As.toArray U) (hsz : ls.size = nL) (hst : stk = As.reverse ++ st) (hcat : (st.map fun v => v.category).sum ≤ 8) (hd : decode cc pc = .ok (.invokestatic index, 3)) (hf : kc + mc ≤ (g_R G).cells ∧ ks + ms ≤ (g_R G).slots) : QRun G H locs kc ks mc ms pc ls stk st w0 rv wp :=
  va_runS (As := As) (rest := st) ⟨hG.exec, hG.code, hG.maxL, hG.own, hG.hts⟩ (hM H.size) (va_cwS n hG.hts hT hw rfl rfl hy ⟨Nat.le_trans hdd hG.room.1, by have := hG.room.2; show 8 + (maxL + 11) + 40 * d ≤ _; omega⟩) ⟨blindW, hpre⟩ rfl hn hsz hst (lv_room hcat) hd hf
theorem r_callVi {v : Value} {y : MethodName} {wz wz' : List Cond} {C : String} {bytes : ByteArray} {maxL d n index b ci : Nat} {cret : Option FieldType} {As fs stk : List Value} {T : u_T} {N : Nat} {wp : va_W → Prop} (hG : Cx G cc nL ret own Ts dd) (hM : Con (g_l G) y wz d (g_D G) ws (.ref b :: As) (some v) wp) (hT : GoodIn Ts (wsV own index C y wz)) (hw : wz = Cond.code y bytes maxL cret :: wz') (hy : hyV y C n) (hn : As.length = n) (hdd : d + 1 ≤ dd) (hmL : maxL ≤ 21) (q0 : Nat) (hc : vwCl[ci]? = some (C, T, N)) (he : ws[q0]? = some (b, .inr (ci, fs))) (hst : stk = As.reverse ++ .ref b :: st) (hcat : (st.map fun v => v.category).sum ≤ 8) (hf : kc ≤ (g_R G).cells ∧ ks ≤ (g_R G).slots) (hd : decode cc pc = .ok (.invokevirtual index, 3)) (k : ∀ w, wp w → V G kc ks w (pc + 3) lv (v :: st)) : V G kc ks ws pc lv stk := by
  intro H locs ls hP hD hS hl
  have hF := freeW hG hD hS
  exact q_after (q_runV hG hM hT hw hy hn hdd hmL (va_recv hG.hK hP hc he) (preW hG hP hD hS hF) (hl.1.trans hG.n) hst hcat hd hf) hS hF (fun w H1 locs1 h1 h2 h3 h4 h5 => k w h1 H1 locs1 ls h2 ⟨h3.1, fun i q hq => hF _ (h3.2 i q hq)⟩ h5 hl)
theorem r_callViF {v : Value} {w0 : va_W} {y : MethodName} {wz wz' : List Cond} {C : String} {bytes : ByteArray} {maxL d n index b ci : Nat} {cret : Option FieldType} {As fs stk : List Value} {T : u_T} {N : Nat} {wp : va_W → Prop} (hG : Cx G cc nL ret own Ts dd) (hM : Con (g_l G) y wz d (g_D G) w0 (.ref b :: As) (some v) wp) (isC isR : List Nat) (wr : va_W) (hC : isC.map (fun i => ws[i]?) = w0.map some) (hR : isR.map (fun i => ws[i]?) = wr.map some) (hnC : va_nd isC = true) (hnR : va_nd isR = true) (hdis : ∀ i ∈ isR, i ∉ isC) (hT : GoodIn Ts (wsV own index C y wz)) (hw : wz = Cond.code y bytes maxL cret :: wz') (hy : hyV y C n) (hn : As.length = n) (hdd : d + 1 ≤ dd) (hmL : maxL ≤ 21) (q0 : Nat) (hc : vwCl[ci]? = some (C, T, N)) (he : ws[q0]? = some (b, .inr (ci, fs))) (hst : stk = As.reverse ++ .ref b :: st) (hcat : (st.map fun v => v.category).sum ≤ 8) (hf : kc ≤ (g_R G).cells ∧ ks ≤ (g_R G).slots) (hd : decode cc pc = .ok (.invokevirtual index, 3)) (k : ∀ w, wp w → V G kc ks (wr ++ w) (pc + 3) lv (v :: st)) : V G kc ks ws pc lv stk := by
  intro H locs ls hP hD hS hl
  have hF := va_free (wc := w0) hD hS hG.hA isC hC
  exact q_after (q_runV hG hM hT hw hy hn hdd hmL (va_recv hG.hK hP hc he) (preW hG (hP.sub isC (fm_of hC)) (hD.sub isC hnC hC) hS hF) (hl.1.trans hG.n) hst hcat hd hf) hS hF (fun w H1 locs1 h1 h2 h3 h4 h5 => by
    obtain ⟨hP', hD'⟩ := va_join (wr := wr) (w1 := w) hP hD isC isR hC hR hnR hdis h4 hF h2 h3
    exact k w h1 H1 locs1 ls hP' hD' h5 hl)
theorem r_callSi {v : Value} {y : MethodName} {wz wz' : List Cond} {bytes : ByteArray} {maxL d n index : Nat} {cret : Option FieldType} {As stk : List Value} {wp : va_W → Prop} (hG : Cx G cc nL ret own Ts dd) (hM : Con (g_l G) y wz d (g_D G) ws As (some v) wp) (hT : GoodIn Ts (va_wsS own index y wz)) (hw : wz = Cond.code y bytes maxL cret :: wz') (hy : hyS y n) (hn : As.length = n) (hdd : d + 1 ≤ dd) (hmL : maxL ≤ 21) (hst : stk = As.reverse ++ st) (hcat : (st.map fun v => v.category).sum ≤ 8) (hf : kc ≤ (g_R G).cells ∧ ks ≤ (g_R G).slots) (hd : decode cc pc = .ok (.invokestatic index, 3)) (k : ∀ w, wp w → V G kc ks w (pc + 3) lv (v :: st)) : V G kc ks ws pc lv stk := by
  intro H locs ls hP hD hS hl
  have hF := freeW hG hD hS
  exact q_after (q_runS hG hM hT hw hy hn hdd hmL (preW hG hP hD hS hF) (hl.1.trans hG.n) hst hcat hd hf) hS hF (fun w H1 locs1 h1 h2 h3 h4 h5 => k w h1 H1 locs1 ls h2 ⟨h3.1, fun i q hq => hF _ (h3.2 i q hq)⟩ h5 hl)
theorem r_callSiF {v : Value} {w0 : va_W} {y : MethodName} {wz wz' : List Cond} {bytes : ByteArray} {maxL d n index : Nat} {cret : Option FieldType} {As stk : List Value} {wp : va_W → Prop} (hG : Cx G cc nL ret own Ts dd) (hM : Con (g_l G) y wz d (g_D G) w0 As (some v) wp) (isC isR : List Nat) (wr : va_W) (hC : isC.map (fun i => ws[i]?) = w0.map some) (hR : isR.map (fun i => ws[i]?) = wr.map some) (hnC : va_nd isC = true) (hnR : va_nd isR = true) (hdis : ∀ i ∈ isR, i ∉ isC) (hT : GoodIn Ts (va_wsS own index y wz)) (hw : wz = Cond.code y bytes maxL cret :: wz') (hy : hyS y n) (hn : As.length = n) (hdd : d + 1 ≤ dd) (hmL : maxL ≤ 21) (hst : stk = As.reverse ++ st) (hcat : (st.map fun v => v.category).sum ≤ 8) (hf : kc ≤ (g_R G).cells ∧ ks ≤ (g_R G).slots) (hd : decode cc pc = .ok (.invokestatic index, 3)) (k : ∀ w, wp w → V G kc ks (wr ++ w) (pc + 3) lv (v :: st)) : V G kc ks ws pc lv stk := by
  intro H locs ls hP hD hS hl
  have hF := va_free (wc := w0) hD hS hG.hA isC hC
  exact q_after (q_runS hG hM hT hw hy hn hdd hmL (preW hG (hP.sub isC (fm_of hC)) (hD.sub isC hnC hC) hS hF) (hl.1.trans hG.n) hst hcat hd hf) hS hF (fun w H1 locs1 h1 h2 h3 h4 h5 => by
    obtain ⟨hP', hD'⟩ := va_join (wr := wr) (w1 := w) hP hD isC isR hC hR hnR hdis h4 hF h2 h3
    exact k w h1 H1 locs1 ls hP' hD' h5 hl)
/-- a static method that looks at no cell of ours -/
theorem r_call0i {v : Value} {y : MethodName} {wz wz' : List Cond} {bytes : ByteArray} {maxL d n index : Nat} {cret : Option FieldType} {As stk : List Value} {wp : va_W → Prop} (hG : Cx G cc nL ret own Ts dd) (hM : Con (g_l G) y wz d (g_D G) [] As (some v) wp) (hT : GoodIn Ts (va_wsS own index y wz)) (hw : wz = Cond.code y bytes maxL cret :: wz') (hy : hyS y n) (hn : As.length = n) (hdd : d + 1 ≤ dd) (hmL : maxL ≤ 21) (hst : stk = As.reverse ++ st) (hcat : (st.map fun v => v.category).sum ≤ 8) (hf : kc ≤ (g_R G).cells ∧ ks ≤ (g_R G).slots) (hd : decode cc pc = .ok (.invokestatic index, 3)) (k : V G kc ks ws (pc + 3) lv (v :: st)) : V G kc ks ws pc lv stk := by
  intro H locs ls hP hD hS hl
  have hF := freeW (ws := []) (G := G) hG ⟨fun i j p q h => by simp at h, fun k q h => by simp at h⟩ hS
  exact q_after (q_runS hG hM hT hw hy hn hdd hmL (preW hG (fun k q h => by simp at h) ⟨fun i j p q h => by simp at h, fun k q h => by simp at h⟩ hS hF) (hl.1.trans hG.n) hst hcat hd hf) hS hF (fun w H1 locs1 h1 h2 h3 h4 h5 => k H1 locs1 ls (fun i q hq => (hP i q hq).kept (h4 q.1 (hP i q hq).lt (fun z => by
    rcases z with ⟨i, e, h⟩ | h
    · simp at h
    · exact absurd (hP i q hq).lt (Nat.not_lt.mpr h)))) hD h5 hl)
theorem r_callVv {y : MethodName} {wz wz' : List Cond} {C : String} {bytes : ByteArray} {maxL d n index b ci : Nat} {cret : Option FieldType} {As fs stk : List Value} {T : u_T} {N : Nat} {wp : va_W → Prop} (hG : Cx G cc nL ret own Ts dd) (hM : Con (g_l G) y wz d (g_D G) ws (.ref b :: As) (none) wp) (hT : GoodIn Ts (wsV own index C y wz)) (hw : wz = Cond.code y bytes maxL cret :: wz') (hy : hyV y C n) (hn : As.length = n) (hdd : d + 1 ≤ dd) (hmL : maxL ≤ 21) (q0 : Nat) (hc : vwCl[ci]? = some (C, T, N)) (he : ws[q0]? = some (b, .inr (ci, fs))) (hst : stk = As.reverse ++ .ref b :: st) (hcat : (st.map fun v => v.category).sum ≤ 8) (hf : kc ≤ (g_R G).cells ∧ ks ≤ (g_R G).slots) (hd : decode cc pc = .ok (.invokevirtual index, 3)) (k : ∀ w, wp w → V G kc ks w (pc + 3) lv (st)) : V G kc ks ws pc lv stk := by
  intro H locs ls hP hD hS hl
  have hF := freeW hG hD hS
  exact q_after (q_runV hG hM hT hw hy hn hdd hmL (va_recv hG.hK hP hc he) (preW hG hP hD hS hF) (hl.1.trans hG.n) hst hcat hd hf) hS hF (fun w H1 locs1 h1 h2 h3 h4 h5 => k w h1 H1 locs1 ls h2 ⟨h3.1, fun i q hq => hF _ (h3.2 i q hq)⟩ h5 hl)
theorem r_callVvF {w0 : va_W} {y : MethodName} {wz wz' : List Cond} {C : String} {bytes : ByteArray} {maxL d n index b ci : Nat} {cret : Option FieldType} {As fs stk : List Value} {T : u_T} {N : Nat} {wp : va_W → Prop} (hG : Cx G cc nL ret own Ts dd) (hM : Con (g_l G) y wz d (g_D G) w0 (.ref b :: As) (none) wp) (isC isR : List Nat) (wr : va_W) (hC : isC.map (fun i => ws[i]?) = w0.map some) (hR : isR.map (fun i => ws[i]?) = wr.map some) (hnC : va_nd isC = true) (hnR : va_nd isR = true) (hdis : ∀ i ∈ isR, i ∉ isC) (hT : GoodIn Ts (wsV own index C y wz)) (hw : wz = Cond.code y bytes maxL cret :: wz') (hy : hyV y C n) (hn : As.length = n) (hdd : d + 1 ≤ dd) (hmL : maxL ≤ 21) (q0 : Nat) (hc : vwCl[ci]? = some (C, T, N)) (he : ws[q0]? = some (b, .inr (ci, fs))) (hst : stk = As.reverse ++ .ref b :: st) (hcat : (st.map fun v => v.category).sum ≤ 8) (hf : kc ≤ (g_R G).cells ∧ ks ≤ (g_R G).slots) (hd : decode cc pc = .ok (.invokevirtual index, 3)) (k : ∀ w, wp w → V G kc ks (wr ++ w) (pc + 3) lv (st)) : V G kc ks ws pc lv stk := by
  intro H locs ls hP hD hS hl
  have hF := va_free (wc := w0) hD hS hG.hA isC hC
  exact q_after (q_runV hG hM hT hw hy hn hdd hmL (va_recv hG.hK hP hc he) (preW hG (hP.sub isC (fm_of hC)) (hD.sub isC hnC hC) hS hF) (hl.1.trans hG.n) hst hcat hd hf) hS hF (fun w H1 locs1 h1 h2 h3 h4 h5 => by
    obtain ⟨hP', hD'⟩ := va_join (wr := wr) (w1 := w) hP hD isC isR hC hR hnR hdis h4 hF h2 h3
    exact k w h1 H1 locs1 ls hP' hD' h5 hl)
theorem r_callSv {y : MethodName} {wz wz' : List Cond} {bytes : ByteArray} {maxL d n index : Nat} {cret : Option FieldType} {As stk : List Value} {wp : va_W → Prop} (hG : Cx G cc nL ret own Ts dd) (hM : Con (g_l G) y wz d (g_D G) ws As (none) wp) (hT : GoodIn Ts (va_wsS own index y wz)) (hw : wz = Cond.code y bytes maxL cret :: wz') (hy : hyS y n) (hn : As.length = n) (hdd : d + 1 ≤ dd) (hmL : maxL ≤ 21) (hst : stk = As.reverse ++ st) (hcat : (st.map fun v => v.category).sum ≤ 8) (hf : kc ≤ (g_R G).cells ∧ ks ≤ (g_R G).slots) (hd : decode cc pc = .ok (.invokestatic index, 3)) (k : ∀ w, wp w → V G kc ks w (pc + 3) lv (st)) : V G kc ks ws pc lv stk := by
  intro H locs ls hP hD hS hl
  have hF := freeW hG hD hS
  exact q_after (q_runS hG hM hT hw hy hn hdd hmL (preW hG hP hD hS hF) (hl.1.trans hG.n) hst hcat hd hf) hS hF (fun w H1 locs1 h1 h2 h3 h4 h5 => k w h1 H1 locs1 ls h2 ⟨h3.1, fun i q hq => hF _ (h3.2 i q hq)⟩ h5 hl)
theorem r_callSvF {w0 : va_W} {y : MethodName} {wz wz' : List Cond} {bytes : ByteArray} {maxL d n index : Nat} {cret : Option FieldType} {As stk : List Value} {wp : va_W → Prop} (hG : Cx G cc nL ret own Ts dd) (hM : Con (g_l G) y wz d (g_D G) w0 As (none) wp) (isC isR : List Nat) (wr : va_W) (hC : isC.map (fun i => ws[i]?) = w0.map some) (hR : isR.map (fun i => ws[i]?) = wr.map some) (hnC : va_nd isC = true) (hnR : va_nd isR = true) (hdis : ∀ i ∈ isR, i ∉ isC) (hT : GoodIn Ts (va_wsS own index y wz)) (hw : wz = Cond.code y bytes maxL cret :: wz') (hy : hyS y n) (hn : As.length = n) (hdd : d + 1 ≤ dd) (hmL : maxL ≤ 21) (hst : stk = As.reverse ++ st) (hcat : (st.map fun v => v.category).sum ≤ 8) (hf : kc ≤ (g_R G).cells ∧ ks ≤ (g_R G).slots) (hd : decode cc pc = .ok (.invokestatic index, 3)) (k : ∀ w, wp w → V G kc ks (wr ++ w) (pc + 3) lv (st)) : V G kc ks ws pc lv stk := by
  intro H locs ls hP hD hS hl
  have hF := va_free (wc := w0) hD hS hG.hA isC hC
  exact q_after (q_runS hG hM hT hw hy hn hdd hmL (preW hG (hP.sub isC (fm_of hC)) (hD.sub isC hnC hC) hS hF) (hl.1.trans hG.n) hst hcat hd hf) hS hF (fun w H1 locs1 h1 h2 h3 h4 h5 => by
    obtain ⟨hP', hD'⟩ := va_join (wr := wr) (w1 := w) hP hD isC isR hC hR hnR hdis h4 hF h2 h3
    exact k w h1 H1 locs1 ls hP' hD' h5 hl)
/-- a static method that looks at no cell of ours -/
theorem r_call0v {y : MethodName} {wz wz' : List Cond} {bytes : ByteArray} {maxL d n index : Nat} {cret : Option FieldType} {As stk : List Value} {wp : va_W → Prop} (hG : Cx G cc nL ret own Ts dd) (hM : Con (g_l G) y wz d (g_D G) [] As (none) wp) (hT : GoodIn Ts (va_wsS own index y wz)) (hw : wz = Cond.code y bytes maxL cret :: wz') (hy : hyS y n) (hn : As.length = n) (hdd : d + 1 ≤ dd) (hmL : maxL ≤ 21) (hst : stk = As.reverse ++ st) (hcat : (st.map fun v => v.category).sum ≤ 8) (hf : kc ≤ (g_R G).cells ∧ ks ≤ (g_R G).slots) (hd : decode cc pc = .ok (.invokestatic index, 3)) (k : V G kc ks ws (pc + 3) lv (st)) : V G kc ks ws pc lv stk := by
  intro H locs ls hP hD hS hl
  have hF := freeW (ws := []) (G := G) hG ⟨fun i j p q h => by simp at h, fun k q h => by simp at h⟩ hS
  exact q_after (q_runS hG hM hT hw hy hn hdd hmL (preW hG (fun k q h => by simp at h) ⟨fun i j p q h => by simp at h, fun k q h => by simp at h⟩ hS hF) (hl.1.trans hG.n) hst hcat hd hf) hS hF (fun w H1 locs1 h1 h2 h3 h4 h5 => k H1 locs1 ls (fun i q hq => (hP i q hq).kept (h4 q.1 (hP i q hq).lt (fun z => by
    rcases z with ⟨i, e, h⟩ | h
    · simp at h
    · exact absurd (hP i q hq).lt (Nat.not_lt.mpr h)))) hD h5 hl)
end VW
