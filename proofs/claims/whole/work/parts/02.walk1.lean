/-! ===== Java's int as an Int ===== -/
def iI (n : Int) : Int32 := Int32.ofInt n
theorem iI_add (a b : Int) : iI a + iI b = iI (a + b) := (Int32.ofInt_add a b).symm
theorem iI_sub (a b : Int) : iI a - iI b = iI (a - b) := (Int32.ofInt_sub a b).symm
theorem iI_mul (a b : Int) : iI a * iI b = iI (a * b) := (Int32.ofInt_mul a b).symm
theorem iI_toInt {a : Int} (h : -2147483648 ≤ a ∧ a < 2147483648) : (iI a).toInt = a := Int32.toInt_ofInt_of_le (by omega) (by omega)
theorem iI_le {a b : Int} (ha : -2147483648 ≤ a ∧ a < 2147483648) (hb : -2147483648 ≤ b ∧ b < 2147483648) : iI a ≤ iI b ↔ a ≤ b := by
  rw [Int32.le_iff_toInt_le, iI_toInt ha, iI_toInt hb]
theorem iI_lt {a b : Int} (ha : -2147483648 ≤ a ∧ a < 2147483648) (hb : -2147483648 ≤ b ∧ b < 2147483648) : iI a < iI b ↔ a < b := by
  rw [Int32.lt_iff_toInt_lt, iI_toInt ha, iI_toInt hb]
theorem iI_eq {a b : Int} (ha : -2147483648 ≤ a ∧ a < 2147483648) (hb : -2147483648 ≤ b ∧ b < 2147483648) : iI a = iI b ↔ a = b := by
  rw [← Int32.toInt_inj, iI_toInt ha, iI_toInt hb]
theorem iI_of (x : Int32) : iI x.toInt = x := Int32.ofInt_toInt x
theorem iI_rng (x : Int32) : -2147483648 ≤ x.toInt ∧ x.toInt < 2147483648 := by
  have h1 := x.toInt_lt
  have h2 := x.le_toInt
  omega
theorem iI_tn {a : Int} (h : 0 ≤ a ∧ a < 2147483648) : (iI a).toNatClampNeg = a.toNat := Int32.toNatClampNeg_ofInt_of_le (by omega) (by omega)
theorem iI_in {a : Int} {n : Nat} (h : 0 ≤ a ∧ a < n) (hn : n < 2147483648) : vp_in (iI a) n := by
  rw [vp_in_iff, iI_toInt (by omega)]
  exact h
theorem iI_0 : iI 0 = 0 := rfl
/-- a row of ints, by its places -/
def ia (f : Int → Int) : Nat → Int32 := fun k => iI (f k)
def la (f : Int → Int64) : Nat → Int64 := fun k => f k
def up1 {α : Type} (f : Int → α) (i : Int) (v : α) : Int → α := fun j => if j = i then v else f j
def b2 (b : Bool) : Int := if b then 1 else 0
/-! ===== the walk's bundle: who runs, where it may write, what it must come to ===== -/
abbrev GJ : Type := (Program × Launch × Env × Room × State) × (MethodId × Array Value × List Frame × Method × Code) × (Nat × va_G × (Nat → Prop) × (State → Prop))
abbrev g_p (G : GJ) : Program := G.1.1
abbrev g_l (G : GJ) : Launch := G.1.2.1
abbrev g_e (G : GJ) : Env := G.1.2.2.1
abbrev g_R (G : GJ) : Room := G.1.2.2.2.1
abbrev g_s (G : GJ) : State := G.1.2.2.2.2
abbrev g_m (G : GJ) : MethodId := G.2.1.1
abbrev g_a (G : GJ) : Array Value := G.2.1.2.1
abbrev g_b (G : GJ) : List Frame := G.2.1.2.2.1
abbrev g_t (G : GJ) : Method := G.2.1.2.2.2.1
abbrev g_c (G : GJ) : Code := G.2.1.2.2.2.2
abbrev g_n (G : GJ) : Nat := G.2.2.1
abbrev g_D (G : GJ) : va_G := G.2.2.2.1
abbrev g_A (G : GJ) : Nat → Prop := G.2.2.2.2.1
abbrev g_Q (G : GJ) : State → Prop := G.2.2.2.2.2
/-- the array classes: numbers 100, 101, 102 of D are int[], long[], Sheet[] -/
abbrev tyD (D : va_G) : List (ClassId × FieldType) := [(D.1 100, .int), (D.1 101, .long), (D.1 102, .object "BreakSwaps$Sheet")]
/-! what the statics hold: tables nobody writes, by D -/
def abv (j : Nat) : Int := [-1, 0, 0, 0, 1, 2].getD j 0
def nms (j : Nat) : Int := [99, 104, 105, 108, 100, 0, 0, 107, 105, 110, 103, 0, 0, 0, 115, 104, 121, 0, 0, 0, 0, 110, 117, 116, 0, 0, 0, 0, 99, 104, 101, 97, 116, 0, 0, 110, 101, 119, 0, 0, 0, 0, 116, 114, 117, 115, 116, 0, 0, 108, 105, 107, 101, 115, 0, 0, 116, 101, 97, 99, 104, 101, 114, 110, 111, 110, 101, 0, 0, 0, 115, 119, 97, 112, 0, 0, 0].getD j 0
def sIx (i : Nat) : Nat := [35, 41, 47, 79, 81, 83, 85, 87, 89, 106, 112].getD i 0
def sTx (i : Nat) : String := ["teacher", "none", "swap", "child", "king", "shy", "nut", "cheat", "new", "trust", "likes"].getD i ""
def sLen : List Nat := [7, 4, 4, 5, 4, 3, 3, 5, 3, 5, 5]
def sByt : List (List Int32) := [[116, 101, 97, 99, 104, 101, 114], [110, 111, 110, 101], [115, 119, 97, 112], [99, 104, 105, 108, 100], [107, 105, 110, 103], [115, 104, 121], [110, 117, 116], [99, 104, 101, 97, 116], [110, 101, 119], [116, 114, 117, 115, 116], [108, 105, 107, 101, 115]]
/-- the statics' picture: ABOVE, NAMES, the JDK's two, the text's words -/
def SP (D : va_G) (A : Nat → Prop) (U : State) (H : Heap) : Prop :=
  ((va_Z "BreakSwaps$Kinds" "ABOVE" "[I" (.ref (D.2 202 0)) A U H ∧ va_T .int (D.2 202 0) 6 (fun j => .int (iI (abv j))) A U H) ∧ (va_Z "BreakSwapsModel" "NAMES" "[I" (.ref (D.2 202 1)) A U H ∧ va_T .int (D.2 202 1) 77 (fun j => .int (iI (nms j))) A U H)) ∧
  (va_Z "java/lang/String" "COMPACT_STRINGS" "Z" (.int 1) A U H ∧ va_Zq "jdk/internal/util/Preconditions" "SIOOBE_FORMATTER" "Ljava/util/function/BiFunction;" A U H) ∧
  (∀ i : Nat, i < 11 → vk_R "BreakSwaps$YardText" (sIx i) (sTx i) (D.2 200 i) U) ∧ vk_S 11 sLen sByt (D.2 200) (D.2 201) A U H
theorem SP.kept {D : va_G} {A : Nat → Prop} {U : State} {H H1 : Heap} (h : SP D A U H) (hq : ∀ a : Nat, a < H.size → ¬ A a → H1[a]? = H[a]?) : SP D A U H1 :=
  ⟨⟨⟨h.1.1.1.kept hq, h.1.1.2.kept hq⟩, ⟨h.1.2.1.kept hq, h.1.2.2.kept hq⟩⟩, ⟨h.2.1.1.kept hq, h.2.1.2.kept hq⟩, h.2.2.1, h.2.2.2.kept hq⟩
theorem SP.narrow {D : va_G} {A B : Nat → Prop} {U : State} {H : Heap} (h : SP D A U H) (hAB : ∀ q, B q → A q) : SP D B U H :=
  ⟨⟨⟨h.1.1.1.narrow hAB, h.1.1.2.narrow hAB⟩, ⟨h.1.2.1.narrow hAB, h.1.2.2.narrow hAB⟩⟩, ⟨h.2.1.1.narrow hAB, h.2.1.2.narrow hAB⟩, h.2.2.1, h.2.2.2.narrow hAB⟩
theorem SP.warm {D : va_G} {A : Nat → Prop} {s U : State} {H : Heap} (hW : s.WarmedH U.vm) (h : SP D A s H) : SP D A U H :=
  ⟨⟨⟨va_Z.moved hW.alike h.1.1.1, va_T.moved hW.alike h.1.1.2⟩, ⟨va_Z.moved hW.alike h.1.2.1, va_T.moved hW.alike h.1.2.2⟩⟩, ⟨va_Z.moved hW.alike h.2.1.1, va_Zq.moved hW.alike h.2.1.2⟩, fun i hi => vk_R.warm hW (h.2.2.1 i hi), vk_S.moved hW.alike h.2.2.2⟩
theorem SP.same {D : va_G} {A : Nat → Prop} {u U : State} {H : Heap} (hv : U.vm = u.vm) (h : SP D A u H) : SP D A U H := by
  have ha : u.vm.Alike U.vm := by rw [hv]; exact Vm.Alike.refl u.vm
  exact ⟨⟨⟨va_Z.moved ha h.1.1.1, va_T.moved ha h.1.1.2⟩, ⟨va_Z.moved ha h.1.2.1, va_T.moved ha h.1.2.2⟩⟩, ⟨va_Z.moved ha h.2.1.1, va_Zq.moved ha h.2.1.2⟩, fun i hi => vk_R.same hv (h.2.2.1 i hi), vk_S.moved ha h.2.2.2⟩
/-! ===== locals ===== -/
def lvg : List (Nat × Value) → Nat → Option Value
  | [], _ => none
  | q :: r, i => cond (Nat.beq q.1 i) (some q.2) (lvg r i)
def lvp : List (Nat × Value) → Nat → Value → List (Nat × Value)
  | [], i, v => [(i, v)]
  | q :: r, i, v => cond (Nat.beq q.1 i) (lvp r i v) (q :: lvp r i v)
def lvk : List (Nat × Value) → Nat → Bool
  | [], _ => true
  | q :: r, i => cond (Nat.beq (q.1 + 1) i) (cond (Nat.beq q.2.category 2) false (lvk r i)) (lvk r i)
def lvs (lv : List (Nat × Value)) : List (Nat × Value) → Prop
  | [] => True
  | q :: r => lvg lv q.1 = some q.2 ∧ lvs lv r
theorem lvg_mem : ∀ {lv : List (Nat × Value)} {i : Nat} {v : Value}, lvg lv i = some v → (i, v) ∈ lv
  | [], i, v, h => by cases h
  | q :: r, i, v, h => by
    unfold lvg at h
    cases e : Nat.beq q.1 i with
    | true =>
      rw [e] at h
      have h1 : q.1 = i := Nat.eq_of_beq_eq_true e
      have h2 : q.2 = v := Option.some.inj h
      rw [← h1, ← h2]
      exact List.mem_cons_self
    | false =>
      rw [e] at h
      exact List.mem_cons_of_mem _ (lvg_mem h)
theorem lvs_mem : ∀ {lv lv' : List (Nat × Value)}, lvs lv lv' → ∀ q ∈ lv', q ∈ lv
  | lv, [], _, q, h => by cases h
  | lv, a :: r, h, q, hq => by
    rcases List.mem_cons.mp hq with e | e
    · rw [e]; exact lvg_mem h.1
    · exact lvs_mem h.2 q e
theorem lvp_mem : ∀ {lv : List (Nat × Value)} {i : Nat} {v : Value}, ∀ q ∈ lvp lv i v, q = (i, v) ∨ (q ∈ lv ∧ q.1 ≠ i)
  | [], i, v, q, h => by
    rcases List.mem_cons.mp h with h | h
    · exact Or.inl h
    · cases h
  | a :: r, i, v, q, h => by
    unfold lvp at h
    cases e : Nat.beq a.1 i with
    | true =>
      rw [e] at h
      rcases lvp_mem (lv := r) q h with h | h
      · exact Or.inl h
      · exact Or.inr ⟨List.mem_cons_of_mem _ h.1, h.2⟩
    | false =>
      rw [e] at h
      rcases List.mem_cons.mp h with h | h
      · rw [h]; exact Or.inr ⟨List.mem_cons_self, Nat.ne_of_beq_eq_false e⟩
      · rcases lvp_mem (lv := r) q h with h | h
        · exact Or.inl h
        · exact Or.inr ⟨List.mem_cons_of_mem _ h.1, h.2⟩
theorem lvk_mem : ∀ {lv : List (Nat × Value)} {i : Nat}, lvk lv i = true → ∀ q ∈ lv, ¬ (q.1 + 1 = i ∧ q.2.category = 2)
  | [], i, _, q, h => by cases h
  | a :: r, i, hk, q, h => by
    unfold lvk at hk
    have hr : lvk r i = true ∧ ¬ (a.1 + 1 = i ∧ a.2.category = 2) := by
      cases e : Nat.beq (a.1 + 1) i with
      | true =>
        rw [e] at hk
        cases e2 : Nat.beq a.2.category 2 with
        | true => rw [e2] at hk; cases hk
        | false => rw [e2] at hk; exact ⟨hk, fun h => Nat.ne_of_beq_eq_false e2 h.2⟩
      | false => rw [e] at hk; exact ⟨hk, fun h => Nat.ne_of_beq_eq_false e h.1⟩
    rcases List.mem_cons.mp h with h | h
    · rw [h]; exact hr.2
    · exact lvk_mem hr.1 q h
theorem lv_has_sub {ls : Array Slot} {n : Nat} {lv lv' : List (Nat × Value)} (h : lv_has ls n lv) (hs : ∀ q ∈ lv', q ∈ lv) : lv_has ls n lv' := ⟨h.1, h.2.1, fun q hq => h.2.2 q (hs q hq)⟩
theorem lv_has_put {ls : Array Slot} {n i : Nat} {v : Value} {lv : List (Nat × Value)} (hk : lvk lv i = true) (h : lv_has ls n ((i, v) :: lv.filter (fun q => !(q.1 == i) && !(q.1 + 1 == i && q.2.category == 2)))) : lv_has ls n (lvp lv i v) := by
  refine lv_has_sub h fun q hq => ?_
  rcases lvp_mem q hq with e | ⟨e1, e2⟩
  · rw [e]; exact List.mem_cons_self
  · refine List.mem_cons_of_mem _ (List.mem_filter.mpr ⟨e1, ?_⟩)
    have h2 := lvk_mem hk q e1
    simp only [Bool.and_eq_true, Bool.not_eq_true', Bool.and_eq_false_iff, beq_eq_false_iff_ne, ne_eq]
    refine ⟨e2, ?_⟩
    by_cases h3 : q.1 + 1 = i
    · exact Or.inr fun h4 => h2 ⟨h3, h4⟩
    · exact Or.inl h3
/-! ===== the judgement: from this world, at pc, with these locals and this stack, it comes to its end ===== -/
def V (G : GJ) (kc ks : Nat) (ws : va_W) (pc : Nat) (lv : List (Nat × Value)) (st : List Value) : Prop :=
  ∀ (H : Heap) (locs : List Loc) (ls : Array Slot), va_P (g_D G) vwCl ws H → va_D (g_A G) ws → va_S (g_A G) (g_s G).heap H locs → lv_has ls (g_n G) lv → W (g_p G) (g_l G) (g_e G) (g_R G) (g_s G) (g_m G) (g_a G) (g_b G) (g_t G) (g_c G) H locs kc ks (g_Q G) (F0 (g_m G) pc ls st)
/-- what a walk may use: the machine, the code, the locals' number, the class, the words, the classes' tables, new cells are free, no lock, the statics, the room (depth dd) -/
def Cx (G : GJ) (cc : ByteArray) (nL : Nat) (ret : Option FieldType) (own : String) (Ts : List Cond) (dd : Nat) : Prop :=
  (g_p G).tables.exec = Jvm.exec ∧ (g_c G).code = cc ∧ (g_c G).maxLocals = nL ∧ (g_t G).sig.returnType = ret ∧ (g_s G).vm.findClass own = some (g_m G).cls ∧ (∀ w ∈ Ts, w.before (g_a G) (g_s G) = true) ∧ va_K (g_D G) vwCl (tyD (g_D G)) (g_s G) ∧ (∀ q, (g_s G).heap.size ≤ q → g_A G q) ∧ (g_t G).locks = false ∧ g_n G = nL ∧ SP (g_D G) (g_A G) (g_s G) (g_s G).heap ∧ dd ≤ (g_R G).frames ∧ 40 * dd ≤ (g_R G).locals
theorem Cx.exec {G : GJ} {cc : ByteArray} {nL : Nat} {ret : Option FieldType} {own : String} {Ts : List Cond} {dd : Nat} (h : Cx G cc nL ret own Ts dd) : (g_p G).tables.exec = Jvm.exec := h.1
theorem Cx.code {G : GJ} {cc : ByteArray} {nL : Nat} {ret : Option FieldType} {own : String} {Ts : List Cond} {dd : Nat} (h : Cx G cc nL ret own Ts dd) : (g_c G).code = cc := h.2.1
theorem Cx.maxL {G : GJ} {cc : ByteArray} {nL : Nat} {ret : Option FieldType} {own : String} {Ts : List Cond} {dd : Nat} (h : Cx G cc nL ret own Ts dd) : (g_c G).maxLocals = nL := h.2.2.1
theorem Cx.rt {G : GJ} {cc : ByteArray} {nL : Nat} {ret : Option FieldType} {own : String} {Ts : List Cond} {dd : Nat} (h : Cx G cc nL ret own Ts dd) : (g_t G).sig.returnType = ret := h.2.2.2.1
theorem Cx.own {G : GJ} {cc : ByteArray} {nL : Nat} {ret : Option FieldType} {own : String} {Ts : List Cond} {dd : Nat} (h : Cx G cc nL ret own Ts dd) : (g_s G).vm.findClass own = some (g_m G).cls := h.2.2.2.2.1
theorem Cx.hts {G : GJ} {cc : ByteArray} {nL : Nat} {ret : Option FieldType} {own : String} {Ts : List Cond} {dd : Nat} (h : Cx G cc nL ret own Ts dd) : ∀ w ∈ Ts, w.before (g_a G) (g_s G) = true := h.2.2.2.2.2.1
theorem Cx.hK {G : GJ} {cc : ByteArray} {nL : Nat} {ret : Option FieldType} {own : String} {Ts : List Cond} {dd : Nat} (h : Cx G cc nL ret own Ts dd) : va_K (g_D G) vwCl (tyD (g_D G)) (g_s G) := h.2.2.2.2.2.2.1
theorem Cx.hA {G : GJ} {cc : ByteArray} {nL : Nat} {ret : Option FieldType} {own : String} {Ts : List Cond} {dd : Nat} (h : Cx G cc nL ret own Ts dd) : ∀ q, (g_s G).heap.size ≤ q → g_A G q := h.2.2.2.2.2.2.2.1
theorem Cx.locks {G : GJ} {cc : ByteArray} {nL : Nat} {ret : Option FieldType} {own : String} {Ts : List Cond} {dd : Nat} (h : Cx G cc nL ret own Ts dd) : (g_t G).locks = false := h.2.2.2.2.2.2.2.2.1
theorem Cx.n {G : GJ} {cc : ByteArray} {nL : Nat} {ret : Option FieldType} {own : String} {Ts : List Cond} {dd : Nat} (h : Cx G cc nL ret own Ts dd) : g_n G = nL := h.2.2.2.2.2.2.2.2.2.1
theorem Cx.sp {G : GJ} {cc : ByteArray} {nL : Nat} {ret : Option FieldType} {own : String} {Ts : List Cond} {dd : Nat} (h : Cx G cc nL ret own Ts dd) : SP (g_D G) (g_A G) (g_s G) (g_s G).heap := h.2.2.2.2.2.2.2.2.2.2.1
theorem Cx.room {G : GJ} {cc : ByteArray} {nL : Nat} {ret : Option FieldType} {own : String} {Ts : List Cond} {dd : Nat} (h : Cx G cc nL ret own Ts dd) : dd ≤ (g_R G).frames ∧ 40 * dd ≤ (g_R G).locals := h.2.2.2.2.2.2.2.2.2.2.2
/-! ===== contracts ===== -/
def rmD (d : Nat) (mc ms : Nat) : Room := { frames := d, cells := mc, slots := ms, locals := 40 * d }
def QcW (D : va_G) (rv : Option Value) (wp : va_W → Prop) (A : Nat → Prop) : Array Value → State → Outcome → State → Prop := fun _ st oc t =>
  (∃ w : va_W, oc = .returned rv ∧ wp w ∧ va_P D vwCl w t.heap ∧ va_D A w) ∧ va_F A st t
def PcW (D : va_G) (w0 : va_W) (av : List Value) (sz : Nat) : Array Value → State → Prop := va_Pc av (fun U => U.heap.size = sz ∧ va_P D vwCl w0 U.heap ∧ va_K D vwCl (tyD D) U ∧ va_D (fun _ => True) w0 ∧ SP D (va_A w0 sz) U U.heap)
/-- THE CONTRACT: from a heap that holds w0, with the arguments av, method y answers rv, and the heap holds a world of wp on the same cells (and mc new ones of ms slots); nothing else changes -/
def ConA (l : Launch) (y : MethodName) (wz : List Cond) (d mc ms : Nat) (D : va_G) (w0 : va_W) (av : List Value) (rv : Option Value) (wp : va_W → Prop) : Prop :=
  ∀ sz : Nat, Met l y wz (rmD d mc ms) (PcW D w0 av sz) (QcW D rv wp (va_A w0 sz)) mc ms (va_A w0 sz)
abbrev Con (l : Launch) (y : MethodName) (wz : List Cond) (d : Nat) (D : va_G) (w0 : va_W) (av : List Value) (rv : Option Value) (wp : va_W → Prop) : Prop := ConA l y wz d 0 0 D w0 av rv wp
/-- a walk's end -/
def Ex (G : GJ) (mc ms : Nat) (rv : Option Value) (wp : va_W → Prop) : Prop := g_Q G = MQ (g_b G) (QcW (g_D G) rv wp (g_A G)) (g_a G) (g_s G) mc ms (g_A G)
