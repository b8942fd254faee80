/-! THE CONTEXT of a walk, and what a walk's place means over the machine -/
/-- the rows of rows: their class, and that of what they hold -/
def II (g : Gh) (U : State) : Prop := ∃ kA kI comp, U.vm.classes[g.2.1 5]? = some kA ∧ kA.kind = .array (g.2.1 0) (.array .int) ∧ U.vm.classes[g.2.1 0]? = some kI ∧ kI.kind = .array comp .int
def skix (i : Nat) : Nat := [90, 96, 98, 100, 102].getD i 0
def stx (i : Nat) : String := ["plain", "greedy", "meek", "fair", "word"].getD i ""
def sln : List Nat := [5, 6, 4, 4, 4]
def sby : List (List Int32) := [[112, 108, 97, 105, 110], [103, 114, 101, 101, 100, 121], [109, 101, 101, 107], [102, 97, 105, 114], [119, 111, 114, 100]]
/-- the links to private members of a nest mate -/
def NS (U : State) : Prop := va_Nw (.fieldLinkNest "RingWord$Tape" 83 "RingWord" "LEAST" "[I" "RingWord") U ∧ va_Nw (.fieldLinkNest "RingWord$Tape" 87 "RingWord" "GREATEST" "[I" "RingWord") U ∧ ∀ q ∈ ([("RingWord$Tape", 111), ("RingWord$Ring", 45), ("RingWord$Sheet", 22)] : List (String × Nat)), va_Nw (.methodLinkNest q.1 q.2 ⟨"RingWord", "isOutside", "(III)Z"⟩ "RingWord") U
theorem NS.warm {s U : State} (hW : s.WarmedH U.vm) (h : NS s) : NS U := ⟨h.1.warmF hW, h.2.1.warmF hW, fun q hq => (h.2.2 q hq).warmM hW⟩
theorem NS.same {s U : State} (hv : U.vm = s.vm) (h : NS s) : NS U := ⟨va_Nw.same rfl hv.symm h.1, va_Nw.same rfl hv.symm h.2.1, fun q hq => va_Nw.same rfl hv.symm (h.2.2 q hq)⟩
/-- what never changes: the static rows, the String constants -/
def ST (g : Gh) (A : Nat → Prop) (U : State) (H : Heap) : Prop :=
  (va_Z "RingWord" "LEAST" "[I" (.ref (g.2.2 100)) A U H ∧ va_T .int (g.2.2 100) 5 (fun j => .int (Int32.ofInt (stv 100 j))) A U H) ∧
  (va_Z "RingWord" "GREATEST" "[I" (.ref (g.2.2 101)) A U H ∧ va_T .int (g.2.2 101) 5 (fun j => .int (Int32.ofInt (stv 101 j))) A U H) ∧
  II g U ∧ (∃ adV : Nat → Nat, vk_S 5 sln sby (fun i => g.2.2 (110 + i)) adV A U H) ∧ (∀ i, i < 5 → vk_R "RingWord$Tape" (skix i) (stx i) (g.2.2 (110 + i)) U) ∧
  va_Z "java/lang/String" "COMPACT_STRINGS" "Z" (.int 1) A U H ∧ va_Zq "jdk/internal/util/Preconditions" "SIOOBE_FORMATTER" "Ljava/util/function/BiFunction;" A U H ∧ NS U
theorem II.moved {g : Gh} {u U : State} (hvm : u.vm.Alike U.vm) (h : II g u) : II g U := by
  obtain ⟨kA, kI, comp, h1, h2, h3, h4⟩ := h
  obtain ⟨kA', g1, g2⟩ := hvm.2.2 _ _ h1
  obtain ⟨kI', g3, g4⟩ := hvm.2.2 _ _ h3
  exact ⟨kA', kI', comp, g1, by rw [g2]; exact h2, g3, by rw [g4]; exact h4⟩
theorem ST.warm {g : Gh} {A : Nat → Prop} {u U : State} {H : Heap} (hW : u.WarmedH U.vm) (h : ST g A u H) : ST g A U H := by
  obtain ⟨⟨a1, a2⟩, ⟨b1, b2⟩, c1, ⟨adV, d1⟩, e1, f1, f2, n1⟩ := h
  have hvm := hW.alike
  exact ⟨⟨a1.moved hvm, a2.moved hvm⟩, ⟨b1.moved hvm, b2.moved hvm⟩, c1.moved hvm, ⟨adV, d1.moved hvm⟩, fun i hi => (e1 i hi).warm hW, f1.moved hvm, f2.moved hvm, n1.warm hW⟩
theorem ST.same {g : Gh} {A : Nat → Prop} {u U : State} {H : Heap} (hv : U.vm = u.vm) (h : ST g A u H) : ST g A U H := by
  obtain ⟨⟨a1, a2⟩, ⟨b1, b2⟩, c1, ⟨adV, d1⟩, e1, f1, f2, n1⟩ := h
  have hvm : u.vm.Alike U.vm := by rw [hv]; exact Vm.Alike.refl _
  exact ⟨⟨a1.moved hvm, a2.moved hvm⟩, ⟨b1.moved hvm, b2.moved hvm⟩, c1.moved hvm, ⟨adV, d1.moved hvm⟩, fun i hi => (e1 i hi).same hv, f1.moved hvm, f2.moved hvm, n1.same hv⟩
theorem ST.kept {g : Gh} {A : Nat → Prop} {U : State} {H H1 : Heap} (h : ST g A U H) (hq : ∀ a : Nat, a < H.size → ¬ A a → H1[a]? = H[a]?) : ST g A U H1 := by
  obtain ⟨⟨a1, a2⟩, ⟨b1, b2⟩, c1, ⟨adV, d1⟩, e1, f1, f2, n1⟩ := h
  exact ⟨⟨a1.kept hq, a2.kept hq⟩, ⟨b1.kept hq, b2.kept hq⟩, c1, ⟨adV, d1.kept hq⟩, e1, f1.kept hq, f2.kept hq, n1⟩
theorem ST.narrow {g : Gh} {A B : Nat → Prop} {U : State} {H : Heap} (h : ST g A U H) (hAB : ∀ q, B q → A q) : ST g B U H := by
  obtain ⟨⟨a1, a2⟩, ⟨b1, b2⟩, c1, ⟨adV, d1⟩, e1, f1, f2, n1⟩ := h
  exact ⟨⟨a1.narrow hAB, a2.narrow hAB⟩, ⟨b1.narrow hAB, b2.narrow hAB⟩, c1, ⟨adV, d1.narrow hAB⟩, e1, f1.narrow hAB, f2.narrow hAB, n1⟩
def Inj (g : Gh) : Prop := ∀ i j, i < 79 → j < 79 → g.2.2 i = g.2.2 j → i = j
/-- what holds all along a walk -/
def CF (p : Program) (R : Room) (s : State) (m : MethodId) (args : Array Value) (c : Code) (cc : ByteArray) (nL : Nat) (own : String) (g : Gh) (A : Nat → Prop) (cells slots d : Nat) : Prop :=
  CallFix p m c cc nL s args gtb own ∧ va_K g.1 vwCl (tysG g) s ∧ Inj g ∧ ST g A s s.heap ∧ (∀ q, inW g q → A q) ∧ cells ≤ R.cells ∧ slots ≤ R.slots ∧ d ≤ R.frames ∧ 36 * d ≤ R.locals
/-- what a place of a walk means -/
def VV (p : Program) (l : Launch) (e : Env) (R : Room) (s : State) (m : MethodId) (args : Array Value) (below : List Frame) (meth : Method) (c : Code) (nL : Nat) (g : Gh) (A : Nat → Prop) (cells slots : Nat) (Q : State → Prop) (pc : Nat) (L : List (Option AV)) (stk : List AV) (μ : Mem) : Prop :=
  L.length = nL → ∀ (H : Heap) (locs : List Loc) (ls : Array Slot), va_P g.1 vwCl (wl g μ) H → va_S A s.heap H locs → lv_has ls nL (lvs g.2.2 L) → W p l e R s m args below meth c H locs cells slots Q (F0 m pc ls (stk.map (cv g.2.2)))
theorem wl_D {g : Gh} (hi : Inj g) {A : Nat → Prop} (hA : ∀ q, inW g q → A q) (μ : Mem) : va_D A (wl g μ) := by
  have key : ∀ (i : Nat) (p : Nat × va_E), (wl g μ)[i]? = some p → i < 79 ∧ p.1 = g.2.2 i := by
    intro i p h
    have hlt : i < 79 := by
      have := (List.getElem?_eq_some_iff.mp h).1
      rw [wl_len] at this
      exact this
    rw [wl_get g μ hlt] at h
    cases h
    exact ⟨hlt, rfl⟩
  refine ⟨fun i j p q h1 h2 e => ?_, fun k q h => ?_⟩
  · obtain ⟨a1, a2⟩ := key i p h1
    obtain ⟨b1, b2⟩ := key j q h2
    exact hi i j a1 b1 (by rw [← a2, ← b2, e])
  · obtain ⟨a1, a2⟩ := key k q h
    exact hA _ ⟨k, a1, a2⟩
/-- a field that a class' code names by a place of its pool -/
def FOK (own : String) (i : Nat) (q : Nat × Nat × Nat × Nat) : Prop := ∃ (C : String) (T : u_T) (N : Nat) (ty0 : Nat → FieldType), vwCl[q.1]? = some (C, T, N) ∧ q.1 < 7 ∧ q.2.1 < N ∧ (∀ w ∈ u_ws C T N, w ∈ gtb) ∧ (∀ k, k < N → parseFieldDescriptor (T k).2.2.1 = some (ty0 k)) ∧ (∀ a, a < N → ∀ b, b < N → a ≠ b → (T a).2.1 ≠ (T b).2.1) ∧ Jvm.Cond.fieldLink own i (T q.2.1).1 (T q.2.1).2.1 (T q.2.1).2.2.1 ∈ gtb ∧ (fsp q.1)[q.2.1]? = some (q.2.2.1, q.2.2.2) ∧ (q.2.2.1 ≠ 2 → (T q.2.1).2.2.2 = false ∧ parseFieldDescriptor (T q.2.1).2.2.1 = some (if q.2.2.1 = 1 then .long else if q.2.2.1 = 0 then .int else .boolean) ∧ q.2.2.1 < 4)
/-- a constant, a static row, a String that a class' code names by a place of its pool -/
def COK (own : String) (i : Nat) (v : AV) : Prop := match v with
  | .inl x => Jvm.Cond.constant own i (Int32.ofInt x) ∈ gtb
  | .inr (.inl x) => Jvm.Cond.constantLong own i (Int64.ofInt x) ∈ gtb
  | .inr (.inr k) => (k = 100 ∧ (Jvm.Cond.fieldLink own i "RingWord" "LEAST" "[I" ∈ gtb ∨ (own = "RingWord$Tape" ∧ i = 83))) ∨ (k = 101 ∧ (Jvm.Cond.fieldLink own i "RingWord" "GREATEST" "[I" ∈ gtb ∨ (own = "RingWord$Tape" ∧ i = 87))) ∨ (∃ j, j < 5 ∧ k = 110 + j ∧ own = "RingWord$Tape" ∧ i = skix j)
/-- a call that a class' code makes by a place of its pool -/
def CallOK (l : Launch) (d : Nat) (own : String) (i n : Nat) (st : Bool) (T : TT) : Prop := ∀ ⦃p : Program⦄ ⦃e : Env⦄ ⦃R : Room⦄ ⦃s : State⦄ ⦃m : MethodId⦄ ⦃args : Array Value⦄ ⦃below : List Frame⦄ ⦃meth : Method⦄ ⦃c : Code⦄ ⦃cc : ByteArray⦄ ⦃nL : Nat⦄ ⦃g : Gh⦄ ⦃A : Nat → Prop⦄ ⦃cells slots : Nat⦄ ⦃Q : State → Prop⦄,
  CF p R s m args c cc nL own g A cells slots d → ∀ (pc : Nat) (L : List (Option AV)) (as rest : List AV) (μ : Mem) (K : List AV → Mem → Prop), as.length = n → wd rest ≤ 8 → decode cc pc = .ok ((if st = true then .invokestatic i else .invokevirtual i), 3) → T as μ K →
    (∀ (r : List AV) (μ' : Mem), K r μ' → VV p l e R s m args below meth c nL g A cells slots Q (pc + 3) L (r ++ rest) μ') → VV p l e R s m args below meth c nL g A cells slots Q pc L (as.reverse ++ rest) μ
