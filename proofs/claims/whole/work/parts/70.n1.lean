/-! CONSTRUCTORS: what they need of the tables beside the words; cells that lie one behind another; rows for what they make -/
def ncL : List (String × Nat × MethodName) := [("RingWord", 9, yX1_init), ("RingWord", 21, yX2_init), ("RingWord", 28, yX4_init), ("RingWord", 50, yX0_init), ("RingWord", 51, yX3_init), ("RingWord$Image", 9, yX1_init), ("RingWord$Image", 18, yX2_init)]
def XC (g : Gh) (U : State) : Prop := va_K g.1 vwCl (tysG g) U ∧ II g U ∧ (∀ q ∈ ncL, va_Nw (.methodLinkNest q.1 q.2.1 q.2.2 "RingWord") U) ∧ va_AO RX0 U ∧ va_AO RX3 U
theorem XC.warm {g : Gh} {s U : State} (hW : s.WarmedH U.vm) (h : XC g s) : XC g U := ⟨va_K.moved hW.alike h.1, h.2.1.moved hW.alike, fun q hq => (h.2.2.1 q hq).warmM hW, h.2.2.2.1.moved hW.alike, h.2.2.2.2.moved hW.alike⟩
theorem XC.same {g : Gh} {u U : State} (hv : U.vm = u.vm) (h : XC g u) : XC g U := by
  have hvm : u.vm.Alike U.vm := by rw [hv]; exact Vm.Alike.refl _
  exact ⟨va_K.moved hvm h.1, h.2.1.moved hvm, fun q hq => va_Nw.same rfl hv.symm (h.2.2.1 q hq), h.2.2.2.1.moved hvm, h.2.2.2.2.moved hvm⟩
def CQ (sz : Nat) (ws : va_W) : Prop := ∀ (i : Nat) (q : Nat × va_E), ws[i]? = some q → q.1 = sz + i
theorem CQ.nil (sz : Nat) : CQ sz [] := fun i q h => by simp at h
theorem CQ.cons {sz : Nat} {e : va_E} {w : va_W} (h : CQ (sz + 1) w) : CQ sz ((sz, e) :: w) := by
  intro i q hq
  cases i with
  | zero => simp at hq; rw [← hq]; rfl
  | succ n => rw [List.getElem?_cons_succ] at hq; rw [h n q hq]; omega
theorem CQ.app {sz : Nat} {w1 w2 : va_W} (h1 : CQ sz w1) (h2 : CQ (sz + w1.length) w2) : CQ sz (w1 ++ w2) := by
  intro i q hq
  by_cases hl : i < w1.length
  · rw [List.getElem?_append_left hl] at hq
    exact h1 i q hq
  · rw [List.getElem?_append_right (by omega)] at hq
    rw [h2 _ q hq]
    omega
theorem CQ.D {sz h0 : Nat} {e : va_E} {w : va_W} {A : Nat → Prop} (h : CQ sz w) (h0l : h0 < sz) (hA0 : A h0) (hA : ∀ q, sz ≤ q → A q) : va_D A ((h0, e) :: w) := by
  have key : ∀ (i : Nat) (p : Nat × va_E), ((h0, e) :: w)[i]? = some p → (i = 0 ∧ p.1 = h0) ∨ (0 < i ∧ p.1 = sz + (i - 1)) := by
    intro i p hp
    cases i with
    | zero => simp at hp; rw [← hp]; exact Or.inl ⟨rfl, rfl⟩
    | succ n => rw [List.getElem?_cons_succ] at hp; exact Or.inr ⟨by omega, h n p hp⟩
  refine ⟨fun i j p q h1 h2 e1 => ?_, fun k q h1 => ?_⟩
  · have a := key i p h1
    have b := key j q h2
    omega
  · rcases key k q h1 with ⟨-, a⟩ | ⟨-, a⟩
    · rw [a]; exact hA0
    · rw [a]; exact hA _ (by omega)
/-- where a constructor stands: its object at h0, what it has made behind sz -/
def CWd (g : Gh) (A : Nat → Prop) (s : State) (h0 sz cells : Nat) (e : va_E) (wr : va_W) (H : Heap) (locs : List Loc) : Prop := s.heap.size = sz ∧ h0 < sz ∧ A h0 ∧ (∀ q, sz ≤ q → A q) ∧ va_P g.1 vwCl ((h0, e) :: wr) H ∧ va_S A s.heap H locs ∧ CQ sz wr ∧ wr.length = cells
theorem one_P {D : va_G} {cl : List vw_C} {q : Nat × va_E} {H : Heap} (h : va_at D cl q H) : va_P D cl [q] H := by
  intro k x hx
  cases k with
  | zero => simp at hx; rw [← hx]; exact h
  | succ n => simp at hx
theorem CWd.le {g : Gh} {A : Nat → Prop} {s : State} {h0 sz cells : Nat} {e : va_E} {wr : va_W} {H : Heap} {locs : List Loc} (h : CWd g A s h0 sz cells e wr H locs) : sz + cells ≤ H.size := by
  obtain ⟨h1, h2, h3, h4, h5, h6, h7, h8⟩ := h
  by_cases z : cells = 0
  · have := h6.1
    omega
  · obtain ⟨q, hq⟩ : ∃ q, wr[cells - 1]? = some q := ⟨_, List.getElem?_eq_getElem (by omega)⟩
    have a := h7 _ _ hq
    have b := (h5 (cells - 1 + 1) q (by rw [List.getElem?_cons_succ]; exact hq)).lt
    omega
/-- new cells behind the old ones -/
theorem CWd.grow {g : Gh} {A : Nat → Prop} {s : State} {h0 sz cells : Nat} {e : va_E} {wr : va_W} {H : Heap} {locs : List Loc} (h : CWd g A s h0 sz cells e wr H locs) (hz : H.size = sz + cells) {H1 : Heap} {locs1 : List Loc} {w2 : va_W} {n : Nat} (hle : H.size ≤ H1.size) (o1 : ∀ q : Nat, q < H.size → H1[q]? = H[q]?) (hP2 : va_P g.1 vwCl w2 H1) (hq2 : CQ (sz + cells) w2) (hl2 : w2.length = n) (hL : ∀ q ∈ locs1, q ∈ locs ∨ sz ≤ q.base) : CWd g A s h0 sz (cells + n) e (wr ++ w2) H1 locs1 := by
  obtain ⟨h1, h2, h3, h4, h5, h6, h7, h8⟩ := h
  refine ⟨h1, h2, h3, h4, ?_, ⟨Nat.le_trans h6.1 hle, fun q a b => (o1 q (Nat.lt_of_lt_of_le a h6.1)).trans (h6.2.1 q a b), fun q hq => ?_⟩, h7.app (by rw [h8]; exact hq2), by rw [List.length_append, h8, hl2]⟩
  · show va_P g.1 vwCl (((h0, e) :: wr) ++ w2) H1
    exact (h5.kept (fun k x hx => o1 x.1 (h5 k x hx).lt)).app hP2
  · rcases hL q hq with z | z
    · exact h6.2.2 q z
    · exact h4 _ z
section
variable {p : Program} {l : Launch} {e : Env} {R : Room} {s : State} {m : MethodId} {args : Array Value} {below : List Frame} {meth : Method} {c : Code} {H : Heap} {locs : List Loc} {cells slots : Nat} {Q : State → Prop}
variable {cc : ByteArray} {pc nL : Nat} {ls : Array Slot} {rest : List Value} {A : Nat → Prop} {g : Gh} {own : String} {h0 sz : Nat} {e0 : va_E} {wr : va_W}
theorem ci_sz {f : JFrame} (hC : CWd g A s h0 sz cells e0 wr H locs) (kk : H.size = sz + cells → W p l e R s m args below meth c H locs cells slots Q f) : W p l e R s m args below meth c H locs cells slots Q f := by
  intro T hT X
  have a := X.heapSize
  have b := hC.le
  have d := hC.1
  rw [hT] at a
  exact kk (by omega) T hT X
theorem ci_arr {ty : ArrayType} {cA : ClassId} (hx : p.tables.exec = Jvm.exec) (hb : c.code = cc) (harr : (Cond.arrayClass (newarray.typeOf ty)).before args s = true) (hf : s.vm.findClass ("[" ++ (newarray.typeOf ty).toString) = some cA) (hdv : defaultValue (newarray.typeOf ty) = .int 0) {n : Int32} {N : Nat} (hn : ¬ n < 0) (hN : n.toNatClampNeg = N) (hby : N * componentBytes (newarray.typeOf ty) ≤ 536870912) (hcells : cells + 1 ≤ R.cells) (hslots : slots + N ≤ R.slots) (hdg : decode cc pc = .ok (.newarray ty, 2)) (hC : CWd g A s h0 sz cells e0 wr H locs)
    (kk : ∀ H1, CWd g A s h0 sz (cells + 1) e0 (wr ++ [(sz + cells, .inl (cA, N, .inl (fun _ => 0)))]) H1 locs → W p l e R s m args below meth c H1 locs (cells + 1) (slots + N) Q (F0 m (pc + 2) ls (.ref (sz + cells) :: rest))) : W p l e R s m args below meth c H locs cells slots Q (F0 m pc ls (.int n :: rest)) := by
  refine ci_sz hC fun hz => ?_
  refine va_newaK hx hb harr rfl hdg rfl hn hN hby hcells hslots hz fun H1 cA' e1 z1 o1 hAr hNm => ?_
  have ec : cA' = cA := Option.some.inj (hNm.symm.trans hf)
  subst ec
  rw [← hz] at o1
  refine kk H1 (hC.grow hz (by omega) o1 (one_P ?_) (CQ.cons (CQ.nil _)) rfl (fun q hq => Or.inl hq))
  show H1[sz + cells]? = some (vp_cell _ _)
  rw [e1, hdv, vp_cell_i]
theorem ci_newq {C : String} {index : Nat} {cA : ClassId} (hx : p.tables.exec = Jvm.exec) (hb : c.code = cc) (hown : s.vm.findClass own = some m.cls) (hcl : (Cond.classLink own index C).before args s = true) (hov : va_AO C s) (hf : s.vm.findClass ("[" ++ (FieldType.object C).toString) = some cA) {n : Int32} {N : Nat} (hn : ¬ n < 0) (hN : n.toNatClampNeg = N) (hby : N * 4 ≤ 536870912) (hcells : cells + 1 ≤ R.cells) (hslots : slots + N ≤ R.slots) (hdg : decode cc pc = .ok (.anewarray index, 3)) (hC : CWd g A s h0 sz cells e0 wr H locs)
    (kk : ∀ H1, CWd g A s h0 sz (cells + 1) e0 (wr ++ [(sz + cells, .inl (cA, N, .inr (.inr (.inr (.inr (fun _ => none))))))]) H1 locs → W p l e R s m args below meth c H1 locs (cells + 1) (slots + N) Q (F0 m (pc + 3) ls (.ref (sz + cells) :: rest))) : W p l e R s m args below meth c H locs cells slots Q (F0 m pc ls (.int n :: rest)) := by
  refine ci_sz hC fun hz => ?_
  subst hN
  refine W.anew hx hb hown hcl (va_AO.use hov) rfl hdg rfl hn hby hcells hslots fun cA' kA comp f1 f2 f3 f4 => ?_
  have ec : cA' = cA := Option.some.inj (f1.symm.trans hf)
  subst ec
  rw [arrV_new]
  have o1 : ∀ q : Nat, q < H.size → (H.push (arrV cA' n.toNatClampNeg (fun _ => .null)))[q]? = H[q]? := fun q hq => by rw [Array.getElem?_push, if_neg (Nat.ne_of_lt hq)]
  have := kk (H.push (arrV cA' n.toNatClampNeg (fun _ => .null))) (hC.grow hz (by simp) o1 (one_P (by
    show (H.push _)[sz + cells]? = some (vp_cell _ _)
    rw [← hz, Array.getElem?_push_size, vp_cell_q]
    rfl)) (CQ.cons (CQ.nil _)) rfl (fun q hq => Or.inl hq))
  rw [← hz] at this
  exact this
def mxW (g : Gh) (h N M : Nat) : va_W := (h, .inl (g.2.1 5, N, .inr (.inr (.inr (.inr (fun j => some (h + 1 + j))))))) :: (List.range N).map (fun j => (h + 1 + j, .inl (g.2.1 0, M, .inl (fun _ => 0))))
theorem mxW_q (g : Gh) (h N M : Nat) : CQ h (mxW g h N M) := by
  refine CQ.cons (fun i q hq => ?_)
  rw [List.getElem?_map] at hq
  by_cases z : i < N
  · rw [List.getElem?_range z] at hq
    simp at hq
    rw [← hq]
  · rw [List.getElem?_eq_none (by simp; omega)] at hq
    simp at hq
theorem ci_multi {index : Nat} (hx : p.tables.exec = Jvm.exec) (hb : c.code = cc) (hown : s.vm.findClass own = some m.cls) (hcl : (Cond.classLink own index "[[I").before args s = true) (hX : XC g s) {n k : Int32} {N M : Nat} (hn : ¬ n < 0) (hk : ¬ k < 0) (hN : n.toNatClampNeg = N) (hM : k.toNatClampNeg = M) (hN1 : N ≤ 1000) (hM1 : M ≤ 1000) (hcells : cells + (1 + N) ≤ R.cells) (hslots : slots + (N + N * M) ≤ R.slots) (hdg : decode cc pc = .ok (.multianewarray index 2, 4)) (hC : CWd g A s h0 sz cells e0 wr H locs)
    (kk : ∀ H1 locs1, CWd g A s h0 sz (cells + (1 + N)) e0 (wr ++ mxW g (sz + cells) N M) H1 locs1 → W p l e R s m args below meth c H1 locs1 (cells + (1 + N)) (slots + (N + N * M)) Q (F0 m (pc + 4) ls (.ref (sz + cells) :: rest))) : W p l e R s m args below meth c H locs cells slots Q (F0 m pc ls (.int k :: .int n :: rest)) := by
  refine ci_sz hC fun hz => ?_
  obtain ⟨kA, kI, comp, i1, i2, i3, i4⟩ := hX.2.1
  have hAn : s.vm.findClass "[[I" = some (g.2.1 5) := (hX.1.2 5 _ rfl).2
  refine mx_new hx hb hown hcl hAn i1 i2 i3 i4 hn hk hN hM hN1 hM1 hcells hslots hdg fun H1 locs1 hL z1 o1 e1 e2 => ?_
  rw [hz] at z1 e1 e2 hL ⊢
  refine kk H1 locs1 (hC.grow hz (by omega) o1 ?_ (mxW_q _ _ _ _) (by simp [mxW]; omega) (fun q hq => ?_))
  · intro i q hq
    cases i with
    | zero =>
      simp [mxW] at hq
      rw [← hq]
      show H1[sz + cells]? = some (vp_cell _ _)
      rw [e1, vp_cell_q]
      refine congrArg some (arrV_cg _ (fun j hj => ?_))
      rw [if_pos hj]
      rfl
    | succ i =>
      simp only [mxW, List.getElem?_cons_succ, List.getElem?_map] at hq
      by_cases z : i < N
      · rw [List.getElem?_range z] at hq
        simp at hq
        rw [← hq]
        show H1[sz + cells + 1 + i]? = some (vp_cell _ _)
        rw [e2 i z, vp_cell_i]
      · rw [List.getElem?_eq_none (by simp; omega)] at hq
        simp at hq
  · rcases hL q hq with z | z
    · exact Or.inl z
    · exact Or.inr (by rw [z]; exact Nat.le_add_right _ _)
theorem ci_putF {ci N k index : Nat} {C : String} {T : u_T} {fs : List Value} {ft : FieldType} {v : Value} (S : CallFix p m c cc nL s args gtb own) (hX : XC g s) (hin2 : meth.name = "<init>") (hc : vwCl[ci]? = some (C, T, N)) (hin : ∀ w ∈ u_ws C T N, w ∈ gtb) (ty0 : Nat → FieldType) (hty : ∀ k, k < N → parseFieldDescriptor (T k).2.2.1 = some (ty0 k)) (hnm : ∀ a, a < N → ∀ b, b < N → a ≠ b → (T a).2.1 ≠ (T b).2.1) (hk : k < N) (hlink : Jvm.Cond.fieldLink own index (T k).1 (T k).2.1 (T k).2.2.1 ∈ gtb) (hfin : (T k).2.2.2 = true) (hdecl : (T k).1 = own) (hd : parseFieldDescriptor (T k).2.2.1 = some ft) (hn : narrow ft v = v) (hfit : fits ft v = true) (hl : k < fs.length) (hdg : decode cc pc = .ok (.putfield index, 3)) (hC : CWd g A s h0 sz cells (.inr (ci, fs)) wr H locs)
    (kk : ∀ H1 locs1, CWd g A s h0 sz cells (.inr (ci, fs.set k v)) wr H1 locs1 → W p l e R s m args below meth c H1 locs1 cells slots Q (F0 m (pc + 3) ls rest)) : W p l e R s m args below meth c H locs cells slots Q (F0 m pc ls (v :: .ref h0 :: rest)) := by
  obtain ⟨h1, h2, h3, h4, h5, h6, h7, h8⟩ := hC
  obtain ⟨hx, hb, hml, hown, hts⟩ := S
  refine va_putF hx hb hts hin ty0 hty hnm hown hX.1 h5 (h7.D h2 h3 h4) h6 0 rfl hc k hk (hts _ hlink) (fun _ z => z) hfin hin2 hdecl hd hn hfit hl hdg fun H1 locs1 q1 q2 q3 => ?_
  exact kk H1 locs1 ⟨h1, h2, h3, h4, q1, q3, h7, h8⟩
theorem ci_put {ci N k index : Nat} {C : String} {T : u_T} {fs : List Value} {ft : FieldType} {v : Value} (S : CallFix p m c cc nL s args gtb own) (hX : XC g s) (hc : vwCl[ci]? = some (C, T, N)) (hin : ∀ w ∈ u_ws C T N, w ∈ gtb) (ty0 : Nat → FieldType) (hty : ∀ k, k < N → parseFieldDescriptor (T k).2.2.1 = some (ty0 k)) (hnm : ∀ a, a < N → ∀ b, b < N → a ≠ b → (T a).2.1 ≠ (T b).2.1) (hk : k < N) (hlink : Jvm.Cond.fieldLink own index (T k).1 (T k).2.1 (T k).2.2.1 ∈ gtb) (hfin : (T k).2.2.2 = false) (hd : parseFieldDescriptor (T k).2.2.1 = some ft) (hn : narrow ft v = v) (hfit : fits ft v = true) (hl : k < fs.length) (hdg : decode cc pc = .ok (.putfield index, 3)) (hC : CWd g A s h0 sz cells (.inr (ci, fs)) wr H locs)
    (kk : ∀ H1 locs1, CWd g A s h0 sz cells (.inr (ci, fs.set k v)) wr H1 locs1 → W p l e R s m args below meth c H1 locs1 cells slots Q (F0 m (pc + 3) ls rest)) : W p l e R s m args below meth c H locs cells slots Q (F0 m pc ls (v :: .ref h0 :: rest)) := by
  obtain ⟨h1, h2, h3, h4, h5, h6, h7, h8⟩ := hC
  obtain ⟨hx, hb, hml, hown, hts⟩ := S
  refine va_put hx hb hts hin ty0 hty hnm hown hX.1 h5 (h7.D h2 h3 h4) h6 0 rfl hc k hk (hts _ hlink) (fun _ z => z) hfin hd hn hfit hl hdg fun H1 locs1 q1 q2 q3 => ?_
  exact kk H1 locs1 ⟨h1, h2, h3, h4, q1, q3, h7, h8⟩
end
/-! a constructor's contract -/
def Fr (h0 sz : Nat) : Nat → Prop := fun q => q = h0 ∨ sz ≤ q
def PreI (g : Gh) (h0 sz : Nat) (e0 : va_E) : Array Value → State → Prop := va_Pc [.ref h0] (fun U => U.heap.size = sz ∧ va_P g.1 vwCl [(h0, e0)] U.heap ∧ XC g U)
def QI (g : Gh) (h0 sz : Nat) (w : va_W) : Array Value → State → Outcome → State → Prop := va_Qv (fun _ : Unit => True) (fun _ t => va_P g.1 vwCl w t.heap) (Fr h0 sz)
def rmi (d n ms : Nat) : Room := { frames := d, cells := n, slots := ms, locals := 36 * d }
def MI (l : Launch) (d : Nat) (y : MethodName) (cc : ByteArray) (nL n ms : Nat) (e0 : va_E) (eF : Gh → Nat → va_E) (tl : Gh → Nat → va_W) : Prop := ∀ (g : Gh) (h0 sz : Nat), Met l y (Jvm.Cond.code y cc nL none :: gtb) (rmi d n ms) (PreI g h0 sz e0) (QI g h0 sz ((h0, eF g sz) :: tl g sz)) n ms (Fr h0 sz)
theorem PreI.blind {g : Gh} {h0 sz : Nat} {e0 : va_E} : FrameBlind (PreI g h0 sz e0) := by
  intro a U g' mk h
  obtain ⟨q0, q1, q2, q3⟩ := h
  exact ⟨q0, q1, q2, XC.same (u := U) (U := U.calling g' mk a) rfl q3⟩
theorem MI.mk {l : Launch} {d : Nat} {y : MethodName} {cc : ByteArray} {nL n ms : Nat} {e0 : va_E} {eF : Gh → Nat → va_E} {tl : Gh → Nat → va_W} {own : String} (hy : plainName y.cls = true) (ho : y.cls = own) (hn1 : 1 ≤ nL)
    (body : ∀ (g : Gh) (h0 sz : Nat) (p : Program) (e : Env) (s : State) (m : MethodId) (args : Array Value) (below : List Frame) (meth : Method) (c : Code) (ls : Array Slot) (Q : State → Prop), CallFix p m c cc nL s args gtb own → XC g s → (y.name = "<init>" → meth.name = "<init>") → lv_has ls nL [(0, .ref h0)] → CWd g (Fr h0 sz) s h0 sz 0 e0 [] s.heap [] →
      (∀ (pc : Nat) (H : Heap) (locs : List Loc) (ls : Array Slot), decode cc pc = .ok (.return_, 1) → CWd g (Fr h0 sz) s h0 sz n (eF g sz) (tl g sz) H locs → W p l e (rmi d n ms) s m args below meth c H locs n ms Q (F0 m pc ls [])) → W p l e (rmi d n ms) s m args below meth c s.heap [] 0 0 Q (F0 m 0 ls [])) : MI l d y cc nL n ms e0 eF tl := by
  intro g h0 sz
  refine Met.ofW (cc := cc) (maxL := nL) (ret := none) hy rfl ?_
  intro p e s m args below meth c s₁ B hml hv
  obtain ⟨rfl, hz, hP, hX⟩ := hv
  have hts0 := atoms_spec (ws := Jvm.Cond.code y cc nL none :: gtb) B.pre
  have hown : s.vm.findClass own = some m.cls := ho ▸ findClass_of_methodNamed B.named
  have hlocks := B.notSynchronized
  have hh0 : h0 < sz := by
    have := (hP 0 _ rfl).lt
    rw [hz] at this
    exact this
  have hl := lv_entry ([.ref h0]) (n := nL) hn1
  rw [lg_entry_eq]
  generalize (lg_sl ([.ref h0]) ++ List.replicate (nL - (lg_sl ([.ref h0])).length) Slot.unset).toArray = ls at hl ⊢
  have hl : lv_has ls nL [(0, .ref h0)] := hl
  refine body g h0 sz p e s m _ below meth c ls _ ⟨B.exec, B.bytes, hml, hown, fun w hw => hts0 w (List.mem_cons_of_mem _ hw)⟩ hX (fun h => ?_) hl ⟨hz, hh0, Or.inl rfl, fun q h => Or.inr h, hP, va_S.rf, CQ.nil _, rfl⟩ (fun pc H locs ls hd hC => ?_)
  · rw [(name_of_methodNamed B.named B.method).1]; exact h
  · obtain ⟨h1, h2, h3, h4, h5, h6, h7, h8⟩ := hC
    exact W.vret B.exec B.bytes B.returns (fun t ht hW => ⟨⟨(), rfl, trivial, by show va_P g.1 vwCl _ t.heap; rw [ht]; exact h5⟩, h6.F ht⟩) h6.2.2 hd
section
variable {p : Program} {l : Launch} {e : Env} {R : Room} {s : State} {m : MethodId} {args : Array Value} {below : List Frame} {meth : Method} {c : Code} {H : Heap} {locs : List Loc} {cells slots : Nat} {Q : State → Prop}
variable {cc : ByteArray} {pc nL : Nat} {ls : Array Slot} {rest : List Value} {A : Nat → Prop} {g : Gh} {own : String} {h0 sz : Nat} {e0 : va_E} {wr : va_W}
/-- 'new C()' of a nest mate -/
theorem ci_obj {ci N i1 i2 d' nL' n' ms' : Nat} {C : String} {T : u_T} {fs : List Value} {y : MethodName} {cc' : ByteArray} {eF : Gh → Nat → va_E} {tl : Gh → Nat → va_W} (S : CallFix p m c cc nL s args gtb own) (hX : XC g s) (hM : MI l d' y cc' nL' n' ms' (.inr (ci, fs)) eF tl) (hc : vwCl[ci]? = some (C, T, N)) (hin : ∀ w ∈ u_ws C T N, w ∈ gtb) (ty : Nat → FieldType) (hty : ∀ k, k < N → parseFieldDescriptor (T k).2.2.1 = some (ty k)) (hfs : ∀ j, j < N → defaultValue (ty j) = vp_V fs j)
    (w1 : Jvm.Cond.classLink own i1 C ∈ gtb) (w2 : Jvm.Cond.instantiable C N ∈ gtb) (w3 : Jvm.Cond.initialized C ∈ gtb) (w4 : Jvm.Cond.initialized y.cls ∈ gtb) (w5 : Jvm.Cond.code y cc' nL' none ∈ gtb) (w6 : Jvm.Cond.instanceMethod y ∈ gtb) (hnest : (own, i2, y) ∈ ncL) (hyn : y.name = "<init>") (hyd : y.cls ≠ "java/lang/invoke/MethodHandle" ∧ y.cls ≠ "java/lang/invoke/VarHandle" ∧ (parseMethodDescriptor y.desc).map (fun d => d.parameters.length) = some 0)
    (hR : d' + 1 ≤ R.frames ∧ 8 + (nL' + 11) + 36 * d' ≤ R.locals) (htl : ∀ z, CQ z (tl g z) ∧ (tl g z).length = n') (hcells : cells + (1 + n') ≤ R.cells) (hslots : slots + (N + ms') ≤ R.slots) (hls : ls.size = nL) (hwd : (rest.map fun v => v.category).sum ≤ 7)
    (d0 : decode cc pc = .ok (.new i1, 3)) (d1 : decode cc (pc + 3) = .ok (.dup, 1)) (d2 : decode cc (pc + 4) = .ok (.invokespecial i2, 3)) (hC : CWd g A s h0 sz cells e0 wr H locs)
    (kk : ∀ H1 locs1, CWd g A s h0 sz (cells + (1 + n')) e0 (wr ++ ((sz + cells, eF g (sz + cells + 1)) :: tl g (sz + cells + 1))) H1 locs1 → W p l e R s m args below meth c H1 locs1 (cells + (1 + n')) (slots + (N + ms')) Q (F0 m (pc + 7) ls (.ref (sz + cells) :: rest))) : W p l e R s m args below meth c H locs cells slots Q (F0 m pc ls rest) := by
  refine ci_sz hC fun hz => ?_
  have S' := S
  obtain ⟨hx, hb, hml, hown, hts⟩ := S'
  have hKn := hX.1.1 ci _ hc
  refine W.newcK hx hb hown (hts _ w1) (hts _ w2) (hts _ w3) rfl d0 (by omega) (by omega) hKn.2.1 hz fun H1 kC hkC e1 z1 o1 => ?_
  show W p l e R s m args below meth c H1 locs (cells + 1) (slots + N) Q (F0 m (pc + 3) ls (.ref (sz + cells) :: rest))
  refine lv_dup hx hb d1 rfl ?_
  rw [← hz] at o1
  have hcell : va_P g.1 vwCl [(sz + cells, .inr (ci, fs))] H1 := one_P ⟨_, hc, (u_born ty hts hin hKn hkC e1 hty).to hfs⟩
  have hS1 : va_S A s.heap H1 locs := ⟨Nat.le_trans hC.2.2.2.2.2.1.1 (by omega), fun q a b => (o1 q (Nat.lt_of_lt_of_le a hC.2.2.2.2.2.1.1)).trans (hC.2.2.2.2.2.1.2.1 q a b), hC.2.2.2.2.2.1.2.2⟩
  have hGI : GoodIn gtb (Jvm.Cond.code y cc' nL' none :: gtb) := by
    intro w hw
    rcases List.mem_cons.mp hw with rfl | h
    · exact gtb_good _ w5
    · exact gtb_good _ h
  have hfr : ∀ q, Fr (sz + cells) (sz + cells + 1) q → A q := fun q hq => hC.2.2.2.1 q (by unfold Fr at hq; omega)
  have hrun := va_runIN (l := l) (e := e) (R := R) (below := below) (meth := meth) (locs := locs) (cells := cells + 1) (slots := slots + N) (As := []) (rest := .ref (sz + cells) :: rest) (b := sz + cells) (g := F0 m (pc + 4) ls (.ref (sz + cells) :: .ref (sz + cells) :: rest)) (H := H1) S (hM g (sz + cells) (sz + cells + 1)) ⟨va_cnB 0 hts hGI rfl rfl rfl (hX.2.2.1 _ hnest) (hts _ w4) hyd ⟨hR.1, hR.2⟩, hyn, hts _ w6⟩ ⟨PreI.blind, fun U hU hW => ⟨rfl, by rw [hU]; exact z1, by rw [hU]; exact hcell, XC.warm hW hX⟩⟩ rfl rfl hls rfl (lv_room (by rw [List.map_cons, List.sum_cons]; show 1 + _ ≤ 8; omega)) d2 ⟨by show cells + 1 + n' ≤ R.cells; omega, by show slots + N + ms' ≤ R.slots; omega⟩
  refine va_callv hrun hS1 (fun q _ h => hfr q h) hfr (fun u t H2 locs2 ht hvm hp hB hz2 hk2 hS2 => ?_)
  rw [ht] at hB
  have hg : CWd g A s h0 sz (cells + (1 + n')) e0 (wr ++ ((sz + cells, eF g (sz + cells + 1)) :: tl g (sz + cells + 1))) H2 locs2 := by
    obtain ⟨h1, h2, h3, h4, h5, h6, h7, h8⟩ := hC
    obtain ⟨t1, t2⟩ := htl (sz + cells + 1)
    refine ⟨h1, h2, h3, h4, ?_, hS2, h7.app (by rw [h8]; exact CQ.cons t1), by rw [List.length_append, h8, List.length_cons, t2]; omega⟩
    show va_P g.1 vwCl (((h0, e0) :: wr) ++ _) H2
    refine (h5.kept (fun k x hx => ?_)).app hB
    have hlt := (h5 k x hx).lt
    rw [hk2 x.1 (by omega) (by unfold Fr; omega)]
    exact o1 x.1 hlt
  have := kk H2 locs2 hg
  rw [show cells + 1 + n' = cells + (1 + n') by omega, show slots + N + ms' = slots + (N + ms') by omega]
  exact this
end
