/-! rows of rows, made in one step: a row of my own for 'multianewarray' with two counts -/
/-- the state when i rows stand -/
def mxS (T : State) (cA cI : ClassId) (N M : Nat) : Nat → State
  | 0 => T.pushCell (arrV cA N (fun _ => .null))
  | i + 1 => ((mxS T cA cI N M i).pushCell (arrV cI M (fun _ => .int 0))).setCell T.heap.size (arrV cA N (fun j => if j < i + 1 then .ref (T.heap.size + 1 + j) else .null))
theorem mx_size (T : State) (cA cI : ClassId) (N M : Nat) : ∀ i, (mxS T cA cI N M i).heap.size = T.heap.size + 1 + i
  | 0 => by simp [mxS]
  | i + 1 => by
    have := mx_size T cA cI N M i
    simp [mxS, State.setCell, this]
    omega
theorem mx_vm (T : State) (cA cI : ClassId) (N M : Nat) : ∀ i, (mxS T cA cI N M i).vm = T.vm
  | 0 => rfl
  | i + 1 => by
    have := mx_vm T cA cI N M i
    simp [mxS, this]
theorem mx_old (T : State) (cA cI : ClassId) (N M : Nat) {q : Nat} (hq : q < T.heap.size) : ∀ i, (mxS T cA cI N M i).heap[q]? = T.heap[q]?
  | 0 => State.heap_pushCell_of_lt _ _ hq
  | i + 1 => by
    have hs := mx_size T cA cI N M i
    have hlt : q < (mxS T cA cI N M i).heap.size := by omega
    show (((mxS T cA cI N M i).pushCell _).setCell T.heap.size _).heap[q]? = _
    rw [State.heap_setCell_other (Nat.ne_of_gt hq), State.heap_pushCell_of_lt (h := hlt)]
    exact mx_old T cA cI N M hq i
theorem mx_out (T : State) (cA cI : ClassId) (N M : Nat) : ∀ i, (mxS T cA cI N M i).heap[T.heap.size]? = some (arrV cA N (fun j => if j < i then .ref (T.heap.size + 1 + j) else .null))
  | 0 => by
    show (T.pushCell _).heap[T.heap.size]? = _
    rw [State.heap_pushCell_size]
    rfl
  | i + 1 => by
    have hs := mx_size T cA cI N M i
    have hlt : T.heap.size < (mxS T cA cI N M i).heap.size := by omega
    have h : ((mxS T cA cI N M i).pushCell (arrV cI M (fun _ => .int 0))).heap[T.heap.size]? = some (arrV cA N (fun j => if j < i then .ref (T.heap.size + 1 + j) else .null)) := by
      rw [State.heap_pushCell_of_lt (h := hlt)]
      exact mx_out T cA cI N M i
    exact State.heap_setCell_self h
theorem mx_in (T : State) (cA cI : ClassId) (N M : Nat) : ∀ i j, j < i → (mxS T cA cI N M i).heap[T.heap.size + 1 + j]? = some (arrV cI M (fun _ => .int 0))
  | 0, j, h => absurd h (Nat.not_lt_zero _)
  | i + 1, j, h => by
    have hs := mx_size T cA cI N M i
    show (((mxS T cA cI N M i).pushCell _).setCell T.heap.size _).heap[T.heap.size + 1 + j]? = _
    rw [State.heap_setCell_other (show T.heap.size ≠ T.heap.size + 1 + j by omega)]
    by_cases e : j = i
    · subst e
      rw [← hs]
      exact State.heap_pushCell_size _ _
    · have hlt : T.heap.size + 1 + j < (mxS T cA cI N M i).heap.size := by omega
      rw [State.heap_pushCell_of_lt (h := hlt)]
      exact mx_in T cA cI N M i j (by omega)
theorem mx_top (T : State) (f : JFrame) (cA cI : ClassId) (N M : Nat) : ∀ i, mxS (T.setTop f) cA cI N M i = (mxS T cA cI N M i).setTop f
  | 0 => rfl
  | i + 1 => by simp only [mxS, mx_top T f cA cI N M i, State.heap_setTop, State.pushCell_setTop, State.setCell_setTop]
theorem mx_set (cA : ClassId) (N h i : Nat) : (arrV cA N (fun j => if j < i then .ref (h + 1 + j) else .null)).setSlot i (.ref (h + 1 + i)) = arrV cA N (fun j => if j < i + 1 then .ref (h + 1 + j) else .null) := by
  rw [arrV_store]
  congr 1
  funext j
  unfold updV
  by_cases e : j = i
  · subst e; simp
  · by_cases z : j < i
    · simp [e, z, show j < i + 1 by omega]
    · simp [e, z, show ¬ j < i + 1 by omega]
section
variable {E : CtlPost} {e : Env} {d : Bool} {acts : List Action} {S : State}
theorem mx_wpA {cA comp : ClassId} {k : Class} {ty : FieldType} {N : Nat} {v : Value} (hk : S.vm.classes[cA]? = some k) (hkd : k.kind = .array comp ty) (h1 : ¬ N > e.platform.arrayLengthLimit) (h2 : ¬ N * componentBytes ty > e.platform.maxHeapBytes) (hf : fits ty v = true) (h3 : S.heap.size < e.platform.maxCells) (h4 : S.slotsUsed + N ≤ e.platform.maxSlots) {Q : Addr → Pre}
    (hq : ∀ acts', Q S.heap.size d acts' (S.pushCell (arrV cA N (fun _ => v)))) : wp (Jvm.newArray cA N v) Q E e d acts S := by
  have hfs : ∀ i x, (Array.replicate N v)[i]? = some x → S.fitsSlot cA .none i x = true := by
    intro i x hx
    rw [Array.getElem?_replicate] at hx
    split at hx
    · cases hx
      simp [State.fitsSlot, State.slotType?, hk, hkd, hf]
    · cases hx
  simp only [← arrV_new] at hq
  have h5 : ¬ N > e.platform.maxSlots := by omega
  simp only [Jvm.newArray, Jvm.arrayFits, wp_bind', W.ask, W.ite, wp_pure', W.theClass, W.alloc, W.stop, hk, hkd, Option.some.injEq, exists_eq_left', Array.size_replicate, if_neg h1, if_neg h2, if_neg h5]
  exact ⟨h3, h4, hfs, hq _⟩
theorem mx_wp1 {cI comp : ClassId} {k : Class} {m : Int32} {M : Nat} (hM : m.toNatClampNeg = M) (hm : ¬ m < 0) (hk : S.vm.classes[cI]? = some k) (hkd : k.kind = .array comp .int) (h1 : ¬ M > e.platform.arrayLengthLimit) (h2 : ¬ M * 4 > e.platform.maxHeapBytes) (h3 : S.heap.size < e.platform.maxCells) (h4 : S.slotsUsed + M ≤ e.platform.maxSlots) {Q : Addr → Pre}
    (hq : ∀ acts', Q S.heap.size d acts' (S.pushCell (arrV cI M (fun _ => .int 0)))) : wp (multianewarray.make cI [m]) Q E e d acts S := by
  subst hM
  rw [multianewarray.make]
  simp only [wp_bind', W.ite, if_neg hm, wp_pure', W.theClass, hk, hkd, Option.some.injEq, exists_eq_left']
  exact mx_wpA hk hkd h1 h2 rfl h3 h4 hq
/-- the rows, one behind another -/
theorem mx_wp2 {cA cI comp : ClassId} {kA kI : Class} {n m : Int32} {N M : Nat} (hN : n.toNatClampNeg = N) (hM : m.toNatClampNeg = M) (hn : ¬ n < 0) (hm : ¬ m < 0) (hkA : S.vm.classes[cA]? = some kA) (hdA : kA.kind = .array cI (.array .int)) (hkI : S.vm.classes[cI]? = some kI) (hdI : kI.kind = .array comp .int)
    (h1 : ¬ N > e.platform.arrayLengthLimit) (h2 : ¬ N * 4 > e.platform.maxHeapBytes) (h3 : ¬ M > e.platform.arrayLengthLimit) (h4 : ¬ M * 4 > e.platform.maxHeapBytes) (h5 : S.heap.size < e.platform.maxCells) (h6 : S.slotsUsed + N ≤ e.platform.maxSlots)
    (hroom : ∀ i, i < N → (mxS S cA cI N M i).heap.size < e.platform.maxCells ∧ (mxS S cA cI N M i).slotsUsed + M ≤ e.platform.maxSlots) {Q : Addr → Pre} (hq : ∀ d' acts', Q S.heap.size d' acts' (mxS S cA cI N M N)) : wp (multianewarray.make cA [n, m]) Q E e d acts S := by
  have hfi : ([m].find? (· < 0)) = none := by simp [hm]
  rw [multianewarray.make]
  simp only [wp_bind', W.ite, if_neg hn, wp_pure', W.theClass, hkA, hdA, Option.some.injEq, exists_eq_left', hN]
  refine mx_wpA hkA hdA h1 h2 rfl h5 h6 (fun acts' => ?_)
  simp only [hfi]
  rw [ite_self, wp_bind', Std.Legacy.Range.forIn_eq_forIn_range']
  have hz : ([:N] : Std.Legacy.Range).size = N := by simp [Std.Legacy.Range.size]
  rw [hz]
  show wp (forIn (List.range' 0 N 1) PUnit.unit _) _ E e d acts' _
  refine wp_forIn_inv (fun rest U => ∃ i, i + rest.length = N ∧ rest = List.range' i rest.length ∧ U = mxS S cA cI N M i) _ _ ⟨0, by simp, by simp, rfl⟩ ?_ ?_
  · rintro x rest U d' acts'' Q' ⟨i, hi, hr, rfl⟩ hnext
    rw [List.length_cons, List.range'_succ] at hr
    obtain ⟨rfl, hr2⟩ := List.cons.inj hr
    rw [List.length_cons] at hi
    have hlt : x < N := by omega
    obtain ⟨r1, r2⟩ := hroom x hlt
    have hs := mx_size S cA cI N M x
    have hvm := mx_vm S cA cI N M x
    simp only [wp_bind']
    refine mx_wp1 hM hm (by rw [hvm]; exact hkI) hdI h3 h4 r1 r2 (fun acts3 => ?_)
    have hl0 : S.heap.size < (mxS S cA cI N M x).heap.size := by omega
    simp only [wp_bind', W.writeLoc, wp_pure']
    refine ⟨_, by rw [State.heap_pushCell_of_lt (h := hl0)]; exact mx_out S cA cI N M x, by simp [arrV], by rw [arrV_size]; exact hlt, ?_, hnext _ _ _ ⟨x + 1, by omega, hr2, ?_⟩⟩
    · simp [arrV, State.fitsSlot, State.slotType?, hvm, hkA, hdA, fits]
    · rw [hs, mx_set]
      rfl
  · rintro U d' acts'' ⟨i, hi, -, rfl⟩
    rw [List.length_nil, Nat.add_zero] at hi
    subst hi
    simp only [wp_pure']
    exact hq _ _
end
section
variable {p : Program} {l : Launch} {e : Env} {R : Room} {s : State} {m : MethodId} {args : Array Value} {below : List Frame} {meth : Method} {c : Code} {H : Heap} {locs : List Loc} {cells slots : Nat} {Q : State → Prop}
theorem mx_stand {T : State} (X : Stand p l e R s m args below meth c T locs cells slots) (cA cI : ClassId) (N M : Nat) : ∀ i, ∃ L : List Loc, (∀ q ∈ L, q ∈ locs ∨ q.base = T.heap.size) ∧ Stand p l e R s m args below meth c (mxS T cA cI N M i) L (cells + (1 + i)) (slots + (N + i * M))
  | 0 => by
    have h := X.pushed (arrV cA N (fun _ => .null))
    rw [arrV_size] at h
    exact ⟨locs, fun q hq => Or.inl hq, by simpa [mxS] using h⟩
  | i + 1 => by
    obtain ⟨L, hL, Xi⟩ := mx_stand X cA cI N M i
    have hs := mx_size T cA cI N M i
    have hl0 : T.heap.size < (mxS T cA cI N M i).heap.size := by omega
    have hcell : ((mxS T cA cI N M i).pushCell (arrV cI M (fun _ => .int 0))).heap[T.heap.size]? = some (arrV cA N (fun j => if j < i then .ref (T.heap.size + 1 + j) else .null)) := by
      rw [State.heap_pushCell_of_lt (h := hl0)]
      exact mx_out T cA cI N M i
    have h := (Xi.pushed (arrV cI M (fun _ => .int 0))).stored hcell i (.ref (T.heap.size + 1 + i))
    rw [arrV_size, mx_set] at h
    refine ⟨L ++ [⟨T.heap.size, i⟩], fun q hq => ?_, ?_⟩
    · rcases List.mem_append.mp hq with z | z
      · exact hL q z
      · rw [List.mem_singleton] at z
        exact Or.inr (by rw [z])
    · rw [show cells + (1 + (i + 1)) = cells + (1 + i) + 1 by omega, show slots + (N + (i + 1) * M) = slots + (N + i * M) + M by rw [Nat.succ_mul]; omega]
      exact h
theorem mx_new {cc : ByteArray} (hexec : p.tables.exec = Jvm.exec) (hb : c.code = cc) {own : String} {index : Nat} (hown : s.vm.findClass own = some m.cls) (hcl : (Cond.classLink own index "[[I").before args s = true) {cA cI c0 : ClassId} {kA kI : Class} (hAn : s.vm.findClass "[[I" = some cA) (hkA : s.vm.classes[cA]? = some kA) (hdA : kA.kind = .array cI (.array .int)) (hkI : s.vm.classes[cI]? = some kI) (hdI : kI.kind = .array c0 .int)
    {pc : Nat} {ls : Array Slot} {rest : List Value} {n k : Int32} {N M : Nat} (hn : ¬ n < 0) (hk : ¬ k < 0) (hN : n.toNatClampNeg = N) (hM : k.toNatClampNeg = M) (hN1 : N ≤ 1000) (hM1 : M ≤ 1000) (hcells : cells + (1 + N) ≤ R.cells) (hslots : slots + (N + N * M) ≤ R.slots) (hdg : decode cc pc = .ok (.multianewarray index 2, 4))
    (kk : ∀ (H1 : Heap) (locs1 : List Loc), (∀ q ∈ locs1, q ∈ locs ∨ q.base = H.size) → H1.size = H.size + 1 + N → (∀ q : Nat, q < H.size → H1[q]? = H[q]?) → H1[H.size]? = some (arrV cA N (fun j => if j < N then .ref (H.size + 1 + j) else .null)) → (∀ j, j < N → H1[H.size + 1 + j]? = some (arrV cI M (fun _ => .int 0))) → W p l e R s m args below meth c H1 locs1 (cells + (1 + N)) (slots + (N + N * M)) Q (F0 m (pc + 4) ls (.ref H.size :: rest))) : W p l e R s m args below meth c H locs cells slots Q (F0 m pc ls (.int k :: .int n :: rest)) := by
  intro T hT X
  subst hT
  subst hb
  have hpl : e.platform.magicAccessors = ({} : Platform).magicAccessors := by rw [X.admits.platform]
  obtain ⟨c2, hf2, hres⟩ := Cond.classLink_spec hown hcl e.platform hpl
  have ec2 : c2 = cA := Option.some.inj (hf2.symm.trans hAn)
  subst ec2
  obtain ⟨hgv, hwarm, hrdy⟩ := State.classEntry (e := e) X.warmed hres
  generalize T.vm.noted m.cls index (.cls c2) = vm1 at hgv hwarm hrdy
  obtain ⟨kA1, hkA1, heA⟩ := hwarm.alike.2.2 _ _ hkA
  obtain ⟨kI1, hkI1, heI⟩ := hwarm.alike.2.2 _ _ hkI
  have hdA1 : kA1.kind = .array cI (.array .int) := by rw [heA]; exact hdA
  have hdI1 : kI1.kind = .array c0 .int := by rw [heI]; exact hdI
  have X1 := X.noted hwarm
  obtain ⟨L, hL, XN⟩ := mx_stand X1 c2 cI N M N
  obtain ⟨t, a1, b1⟩ := kk (mxS (T.setVm vm1) c2 cI N M N).heap L hL (mx_size _ _ _ _ _ _) (fun q hq => mx_old (T.setVm vm1) _ _ _ _ hq _) (mx_out (T.setVm vm1) _ _ _ _ _) (fun j hj => mx_in (T.setVm vm1) _ _ _ _ _ j hj) _ rfl XN
  refine ⟨t, ?_, b1⟩
  have h1 : ¬ N > e.platform.arrayLengthLimit := by rw [Launch.admits_arrayLengthLimit X.admits]; omega
  have h2 : ¬ N * 4 > e.platform.maxHeapBytes := by rw [Launch.admits_maxHeapBytes X.admits]; omega
  have h3 : ¬ M > e.platform.arrayLengthLimit := by rw [Launch.admits_arrayLengthLimit X.admits]; omega
  have h4 : ¬ M * 4 > e.platform.maxHeapBytes := by rw [Launch.admits_maxHeapBytes X.admits]; omega
  obtain ⟨r1, r2⟩ := X1.roomAbove (a := 1) (b := N) (by omega) (by omega)
  have hroom : ∀ i, i < N → (mxS (T.setVm vm1) c2 cI N M i).heap.size < e.platform.maxCells ∧ (mxS (T.setVm vm1) c2 cI N M i).slotsUsed + M ≤ e.platform.maxSlots := by
    intro i hi
    obtain ⟨L2, -, Xi⟩ := mx_stand X1 c2 cI N M i
    have hmul : i * M + M ≤ N * M := by
      have := Nat.mul_le_mul_right M (show i + 1 ≤ N from hi)
      rw [Nat.succ_mul] at this
      exact this
    obtain ⟨q1, q2⟩ := Xi.roomAbove (a := 1) (b := M) (by omega) (by omega)
    exact ⟨by omega, q2⟩
  jvm_step X.here [hexec, hdg]
  simp only [multianewarray.sem, wp_bind', W.resolveClassAt_links (t := T.setTop (F0 m pc ls (.int k :: .int n :: rest))) (vm' := vm1) (State.method?_setTop (F0 m pc ls (.int k :: .int n :: rest)) X.here.top) hgv]
  rw [W.popN, if_neg (by decide)]
  refine ⟨F0 m pc ls (.int k :: .int n :: rest), State.topJava?_setTop' (s := T.setVm vm1) _ X.here.top, [.int n, .int k], rest, rfl, rfl, ?_⟩
  simp only [List.mapM_cons, List.mapM_nil, wp_bind', wp_pure']
  have eS : ∀ f f' : JFrame, ((T.setTop f).setVm vm1).setTop f' = (T.setVm vm1).setTop f' := fun f f' => by
    show ((T.setVm vm1).setTop f).setTop f' = _
    rw [State.setTop_setTop]
  rw [eS]
  refine mx_wp2 (S := (T.setVm vm1).setTop (F0 m pc ls rest)) hN hM hn hk hkA1 hdA1 hkI1 hdI1 h1 h2 h3 h4 (show (T.setVm vm1).heap.size < _ by omega) (show (T.setVm vm1).slotsUsed + N ≤ _ by omega) (fun i hi => by rw [mx_top]; exact hroom i hi) (fun d' acts' => ?_)
  rw [mx_top]
  simp only [wp_bind', W.mark, W.pushRef, State.topJava?_setTop' _ XN.here.top, Option.some.injEq, exists_eq_left', State.setTop_setTop, State.heap_setTop]
  intro acts
  simp [jvm, XN.here.top]
  exact a1
end
theorem arrV_cg (c : ClassId) {N : Nat} {f f' : Nat → Value} (h : ∀ j, j < N → f j = f' j) : arrV c N f = arrV c N f' := by
  unfold arrV
  congr 2
  funext j
  exact h j.1 j.2
