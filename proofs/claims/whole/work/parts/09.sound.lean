/-! EACH STEP over the machine -/
theorem lvl {ad : Nat → Nat} {ls : Array Slot} {nL : Nat} {L : List (Option AV)} (hv : lv_has ls nL (lvs ad L)) {i : Nat} {v : AV} (h : lg L i = some v) : ls[i]? = some (.val (cv ad v)) := hv.2.2 (i, cv ad v) (lvs_mem.mpr ⟨v, h, rfl⟩)
theorem ln_lt (k : Nat) : ln k < 2147483648 := by
  by_cases h : k < 79
  · have : ∀ k, k < 79 → ln k < 2147483648 := by decide +kernel
    exact this k h
  · unfold ln
    rw [List.getD_eq_getElem?_getD, List.getElem?_eq_none (by show 79 ≤ k; omega)]
    simp
theorem kd13 {k : Nat} (h : kd k = 13) : k = 100 ∨ k = 101 := by
  unfold kd at h
  by_cases q : k < 79
  · rw [if_pos q] at h
    have : ∀ k, k < 79 → kdL.getD k 99 ≠ 13 := by decide +kernel
    exact absurd h (this k q)
  · rw [if_neg q] at h
    split at h
    · assumption
    · cases h
theorem pic_obj (g : Gh) (μ : Mem) {k ci : Nat} (h : kd k = ci) (h7 : ci < 7) : pic g μ k = .inr (ci, flds g.2.2 μ k 0 (fsp ci)) := by
  unfold pic
  rw [h, if_pos h7]
theorem pic_7 (g : Gh) (μ : Mem) {k : Nat} (h : kd k = 7) : pic g μ k = .inl (g.2.1 0, ln k, .inl (iarr μ k)) := by simp [pic, h]
theorem pic_8 (g : Gh) (μ : Mem) {k : Nat} (h : kd k = 8) : pic g μ k = .inl (g.2.1 1, ln k, .inl (iarr μ k)) := by simp [pic, h]
theorem pic_9 (g : Gh) (μ : Mem) {k : Nat} (h : kd k = 9) : pic g μ k = .inl (g.2.1 2, ln k, .inl (iarr μ k)) := by simp [pic, h]
theorem pic_10 (g : Gh) (μ : Mem) {k : Nat} (h : kd k = 10) : pic g μ k = .inl (g.2.1 3, ln k, .inr (.inr (.inr (.inr (rarr g.2.2 μ k))))) := by simp [pic, h]
theorem pic_11 (g : Gh) (μ : Mem) {k : Nat} (h : kd k = 11) : pic g μ k = .inl (g.2.1 4, ln k, .inr (.inr (.inr (.inr (rarr g.2.2 μ k))))) := by simp [pic, h]
theorem pic_12 (g : Gh) (μ : Mem) {k : Nat} (h : kd k = 12 ∨ kd k = 15) : pic g μ k = .inl (g.2.1 5, ln k, .inr (.inr (.inr (.inr (rarr g.2.2 μ k))))) := by
  rcases h with h | h <;> simp [pic, h]
theorem spl_ok : ∀ (n : Nat) (stk acc a r : List AV), spl n stk acc = some (a, r) → acc.reverse ++ stk = a.reverse ++ r ∧ a.length = acc.length + n
  | 0, stk, acc, a, r, h => by
    simp only [spl, Option.some.injEq, Prod.mk.injEq] at h
    obtain ⟨rfl, rfl⟩ := h
    exact ⟨rfl, by omega⟩
  | n + 1, [], acc, a, r, h => by simp [spl] at h
  | n + 1, v :: s, acc, a, r, h => by
    simp only [spl] at h
    obtain ⟨h1, h2⟩ := spl_ok n s (v :: acc) a r h
    refine ⟨?_, by simp at h2; omega⟩
    rw [← h1]
    simp
theorem swT_ok {go : Int → Prop} {x : Int} : ∀ (os : List Int) (lo : Int), swT go x lo os → ∀ (i : Nat) (o : Int), os[i]? = some o → x = lo + i → go o
  | [], lo, _, i, o, h, _ => by simp at h
  | q :: r, lo, hs, 0, o, h, e => by
    simp at h
    subst h
    exact hs.1 (by omega)
  | q :: r, lo, hs, i + 1, o, h, e => by
    rw [List.getElem?_cons_succ] at h
    exact swT_ok r (lo + 1) hs.2 i o h (by omega)
theorem swL_ok {go : Int → Prop} {d x : Int} : ∀ (ps : List (Int × Int)), swL go d x ps → go (Op.lookupswitch.offset ps d x)
  | [], h => h
  | (a, o) :: r, h => by
    rw [Op.lookupswitch.offset_cons]
    by_cases e : a = x
    · rw [if_pos e]; exact h.1 e.symm
    · rw [if_neg e]; exact swL_ok r (h.2 (fun z => e z.symm))
theorem sw_in {ps : List (Int × Int)} {d x : Int} {P : Int → Prop} (hd : P d) (h : ∀ q ∈ ps, P q.2) : P (Op.lookupswitch.offset ps d x) := by
  induction ps with
  | nil => exact hd
  | cons q r ih =>
    obtain ⟨a, o⟩ := q
    rw [Op.lookupswitch.offset_cons]
    by_cases e : a = x
    · rw [if_pos e]; exact h (a, o) List.mem_cons_self
    · rw [if_neg e]; exact ih (fun q hq => h q (List.mem_cons_of_mem _ hq))
theorem tg_ok {pc : Nat} {off : Int} (h : 0 ≤ (pc : Int) + off) : (pc : Int) + off = ((tg pc off : Nat) : Int) := (Int.toNat_of_nonneg h).symm
theorem c1_ok {ad : Nat → Nat} {v : AV} (h : c1 v) : (cv ad v).category = 1 := by
  rcases v with x | x | k
  · rfl
  · exact h.elim
  · rfl
theorem wd_ok (ad : Nat → Nat) : ∀ (r : List AV), ((r.map (cv ad)).map fun v => v.category).sum = wd r
  | [] => rfl
  | .inl x :: r => by rw [List.map_cons, List.map_cons, List.sum_cons, wd_ok ad r]; rfl
  | .inr (.inl x) :: r => by rw [List.map_cons, List.map_cons, List.sum_cons, wd_ok ad r]; rfl
  | .inr (.inr x) :: r => by rw [List.map_cons, List.map_cons, List.sum_cons, wd_ok ad r]; rfl
section
variable {p : Program} {l : Launch} {e : Env} {R : Room} {s : State} {m : MethodId} {args : Array Value} {below : List Frame} {meth : Method} {c : Code} {H : Heap} {locs : List Loc} {cells slots : Nat} {Q : State → Prop}
variable {cc : ByteArray} {pc : Nat} {ls : Array Slot} {rest : List Value} {D : va_G} {cl : List vw_C} {A : Nat → Prop} {a : Nat} {tys : List (ClassId × FieldType)} {ws : va_W} {H0 : Heap}
theorem va_aldA (hexec : p.tables.exec = Jvm.exec) (hb : c.code = cc) (hK : va_K D cl tys s) (hP : va_P D cl ws H) (q0 t0 : Nat) {cA : ClassId} {n : Nat} {f : Nat → Option Nat} (ha : ws[q0]? = some (a, .inl (cA, n, .inr (.inr (.inr (.inr f)))))) (ht : tys[t0]? = some (cA, .array .int)) {i : Int32} (hin : vp_in i n) (hdg : decode cc pc = .ok (.aaload, 1))
    (kk : W p l e R s m args below meth c H locs cells slots Q (F0 m (pc + 1) ls (va_rf (f i.toNatClampNeg) :: rest))) : W p l e R s m args below meth c H locs cells slots Q (F0 m pc ls (.int i :: .ref a :: rest)) := by
  have hlt : i.toNatClampNeg < n := Nat.not_le.mp fun q => hin (Or.inr q)
  exact W.aald (v := va_rf (f i.toNatClampNeg)) (ty := .array .int) hexec hb (hP q0 _ ha) ((hK.2 t0 _ ht).1 n (fun j => va_rf (f j))) rfl (fun q => by cases q) (by show ¬ (i < 0 ∨ (arrV _ _ _).slots.size ≤ _); rw [arrV_size]; exact hin) (by show (arrV _ _ _).slots[_]? = _; rw [arrV_read _ _ hlt]) rfl rfl hdg kk
theorem va_asgA (vm : Vm) (x : ClassId) : vm.assignable x x = true := by
  have h : ∀ n, vm.assignableAux (n + 1) x x = true := fun n => by simp only [Vm.assignableAux, beq_self_eq_true, Bool.true_or]
  exact h 255
theorem va_astA {g : Gh} (hI : II g s) (hexec : p.tables.exec = Jvm.exec) (hb : c.code = cc) (hP : va_P D cl ws H) (hD : va_D A ws) (hS : va_S A H0 H locs) (q0 qk : Nat) {n v n2 : Nat} {f2 : Nat → Int32} {f : Nat → Option Nat} (ha : ws[q0]? = some (a, .inl (g.2.1 5, n, .inr (.inr (.inr (.inr f)))))) (hv : ws[qk]? = some (v, .inl (g.2.1 0, n2, .inl f2))) {i : Int32} (hin : vp_in i n) (hdg : decode cc pc = .ok (.aastore, 1))
    (kk : ∀ (H1 : Heap) (locs1 : List Loc), va_P D cl (ws.set q0 (a, .inl (g.2.1 5, n, .inr (.inr (.inr (.inr (va_up f i.toNatClampNeg (some v)))))))) H1 → va_D A (ws.set q0 (a, .inl (g.2.1 5, n, .inr (.inr (.inr (.inr (va_up f i.toNatClampNeg (some v)))))))) → va_S A H0 H1 locs1 → W p l e R s m args below meth c H1 locs1 cells slots Q (F0 m (pc + 1) ls rest)) : W p l e R s m args below meth c H locs cells slots Q (F0 m pc ls (.ref v :: .int i :: .ref a :: rest)) := by
  have hlt : i.toNatClampNeg < n := Nat.not_le.mp fun q => hin (Or.inr q)
  have h0 : ¬ i < 0 := fun q => hin (Or.inl q)
  obtain ⟨kA, kI, comp, k1, k2, k3, k4⟩ := hI
  have hvc := hP qk _ hv
  refine W.aast hexec hb (hP q0 _ ha) (fun q h => by cases h) (fun h => by cases h) k1 k2 rfl k3 ⟨h0, by show _ < (arrV _ _ _).slots.size; rw [arrV_size]; exact hlt⟩ hvc (fun q h => by cases h) k3 (va_asgA _ _) rfl rfl hdg fun H1 e z oq => ?_
  refine kk H1 _ (hP.set hD ha ?_ oq) (hD.set ha) (hS.put z oq (hD.2 q0 _ ha))
  show H1[a]? = some (vp_cell _ _)
  rw [e]
  rw [vp_cell_q, vp_cell_q, arrV_store]
  congr 2
  funext q
  by_cases hq : q = i.toNatClampNeg
  · subst hq
    simp [updV, va_up, va_rf]
  · simp [updV, va_up, hq]
end
