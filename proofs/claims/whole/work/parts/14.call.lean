/-- a method's contract out of a walk of the abstract machine -/
theorem Good.mk {l : Launch} {d : Nat} {y : MethodName} {cc : ByteArray} {nL : Nat} {ret : Option FieldType} {T : TT} {own : String} {F : Nat → Option (Nat × Nat × Nat × Nat)} {Cn : Nat → Option AV} {G : Nat → Option (Nat × Bool × TT)} (rk : Nat)
    (hy : plainName y.cls = true) (ho : y.cls = own) (hrk : retOK rk ret) (hF : ∀ i q, F i = some q → FOK own i q) (hC : ∀ i v, Cn i = some v → COK own i v) (hG : ∀ i n b T, G i = some (n, b, T) → CallOK l d own i n b T) (hlen : ∀ avs μ K, T avs μ K → (entl avs).length ≤ nL)
    (body : ∀ (avs : List AV) (μ : Mem) (K : List AV → Mem → Prop) (V : Nat → List (Option AV) → List AV → Mem → Prop), Clos F Cn G rk K cc V → T avs μ K → V 0 (ent avs nL) [] μ) : Good l d y cc nL ret T := by
  intro g μ avs K hT
  refine Met.ofW (cc := cc) (maxL := nL) (ret := ret) hy rfl ?_
  intro p e s m args below meth c s₁ B hml hv
  obtain ⟨rfl, hP, hK, hi, hST⟩ := hv
  have hts0 := atoms_spec (ws := Jvm.Cond.code y cc nL ret :: gtb) B.pre
  have hown : s.vm.findClass own = some m.cls := ho ▸ findClass_of_methodNamed B.named
  have hr := B.returns
  have hlocks := B.notSynchronized
  have C : CF p (headSpec (Jvm.Cond.code y cc nL ret :: gtb) (rmd d)).room s m (avs.map (cv g.2.2)).toArray c cc nL own g (inW g) 0 0 d := ⟨⟨B.exec, B.bytes, hml, hown, fun w hw => hts0 w (List.mem_cons_of_mem _ hw)⟩, hK, hi, hST, fun _ h => h, Nat.zero_le _, Nat.zero_le _, Nat.le_refl d, Nat.le_refl (36 * d)⟩
  have hclos : Clos F Cn G rk K cc (VV p l e (headSpec (Jvm.Cond.code y cc nL ret :: gtb) (rmd d)).room s m (avs.map (cv g.2.2)).toArray below meth c nL g (inW g) 0 0 (MQ below (QM g K) (avs.map (cv g.2.2)).toArray s 0 0 (inW g))) := by
    refine clos_sound C hF hC hG ?_
    intro go pc L stk μ' len i hi' hd h hl H locs ls hP hS hv
    have fin : ∀ (r : List AV), r.length ≤ 1 → K r μ' → ∀ t : State, t.heap = H → s.WarmedH t.vm → QM g K (avs.map (cv g.2.2)).toArray s (.returned ((r.map (cv g.2.2)).head?)) t := fun r h1 h2 t ht hW => ⟨⟨r, μ', rfl, h1, h2, by rw [ht]; exact hP⟩, hS.F ht⟩
    rcases hi' with rfl | rfl | rfl
    · obtain ⟨rfl, h⟩ := h
      split at h
      · rename_i v
        obtain ⟨h1, h2⟩ := h
        rcases h1 with h1 | ⟨h1, h3⟩
        · have hr' : meth.sig.returnType = some .int := by
            rw [hr]
            rcases hrk with z | z | z | z
            · omega
            · exact z.2
            · omega
            · omega
          exact W.iret B.exec B.bytes hr' (fin [.inl v] (by simp) h2) hS.2.2 hd
        · have hr' : meth.sig.returnType = some .boolean := by
            rw [hr]
            rcases hrk with z | z | z | z
            · omega
            · omega
            · exact z.2
            · omega
          exact W.zret B.exec B.bytes hr' (n_nz h3) (fin [.inl v] (by simp) h2) hS.2.2 hd
      · exact h.elim
    · obtain ⟨rfl, h⟩ := h
      split at h
      · rename_i v
        obtain ⟨h1, h2⟩ := h
        have hr' : meth.sig.returnType = some .long := by
          rw [hr]
          rcases hrk with z | z | z | z
          · omega
          · omega
          · omega
          · exact z.2
        exact W.lret B.exec B.bytes hr' (fin [.inr (.inl v)] (by simp) h2) hS.2.2 hd
      · exact h.elim
    · obtain ⟨rfl, h⟩ := h
      split at h
      · obtain ⟨h1, h2⟩ := h
        have hr' : meth.sig.returnType = none := by
          rw [hr]
          rcases hrk with z | z | z | z
          · exact z.2
          · omega
          · omega
          · omega
        exact W.vret B.exec B.bytes hr' (fin [] (by simp) h2) hS.2.2 hd
      · exact h.elim
  have hV := body avs μ K _ hclos hT
  have hl0 := hlen avs μ K hT
  have hl := lv_entry (avs.map (cv g.2.2)) (n := nL) (by rw [entl_len]; exact hl0)
  rw [lg_entry_eq]
  refine hV (by simp [ent]; omega) s.heap [] _ hP va_S.rf (lv_mono hl (fun q hq => ?_))
  obtain ⟨v, h1, h2⟩ := lvs_mem.mp hq
  have := lg_entl g.2.2 avs 0 q.1 (lg_app_none _ _ _ h1)
  rw [Nat.zero_add, ← h2] at this
  exact this
section
variable {p : Program} {l : Launch} {e : Env} {R : Room} {s : State} {m : MethodId} {args : Array Value} {below : List Frame} {meth : Method} {c : Code} {cells slots : Nat} {Q : State → Prop} {H : Heap} {locs : List Loc}
variable {A : Nat → Prop} {g : Gh} {K : List AV → Mem → Prop} {pc : Nat} {ls : Array Slot} {rest st0 : List Value} {a : Array Value} {H0 : Heap}
theorem callQ (hr : va_Run p l e R s m args below meth c H locs cells slots 0 0 (F0 m pc ls st0) rest (QM g K a) (inW g)) (hS : va_S A H0 H locs) (hA : ∀ q, inW g q → A q)
    (kk : ∀ (r : List AV) (μ' : Mem) (H1 : Heap) (locs1 : List Loc), K r μ' → va_P g.1 vwCl (wl g μ') H1 → va_S A H0 H1 locs1 → W p l e R s m args below meth c H1 locs1 cells slots Q (F0 m (pc + 3) ls (r.map (cv g.2.2) ++ rest))) : W p l e R s m args below meth c H locs cells slots Q (F0 m pc ls st0) := by
  intro T hT X
  obtain ⟨v, st₀, t, T', L, h0, X', hL, e1, e2, ⟨⟨r, μ', hv, hlen, hK, hP⟩, hz, hk⟩, st⟩ := hr T hT X
  have hv2 : v = (r.map (cv g.2.2)).head? := by injection hv
  rw [h0] at hz hk
  obtain ⟨t2, a1, b1⟩ := kk r μ' T'.heap (locs ++ L) hK (by rw [e1]; exact hP)
    ⟨Nat.le_trans hS.1 (by rw [e1]; exact hz), fun q h1 h2 => by rw [e1, hk q (Nat.lt_of_lt_of_le h1 hS.1) (fun z => h2 (hA q z))]; exact hS.2.1 q h1 h2, fun q hq => by
      rcases List.mem_append.mp hq with h | h
      · exact hS.2.2 q h
      · exact hA _ (hL q h)⟩ T' rfl X'
  refine ⟨t2, st t2 ?_, b1⟩
  have e3 : v.toList = r.map (cv g.2.2) := by
    rw [hv2]
    match r, hlen with
    | [], _ => rfl
    | [x], _ => rfl
    | x :: y :: z, h => simp at h
  rw [e3]
  exact a1
theorem PreM.blind {μ : Mem} {avs : List AV} : FrameBlind (PreM g μ avs) := by
  intro a U g' mk h
  obtain ⟨q0, qP, qK, qI, qS⟩ := h
  exact ⟨q0, qP, va_K.moved (u := U) (U := U.calling g' mk a) (Vm.Alike.refl U.vm) qK, qI, ST.same (u := U) (U := U.calling g' mk a) rfl qS⟩
theorem PreM.of {μ : Mem} {avs : List AV} (hK : va_K g.1 vwCl (tysG g) s) (hi : Inj g) (hST : ST g A s s.heap) (hA : ∀ q, inW g q → A q) (hP : va_P g.1 vwCl (wl g μ) H) (hS : va_S A s.heap H locs) : ∀ U : State, U.heap = H → s.WarmedH U.vm → PreM g μ avs (avs.map (cv g.2.2)).toArray U := by
  intro U hU hW
  refine ⟨rfl, by rw [hU]; exact hP, va_K.moved hW.alike hK, hi, ?_⟩
  rw [hU]
  exact ST.warm hW ((hST.kept (fun a h1 h2 => hS.2.1 a h1 h2)).narrow hA)
end
