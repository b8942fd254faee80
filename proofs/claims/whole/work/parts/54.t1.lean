/-! String.length and String.charAt of the String constants -/
theorem dJ0_coder_7d493_0 : decode cJ0_coder_7d493 0 = .ok (.getstatic 38, 3) := by decide +kernel
theorem dJ0_coder_7d493_3 : decode cJ0_coder_7d493 3 = .ok (.ifCond .eq 10, 3) := by decide +kernel
theorem dJ0_coder_7d493_6 : decode cJ0_coder_7d493 6 = .ok (.aload_n 0, 1) := by decide +kernel
theorem dJ0_coder_7d493_7 : decode cJ0_coder_7d493 7 = .ok (.getfield 15, 3) := by decide +kernel
theorem dJ0_coder_7d493_10 : decode cJ0_coder_7d493 10 = .ok (.goto 4, 3) := by decide +kernel
theorem dJ0_coder_7d493_13 : decode cJ0_coder_7d493 13 = .ok (.iconst 1, 1) := by decide +kernel
theorem dJ0_coder_7d493_14 : decode cJ0_coder_7d493 14 = .ok (.ireturn, 1) := by decide +kernel
theorem dJ0_length_8abf5_0 : decode cJ0_length_8abf5 0 = .ok (.aload_n 0, 1) := by decide +kernel
theorem dJ0_length_8abf5_1 : decode cJ0_length_8abf5 1 = .ok (.getfield 9, 3) := by decide +kernel
theorem dJ0_length_8abf5_4 : decode cJ0_length_8abf5 4 = .ok (.arraylength, 1) := by decide +kernel
theorem dJ0_length_8abf5_5 : decode cJ0_length_8abf5 5 = .ok (.aload_n 0, 1) := by decide +kernel
theorem dJ0_length_8abf5_6 : decode cJ0_length_8abf5 6 = .ok (.invokevirtual 335, 3) := by decide +kernel
theorem dJ0_length_8abf5_9 : decode cJ0_length_8abf5 9 = .ok (.ishr, 1) := by decide +kernel
theorem dJ0_length_8abf5_10 : decode cJ0_length_8abf5 10 = .ok (.ireturn, 1) := by decide +kernel
theorem dJ0_isLatin1_aae02_0 : decode cJ0_isLatin1_aae02 0 = .ok (.getstatic 38, 3) := by decide +kernel
theorem dJ0_isLatin1_aae02_3 : decode cJ0_isLatin1_aae02 3 = .ok (.ifCond .eq 14, 3) := by decide +kernel
theorem dJ0_isLatin1_aae02_6 : decode cJ0_isLatin1_aae02 6 = .ok (.aload_n 0, 1) := by decide +kernel
theorem dJ0_isLatin1_aae02_7 : decode cJ0_isLatin1_aae02 7 = .ok (.getfield 15, 3) := by decide +kernel
theorem dJ0_isLatin1_aae02_10 : decode cJ0_isLatin1_aae02 10 = .ok (.ifCond .ne 7, 3) := by decide +kernel
theorem dJ0_isLatin1_aae02_13 : decode cJ0_isLatin1_aae02 13 = .ok (.iconst 1, 1) := by decide +kernel
theorem dJ0_isLatin1_aae02_14 : decode cJ0_isLatin1_aae02 14 = .ok (.goto 4, 3) := by decide +kernel
theorem dJ0_isLatin1_aae02_17 : decode cJ0_isLatin1_aae02 17 = .ok (.iconst 0, 1) := by decide +kernel
theorem dJ0_isLatin1_aae02_18 : decode cJ0_isLatin1_aae02 18 = .ok (.ireturn, 1) := by decide +kernel
theorem dJ3_checkIndex_8e157_0 : decode cJ3_checkIndex_8e157 0 = .ok (.iload_n 0, 1) := by decide +kernel
theorem dJ3_checkIndex_8e157_1 : decode cJ3_checkIndex_8e157 1 = .ok (.ifCond .lt 8, 3) := by decide +kernel
theorem dJ3_checkIndex_8e157_4 : decode cJ3_checkIndex_8e157 4 = .ok (.iload_n 0, 1) := by decide +kernel
theorem dJ3_checkIndex_8e157_5 : decode cJ3_checkIndex_8e157 5 = .ok (.iload_n 1, 1) := by decide +kernel
theorem dJ3_checkIndex_8e157_6 : decode cJ3_checkIndex_8e157 6 = .ok (.if_icmp .lt 10, 3) := by decide +kernel
theorem dJ3_checkIndex_8e157_9 : decode cJ3_checkIndex_8e157 9 = .ok (.aload_n 2, 1) := by decide +kernel
theorem dJ3_checkIndex_8e157_10 : decode cJ3_checkIndex_8e157 10 = .ok (.iload_n 0, 1) := by decide +kernel
theorem dJ3_checkIndex_8e157_11 : decode cJ3_checkIndex_8e157 11 = .ok (.iload_n 1, 1) := by decide +kernel
theorem dJ3_checkIndex_8e157_12 : decode cJ3_checkIndex_8e157 12 = .ok (.invokestatic 95, 3) := by decide +kernel
theorem dJ3_checkIndex_8e157_15 : decode cJ3_checkIndex_8e157 15 = .ok (.athrow, 1) := by decide +kernel
theorem dJ3_checkIndex_8e157_16 : decode cJ3_checkIndex_8e157 16 = .ok (.iload_n 0, 1) := by decide +kernel
theorem dJ3_checkIndex_8e157_17 : decode cJ3_checkIndex_8e157 17 = .ok (.ireturn, 1) := by decide +kernel
theorem dJ0_checkIndex_df160_0 : decode cJ0_checkIndex_df160 0 = .ok (.iload_n 0, 1) := by decide +kernel
theorem dJ0_checkIndex_df160_1 : decode cJ0_checkIndex_df160 1 = .ok (.iload_n 1, 1) := by decide +kernel
theorem dJ0_checkIndex_df160_2 : decode cJ0_checkIndex_df160 2 = .ok (.getstatic 1053, 3) := by decide +kernel
theorem dJ0_checkIndex_df160_5 : decode cJ0_checkIndex_df160 5 = .ok (.invokestatic 1059, 3) := by decide +kernel
theorem dJ0_checkIndex_df160_8 : decode cJ0_checkIndex_df160 8 = .ok (.pop, 1) := by decide +kernel
theorem dJ0_checkIndex_df160_9 : decode cJ0_checkIndex_df160 9 = .ok (.return_, 1) := by decide +kernel
theorem dJ1_charAt_3b067_0 : decode cJ1_charAt_3b067 0 = .ok (.iload_n 1, 1) := by decide +kernel
theorem dJ1_charAt_3b067_1 : decode cJ1_charAt_3b067 1 = .ok (.aload_n 0, 1) := by decide +kernel
theorem dJ1_charAt_3b067_2 : decode cJ1_charAt_3b067 2 = .ok (.arraylength, 1) := by decide +kernel
theorem dJ1_charAt_3b067_3 : decode cJ1_charAt_3b067 3 = .ok (.invokestatic 9, 3) := by decide +kernel
theorem dJ1_charAt_3b067_6 : decode cJ1_charAt_3b067 6 = .ok (.aload_n 0, 1) := by decide +kernel
theorem dJ1_charAt_3b067_7 : decode cJ1_charAt_3b067 7 = .ok (.iload_n 1, 1) := by decide +kernel
theorem dJ1_charAt_3b067_8 : decode cJ1_charAt_3b067 8 = .ok (.baload, 1) := by decide +kernel
theorem dJ1_charAt_3b067_9 : decode cJ1_charAt_3b067 9 = .ok (.sipush 255, 3) := by decide +kernel
theorem dJ1_charAt_3b067_12 : decode cJ1_charAt_3b067 12 = .ok (.iand, 1) := by decide +kernel
theorem dJ1_charAt_3b067_13 : decode cJ1_charAt_3b067 13 = .ok (.i2c, 1) := by decide +kernel
theorem dJ1_charAt_3b067_14 : decode cJ1_charAt_3b067 14 = .ok (.ireturn, 1) := by decide +kernel
theorem dJ0_charAt_5068e_0 : decode cJ0_charAt_5068e 0 = .ok (.aload_n 0, 1) := by decide +kernel
theorem dJ0_charAt_5068e_1 : decode cJ0_charAt_5068e 1 = .ok (.invokevirtual 492, 3) := by decide +kernel
theorem dJ0_charAt_5068e_4 : decode cJ0_charAt_5068e 4 = .ok (.ifCond .eq 12, 3) := by decide +kernel
theorem dJ0_charAt_5068e_7 : decode cJ0_charAt_5068e 7 = .ok (.aload_n 0, 1) := by decide +kernel
theorem dJ0_charAt_5068e_8 : decode cJ0_charAt_5068e 8 = .ok (.getfield 9, 3) := by decide +kernel
theorem dJ0_charAt_5068e_11 : decode cJ0_charAt_5068e 11 = .ok (.iload_n 1, 1) := by decide +kernel
theorem dJ0_charAt_5068e_12 : decode cJ0_charAt_5068e 12 = .ok (.invokestatic 495, 3) := by decide +kernel
theorem dJ0_charAt_5068e_15 : decode cJ0_charAt_5068e 15 = .ok (.ireturn, 1) := by decide +kernel
theorem dJ0_charAt_5068e_16 : decode cJ0_charAt_5068e 16 = .ok (.aload_n 0, 1) := by decide +kernel
theorem dJ0_charAt_5068e_17 : decode cJ0_charAt_5068e 17 = .ok (.getfield 9, 3) := by decide +kernel
theorem dJ0_charAt_5068e_20 : decode cJ0_charAt_5068e 20 = .ok (.iload_n 1, 1) := by decide +kernel
theorem dJ0_charAt_5068e_21 : decode cJ0_charAt_5068e 21 = .ok (.invokestatic 498, 3) := by decide +kernel
theorem dJ0_charAt_5068e_24 : decode cJ0_charAt_5068e 24 = .ok (.ireturn, 1) := by decide +kernel
def slI : Nat → Int
  | 0 => 5
  | 1 => 6
  | _ => 4
def scL : List (List Int) := [[112, 108, 97, 105, 110], [103, 114, 101, 101, 100, 121], [109, 101, 101, 107], [102, 97, 105, 114], [119, 111, 114, 100]]
def scI (j i : Nat) : Int := (scL.getD j []).getD i 0
def PJ (g : Gh) (μ : Mem) (vals : List Value) (t n : Nat) (f : Nat → Value) (b : Bool) : Array Value → State → Prop := va_Pc vals (fun U => va_P g.1 vwCl (wl g μ) U.heap ∧ va_K g.1 vwCl (tysG g) U ∧ Inj g ∧ ST g (inW g) U U.heap ∧ (b = true → va_T .byte t n f (inW g) U U.heap))
def rlA : Option Int → List AV
  | some x => [.inl x]
  | none => []
def rlV : Option Int → List Value
  | some x => [.int (Int32.ofInt x)]
  | none => []
def rins : Option Int → Instr
  | some _ => .ireturn
  | none => .return_
theorem rlA_map (ad : Nat → Nat) (r : Option Int) : (rlA r).map (cv ad) = rlV r := by cases r <;> rfl
def GJ (l : Launch) (d : Nat) (y : MethodName) (cc : ByteArray) (nL : Nat) (ret : Option FieldType) (g : Gh) (vals : List Value) (t n : Nat) (f : Nat → Value) (b : Bool) (r : Option Int) : Prop := ∀ μ : Mem, Met l y (Jvm.Cond.code y cc nL ret :: gtb) (rmd d) (PJ g μ vals t n f b) (QM g (fun q ν => q = rlA r ∧ ν = μ)) 0 0 (inW g)
theorem PJ.blind {g : Gh} {μ : Mem} {vals : List Value} {t n : Nat} {f : Nat → Value} {b : Bool} : FrameBlind (PJ g μ vals t n f b) := by
  intro a U g' mk h
  obtain ⟨q0, qP, qK, qI, qS, qT⟩ := h
  exact ⟨q0, qP, va_K.moved (u := U) (U := U.calling g' mk a) (Vm.Alike.refl U.vm) qK, qI, ST.same (u := U) (U := U.calling g' mk a) rfl qS, fun hb => va_T.moved (u := U) (U := U.calling g' mk a) (Vm.Alike.refl U.vm) (qT hb)⟩
theorem PJ.of {g : Gh} {μ : Mem} {vals : List Value} {t n : Nat} {f : Nat → Value} {b : Bool} {A : Nat → Prop} {s : State} {H : Heap} {locs : List Loc} (hK : va_K g.1 vwCl (tysG g) s) (hi : Inj g) (hST : ST g A s s.heap) (hA : ∀ q, inW g q → A q) (hP : va_P g.1 vwCl (wl g μ) H) (hS : va_S A s.heap H locs) (hT : b = true → va_T .byte t n f A s s.heap) : ∀ U : State, U.heap = H → s.WarmedH U.vm → PJ g μ vals t n f b vals.toArray U := by
  intro U hU hW
  refine ⟨rfl, by rw [hU]; exact hP, va_K.moved hW.alike hK, hi, ?_, fun hb => ?_⟩
  · rw [hU]
    exact ST.warm hW ((hST.kept (fun a h1 h2 => hS.2.1 a h1 h2)).narrow hA)
  · rw [hU]
    exact va_T.moved hW.alike (((hT hb).kept (fun a h1 h2 => hS.2.1 a h1 h2)).narrow hA)
theorem GJ.mk {l : Launch} {d : Nat} {y : MethodName} {cc : ByteArray} {nL : Nat} {ret : Option FieldType} {own : String} {g : Gh} {vals : List Value} {t n : Nat} {f : Nat → Value} {b : Bool} {r : Option Int} (hy : plainName y.cls = true) (ho : y.cls = own) (hlen : (lg_sl vals).length ≤ nL) (hret : (∃ ty x, ret = some ty ∧ r = some x ∧ narrow ty (.int (Int32.ofInt x)) = .int (Int32.ofInt x)) ∨ (ret = none ∧ r = none))
    (body : ∀ (μ : Mem) (p : Program) (e : Env) (R : Room) (s : State) (m : MethodId) (below : List Frame) (meth : Method) (c : Code) (ls : Array Slot) (Q : State → Prop), CF p R s m vals.toArray c cc nL own g (inW g) 0 0 d → (b = true → va_T .byte t n f (inW g) s s.heap) → va_P g.1 vwCl (wl g μ) s.heap → lv_has ls nL (lv_args 0 vals) → (∀ (H : Heap) (locs : List Loc) (pc : Nat) (ls' : Array Slot), va_P g.1 vwCl (wl g μ) H → va_S (inW g) s.heap H locs → decode cc pc = .ok (rins r, 1) → W p l e R s m vals.toArray below meth c H locs 0 0 Q (F0 m pc ls' (rlV r))) → W p l e R s m vals.toArray below meth c s.heap [] 0 0 Q (F0 m 0 ls [])) : GJ l d y cc nL ret g vals t n f b r := by
  intro μ
  refine Met.ofW (cc := cc) (maxL := nL) (ret := ret) hy rfl ?_
  intro p e s m args below meth c s₁ B hml hv
  obtain ⟨rfl, hP, hK, hi, hST, hT⟩ := hv
  have hts0 := atoms_spec (ws := Jvm.Cond.code y cc nL ret :: gtb) B.pre
  have hown : s.vm.findClass own = some m.cls := ho ▸ findClass_of_methodNamed B.named
  have hr := B.returns
  have C : CF p (headSpec (Jvm.Cond.code y cc nL ret :: gtb) (rmd d)).room s m vals.toArray c cc nL own g (inW g) 0 0 d := ⟨⟨B.exec, B.bytes, hml, hown, fun w hw => hts0 w (List.mem_cons_of_mem _ hw)⟩, hK, hi, hST, fun _ h => h, Nat.zero_le _, Nat.zero_le _, Nat.le_refl d, Nat.le_refl (36 * d)⟩
  have hl := lv_entry vals (n := nL) hlen
  rw [lg_entry_eq]
  refine body μ p e _ s m below meth c _ _ C hT hP hl ?_
  intro H locs pc ls' hP1 hS hd
  have fin : ∀ t : State, t.heap = H → s.WarmedH t.vm → QM g (fun q ν => q = rlA r ∧ ν = μ) vals.toArray s (.returned ((rlV r).head?)) t := fun t ht hW => ⟨⟨rlA r, μ, by rw [rlA_map], by cases r <;> simp [rlA], ⟨rfl, rfl⟩, by rw [ht]; exact hP1⟩, hS.F ht⟩
  rcases hret with ⟨ty, x, e1, e2, e3⟩ | ⟨e1, e2⟩
  · subst e2
    exact W.zret B.exec B.bytes (hr.trans e1) e3 fin hS.2.2 hd
  · subst e2
    exact W.vret B.exec B.bytes (hr.trans e1) fin hS.2.2 hd
section
variable {p : Program} {l : Launch} {e : Env} {R : Room} {s : State} {m : MethodId} {args : Array Value} {below : List Frame} {meth : Method} {c : Code} {cells slots : Nat} {Q : State → Prop}
variable {cc : ByteArray} {A : Nat → Prop} {g : Gh} {nL d : Nat} {own : String}
theorem CJ.V (C : CF p R s m args c cc nL own g A cells slots d) {d' : Nat} {y : MethodName} {cc' : ByteArray} {nL' : Nat} {ret' : Option FieldType} {i t n : Nat} {f : Nat → Value} {b : Bool} {r : Option Int} {j : Nat} (hj : j < 5) {As : List Value} (hM : GJ l d' y cc' nL' ret' g (.ref (g.2.2 (110 + j)) :: As) t n f b r) (hd : d' + 1 ≤ d) (hn : nL' ≤ 17)
    (w1 : Jvm.Cond.methodLink own i y ∈ gtb) (w2 : Jvm.Cond.instanceMethod y ∈ gtb) (w3 : Jvm.Cond.selects "java/lang/String" y y ∈ gtb) (w4 : Jvm.Cond.initialized "java/lang/String" ∈ gtb) (w5 : Jvm.Cond.code y cc' nL' ret' ∈ gtb)
    (hy : y.cls = "java/lang/String" ∧ y.cls ≠ "java/lang/invoke/MethodHandle" ∧ y.cls ≠ "java/lang/invoke/VarHandle" ∧ (parseMethodDescriptor y.desc).map (fun d => d.parameters.length) = some As.length)
    {μ : Mem} {H : Heap} {locs : List Loc} {ls : Array Slot} {pc : Nat} {rest : List Value} (hP : va_P g.1 vwCl (wl g μ) H) (hS : va_S A s.heap H locs) (hls : ls.size = nL) (hT : b = true → va_T .byte t n f A s s.heap) (hrest : (rest.map fun v => v.category).sum ≤ 8) (hdec : decode cc pc = .ok (.invokevirtual i, 3))
    (kk : ∀ (H1 : Heap) (locs1 : List Loc), va_P g.1 vwCl (wl g μ) H1 → va_S A s.heap H1 locs1 → W p l e R s m args below meth c H1 locs1 cells slots Q (F0 m (pc + 3) ls (rlV r ++ rest))) : W p l e R s m args below meth c H locs cells slots Q (F0 m pc ls (As.reverse ++ .ref (g.2.2 (110 + j)) :: rest)) := by
  obtain ⟨⟨hx, hb, hml, hown, hts⟩, hK, hi, hST, hA, hc1, hc2, hd1, hd2⟩ := C
  have hGI : GoodIn gtb (wsV own i "java/lang/String" y (Jvm.Cond.code y cc' nL' ret' :: gtb)) := by
    intro w hw
    unfold wsV at hw
    have : w ∈ gtb := by
      rcases List.mem_append.mp hw with h | h
      · simp only [List.mem_cons, List.not_mem_nil, or_false] at h
        rcases h with rfl | rfl | rfl | rfl <;> assumption
      · rcases List.mem_cons.mp h with rfl | h
        · exact w5
        · exact h
    exact gtb_good w this
  obtain ⟨adV, hVS⟩ := hST.2.2.2.1
  have hrun := va_runV (l := l) (e := e) (R := R) (below := below) (meth := meth) (locs := locs) (cells := cells) (slots := slots) (As := As) (rest := rest) (b := g.2.2 (110 + j)) (g := F0 m pc ls (As.reverse ++ .ref (g.2.2 (110 + j)) :: rest)) (H := H) ⟨hx, hb, hml, hown, hts⟩ (hM μ) (cwV As.length hts hGI rfl rfl rfl hy ⟨Nat.le_trans hd hd1, by show 8 + (nL' + 11) + 36 * d' ≤ R.locals; omega⟩) ⟨PJ.blind, vk_recv (i := j) hVS hj hS, PJ.of hK hi hST hA hP hS hT⟩ rfl rfl hls rfl (lv_room hrest) hdec ⟨hc1, hc2⟩
  refine callQ hrun hS hA (fun r' μ' H1 locs1 h1 h2 h3 => ?_)
  obtain ⟨rfl, rfl⟩ := h1
  rw [rlA_map]
  exact kk H1 locs1 h2 h3
theorem CJ.S (C : CF p R s m args c cc nL own g A cells slots d) {d' : Nat} {y : MethodName} {cc' : ByteArray} {nL' : Nat} {ret' : Option FieldType} {i t n : Nat} {f : Nat → Value} {b : Bool} {r : Option Int} {As : List Value} (hM : GJ l d' y cc' nL' ret' g As t n f b r) (hd : d' + 1 ≤ d) (hn : nL' ≤ 17)
    (w1 : Jvm.Cond.methodLink own i y ∈ gtb) (w2 : Jvm.Cond.static y ∈ gtb) (w4 : Jvm.Cond.initialized y.cls ∈ gtb) (w5 : Jvm.Cond.code y cc' nL' ret' ∈ gtb)
    (hy : y.cls ≠ "java/lang/invoke/MethodHandle" ∧ y.cls ≠ "java/lang/invoke/VarHandle" ∧ (parseMethodDescriptor y.desc).map (fun d => d.parameters.length) = some As.length)
    {μ : Mem} {H : Heap} {locs : List Loc} {ls : Array Slot} {pc : Nat} {rest : List Value} (hP : va_P g.1 vwCl (wl g μ) H) (hS : va_S A s.heap H locs) (hls : ls.size = nL) (hT : b = true → va_T .byte t n f A s s.heap) (hrest : (rest.map fun v => v.category).sum ≤ 8) (hdec : decode cc pc = .ok (.invokestatic i, 3))
    (kk : ∀ (H1 : Heap) (locs1 : List Loc), va_P g.1 vwCl (wl g μ) H1 → va_S A s.heap H1 locs1 → W p l e R s m args below meth c H1 locs1 cells slots Q (F0 m (pc + 3) ls (rlV r ++ rest))) : W p l e R s m args below meth c H locs cells slots Q (F0 m pc ls (As.reverse ++ rest)) := by
  obtain ⟨⟨hx, hb, hml, hown, hts⟩, hK, hi, hST, hA, hc1, hc2, hd1, hd2⟩ := C
  have hGI : GoodIn gtb (va_wsS own i y (Jvm.Cond.code y cc' nL' ret' :: gtb)) := by
    intro w hw
    unfold va_wsS at hw
    have : w ∈ gtb := by
      rcases List.mem_append.mp hw with h | h
      · simp only [List.mem_cons, List.not_mem_nil, or_false] at h
        rcases h with rfl | rfl | rfl <;> assumption
      · rcases List.mem_cons.mp h with rfl | h
        · exact w5
        · exact h
    exact gtb_good w this
  have hrun := va_runS (l := l) (e := e) (R := R) (below := below) (meth := meth) (locs := locs) (cells := cells) (slots := slots) (As := As) (rest := rest) (g := F0 m pc ls (As.reverse ++ rest)) (H := H) ⟨hx, hb, hml, hown, hts⟩ (hM μ) (va_cwS As.length hts hGI rfl rfl rfl hy ⟨Nat.le_trans hd hd1, by show 8 + (nL' + 11) + 36 * d' ≤ R.locals; omega⟩) ⟨PJ.blind, PJ.of hK hi hST hA hP hS hT⟩ rfl rfl hls rfl (lv_room hrest) hdec ⟨hc1, hc2⟩
  refine callQ hrun hS hA (fun r' μ' H1 locs1 h1 h2 h3 => ?_)
  obtain ⟨rfl, rfl⟩ := h1
  rw [rlA_map]
  exact kk H1 locs1 h2 h3
end
theorem gj_cod (l : Launch) (g : Gh) {j : Nat} (hj : j < 5) : GJ l 0 yJ0_coder_7d493 cJ0_coder_7d493 1 (some .byte) g [.ref (g.2.2 (110 + j))] 0 0 (fun _ => .null) false (some 0) := by
  refine GJ.mk (own := RJ0) (by decide) rfl (by simp [lg_sl, Value.category]) (Or.inl ⟨_, _, rfl, rfl, by decide +kernel⟩) ?_
  intro μ p e R s m below meth c ls Q C hT hP hl kret
  obtain ⟨⟨hx, hb, hml, hown, hts⟩, hK, hi, hST, hA, hc1, hc2, hd1, hd2⟩ := C
  obtain ⟨adV, hVS⟩ := hST.2.2.2.1
  have hS : va_S (inW g) s.heap s.heap [] := va_S.rf
  refine va_gets hx hb hST.2.2.2.2.2.1 hS hown (hts _ (mg 243 (by decide +kernel) (by decide +kernel))) (fun _ w => w) dJ0_coder_7d493_0 ?_
  refine lv_if_eq hx hb dJ0_coder_7d493_3 (tgt := 13) (by decide) (fun z => absurd z (by decide)) (fun _ => ?_)
  refine lv_aload_n hx hb dJ0_coder_7d493_6 rfl (lv_at hl 0 rfl) ?_
  refine vk_getf hx hb (hVS.1 j hj).2.1 hS hown (hts _ (mg 1011 (by decide +kernel) (by decide +kernel))) (fun _ w => w) dJ0_coder_7d493_7 ?_
  refine lv_goto hx hb dJ0_coder_7d493_10 (tgt := 14) (by decide) ?_
  exact kret s.heap [] 14 ls hP hS dJ0_coder_7d493_14
theorem gj_lat (l : Launch) (g : Gh) {j : Nat} (hj : j < 5) : GJ l 0 yJ0_isLatin1_aae02 cJ0_isLatin1_aae02 1 (some .boolean) g [.ref (g.2.2 (110 + j))] 0 0 (fun _ => .null) false (some 1) := by
  refine GJ.mk (own := RJ0) (by decide) rfl (by simp [lg_sl, Value.category]) (Or.inl ⟨_, _, rfl, rfl, by decide +kernel⟩) ?_
  intro μ p e R s m below meth c ls Q C hT hP hl kret
  obtain ⟨⟨hx, hb, hml, hown, hts⟩, hK, hi, hST, hA, hc1, hc2, hd1, hd2⟩ := C
  obtain ⟨adV, hVS⟩ := hST.2.2.2.1
  have hS : va_S (inW g) s.heap s.heap [] := va_S.rf
  refine va_gets hx hb hST.2.2.2.2.2.1 hS hown (hts _ (mg 243 (by decide +kernel) (by decide +kernel))) (fun _ w => w) dJ0_isLatin1_aae02_0 ?_
  refine lv_if_eq hx hb dJ0_isLatin1_aae02_3 (tgt := 17) (by decide) (fun z => absurd z (by decide)) (fun _ => ?_)
  refine lv_aload_n hx hb dJ0_isLatin1_aae02_6 rfl (lv_at hl 0 rfl) ?_
  refine vk_getf hx hb (hVS.1 j hj).2.1 hS hown (hts _ (mg 1011 (by decide +kernel) (by decide +kernel))) (fun _ w => w) dJ0_isLatin1_aae02_7 ?_
  refine lv_if_ne hx hb dJ0_isLatin1_aae02_10 (tgt := 17) (by decide) (fun z => absurd rfl z) (fun _ => ?_)
  refine lv_iconst hx hb dJ0_isLatin1_aae02_13 rfl ?_
  refine lv_goto hx hb dJ0_isLatin1_aae02_14 (tgt := 18) (by decide) ?_
  exact kret s.heap [] 18 ls hP hS dJ0_isLatin1_aae02_18
theorem sl_sh : ∀ j, j < 5 → Int32.ofNat (sln.getD j 0) >>> (Int32.ofInt 0 &&& 31) = Int32.ofInt (slI j) := by decide +kernel
theorem gj_len (l : Launch) (g : Gh) {j : Nat} (hj : j < 5) : GJ l 1 yJ0_length_8abf5 cJ0_length_8abf5 1 (some .int) g [.ref (g.2.2 (110 + j))] 0 0 (fun _ => .null) false (some (slI j)) := by
  refine GJ.mk (own := RJ0) (by decide) rfl (by simp [lg_sl, Value.category]) (Or.inl ⟨_, _, rfl, rfl, rfl⟩) ?_
  intro μ p e R s m below meth c ls Q C hT hP hl kret
  have C' := C
  obtain ⟨⟨hx, hb, hml, hown, hts⟩, hK, hi, hST, hA, hc1, hc2, hd1, hd2⟩ := C
  obtain ⟨adV, hVS⟩ := hST.2.2.2.1
  have hS : va_S (inW g) s.heap s.heap [] := va_S.rf
  refine lv_aload_n hx hb dJ0_length_8abf5_0 rfl (lv_at hl 0 rfl) ?_
  refine vk_getf hx hb (hVS.1 j hj).2.2.1 hS hown (hts _ (mg 1010 (by decide +kernel) (by decide +kernel))) (fun _ w => w) dJ0_length_8abf5_1 ?_
  refine va_tlen hx hb (hVS.1 j hj).2.2.2 hS rfl dJ0_length_8abf5_4 ?_
  refine lv_aload_n hx hb dJ0_length_8abf5_5 rfl (lv_at hl 0 rfl) ?_
  refine CJ.V C' hj (As := []) (gj_cod l g hj) (by decide) (by decide) (mg 239 (by decide +kernel) (by decide +kernel)) (mg 240 (by decide +kernel) (by decide +kernel)) (mg 241 (by decide +kernel) (by decide +kernel)) (mg 8 (by decide +kernel) (by decide +kernel)) (mg 242 (by decide +kernel) (by decide +kernel)) (by decide +kernel) hP hS hl.1 (fun h => by cases h) (by simp [Value.category]) dJ0_length_8abf5_6 (fun H1 locs1 g1 g2 => ?_)
  refine lv_ishr hx hb dJ0_length_8abf5_9 ?_
  rw [sl_sh j hj]
  exact kret H1 locs1 10 ls g1 g2 dJ0_length_8abf5_10
theorem gj_chk3 (l : Launch) (g : Gh) {k n : Nat} (hk : k < n) (hn : n ≤ 10) {w : Value} (hw : w = .null ∨ ∃ q : Nat, w = .ref q) : GJ l 0 yJ3_checkIndex_8e157 cJ3_checkIndex_8e157 3 (some .int) g [.int (Int32.ofInt k), .int (Int32.ofNat n), w] 0 0 (fun _ => .null) false (some k) := by
  have r1 : InR (k : Int) := ⟨by omega, by omega⟩
  have r2 : InR (n : Int) := ⟨by omega, by omega⟩
  have en : Int32.ofNat n = Int32.ofInt (n : Int) := Int32.ofInt_eq_ofNat.symm
  have z1 : ¬ Int32.ofInt (k : Int) < 0 := by rw [n_0, n_lt r1 InR0]; omega
  have z2 : Int32.ofInt (k : Int) < Int32.ofNat n := by rw [en, n_lt r1 r2]; omega
  refine GJ.mk (own := RJ3) (by decide) rfl (by rcases hw with rfl | ⟨q, rfl⟩ <;> simp [lg_sl, Value.category]) (Or.inl ⟨_, _, rfl, rfl, rfl⟩) ?_
  intro μ p e R s m below meth c ls Q C hT hP hl kret
  obtain ⟨⟨hx, hb, hml, hown, hts⟩, hK, hi, hST, hA, hc1, hc2, hd1, hd2⟩ := C
  have hS : va_S (inW g) s.heap s.heap [] := va_S.rf
  refine lv_iload_n hx hb dJ3_checkIndex_8e157_0 rfl (lv_at hl 0 rfl) ?_
  refine lv_if_lt hx hb dJ3_checkIndex_8e157_1 (tgt := 9) (by decide) (fun z => absurd z z1) (fun _ => ?_)
  refine lv_iload_n hx hb dJ3_checkIndex_8e157_4 rfl (lv_at hl 0 rfl) ?_
  refine lv_iload_n hx hb dJ3_checkIndex_8e157_5 rfl (lv_at hl 1 rfl) ?_
  refine lv_icmp_lt hx hb dJ3_checkIndex_8e157_6 (tgt := 16) (by decide) (fun _ => ?_) (fun z => absurd z2 z)
  refine lv_iload_n hx hb dJ3_checkIndex_8e157_16 rfl (lv_at hl 0 rfl) ?_
  exact kret s.heap [] 17 ls hP hS dJ3_checkIndex_8e157_17
theorem gj_chk2 (l : Launch) (g : Gh) {k n : Nat} (hk : k < n) (hn : n ≤ 10) : GJ l 1 yJ0_checkIndex_df160 cJ0_checkIndex_df160 2 none g [.int (Int32.ofInt k), .int (Int32.ofNat n)] 0 0 (fun _ => .null) false none := by
  refine GJ.mk (own := RJ0) (by decide) rfl (by simp [lg_sl, Value.category]) (Or.inr ⟨rfl, rfl⟩) ?_
  intro μ p e R s m below meth c ls Q C hT hP hl kret
  have C' := C
  obtain ⟨⟨hx, hb, hml, hown, hts⟩, hK, hi, hST, hA, hc1, hc2, hd1, hd2⟩ := C
  have hS : va_S (inW g) s.heap s.heap [] := va_S.rf
  have main : ∀ w : Value, (w = .null ∨ ∃ q : Nat, w = .ref q) → W p l e R s m [.int (Int32.ofInt k), .int (Int32.ofNat n)].toArray below meth c s.heap [] 0 0 Q (F0 m 5 ls [w, .int (Int32.ofNat n), .int (Int32.ofInt k)]) := by
    intro w hw
    refine CJ.S C' (As := [.int (Int32.ofInt k), .int (Int32.ofNat n), w]) (rest := []) (gj_chk3 l g hk hn hw) (by decide) (by decide) (mg 261 (by decide +kernel) (by decide +kernel)) (mg 262 (by decide +kernel) (by decide +kernel)) (mg 10 (by decide +kernel) (by decide +kernel)) (mg 263 (by decide +kernel) (by decide +kernel)) (show yJ3_checkIndex_8e157.cls ≠ "java/lang/invoke/MethodHandle" ∧ yJ3_checkIndex_8e157.cls ≠ "java/lang/invoke/VarHandle" ∧ (parseMethodDescriptor yJ3_checkIndex_8e157.desc).map (fun d => d.parameters.length) = some 3 from by decide +kernel) hP hS hl.1 (fun h => by cases h) (by simp) dJ0_checkIndex_df160_5 (fun H1 locs1 g1 g2 => ?_)
    refine lv_pop hx hb dJ0_checkIndex_df160_8 rfl ?_
    exact kret H1 locs1 9 ls g1 g2 dJ0_checkIndex_df160_9
  refine lv_iload_n hx hb dJ0_checkIndex_df160_0 rfl (lv_at hl 0 rfl) ?_
  refine lv_iload_n hx hb dJ0_checkIndex_df160_1 rfl (lv_at hl 1 rfl) ?_
  rcases hST.2.2.2.2.2.2.1 with z | ⟨q, z⟩
  · exact va_gets hx hb z hS hown (hts _ (mg 259 (by decide +kernel) (by decide +kernel))) (fun _ w => w) dJ0_checkIndex_df160_2 (main _ (Or.inl rfl))
  · exact va_gets hx hb z hS hown (hts _ (mg 259 (by decide +kernel) (by decide +kernel))) (fun _ w => w) dJ0_checkIndex_df160_2 (main _ (Or.inr ⟨q, rfl⟩))
theorem sc_ch : ∀ j, j < 5 → ∀ k, k < sln.getD j 0 → (((((sby.getD j []).getD k 0) &&& 255 : Int32).toUInt32 % 65536).toInt32) = Int32.ofInt (scI j k) ∧ narrow .char (.int (Int32.ofInt (scI j k))) = .int (Int32.ofInt (scI j k)) ∧ sln.getD j 0 ≤ 10 := by decide +kernel
theorem gj_chr1 (l : Launch) (g : Gh) {j k : Nat} (hj : j < 5) (hk : k < sln.getD j 0) (t : Nat) : GJ l 2 yJ1_charAt_3b067 cJ1_charAt_3b067 2 (some .char) g [.ref t, .int (Int32.ofInt k)] t (sln.getD j 0) (fun i => .int ((sby.getD j []).getD i 0)) true (some (scI j k)) := by
  obtain ⟨e1, e2, e3⟩ := sc_ch j hj k hk
  have r1 : InR (k : Int) := ⟨by omega, by omega⟩
  refine GJ.mk (own := RJ1) (by decide) rfl (by simp [lg_sl, Value.category]) (Or.inl ⟨_, _, rfl, rfl, e2⟩) ?_
  intro μ p e R s m below meth c ls Q C hT hP hl kret
  have C' := C
  have hT := hT rfl
  obtain ⟨⟨hx, hb, hml, hown, hts⟩, hK, hi, hST, hA, hc1, hc2, hd1, hd2⟩ := C
  have hS : va_S (inW g) s.heap s.heap [] := va_S.rf
  refine lv_iload_n hx hb dJ1_charAt_3b067_0 rfl (lv_at hl 1 rfl) ?_
  refine lv_aload_n hx hb dJ1_charAt_3b067_1 rfl (lv_at hl 0 rfl) ?_
  refine va_tlen hx hb hT hS rfl dJ1_charAt_3b067_2 ?_
  refine CJ.S C' (As := [.int (Int32.ofInt k), .int (Int32.ofNat (sln.getD j 0))]) (rest := []) (gj_chk2 l g hk e3) (by decide) (by decide) (mg 256 (by decide +kernel) (by decide +kernel)) (mg 257 (by decide +kernel) (by decide +kernel)) (mg 8 (by decide +kernel) (by decide +kernel)) (mg 258 (by decide +kernel) (by decide +kernel)) (show yJ0_checkIndex_df160.cls ≠ "java/lang/invoke/MethodHandle" ∧ yJ0_checkIndex_df160.cls ≠ "java/lang/invoke/VarHandle" ∧ (parseMethodDescriptor yJ0_checkIndex_df160.desc).map (fun d => d.parameters.length) = some 2 from by decide +kernel) hP hS hl.1 (fun h => by cases h) (by simp) dJ1_charAt_3b067_3 (fun H1 locs1 g1 g2 => ?_)
  refine lv_aload_n hx hb dJ1_charAt_3b067_6 rfl (lv_at hl 0 rfl) ?_
  refine lv_iload_n hx hb dJ1_charAt_3b067_7 rfl (lv_at hl 1 rfl) ?_
  refine va_tb hx hb hT g2 (n_in (by omega) ⟨by omega, by omega⟩) (by rw [n_cl r1]) dJ1_charAt_3b067_8 ?_
  refine lv_sipush hx hb dJ1_charAt_3b067_9 (v := 255) (by decide +kernel) ?_
  refine lv_iand hx hb dJ1_charAt_3b067_12 ?_
  refine lv_i2c hx hb dJ1_charAt_3b067_13 e1 ?_
  exact kret H1 locs1 14 ls g1 g2 dJ1_charAt_3b067_14
theorem gj_chr (l : Launch) (g : Gh) {j k : Nat} (hj : j < 5) (hk : k < sln.getD j 0) : GJ l 3 yJ0_charAt_5068e cJ0_charAt_5068e 2 (some .char) g [.ref (g.2.2 (110 + j)), .int (Int32.ofInt k)] 0 0 (fun _ => .null) false (some (scI j k)) := by
  obtain ⟨e1, e2, e3⟩ := sc_ch j hj k hk
  refine GJ.mk (own := RJ0) (by decide) rfl (by simp [lg_sl, Value.category]) (Or.inl ⟨_, _, rfl, rfl, e2⟩) ?_
  intro μ p e R s m below meth c ls Q C hT hP hl kret
  have C' := C
  obtain ⟨⟨hx, hb, hml, hown, hts⟩, hK, hi, hST, hA, hc1, hc2, hd1, hd2⟩ := C
  obtain ⟨adV, hVS⟩ := hST.2.2.2.1
  have hS : va_S (inW g) s.heap s.heap [] := va_S.rf
  refine lv_aload_n hx hb dJ0_charAt_5068e_0 rfl (lv_at hl 0 rfl) ?_
  refine CJ.V C' hj (As := []) (rest := []) (gj_lat l g hj) (by decide) (by decide) (mg 249 (by decide +kernel) (by decide +kernel)) (mg 250 (by decide +kernel) (by decide +kernel)) (mg 251 (by decide +kernel) (by decide +kernel)) (mg 8 (by decide +kernel) (by decide +kernel)) (mg 252 (by decide +kernel) (by decide +kernel)) (by decide +kernel) hP hS hl.1 (fun h => by cases h) (by simp) dJ0_charAt_5068e_1 (fun H1 locs1 g1 g2 => ?_)
  refine lv_if_eq hx hb dJ0_charAt_5068e_4 (tgt := 16) (by decide) (fun z => absurd z (by decide)) (fun _ => ?_)
  refine lv_aload_n hx hb dJ0_charAt_5068e_7 rfl (lv_at hl 0 rfl) ?_
  refine vk_getf hx hb (hVS.1 j hj).2.2.1 g2 hown (hts _ (mg 1010 (by decide +kernel) (by decide +kernel))) (fun _ w => w) dJ0_charAt_5068e_8 ?_
  refine lv_iload_n hx hb dJ0_charAt_5068e_11 rfl (lv_at hl 1 rfl) ?_
  refine CJ.S C' (As := [.ref (adV j), .int (Int32.ofInt k)]) (rest := []) (gj_chr1 l g hj hk (adV j)) (by decide) (by decide) (mg 253 (by decide +kernel) (by decide +kernel)) (mg 254 (by decide +kernel) (by decide +kernel)) (mg 9 (by decide +kernel) (by decide +kernel)) (mg 255 (by decide +kernel) (by decide +kernel)) (show yJ1_charAt_3b067.cls ≠ "java/lang/invoke/MethodHandle" ∧ yJ1_charAt_3b067.cls ≠ "java/lang/invoke/VarHandle" ∧ (parseMethodDescriptor yJ1_charAt_3b067.desc).map (fun d => d.parameters.length) = some 2 from by decide +kernel) g1 g2 hl.1 (fun _ => (hVS.1 j hj).2.2.2) (by simp) dJ0_charAt_5068e_12 (fun H2 locs2 g3 g4 => ?_)
  exact kret H2 locs2 15 ls g3 g4 dJ0_charAt_5068e_15
def T_len : TT := fun a μ K => match a with
  | [.inr (.inr k)] => (110 ≤ k ∧ k < 115) ∧ K [.inl (slI (k - 110))] μ
  | _ => False
def T_chr : TT := fun a μ K => match a with
  | [.inr (.inr k), .inl i] => (110 ≤ k ∧ k < 115) ∧ (0 ≤ i ∧ i < slI (k - 110)) ∧ K [.inl (scI (k - 110) i.toNat)] μ
  | _ => False
theorem sl_n : ∀ j, j < 5 → slI j = ((sln.getD j 0 : Nat) : Int) := by decide +kernel
theorem CallOK.len {l : Launch} {d : Nat} {own : String} {i : Nat} (hd : 2 ≤ d) (w1 : Jvm.Cond.methodLink own i yJ0_length_8abf5 ∈ gtb) : CallOK l d own i 1 false T_len := by
  intro p e R s m args below meth c cc nL g A cells slots Q CC pc L as rest μ K hlen hwd hdec hT kk hl H locs ls hP hS hv
  have hdec' : decode cc pc = .ok (.invokevirtual i, 3) := hdec
  unfold T_len at hT
  split at hT
  · rename_i k
    obtain ⟨h1, h2⟩ := hT
    obtain ⟨j, rfl⟩ : ∃ j, k = 110 + j := ⟨k - 110, by omega⟩
    rw [show 110 + j - 110 = j by omega] at h2
    have hj : j < 5 := by omega
    have hw := wd_ok g.2.2 rest
    refine CJ.V CC hj (As := []) (rest := rest.map (cv g.2.2)) (gj_len l g hj) hd (by decide) w1 (mg 236 (by decide +kernel) (by decide +kernel)) (mg 237 (by decide +kernel) (by decide +kernel)) (mg 8 (by decide +kernel) (by decide +kernel)) (mg 238 (by decide +kernel) (by decide +kernel)) (by decide +kernel) hP hS hv.1 (fun h => by cases h) (by rw [hw]; exact hwd) hdec' (fun H1 locs1 g1 g2 => ?_)
    exact kk _ _ h2 hl H1 locs1 ls g1 g2 hv
  · exact hT.elim
theorem CallOK.chr {l : Launch} {d : Nat} {own : String} {i : Nat} (hd : 4 ≤ d) (w1 : Jvm.Cond.methodLink own i yJ0_charAt_5068e ∈ gtb) : CallOK l d own i 2 false T_chr := by
  intro p e R s m args below meth c cc nL g A cells slots Q CC pc L as rest μ K hlen hwd hdec hT kk hl H locs ls hP hS hv
  have hdec' : decode cc pc = .ok (.invokevirtual i, 3) := hdec
  unfold T_chr at hT
  split at hT
  · rename_i k x
    obtain ⟨h1, h2, h3⟩ := hT
    obtain ⟨j, rfl⟩ : ∃ j, k = 110 + j := ⟨k - 110, by omega⟩
    rw [show 110 + j - 110 = j by omega] at h2 h3
    have hj : j < 5 := by omega
    obtain ⟨x', rfl⟩ := Int.eq_ofNat_of_zero_le h2.1
    rw [sl_n j hj] at h2
    rw [Int.toNat_natCast] at h3
    have hw := wd_ok g.2.2 rest
    refine CJ.V CC hj (As := [.int (Int32.ofInt x')]) (rest := rest.map (cv g.2.2)) (gj_chr l g hj (k := x') (by omega)) hd (by decide) w1 (mg 246 (by decide +kernel) (by decide +kernel)) (mg 247 (by decide +kernel) (by decide +kernel)) (mg 8 (by decide +kernel) (by decide +kernel)) (mg 248 (by decide +kernel) (by decide +kernel)) (show yJ0_charAt_5068e.cls = "java/lang/String" ∧ yJ0_charAt_5068e.cls ≠ "java/lang/invoke/MethodHandle" ∧ yJ0_charAt_5068e.cls ≠ "java/lang/invoke/VarHandle" ∧ (parseMethodDescriptor yJ0_charAt_5068e.desc).map (fun d => d.parameters.length) = some 1 from by decide +kernel) hP hS hv.1 (fun h => by cases h) (by rw [hw]; exact hwd) hdec' (fun H1 locs1 g1 g2 => ?_)
    exact kk _ _ h3 hl H1 locs1 ls g1 g2 hv
  · exact hT.elim
