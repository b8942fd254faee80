/-- a virtual call -/
theorem CallOK.V {l : Launch} {d d' : Nat} {own : String} {i n nL' : Nat} {y : MethodName} {cc' : ByteArray} {ret' : Option FieldType} {T : TT} {ci N : Nat} {C : String} {TT' : u_T} (hM : Good l d' y cc' nL' ret' T) (hd : d' + 1 ≤ d) (hn : nL' ≤ 17) (hci : vwCl[ci]? = some (C, TT', N)) (h7 : ci < 7)
    (hrec : ∀ a μ K, T a μ K → ∃ k r, a = .inr (.inr k) :: r ∧ kd k = ci)
    (w1 : Jvm.Cond.methodLink own i y ∈ gtb) (w2 : Jvm.Cond.instanceMethod y ∈ gtb) (w3 : Jvm.Cond.selects C y y ∈ gtb) (w4 : Jvm.Cond.initialized C ∈ gtb) (w5 : Jvm.Cond.code y cc' nL' ret' ∈ gtb)
    (hy : y.cls = C ∧ y.cls ≠ "java/lang/invoke/MethodHandle" ∧ y.cls ≠ "java/lang/invoke/VarHandle" ∧ (parseMethodDescriptor y.desc).map (fun d => d.parameters.length) = some n) : CallOK l d own i (n + 1) false T := by
  intro p e R s m args below meth c cc nL g A cells slots Q CC pc L as rest μ K hlen hwd hdec hT kk hl H locs ls hP hS hv
  obtain ⟨⟨hx, hb, hml, hown, hts⟩, hK, hi, hST, hA, hc1, hc2, hd1, hd2⟩ := CC
  obtain ⟨k, r, rfl, hk⟩ := hrec _ _ _ hT
  have hr : r.length = n := by simpa using hlen
  have hdec' : decode cc pc = .ok (.invokevirtual i, 3) := hdec
  have hGI : GoodIn gtb (wsV own i C y (Jvm.Cond.code y cc' nL' ret' :: gtb)) := by
    intro w hw
    unfold wsV at hw
    have : w ∈ gtb := by
      rcases List.mem_append.mp hw with h | h
      · simp only [List.mem_cons, List.not_mem_nil, or_false] at h
        rcases h with rfl | rfl | rfl | rfl <;> assumption
      · rcases List.mem_cons.mp h with rfl | h
        · exact w5
        · exact h
    exact gtb_good w this
  have he := wl_get g μ (kd_lt hk (by omega) (by omega))
  rw [pic_obj g μ hk h7] at he
  have hrun := va_runV (l := l) (e := e) (R := R) (below := below) (meth := meth) (locs := locs) (cells := cells) (slots := slots) (As := r.map (cv g.2.2)) (rest := rest.map (cv g.2.2)) (b := g.2.2 k) (g := F0 m pc ls (((.inr (.inr k) :: r).reverse ++ rest).map (cv g.2.2))) (H := H) ⟨hx, hb, hml, hown, hts⟩ (hM g μ (.inr (.inr k) :: r) K hT) (cwV n hts hGI rfl rfl rfl hy ⟨Nat.le_trans hd hd1, by show 8 + (nL' + 11) + 36 * d' ≤ R.locals; omega⟩) ⟨PreM.blind, va_recv hK hP hci he, PreM.of hK hi hST hA hP hS⟩ rfl (by simpa using hr) hv.1 (by simp [cv]) (lv_room (by rw [wd_ok]; exact hwd)) hdec' ⟨hc1, hc2⟩
  refine callQ hrun hS hA (fun r' μ' H1 locs1 h1 h2 h3 => ?_)
  have := kk r' μ' h1 hl H1 locs1 ls h2 h3 hv
  rw [List.map_append] at this
  exact this
/-- a static call -/
theorem CallOK.S {l : Launch} {d d' : Nat} {own : String} {i n nL' : Nat} {y : MethodName} {cc' : ByteArray} {ret' : Option FieldType} {T : TT} (hM : Good l d' y cc' nL' ret' T) (hd : d' + 1 ≤ d) (hn : nL' ≤ 17)
    (w1 : Jvm.Cond.methodLink own i y ∈ gtb) (w2 : Jvm.Cond.static y ∈ gtb) (w4 : Jvm.Cond.initialized y.cls ∈ gtb) (w5 : Jvm.Cond.code y cc' nL' ret' ∈ gtb)
    (hy : y.cls ≠ "java/lang/invoke/MethodHandle" ∧ y.cls ≠ "java/lang/invoke/VarHandle" ∧ (parseMethodDescriptor y.desc).map (fun d => d.parameters.length) = some n) : CallOK l d own i n true T := by
  intro p e R s m args below meth c cc nL g A cells slots Q CC pc L as rest μ K hlen hwd hdec hT kk hl H locs ls hP hS hv
  obtain ⟨⟨hx, hb, hml, hown, hts⟩, hK, hi, hST, hA, hc1, hc2, hd1, hd2⟩ := CC
  have hdec' : decode cc pc = .ok (.invokestatic i, 3) := hdec
  have hGI : GoodIn gtb (va_wsS own i y (Jvm.Cond.code y cc' nL' ret' :: gtb)) := by
    intro w hw
    unfold va_wsS at hw
    have : w ∈ gtb := by
      rcases List.mem_append.mp hw with h | h
      · simp only [List.mem_cons, List.not_mem_nil, or_false] at h
        rcases h with rfl | rfl | rfl <;> assumption
      · rcases List.mem_cons.mp h with rfl | h
        · exact w5
        · exact h
    exact gtb_good w this
  have hrun := va_runS (l := l) (e := e) (R := R) (below := below) (meth := meth) (locs := locs) (cells := cells) (slots := slots) (As := as.map (cv g.2.2)) (rest := rest.map (cv g.2.2)) (g := F0 m pc ls ((as.reverse ++ rest).map (cv g.2.2))) (H := H) ⟨hx, hb, hml, hown, hts⟩ (hM g μ as K hT) (va_cwS n hts hGI rfl rfl rfl hy ⟨Nat.le_trans hd hd1, by show 8 + (nL' + 11) + 36 * d' ≤ R.locals; omega⟩) ⟨PreM.blind, PreM.of hK hi hST hA hP hS⟩ rfl (by simpa using hlen) hv.1 (by simp) (lv_room (by rw [wd_ok]; exact hwd)) hdec' ⟨hc1, hc2⟩
  refine callQ hrun hS hA (fun r' μ' H1 locs1 h1 h2 h3 => ?_)
  have := kk r' μ' h1 hl H1 locs1 ls h2 h3 hv
  rw [List.map_append] at this
  exact this
/-- a static call of a private method of a nest mate -/
theorem CallOK.N {l : Launch} {d d' : Nat} {own : String} {i n nL' : Nat} {cc' : ByteArray} {ret' : Option FieldType} {T : TT} (hM : Good l d' yX5_isOutside cc' nL' ret' T) (hd : d' + 1 ≤ d) (hn : nL' ≤ 17)
    (w1 : (own, i) ∈ ([("RingWord$Tape", 111), ("RingWord$Ring", 45), ("RingWord$Sheet", 22)] : List (String × Nat))) (w2 : Jvm.Cond.static yX5_isOutside ∈ gtb) (w4 : Jvm.Cond.initialized yX5_isOutside.cls ∈ gtb) (w5 : Jvm.Cond.code yX5_isOutside cc' nL' ret' ∈ gtb)
    (hy : yX5_isOutside.cls ≠ "java/lang/invoke/MethodHandle" ∧ yX5_isOutside.cls ≠ "java/lang/invoke/VarHandle" ∧ (parseMethodDescriptor yX5_isOutside.desc).map (fun d => d.parameters.length) = some n) : CallOK l d own i n true T := by
  intro p e R s m args below meth c cc nL g A cells slots Q CC pc L as rest μ K hlen hwd hdec hT kk hl H locs ls hP hS hv
  obtain ⟨⟨hx, hb, hml, hown, hts⟩, hK, hi, hST, hA, hc1, hc2, hd1, hd2⟩ := CC
  have hdec' : decode cc pc = .ok (.invokestatic i, 3) := hdec
  have hGI : GoodIn gtb (Jvm.Cond.code yX5_isOutside cc' nL' ret' :: gtb) := by
    intro w hw
    rcases List.mem_cons.mp hw with rfl | h
    · exact gtb_good _ w5
    · exact gtb_good _ h
  have hrun := va_runSN (l := l) (e := e) (R := R) (below := below) (meth := meth) (locs := locs) (cells := cells) (slots := slots) (As := as.map (cv g.2.2)) (rest := rest.map (cv g.2.2)) (g := F0 m pc ls ((as.reverse ++ rest).map (cv g.2.2))) (H := H) ⟨hx, hb, hml, hown, hts⟩ (hM g μ as K hT) ⟨va_cnB n hts hGI rfl rfl rfl (hST.2.2.2.2.2.2.2.2.2 _ w1) (hts _ w4) hy ⟨Nat.le_trans hd hd1, by show 8 + (nL' + 11) + 36 * d' ≤ R.locals; omega⟩, hts _ w2, trivial⟩ ⟨PreM.blind, PreM.of hK hi hST hA hP hS⟩ rfl (by simpa using hlen) hv.1 (by simp) (lv_room (by rw [wd_ok]; exact hwd)) hdec' ⟨hc1, hc2⟩
  refine callQ hrun hS hA (fun r' μ' H1 locs1 h1 h2 h3 => ?_)
  have := kk r' μ' h1 hl H1 locs1 ls h2 h3 hv
  rw [List.map_append] at this
  exact this
/-- Math.min, Math.max -/
def T_min : TT := fun a μ K => match a with
  | [.inl x, .inl y] => InR x ∧ InR y ∧ K [.inl (min x y)] μ
  | _ => False
def T_max : TT := fun a μ K => match a with
  | [.inl x, .inl y] => InR x ∧ InR y ∧ K [.inl (max x y)] μ
  | _ => False
theorem CallOK.min {l : Launch} {d : Nat} {own : String} {i : Nat} (hd : 1 ≤ d) (w1 : Jvm.Cond.methodLink own i Lib.Math.min.name ∈ gtb) (w2 : Jvm.Cond.static Lib.Math.min.name ∈ gtb) (w4 : Jvm.Cond.initialized "java/lang/Math" ∈ gtb) (w5 : Jvm.Cond.code Lib.Math.min.name Lib.Math.min.code 2 (some .int) ∈ gtb) : CallOK l d own i 2 true T_min := by
  intro p e R s m args below meth c cc nL g A cells slots Q CC pc L as rest μ K hlen hwd hdec hT kk hl H locs ls hP hS hv
  obtain ⟨⟨hx, hb, hml, hown, hts⟩, hK, hi, hST, hA, hc1, hc2, hd1, hd2⟩ := CC
  have hdec' : decode cc pc = .ok (.invokestatic i, 3) := hdec
  unfold T_min at hT
  split at hT
  · rename_i x y
    obtain ⟨h1, h2, h3⟩ := hT
    have hw := wd_ok g.2.2 rest
    refine va_mmin (rest := rest.map (cv g.2.2)) hx hb (hml.trans hv.1.symm) hown (hts _ w1) (hts _ w2) (hts _ w4) (hts _ w5) (by omega) (by rw [hw]; omega) hc1 hc2 hdec' ?_
    have := kk _ _ h3 hl H locs ls hP hS hv
    have e1 : (if Int32.ofInt y < Int32.ofInt x then Int32.ofInt y else Int32.ofInt x) = Int32.ofInt (Min.min x y) := by
      by_cases q : y < x
      · rw [if_pos ((n_lt h2 h1).mpr q)]; congr 1; omega
      · rw [if_neg (fun z => q ((n_lt h2 h1).mp z))]; congr 1; omega
    rw [e1]
    exact this
  · exact hT.elim
theorem CallOK.max {l : Launch} {d : Nat} {own : String} {i : Nat} (hd : 1 ≤ d) (w1 : Jvm.Cond.methodLink own i Lib.Math.max.name ∈ gtb) (w2 : Jvm.Cond.static Lib.Math.max.name ∈ gtb) (w4 : Jvm.Cond.initialized "java/lang/Math" ∈ gtb) (w5 : Jvm.Cond.code Lib.Math.max.name Lib.Math.max.code 2 (some .int) ∈ gtb) : CallOK l d own i 2 true T_max := by
  intro p e R s m args below meth c cc nL g A cells slots Q CC pc L as rest μ K hlen hwd hdec hT kk hl H locs ls hP hS hv
  obtain ⟨⟨hx, hb, hml, hown, hts⟩, hK, hi, hST, hA, hc1, hc2, hd1, hd2⟩ := CC
  have hdec' : decode cc pc = .ok (.invokestatic i, 3) := hdec
  unfold T_max at hT
  split at hT
  · rename_i x y
    obtain ⟨h1, h2, h3⟩ := hT
    have hw := wd_ok g.2.2 rest
    refine va_mmax (rest := rest.map (cv g.2.2)) hx hb (hml.trans hv.1.symm) hown (hts _ w1) (hts _ w2) (hts _ w4) (hts _ w5) (by omega) (by rw [hw]; omega) hc1 hc2 hdec' ?_
    have := kk _ _ h3 hl H locs ls hP hS hv
    have e1 : (if Int32.ofInt x < Int32.ofInt y then Int32.ofInt y else Int32.ofInt x) = Int32.ofInt (Max.max x y) := by
      by_cases q : x < y
      · rw [if_pos ((n_lt h1 h2).mpr q)]; congr 1; omega
      · rw [if_neg (fun z => q ((n_lt h1 h2).mp z))]; congr 1; omega
    rw [e1]
    exact this
  · exact hT.elim
/-- System.arraycopy of int rows -/
def wC (μ : Mem) (k0 sp k1 dp n : Nat) : Mem := (fun a b => if a = k1 ∧ dp ≤ b ∧ b < dp + n then μ.1 k0 (sp + (b - dp)) else μ.1 a b, μ.2)
theorem rI_wC (μ : Mem) (k0 sp k1 dp n a b : Nat) : rI (wC μ k0 sp k1 dp n) a b = if a = k1 ∧ dp ≤ b ∧ b < dp + n then rI μ k0 (sp + (b - dp)) else rI μ a b := rfl
theorem rR_wC (μ : Mem) (k0 sp k1 dp n a b : Nat) : rR (wC μ k0 sp k1 dp n) a b = rR μ a b := rfl
def T_copy : TT := fun a μ K => match a with
  | [.inr (.inr k0), .inl sp, .inr (.inr k1), .inl dp, .inl n] => kd k0 = 7 ∧ kd k1 = 7 ∧ (0 ≤ sp ∧ 0 ≤ dp ∧ 0 ≤ n) ∧ sp + n ≤ ln k0 ∧ dp + n ≤ ln k1 ∧ K [] (wC μ k0 sp.toNat k1 dp.toNat n.toNat)
  | _ => False
theorem pic_wC_ne (g : Gh) (μ : Mem) (k0 sp : Nat) {k1 : Nat} (dp n : Nat) {k' : Nat} (h : k' ≠ k1) : pic g (wC μ k0 sp k1 dp n) k' = pic g μ k' := by
  have e1 : ∀ b, rI (wC μ k0 sp k1 dp n) k' b = rI μ k' b := fun b => by rw [rI_wC, if_neg (fun z => h z.1)]
  have e2 : iarr (wC μ k0 sp k1 dp n) k' = iarr μ k' := by funext j; simp only [iarr, e1]
  have e3 : ∀ (l : List (Nat × Nat)) (j : Nat), flds g.2.2 (wC μ k0 sp k1 dp n) k' j l = flds g.2.2 μ k' j l := by
    intro l
    induction l with
    | nil => intro j; rfl
    | cons q r ih => intro j; simp only [flds, ih, fval, e1]
  unfold pic
  rw [e2, e3]
  rfl
theorem CallOK.copy {l : Launch} {d : Nat} {own : String} {i : Nat} (hd : 1 ≤ d) (w1 : Jvm.Cond.methodLink own i arraycopyName ∈ gtb) (w2 : Jvm.Cond.native arraycopyName ∈ gtb) (w3 : Jvm.Cond.static arraycopyName ∈ gtb) (w4 : Jvm.Cond.initialized "java/lang/System" ∈ gtb) : CallOK l d own i 5 true T_copy := by
  intro p e R s m args below meth c cc nL g A cells slots Q CC pc L as rest μ K hlen hwd hdec hT kk hl H locs ls hP hS hv
  obtain ⟨⟨hx, hb, hml, hown, hts⟩, hK, hi, hST, hA, hc1, hc2, hd1, hd2⟩ := CC
  have hdec' : decode cc pc = .ok (.invokestatic i, 3) := hdec
  have hD := wl_D hi hA μ
  unfold T_copy at hT
  split at hT
  · rename_i k0 sp k1 dp n
    obtain ⟨q0, q1, ⟨h1, h2, h3⟩, h4, h5, h6⟩ := hT
    have b0 := ln_lt k0
    have b1 := ln_lt k1
    have hw := wd_ok g.2.2 rest
    have he0 := wl_get g μ (kd_lt q0 (by omega) (by omega))
    have he1 := wl_get g μ (kd_lt q1 (by omega) (by omega))
    rw [pic_7 g μ q0] at he0
    rw [pic_7 g μ q1] at he1
    have r1 : InR sp := ⟨by omega, by omega⟩
    have r2 : InR dp := ⟨by omega, by omega⟩
    have r3 : InR n := ⟨by omega, by omega⟩
    have hnf : nativeFrameWords "java/lang/System" "arraycopy" 5 ≤ 12 := by decide +kernel
    have z1 : ¬ Int32.ofInt sp < 0 := by rw [n_0, n_lt r1 InR0]; omega
    have z2 : ¬ Int32.ofInt dp < 0 := by rw [n_0, n_lt r2 InR0]; omega
    have z3 : ¬ Int32.ofInt n < 0 := by rw [n_0, n_lt r3 InR0]; omega
    have z4 : (Int32.ofInt sp).toNatClampNeg + (Int32.ofInt n).toNatClampNeg ≤ ln k0 := by rw [n_cl r1, n_cl r3]; omega
    have z5 : (Int32.ofInt dp).toNatClampNeg + (Int32.ofInt n).toNatClampNeg ≤ ln k1 := by rw [n_cl r2, n_cl r3]; omega
    refine va_copyi (ty := .int) (rest := rest.map (cv g.2.2)) hx hb (hml.trans hv.1.symm) hown (hts _ w1) (hts _ w2) (hts _ w3) (hts _ w4) hK hP hD hS k0 k1 0 0 he0 he1 rfl rfl rfl z1 z2 z3 z4 z5 (fun _ _ => rfl) (by omega) (by rw [hw]; omega) hdec' (fun H1 locs1 hP1 hD1 hS1 => ?_)
    have e1 : va_cpy (iarr μ k0) (iarr μ k1) sp.toNat dp.toNat n.toNat = iarr (wC μ k0 sp.toNat k1 dp.toNat n.toNat) k1 := by
      funext j
      simp only [va_cpy, iarr, rI_wC]
      by_cases q : dp.toNat ≤ j ∧ j < dp.toNat + n.toNat
      · rw [if_pos q, if_pos ⟨trivial, q⟩]
      · rw [if_neg q, if_neg (fun z => q z.2)]
    rw [n_cl r1, n_cl r2, n_cl r3, e1, wl_set g μ (wC μ k0 sp.toNat k1 dp.toNat n.toNat) (pic_7 g _ q1).symm (fun j' hj' => pic_wC_ne g μ _ _ _ _ hj')] at hP1
    exact kk _ _ h6 hl H1 locs1 ls hP1 hS1 hv
  · exact hT.elim
