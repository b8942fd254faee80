/-! what is given at the law's entry -/
theorem tw {w : Jvm.Cond} (i : Nat) (h : tables_1[i]? = some w) : w ∈ lw_tbl := List.mem_append_right _ (List.mem_of_getElem? h)
def tmS (i : Nat) : Term := .string "RingWord$Tape" (skix i)
def flL : List Jvm.Cond := flatC (Jvm.Cond.and given_1 narrow_1)
theorem fl_ex : ∀ i, i < 5 → Cond.exactly (tmS i) "java/lang/String" ∈ flL := by decide +kernel
theorem fl_co : ∀ i, i < 5 → Cond.eq (.field (tmS i) "java/lang/String" "coder" "B") (.int 0) ∈ flL := by decide +kernel
theorem fl_ar : ∀ i, i < 5 → Cond.arrayOf (.field (tmS i) "java/lang/String" "value" "[B") .byte ∈ flL := by decide +kernel
theorem fl_le : ∀ i, i < 5 → Cond.eq (.length (.field (tmS i) "java/lang/String" "value" "[B")) (.int (Int32.ofNat (sln.getD i 0))) ∈ flL := by decide +kernel
theorem fl_el : ∀ i, i < 5 → ∀ j, j < sln.getD i 0 → Cond.eq (.elem (.field (tmS i) "java/lang/String" "value" "[B") (.int (Int32.ofNat j))) (.int ((sby.getD i []).getD j 0)) ∈ flL := by decide +kernel
theorem fl_ne : ∀ i, i < 5 → ∀ j, j < 5 → i ≠ j → Cond.not (Cond.eq (tmS i) (tmS j)) ∈ flL ∨ Cond.not (Cond.eq (tmS j) (tmS i)) ∈ flL := by decide +kernel
theorem fl_sr : ∀ i, i < 5 → Cond.stringRef "RingWord$Tape" (skix i) (stx i) ∈ lw_tbl := by decide +kernel
theorem fl_L : ∀ j, j < 5 → Cond.eq (.elem (.static "RingWord" "LEAST" "[I") (.int (Int32.ofNat j))) (.int (Int32.ofInt (stv 100 j))) ∈ flL := by decide +kernel
theorem fl_G : ∀ j, j < 5 → Cond.eq (.elem (.static "RingWord" "GREATEST" "[I") (.int (Int32.ofNat j))) (.int (Int32.ofInt (stv 101 j))) ∈ flL := by decide +kernel
theorem fl_nc : ∀ q ∈ ncL, Cond.methodLinkNest q.1 q.2.1 q.2.2 "RingWord" ∈ lw_tbl := by decide +kernel
theorem fl_ns : ∀ q ∈ ([("RingWord$Tape", 111), ("RingWord$Ring", 45), ("RingWord$Sheet", 22)] : List (String × Nat)), Cond.methodLinkNest q.1 q.2 ⟨"RingWord", "isOutside", "(III)Z"⟩ "RingWord" ∈ lw_tbl := by decide +kernel
theorem fl_s : ∀ w ∈ ([Cond.arrayOf (.static "RingWord" "LEAST" "[I") .int, Cond.eq (.length (.static "RingWord" "LEAST" "[I")) (.int (Int32.ofNat 5)), Cond.arrayOf (.static "RingWord" "GREATEST" "[I") .int, Cond.eq (.length (.static "RingWord" "GREATEST" "[I")) (.int (Int32.ofNat 5)), Cond.eq (.static "java/lang/String" "COMPACT_STRINGS" "Z") (.int 1), Cond.isRef (.static "jdk/internal/util/Preconditions" "SIOOBE_FORMATTER" "Ljava/util/function/BiFunction;")] : List Jvm.Cond), w ∈ flL := by decide +kernel
theorem arr_K {s : State} {cA comp : ClassId} {k : Class} {ty : FieldType} (h1 : s.vm.classes[cA]? = some k) (h2 : k.kind = .array comp ty) : ArrOfT s cA ty := fun n z => ⟨fun k h => (by cases h), k, h1, comp, h2⟩
set_option maxRecDepth 20000 in
set_option maxHeartbeats 4000000 in
theorem st0 {p : Program} {s : State} {m : MethodId} {meth : Method} {c : Code} {b L : Nat} {xs : Nat → Int32} (C0 : lw_At p s m meth c b L xs) : ∃ g : Gh, (∀ k, k < 79 → g.2.2 k = s.heap.size + pm k) ∧ g.2.2 200 = b ∧ XC g s ∧ ST g (fun q => s.heap.size ≤ q) s s.heap := by
  obtain ⟨hx, hb, hr, hml, hown, hts, hX, hbl, hlocks, hgv⟩ := C0
  have hs : ∀ w ∈ flL, w.before #[Value.ref b] s = true := flat_of_before _ hgv
  have htg : ∀ w ∈ gtb, w.before #[Value.ref b] s = true := fun w hw => hts w (gtb_in w hw)
  have hA : ∀ a : Nat, a < s.heap.size → ¬ (fun q => s.heap.size ≤ q) a := fun a h => Nat.not_le.mpr h
  obtain ⟨c0, i0, k0⟩ := u_known (C := RX0) (T := TX0) (N := 3) (n := 3) htg inG0 (htg _ (mg 123 (by decide +kernel) (by decide +kernel)))
  obtain ⟨c1, i1, k1⟩ := u_known (C := RX1) (T := TX1) (N := 7) (n := 7) htg inG1 (htg _ (mg 24 (by decide +kernel) (by decide +kernel)))
  obtain ⟨c2, i2, k2⟩ := u_known (C := RX2) (T := TX2) (N := 4) (n := 4) htg inG2 (htg _ (mg 66 (by decide +kernel) (by decide +kernel)))
  obtain ⟨c3, i3, k3⟩ := u_known (C := RX3) (T := TX3) (N := 3) (n := 3) htg inG3 (htg _ (mg 144 (by decide +kernel) (by decide +kernel)))
  obtain ⟨c4, i4, k4⟩ := u_known (C := RX4) (T := TX4) (N := 7) (n := 7) htg inG4 (htg _ (mg 86 (by decide +kernel) (by decide +kernel)))
  obtain ⟨c5, i5, k5⟩ := u_known (C := RX5) (T := TX5) (N := 8) (n := 8) htg inG5 (htg _ (mg 16 (by decide +kernel) (by decide +kernel)))
  obtain ⟨c6, i6, k6⟩ := u_known (C := RX6) (T := TX6) (N := 30) (n := 30) htg inG6 (htg _ (mg 598 (by decide +kernel) (by decide +kernel)))
  obtain ⟨aI, bI, dI, fI, hI, gI⟩ := Cond.arrayClass_spec (type := .int) (hts _ (tw 64 (by decide +kernel)))
  obtain ⟨aB, bB, dB, fB, hB, gB⟩ := Cond.arrayClass_spec (type := .byte) (hts _ (tw 117 (by decide +kernel)))
  obtain ⟨aZ, bZ, dZ, fZ, hZ, gZ⟩ := Cond.arrayClass_spec (type := .boolean) (hts _ (tw 702 (by decide +kernel)))
  have o0 : (Cond.arrayOver (.object RX0)).before #[Value.ref b] s = true := (hts _ (tw 119 (by decide +kernel)))
  obtain ⟨p0, q0, r0, u0, -, v0, w0, x0⟩ := Cond.arrayOver_spec o0
  have o3 : (Cond.arrayOver (.object RX3)).before #[Value.ref b] s = true := (hts _ (tw 121 (by decide +kernel)))
  obtain ⟨p3, q3, r3, u3, -, v3, w3, x3⟩ := Cond.arrayOver_spec o3
  obtain ⟨p5, q5, r5, u5, -, v5, w5, x5⟩ := arrayOverA_spec (t := .int) (hts _ (tw 30 (by decide +kernel)))
  have e5 : p5 = aI := Option.some.inj (u5.symm.trans fI)
  subst e5
  obtain ⟨tL, evL, TL⟩ := va_Tof (tm := .static "RingWord" "LEAST" "[I") (ty := .int) (N := 5) (f := fun j => .int (Int32.ofInt (stv 100 j))) (A := fun q => s.heap.size ≤ q) (by decide) (hs _ (fl_s _ (by simp))) (va_eqt (hs _ (fl_s _ (by simp)))) (fun j hj => va_eqt (hs _ (fl_L j hj))) hA
  obtain ⟨tG, evG, TG⟩ := va_Tof (tm := .static "RingWord" "GREATEST" "[I") (ty := .int) (N := 5) (f := fun j => .int (Int32.ofInt (stv 101 j))) (A := fun q => s.heap.size ≤ q) (by decide) (hs _ (fl_s _ (by simp))) (va_eqt (hs _ (fl_s _ (by simp)))) (fun j hj => va_eqt (hs _ (fl_G j hj))) hA
  have ZL := va_Zref (A := fun q => s.heap.size ≤ q) (hts _ (tw 305 (by decide +kernel))) (hts _ (tw 1 (by decide +kernel))) evL hA
  have ZG := va_Zref (A := fun q => s.heap.size ≤ q) (hts _ (tw 307 (by decide +kernel))) (hts _ (tw 1 (by decide +kernel))) evG hA
  have ZC := va_Zof (A := fun q => s.heap.size ≤ q) (hts _ (tw 244 (by decide +kernel))) (hts _ (tw 8 (by decide +kernel))) (va_eqt (z := 1) (hs (Cond.eq (.static "java/lang/String" "COMPACT_STRINGS" "Z") (.int 1)) (fl_s _ (by simp)))) hA
  have ZQ := va_Zqof (A := fun q => s.heap.size ≤ q) (hts _ (tw 260 (by decide +kernel))) (hts _ (tw 10 (by decide +kernel))) (hs (Cond.isRef (.static "jdk/internal/util/Preconditions" "SIOOBE_FORMATTER" "Ljava/util/function/BiFunction;")) (fl_s _ (by simp))) hA
  obtain ⟨adK, adV, vS, vE⟩ := vk_Sof (tm := tmS) (N := 5) (len := sln) (byt := sby) (A := fun q => s.heap.size ≤ q) (by decide +kernel) (fun i hi => hs _ (fl_ex i hi)) (fun i hi => hs _ (fl_co i hi)) (fun i hi => hs _ (fl_ar i hi)) (fun i hi => hs _ (fl_le i hi)) (fun i hi j hj => hs _ (fl_el i hi j hj)) (fun i j hi hj hij => (fl_ne i hi j hj hij).imp (hs _) (hs _)) hA
  let g : Gh := ((fun c => match c with | 0 => c0 | 1 => c1 | 2 => c2 | 3 => c3 | 4 => c4 | 5 => c5 | _ => c6, fun c => match c with | 0 => i0 | 1 => i1 | 2 => i2 | 3 => i3 | 4 => i4 | 5 => i5 | _ => i6), (fun t => match t with | 0 => p5 | 1 => aB | 2 => aZ | 3 => q0 | 4 => q3 | _ => q5), fun k => if k < 79 then s.heap.size + pm k else if k = 100 then tL else if k = 101 then tG else if k = 200 then b else adK (k - 110))
  have hk0 : va_K g.1 vwCl (tysG g) s := by
    refine ⟨fun c q hq => ?_, fun k q hk => ?_⟩
    · match c, hq with
      | 0, hq => cases hq; exact k0
      | 1, hq => cases hq; exact k1
      | 2, hq => cases hq; exact k2
      | 3, hq => cases hq; exact k3
      | 4, hq => cases hq; exact k4
      | 5, hq => cases hq; exact k5
      | 6, hq => cases hq; exact k6
      | c + 7, hq => exact absurd (show c + 7 < 7 from (List.getElem?_eq_some_iff.mp hq).1) (by omega)
    · match k, hk with
      | 0, hk => cases hk; exact ⟨arr_K hI gI, fI⟩
      | 1, hk => cases hk; exact ⟨arr_K hB gB, fB⟩
      | 2, hk => cases hk; exact ⟨arr_K hZ gZ, fZ⟩
      | 3, hk => cases hk; exact ⟨arr_K v0 w0, r0, p0, v0, w0, u0, x0⟩
      | 4, hk => cases hk; exact ⟨arr_K v3 w3, r3, p3, v3, w3, u3, x3⟩
      | 5, hk => cases hk; exact ⟨arr_K v5 w5, x5⟩
      | k + 6, hk => exact absurd (show k + 6 < 6 from (List.getElem?_eq_some_iff.mp hk).1) (by omega)
  have hII : II g s := ⟨r5, bI, dI, v5, w5, hI, gI⟩
  have gK : ∀ i, i < 5 → g.2.2 (110 + i) = adK i := fun i hi => by
    show (if 110 + i < 79 then s.heap.size + pm (110 + i) else if 110 + i = 100 then tL else if 110 + i = 101 then tG else if 110 + i = 200 then b else adK (110 + i - 110)) = adK i
    rw [if_neg (by omega), if_neg (by omega), if_neg (by omega), if_neg (by omega), Nat.add_sub_cancel_left]
  have vS2 : vk_S 5 sln sby (fun i => g.2.2 (110 + i)) adV (fun q => s.heap.size ≤ q) s s.heap := ⟨fun i hi => by
    have q := vS.1 i hi
    rw [← gK i hi] at q
    exact q, fun i j hi hj e => vS.2 i j hi hj (by rw [← gK i hi, ← gK j hj]; exact e)⟩
  refine ⟨g, fun k hk => if_pos hk, rfl, ⟨hk0, hII, fun q hq => va_Nw.of rfl (hts _ (fl_nc q hq)), va_AO.of o0, va_AO.of o3⟩, ⟨ZL, TL⟩, ⟨ZG, TG⟩, hII, ⟨adV, vS2⟩, fun i hi => by rw [gK i hi]; exact vk_R.of (hts _ (fl_sr i hi)) (vE i hi), ZC, ZQ, va_Nw.of rfl (hts _ (tw 304 (by decide +kernel))), va_Nw.of rfl (hts _ (tw 306 (by decide +kernel))), fun q hq => va_Nw.of rfl (hts _ (fl_ns q hq))⟩
