/-! both: alter, give, forget, see, rule -/
def loA (w : Int) : Int := if w = 2 ∨ w = 4 then 1 else 0
def hiA (w : Int) : Int := if w = 0 then 3 else if w = 1 then 99 else 9
def altOK (f : Nat → Int) (i w v : Int) : Prop := (0 ≤ i ∧ i < f 35) ∧ (0 ≤ w ∧ w ≤ 4) ∧ loA w ≤ v ∧ v ≤ hiA w
theorem loA_in (w : Int) : 0 ≤ loA w ∧ loA w ≤ 1 := by unfold loA; split <;> omega
theorem hiA_in (w : Int) : 3 ≤ hiA w ∧ hiA w ≤ 99 := by
  unfold hiA
  split
  · omega
  · split <;> omega
theorem loA_f (w : Int) : (if w = 2 ∨ w = 4 then (1 : Int) else 0) = loA w := rfl
theorem hiA_f (w : Int) : (if w = 0 then (3 : Int) else if w = 1 then 99 else 9) = hiA w := rfl
def T6_alter : TT := fun a μ K => match a with
  | [.inr (.inr o), .inl i, .inl w, .inl v] => o = 66 ∧ (InR i ∧ InR w ∧ InR v ∧ (0 ≤ rI μ 67 35 ∧ rI μ 67 35 ≤ 5) ∧ (altOK (rI μ 67) i w v → K [.inl (rI μ 67 (7 * i.toNat + w.toNat))] (wI μ 67 (7 * i.toNat + w.toNat) v)) ∧ (¬ altOK (rI μ 67) i w v → K [.inl (-1)] μ))
  | _ => False
theorem rec_X6_alter : ∀ a μ K, T6_alter a μ K → ∃ k r, a = .inr (.inr k) :: r ∧ kd k = 6 := by
  intro a μ K h
  unfold T6_alter at h
  split at h
  · exact ⟨_, _, rfl, by rw [h.1]; rfl⟩
  · exact h.elim
def GL_X6_alter : List (Nat × Nat × Bool × TT) := [(180, 2, false, T6_isStation), (59, 3, true, T6_in), (108, 1, true, T6_lowOf), (111, 1, true, T6_mostOf), (187, 3, false, T6_becomes)]
def G_X6_alter : Nat → Option (Nat × Bool × TT) := fun i => GL_X6_alter.lookup i
theorem G_X6_alter_180 : G_X6_alter 180 = some (2, false, T6_isStation) := rfl
theorem G_X6_alter_59 : G_X6_alter 59 = some (3, true, T6_in) := rfl
theorem G_X6_alter_108 : G_X6_alter 108 = some (1, true, T6_lowOf) := rfl
theorem G_X6_alter_111 : G_X6_alter 111 = some (1, true, T6_mostOf) := rfl
theorem G_X6_alter_187 : G_X6_alter 187 = some (3, false, T6_becomes) := rfl
theorem gk_X6_alter (l : Launch) : ∀ i n b T, G_X6_alter i = some (n, b, T) → CallOK l 2 RX6 i n b T := by
  intro i n b T h
  have hm : (i, n, b, T) ∈ GL_X6_alter := lk_mem h
  simp only [GL_X6_alter, List.mem_cons, List.not_mem_nil, or_false, Prod.mk.injEq] at hm
  rcases hm with ⟨rfl, rfl, rfl, rfl⟩ | ⟨rfl, rfl, rfl, rfl⟩ | ⟨rfl, rfl, rfl, rfl⟩ | ⟨rfl, rfl, rfl, rfl⟩ | ⟨rfl, rfl, rfl, rfl⟩
  · exact CallOK.V (d := 2) (own := RX6) (i := 180) (n := 1) (ci := 6) (good_X6_isStation l) (by decide) (by decide) rfl (by decide) rec_X6_isStation (mg 796 (by decide +kernel) (by decide +kernel)) (mg 798 (by decide +kernel) (by decide +kernel)) (mgs 38 (by decide +kernel) (by decide +kernel)) (mg 7 (by decide +kernel) (by decide +kernel)) (mg 799 (by decide +kernel) (by decide +kernel)) (by decide +kernel)
  · exact CallOK.S (d := 2) (own := RX6) (i := 59) (n := 3) (good_X6_in l) (by decide) (by decide) (mg 708 (by decide +kernel) (by decide +kernel)) (mg 709 (by decide +kernel) (by decide +kernel)) (mg 7 (by decide +kernel) (by decide +kernel)) (mg 710 (by decide +kernel) (by decide +kernel)) (by decide +kernel)
  · exact CallOK.S (d := 2) (own := RX6) (i := 108) (n := 1) (good_X6_lowOf l) (by decide) (by decide) (mg 755 (by decide +kernel) (by decide +kernel)) (mg 756 (by decide +kernel) (by decide +kernel)) (mg 7 (by decide +kernel) (by decide +kernel)) (mg 757 (by decide +kernel) (by decide +kernel)) (by decide +kernel)
  · exact CallOK.S (d := 2) (own := RX6) (i := 111) (n := 1) (good_X6_mostOf l) (by decide) (by decide) (mg 758 (by decide +kernel) (by decide +kernel)) (mg 759 (by decide +kernel) (by decide +kernel)) (mg 7 (by decide +kernel) (by decide +kernel)) (mg 760 (by decide +kernel) (by decide +kernel)) (by decide +kernel)
  · exact CallOK.V (d := 2) (own := RX6) (i := 187) (n := 2) (ci := 6) (good_X6_becomes l) (by decide) (by decide) rfl (by decide) rec_X6_becomes (mg 806 (by decide +kernel) (by decide +kernel)) (mg 808 (by decide +kernel) (by decide +kernel)) (mgs 39 (by decide +kernel) (by decide +kernel)) (mg 7 (by decide +kernel) (by decide +kernel)) (mg 809 (by decide +kernel) (by decide +kernel)) (by decide +kernel)
set_option maxRecDepth 20000 in
set_option maxHeartbeats 4000000 in
theorem body_X6_alter (o : Nat) (i : Int) (w : Int) (v : Int) (μ : Mem) (K : List AV → Mem → Prop) (V : Nat → List (Option AV) → List AV → Mem → Prop) (hV : Clos FX6 CX6 G_X6_alter 1 K cX6_alter V) (hT : o = 66 ∧ (InR i ∧ InR w ∧ InR v ∧ (0 ≤ rI μ 67 35 ∧ rI μ 67 35 ≤ 5) ∧ (altOK (rI μ 67) i w v → K [.inl (rI μ 67 (7 * i.toNat + w.toNat))] (wI μ 67 (7 * i.toNat + w.toNat) v)) ∧ (¬ altOK (rI μ 67) i w v → K [.inl (-1)] μ))) : V 0 [some (.inr (.inr o)), some (.inl i), some (.inl w), some (.inl v)] [] μ := by
  simp only [InR] at hT
  obtain ⟨rfl, h1, h2, h2b, h3, h4, h5⟩ := hT
  have b1 := loA_in w
  have b2 := hiA_in w
  apply hV [] 60
  simp only [InR, InL, inb, Int.toNat_natCast, wp1, wpc_z, wpc_s, stp_iconst, stp_bipush, stp_sipush, stp_lconst, stp_iload_n, stp_iload, stp_lload_n, stp_lload, stp_aload_n, stp_aload, stp_istore_n, stp_istore, stp_lstore_n, stp_lstore, stp_astore_n, stp_astore, stp_iinc, stp_iadd, stp_isub, stp_imul, stp_ineg, stp_idiv, stp_irem, stp_ladd, stp_lmul, stp_ldiv, stp_lrem, stp_ishl, stp_ishr, stp_iushr, stp_iand, stp_ior, stp_i2l, stp_i2b, stp_i2s, stp_lcmp, stp_dup, stp_dup2, stp_pop, stp_ifCond, stp_if_icmp, stp_goto, stp_tableswitch, stp_lookupswitch, stp_ldc, stp_ldc_w, stp_ldc2_w, stp_getstatic, stp_getfield, stp_putfield, stp_iaload, stp_baload, stp_iastore, stp_bastore, stp_aaload, stp_aastore, stp_invokevirtual, stp_invokestatic, stp_ireturn, stp_lreturn, stp_return_, lg, lset, okl, spl, wd, c1, cnd, tg, swT, swL, f4_0, f4_1, f4_2, f4_3, f2_0, f2_1, List.mem_cons, List.not_mem_nil, List.length_cons, List.length_nil, List.cons_append, List.nil_append, Nat.reduceAdd, Nat.reduceMul, Nat.reduceLT, Nat.reduceEqDiff, Nat.reduceLeDiff, Int.reduceAdd, Int.reduceNeg, Int.reduceToNat, Int.cast_ofNat_Int, Int.reduceNatCast, Int.toNat_zero, Int.toNat_one, Int.reduceLE, Int.reduceLT, Int.reduceEq, Int.zero_add, Int.add_zero, or_false, false_or, or_true, true_or, and_true, true_and, and_false, false_and, reduceIte, not_true_eq_false, not_false_eq_true, forall_const, false_implies, true_implies, implies_true, ne_eq, reduceCtorEq, List.all_cons, List.all_nil, Bool.and_true, Bool.and_self, decide_eq_true_eq, decide_true, dX6_alter_0, dX6_alter_1, dX6_alter_2, dX6_alter_5, dX6_alter_8, dX6_alter_9, dX6_alter_10, dX6_alter_11, dX6_alter_14, dX6_alter_17, dX6_alter_20, dX6_alter_21, dX6_alter_22, dX6_alter_23, dX6_alter_26, dX6_alter_27, dX6_alter_28, dX6_alter_31, dX6_alter_32, dX6_alter_35, dX6_alter_38, dX6_alter_39, dX6_alter_41, dX6_alter_42, dX6_alter_43, dX6_alter_44, dX6_alter_45, dX6_alter_46, dX6_alter_49, dX6_alter_52, dX6_alter_53, CX6_185, G_X6_alter_180, G_X6_alter_59, G_X6_alter_108, G_X6_alter_111, G_X6_alter_187, kd_66, kd_67, ln_67, T6_isStation, T6_in, T6_lowOf, T6_mostOf, T6_becomes, loA_f, hiA_f]
  by_cases hc : altOK (rI μ 67) i w v
  · have h4 := h4 hc
    unfold altOK at hc
    rw [show 7 * i.toNat + w.toNat = (7 * i + w).toNat by omega] at h4
    repeat' (first | exact trivial | omega | (with_reducible assumption) | exact absurd trivial (by with_reducible assumption) | contradiction | apply And.intro | intro _)
  · have h5 := h5 hc
    unfold altOK at hc
    repeat' (first | exact trivial | omega | (with_reducible assumption) | exact absurd trivial (by with_reducible assumption) | contradiction | apply And.intro | intro _)
    all_goals exact absurd ⟨by assumption, ⟨by omega, by omega⟩, by omega, by omega⟩ hc
theorem good_X6_alter (l : Launch) : Good l 2 yX6_alter cX6_alter 4 (some .int) T6_alter := by
  refine Good.mk 1 (by decide) rfl (by simp [retOK]) FOK6 COK6 (gk_X6_alter l) ?_ ?_
  · intro a μ K h
    unfold T6_alter at h
    split at h
    · simp [entl]
    · exact h.elim
  · intro a μ K V hV h
    unfold T6_alter at h
    split at h
    · exact body_X6_alter _ _ _ _ μ K V hV h
    · exact h.elim

theorem stv_lo : ∀ w : Nat, w < 5 → stv 100 w = loA (w : Int) ∧ stv 101 w = hiA (w : Int) := by decide +kernel
def T5_alter : TT := fun a μ K => match a with
  | [.inr (.inr o), .inl i, .inl w, .inl v] => o = 0 ∧ (InR i ∧ InR w ∧ InR v ∧ ∃ f, RG μ 1 f ∧ (0 ≤ f 35 ∧ f 35 ≤ 5) ∧ (altOK f i w v → K [.inl (f (7 * i.toNat + w.toNat))] (wI μ (rR μ 2 i.toNat) w.toNat v)) ∧ (¬ altOK f i w v → K [.inl (-1)] μ))
  | _ => False
theorem rec_X5_alter : ∀ a μ K, T5_alter a μ K → ∃ k r, a = .inr (.inr k) :: r ∧ kd k = 5 := by
  intro a μ K h
  unfold T5_alter at h
  split at h
  · exact ⟨_, _, rfl, by rw [h.1]; rfl⟩
  · exact h.elim
def GL_X5_alter : List (Nat × Nat × Bool × TT) := [(111, 2, false, T1_has), (52, 3, true, T5_isOutside)]
def G_X5_alter : Nat → Option (Nat × Bool × TT) := fun i => GL_X5_alter.lookup i
theorem G_X5_alter_111 : G_X5_alter 111 = some (2, false, T1_has) := rfl
theorem G_X5_alter_52 : G_X5_alter 52 = some (3, true, T5_isOutside) := rfl
theorem gk_X5_alter (l : Launch) : ∀ i n b T, G_X5_alter i = some (n, b, T) → CallOK l 1 RX5 i n b T := by
  intro i n b T h
  have hm : (i, n, b, T) ∈ GL_X5_alter := lk_mem h
  simp only [GL_X5_alter, List.mem_cons, List.not_mem_nil, or_false, Prod.mk.injEq] at hm
  rcases hm with ⟨rfl, rfl, rfl, rfl⟩ | ⟨rfl, rfl, rfl, rfl⟩
  · exact CallOK.V (d := 1) (own := RX5) (i := 111) (n := 1) (ci := 1) (good_X1_has l) (by decide) (by decide) rfl (by decide) rec_X1_has (mg 351 (by decide +kernel) (by decide +kernel)) (mg 313 (by decide +kernel) (by decide +kernel)) (mg 314 (by decide +kernel) (by decide +kernel)) (mg 2 (by decide +kernel) (by decide +kernel)) (mg 315 (by decide +kernel) (by decide +kernel)) (by decide +kernel)
  · exact CallOK.S (d := 1) (own := RX5) (i := 52) (n := 3) (good_X5_isOutside l) (by decide) (by decide) (mg 191 (by decide +kernel) (by decide +kernel)) (mg 192 (by decide +kernel) (by decide +kernel)) (mg 1 (by decide +kernel) (by decide +kernel)) (mg 193 (by decide +kernel) (by decide +kernel)) (by decide +kernel)
set_option maxRecDepth 20000 in
set_option maxHeartbeats 4000000 in
theorem body_X5_alter (o : Nat) (i : Int) (w : Int) (v : Int) (μ : Mem) (K : List AV → Mem → Prop) (V : Nat → List (Option AV) → List AV → Mem → Prop) (hV : Clos FX5 CX5 G_X5_alter 1 K cX5_alter V) (hT : o = 0 ∧ (InR i ∧ InR w ∧ InR v ∧ ∃ f, RG μ 1 f ∧ (0 ≤ f 35 ∧ f 35 ≤ 5) ∧ (altOK f i w v → K [.inl (f (7 * i.toNat + w.toNat))] (wI μ (rR μ 2 i.toNat) w.toNat v)) ∧ (¬ altOK f i w v → K [.inl (-1)] μ))) : V 0 [some (.inr (.inr o)), some (.inl i), some (.inl w), some (.inl v), none] [] μ := by
  simp only [InR] at hT
  obtain ⟨rfl, h1, h2, h2b, f, hR, h3, h4, h5⟩ := hT
  have b1 := loA_in w
  have b2 := hiA_in w
  have r35 := hR.2.1
  obtain ⟨k12, l5, k7⟩ := ringk kd_1
  by_cases hw : 0 ≤ w ∧ w ≤ 4
  · obtain ⟨w', rfl⟩ := Int.eq_ofNat_of_zero_le hw.1
    obtain ⟨s1, s2⟩ := stv_lo w' (by omega)
    by_cases hi : 0 ≤ i ∧ i < f 35
    · obtain ⟨i', rfl⟩ := Int.eq_ofNat_of_zero_le hi.1
      have hr : 3 ≤ rR μ 2 i' ∧ rR μ 2 i' ≤ 7 := hR.1.1 i' (by omega)
      obtain ⟨d1, d2⟩ := k7 _ hr.1 hr.2
      have ee : el μ 2 i' = rR μ 2 i' := elr (B := 1) k12 i'
      have v' : rI μ (rR μ 2 i') w' = f (7 * i' + w') := hR.row (by omega) (by omega)
      rw [Int.toNat_natCast, Int.toNat_natCast, ← v'] at h4
      apply hV [] 80
      simp only [InR, InL, inb, Int.toNat_natCast, wp1, wpc_z, wpc_s, stp_iconst, stp_bipush, stp_sipush, stp_lconst, stp_iload_n, stp_iload, stp_lload_n, stp_lload, stp_aload_n, stp_aload, stp_istore_n, stp_istore, stp_lstore_n, stp_lstore, stp_astore_n, stp_astore, stp_iinc, stp_iadd, stp_isub, stp_imul, stp_ineg, stp_idiv, stp_irem, stp_ladd, stp_lmul, stp_ldiv, stp_lrem, stp_ishl, stp_ishr, stp_iushr, stp_iand, stp_ior, stp_i2l, stp_i2b, stp_i2s, stp_lcmp, stp_dup, stp_dup2, stp_pop, stp_ifCond, stp_if_icmp, stp_goto, stp_tableswitch, stp_lookupswitch, stp_ldc, stp_ldc_w, stp_ldc2_w, stp_getstatic, stp_getfield, stp_putfield, stp_iaload, stp_baload, stp_iastore, stp_bastore, stp_aaload, stp_aastore, stp_invokevirtual, stp_invokestatic, stp_ireturn, stp_lreturn, stp_return_, lg, lset, okl, spl, wd, c1, cnd, tg, swT, swL, f4_0, f4_1, f4_2, f4_3, f2_0, f2_1, List.mem_cons, List.not_mem_nil, List.length_cons, List.length_nil, List.cons_append, List.nil_append, Nat.reduceAdd, Nat.reduceMul, Nat.reduceLT, Nat.reduceEqDiff, Nat.reduceLeDiff, Int.reduceAdd, Int.reduceNeg, Int.reduceToNat, Int.cast_ofNat_Int, Int.reduceNatCast, Int.toNat_zero, Int.toNat_one, Int.reduceLE, Int.reduceLT, Int.reduceEq, Int.zero_add, Int.add_zero, or_false, false_or, or_true, true_or, and_true, true_and, and_false, false_and, reduceIte, not_true_eq_false, not_false_eq_true, forall_const, false_implies, true_implies, implies_true, ne_eq, reduceCtorEq, List.all_cons, List.all_nil, Bool.and_true, Bool.and_self, decide_eq_true_eq, decide_true, dX5_alter_0, dX5_alter_1, dX5_alter_4, dX5_alter_5, dX5_alter_8, dX5_alter_11, dX5_alter_12, dX5_alter_13, dX5_alter_14, dX5_alter_17, dX5_alter_20, dX5_alter_21, dX5_alter_24, dX5_alter_25, dX5_alter_26, dX5_alter_29, dX5_alter_30, dX5_alter_31, dX5_alter_34, dX5_alter_37, dX5_alter_38, dX5_alter_39, dX5_alter_40, dX5_alter_43, dX5_alter_46, dX5_alter_47, dX5_alter_48, dX5_alter_49, dX5_alter_50, dX5_alter_52, dX5_alter_53, dX5_alter_56, dX5_alter_59, dX5_alter_60, dX5_alter_61, dX5_alter_62, dX5_alter_63, dX5_alter_64, dX5_alter_66, FX5_10, CX5_118, CX5_122, FX5_115, G_X5_alter_111, G_X5_alter_52, kd_0, kd_1, kd_2, ln_2, kd_100, kd_101, T1_has, T5_isOutside, r35, ee, d1, d2, s1, s2]
      by_cases hc : altOK f i' w' v
      · have h4 := h4 hc
        unfold altOK at hc
        repeat' (first | exact trivial | omega | (with_reducible assumption) | exact absurd trivial (by with_reducible assumption) | contradiction | apply And.intro | intro _)
      · have h5 := h5 hc
        unfold altOK at hc
        repeat' (first | exact trivial | omega | (with_reducible assumption) | exact absurd trivial (by with_reducible assumption) | contradiction | apply And.intro | intro _)
    · have h5 := h5 (fun z => hi z.1)
      apply hV [39] 80
      simp only [InR, InL, inb, Int.toNat_natCast, wp1, wpc_z, wpc_s, stp_iconst, stp_bipush, stp_sipush, stp_lconst, stp_iload_n, stp_iload, stp_lload_n, stp_lload, stp_aload_n, stp_aload, stp_istore_n, stp_istore, stp_lstore_n, stp_lstore, stp_astore_n, stp_astore, stp_iinc, stp_iadd, stp_isub, stp_imul, stp_ineg, stp_idiv, stp_irem, stp_ladd, stp_lmul, stp_ldiv, stp_lrem, stp_ishl, stp_ishr, stp_iushr, stp_iand, stp_ior, stp_i2l, stp_i2b, stp_i2s, stp_lcmp, stp_dup, stp_dup2, stp_pop, stp_ifCond, stp_if_icmp, stp_goto, stp_tableswitch, stp_lookupswitch, stp_ldc, stp_ldc_w, stp_ldc2_w, stp_getstatic, stp_getfield, stp_putfield, stp_iaload, stp_baload, stp_iastore, stp_bastore, stp_aaload, stp_aastore, stp_invokevirtual, stp_invokestatic, stp_ireturn, stp_lreturn, stp_return_, lg, lset, okl, spl, wd, c1, cnd, tg, swT, swL, f4_0, f4_1, f4_2, f4_3, f2_0, f2_1, List.mem_cons, List.not_mem_nil, List.length_cons, List.length_nil, List.cons_append, List.nil_append, Nat.reduceAdd, Nat.reduceMul, Nat.reduceLT, Nat.reduceEqDiff, Nat.reduceLeDiff, Int.reduceAdd, Int.reduceNeg, Int.reduceToNat, Int.cast_ofNat_Int, Int.reduceNatCast, Int.toNat_zero, Int.toNat_one, Int.reduceLE, Int.reduceLT, Int.reduceEq, Int.zero_add, Int.add_zero, or_false, false_or, or_true, true_or, and_true, true_and, and_false, false_and, reduceIte, not_true_eq_false, not_false_eq_true, forall_const, false_implies, true_implies, implies_true, ne_eq, reduceCtorEq, List.all_cons, List.all_nil, Bool.and_true, Bool.and_self, decide_eq_true_eq, decide_true, dX5_alter_0, dX5_alter_1, dX5_alter_4, dX5_alter_5, dX5_alter_8, dX5_alter_11, dX5_alter_12, dX5_alter_13, dX5_alter_14, dX5_alter_17, dX5_alter_20, dX5_alter_21, dX5_alter_24, dX5_alter_25, dX5_alter_26, dX5_alter_29, dX5_alter_30, dX5_alter_31, dX5_alter_34, dX5_alter_37, dX5_alter_38, dX5_alter_39, dX5_alter_40, dX5_alter_43, dX5_alter_46, dX5_alter_47, dX5_alter_48, dX5_alter_49, dX5_alter_50, dX5_alter_52, dX5_alter_53, dX5_alter_56, dX5_alter_59, dX5_alter_60, dX5_alter_61, dX5_alter_62, dX5_alter_63, dX5_alter_64, dX5_alter_66, FX5_10, CX5_118, CX5_122, FX5_115, G_X5_alter_111, G_X5_alter_52, kd_0, kd_1, kd_100, kd_101, T1_has, T5_isOutside, r35]
      repeat' (first | exact trivial | omega | (with_reducible assumption) | exact absurd trivial (by with_reducible assumption) | contradiction | apply And.intro | intro _)
  · have h5 := h5 (fun z => hw z.2.1)
    apply hV [39] 80
    simp only [InR, InL, inb, Int.toNat_natCast, wp1, wpc_z, wpc_s, stp_iconst, stp_bipush, stp_sipush, stp_lconst, stp_iload_n, stp_iload, stp_lload_n, stp_lload, stp_aload_n, stp_aload, stp_istore_n, stp_istore, stp_lstore_n, stp_lstore, stp_astore_n, stp_astore, stp_iinc, stp_iadd, stp_isub, stp_imul, stp_ineg, stp_idiv, stp_irem, stp_ladd, stp_lmul, stp_ldiv, stp_lrem, stp_ishl, stp_ishr, stp_iushr, stp_iand, stp_ior, stp_i2l, stp_i2b, stp_i2s, stp_lcmp, stp_dup, stp_dup2, stp_pop, stp_ifCond, stp_if_icmp, stp_goto, stp_tableswitch, stp_lookupswitch, stp_ldc, stp_ldc_w, stp_ldc2_w, stp_getstatic, stp_getfield, stp_putfield, stp_iaload, stp_baload, stp_iastore, stp_bastore, stp_aaload, stp_aastore, stp_invokevirtual, stp_invokestatic, stp_ireturn, stp_lreturn, stp_return_, lg, lset, okl, spl, wd, c1, cnd, tg, swT, swL, f4_0, f4_1, f4_2, f4_3, f2_0, f2_1, List.mem_cons, List.not_mem_nil, List.length_cons, List.length_nil, List.cons_append, List.nil_append, Nat.reduceAdd, Nat.reduceMul, Nat.reduceLT, Nat.reduceEqDiff, Nat.reduceLeDiff, Int.reduceAdd, Int.reduceNeg, Int.reduceToNat, Int.cast_ofNat_Int, Int.reduceNatCast, Int.toNat_zero, Int.toNat_one, Int.reduceLE, Int.reduceLT, Int.reduceEq, Int.zero_add, Int.add_zero, or_false, false_or, or_true, true_or, and_true, true_and, and_false, false_and, reduceIte, not_true_eq_false, not_false_eq_true, forall_const, false_implies, true_implies, implies_true, ne_eq, reduceCtorEq, List.all_cons, List.all_nil, Bool.and_true, Bool.and_self, decide_eq_true_eq, decide_true, dX5_alter_0, dX5_alter_1, dX5_alter_4, dX5_alter_5, dX5_alter_8, dX5_alter_11, dX5_alter_12, dX5_alter_13, dX5_alter_14, dX5_alter_17, dX5_alter_20, dX5_alter_21, dX5_alter_24, dX5_alter_25, dX5_alter_26, dX5_alter_29, dX5_alter_30, dX5_alter_31, dX5_alter_34, dX5_alter_37, dX5_alter_38, dX5_alter_39, dX5_alter_40, dX5_alter_43, dX5_alter_46, dX5_alter_47, dX5_alter_48, dX5_alter_49, dX5_alter_50, dX5_alter_52, dX5_alter_53, dX5_alter_56, dX5_alter_59, dX5_alter_60, dX5_alter_61, dX5_alter_62, dX5_alter_63, dX5_alter_64, dX5_alter_66, FX5_10, CX5_118, CX5_122, FX5_115, G_X5_alter_111, G_X5_alter_52, kd_0, kd_1, kd_100, kd_101, T1_has, T5_isOutside, r35]
    repeat' (first | exact trivial | omega | (with_reducible assumption) | exact absurd trivial (by with_reducible assumption) | contradiction | apply And.intro | intro _)
theorem good_X5_alter (l : Launch) : Good l 1 yX5_alter cX5_alter 5 (some .int) T5_alter := by
  refine Good.mk 1 (by decide) rfl (by simp [retOK]) FOK5 COK5 (gk_X5_alter l) ?_ ?_
  · intro a μ K h
    unfold T5_alter at h
    split at h
    · simp [entl]
    · exact h.elim
  · intro a μ K V hV h
    unfold T5_alter at h
    split at h
    · exact body_X5_alter _ _ _ _ μ K V hV h
    · exact h.elim

def T6_give : TT := fun a μ K => match a with
  | [.inr (.inr o), .inl i] => o = 66 ∧ (InR i ∧ (0 ≤ rI μ 67 35 ∧ rI μ 67 35 ≤ 5) ∧ (0 ≤ i ∧ i < rI μ 67 35 → K [.inl (rI μ 67 36)] (wI μ 67 36 i)) ∧ (¬ (0 ≤ i ∧ i < rI μ 67 35) → K [.inl (-1)] μ))
  | _ => False
theorem rec_X6_give : ∀ a μ K, T6_give a μ K → ∃ k r, a = .inr (.inr k) :: r ∧ kd k = 6 := by
  intro a μ K h
  unfold T6_give at h
  split at h
  · exact ⟨_, _, rfl, by rw [h.1]; rfl⟩
  · exact h.elim
def GL_X6_give : List (Nat × Nat × Bool × TT) := [(180, 2, false, T6_isStation), (187, 3, false, T6_becomes)]
def G_X6_give : Nat → Option (Nat × Bool × TT) := fun i => GL_X6_give.lookup i
theorem G_X6_give_180 : G_X6_give 180 = some (2, false, T6_isStation) := rfl
theorem G_X6_give_187 : G_X6_give 187 = some (3, false, T6_becomes) := rfl
theorem gk_X6_give (l : Launch) : ∀ i n b T, G_X6_give i = some (n, b, T) → CallOK l 2 RX6 i n b T := by
  intro i n b T h
  have hm : (i, n, b, T) ∈ GL_X6_give := lk_mem h
  simp only [GL_X6_give, List.mem_cons, List.not_mem_nil, or_false, Prod.mk.injEq] at hm
  rcases hm with ⟨rfl, rfl, rfl, rfl⟩ | ⟨rfl, rfl, rfl, rfl⟩
  · exact CallOK.V (d := 2) (own := RX6) (i := 180) (n := 1) (ci := 6) (good_X6_isStation l) (by decide) (by decide) rfl (by decide) rec_X6_isStation (mg 796 (by decide +kernel) (by decide +kernel)) (mg 798 (by decide +kernel) (by decide +kernel)) (mgs 38 (by decide +kernel) (by decide +kernel)) (mg 7 (by decide +kernel) (by decide +kernel)) (mg 799 (by decide +kernel) (by decide +kernel)) (by decide +kernel)
  · exact CallOK.V (d := 2) (own := RX6) (i := 187) (n := 2) (ci := 6) (good_X6_becomes l) (by decide) (by decide) rfl (by decide) rec_X6_becomes (mg 806 (by decide +kernel) (by decide +kernel)) (mg 808 (by decide +kernel) (by decide +kernel)) (mgs 39 (by decide +kernel) (by decide +kernel)) (mg 7 (by decide +kernel) (by decide +kernel)) (mg 809 (by decide +kernel) (by decide +kernel)) (by decide +kernel)
set_option maxRecDepth 20000 in
set_option maxHeartbeats 4000000 in
theorem body_X6_give (o : Nat) (i : Int) (μ : Mem) (K : List AV → Mem → Prop) (V : Nat → List (Option AV) → List AV → Mem → Prop) (hV : Clos FX6 CX6 G_X6_give 1 K cX6_give V) (hT : o = 66 ∧ (InR i ∧ (0 ≤ rI μ 67 35 ∧ rI μ 67 35 ≤ 5) ∧ (0 ≤ i ∧ i < rI μ 67 35 → K [.inl (rI μ 67 36)] (wI μ 67 36 i)) ∧ (¬ (0 ≤ i ∧ i < rI μ 67 35) → K [.inl (-1)] μ))) : V 0 [some (.inr (.inr o)), some (.inl i)] [] μ := by
  simp only [InR] at hT
  obtain ⟨rfl, h1, h3, h4, h5⟩ := hT
  apply hV [] 60
  simp only [InR, InL, inb, Int.toNat_natCast, wp1, wpc_z, wpc_s, stp_iconst, stp_bipush, stp_sipush, stp_lconst, stp_iload_n, stp_iload, stp_lload_n, stp_lload, stp_aload_n, stp_aload, stp_istore_n, stp_istore, stp_lstore_n, stp_lstore, stp_astore_n, stp_astore, stp_iinc, stp_iadd, stp_isub, stp_imul, stp_ineg, stp_idiv, stp_irem, stp_ladd, stp_lmul, stp_ldiv, stp_lrem, stp_ishl, stp_ishr, stp_iushr, stp_iand, stp_ior, stp_i2l, stp_i2b, stp_i2s, stp_lcmp, stp_dup, stp_dup2, stp_pop, stp_ifCond, stp_if_icmp, stp_goto, stp_tableswitch, stp_lookupswitch, stp_ldc, stp_ldc_w, stp_ldc2_w, stp_getstatic, stp_getfield, stp_putfield, stp_iaload, stp_baload, stp_iastore, stp_bastore, stp_aaload, stp_aastore, stp_invokevirtual, stp_invokestatic, stp_ireturn, stp_lreturn, stp_return_, lg, lset, okl, spl, wd, c1, cnd, tg, swT, swL, f4_0, f4_1, f4_2, f4_3, f2_0, f2_1, List.mem_cons, List.not_mem_nil, List.length_cons, List.length_nil, List.cons_append, List.nil_append, Nat.reduceAdd, Nat.reduceMul, Nat.reduceLT, Nat.reduceEqDiff, Nat.reduceLeDiff, Int.reduceAdd, Int.reduceNeg, Int.reduceToNat, Int.cast_ofNat_Int, Int.reduceNatCast, Int.toNat_zero, Int.toNat_one, Int.reduceLE, Int.reduceLT, Int.reduceEq, Int.zero_add, Int.add_zero, or_false, false_or, or_true, true_or, and_true, true_and, and_false, false_and, reduceIte, not_true_eq_false, not_false_eq_true, forall_const, false_implies, true_implies, implies_true, ne_eq, reduceCtorEq, List.all_cons, List.all_nil, Bool.and_true, Bool.and_self, decide_eq_true_eq, decide_true, dX6_give_0, dX6_give_1, dX6_give_2, dX6_give_5, dX6_give_8, dX6_give_9, dX6_give_11, dX6_give_12, dX6_give_15, dX6_give_18, dX6_give_19, G_X6_give_180, G_X6_give_187, kd_66, T6_isStation, T6_becomes]
  repeat' (first | exact trivial | omega | (with_reducible assumption) | exact absurd trivial (by with_reducible assumption) | contradiction | apply And.intro | intro _)
  all_goals first | exact h4 ⟨by omega, by omega⟩ | exact h5 (by omega)
theorem good_X6_give (l : Launch) : Good l 2 yX6_give cX6_give 2 (some .int) T6_give := by
  refine Good.mk 1 (by decide) rfl (by simp [retOK]) FOK6 COK6 (gk_X6_give l) ?_ ?_
  · intro a μ K h
    unfold T6_give at h
    split at h
    · simp [entl]
    · exact h.elim
  · intro a μ K V hV h
    unfold T6_give at h
    split at h
    · exact body_X6_give _ _ μ K V hV h
    · exact h.elim

def T5_give : TT := fun a μ K => match a with
  | [.inr (.inr o), .inl i] => o = 0 ∧ (InR i ∧ (0 ≤ rI μ 1 1 ∧ rI μ 1 1 ≤ 5) ∧ (0 ≤ i ∧ i < rI μ 1 1 → K [.inl (rI μ 1 2)] (wI μ 1 2 i)) ∧ (¬ (0 ≤ i ∧ i < rI μ 1 1) → K [.inl (-1)] μ))
  | _ => False
theorem rec_X5_give : ∀ a μ K, T5_give a μ K → ∃ k r, a = .inr (.inr k) :: r ∧ kd k = 5 := by
  intro a μ K h
  unfold T5_give at h
  split at h
  · exact ⟨_, _, rfl, by rw [h.1]; rfl⟩
  · exact h.elim
def GL_X5_give : List (Nat × Nat × Bool × TT) := [(111, 2, false, T1_has)]
def G_X5_give : Nat → Option (Nat × Bool × TT) := fun i => GL_X5_give.lookup i
theorem G_X5_give_111 : G_X5_give 111 = some (2, false, T1_has) := rfl
theorem gk_X5_give (l : Launch) : ∀ i n b T, G_X5_give i = some (n, b, T) → CallOK l 1 RX5 i n b T := by
  intro i n b T h
  have hm : (i, n, b, T) ∈ GL_X5_give := lk_mem h
  simp only [GL_X5_give, List.mem_cons, List.not_mem_nil, or_false, Prod.mk.injEq] at hm
  rcases hm with ⟨rfl, rfl, rfl, rfl⟩
  · exact CallOK.V (d := 1) (own := RX5) (i := 111) (n := 1) (ci := 1) (good_X1_has l) (by decide) (by decide) rfl (by decide) rec_X1_has (mg 351 (by decide +kernel) (by decide +kernel)) (mg 313 (by decide +kernel) (by decide +kernel)) (mg 314 (by decide +kernel) (by decide +kernel)) (mg 2 (by decide +kernel) (by decide +kernel)) (mg 315 (by decide +kernel) (by decide +kernel)) (by decide +kernel)
set_option maxRecDepth 20000 in
set_option maxHeartbeats 4000000 in
theorem body_X5_give (o : Nat) (i : Int) (μ : Mem) (K : List AV → Mem → Prop) (V : Nat → List (Option AV) → List AV → Mem → Prop) (hV : Clos FX5 CX5 G_X5_give 1 K cX5_give V) (hT : o = 0 ∧ (InR i ∧ (0 ≤ rI μ 1 1 ∧ rI μ 1 1 ≤ 5) ∧ (0 ≤ i ∧ i < rI μ 1 1 → K [.inl (rI μ 1 2)] (wI μ 1 2 i)) ∧ (¬ (0 ≤ i ∧ i < rI μ 1 1) → K [.inl (-1)] μ))) : V 0 [some (.inr (.inr o)), some (.inl i), none] [] μ := by
  simp only [InR] at hT
  obtain ⟨rfl, h1, h3, h4, h5⟩ := hT
  apply hV [] 60
  simp only [InR, InL, inb, Int.toNat_natCast, wp1, wpc_z, wpc_s, stp_iconst, stp_bipush, stp_sipush, stp_lconst, stp_iload_n, stp_iload, stp_lload_n, stp_lload, stp_aload_n, stp_aload, stp_istore_n, stp_istore, stp_lstore_n, stp_lstore, stp_astore_n, stp_astore, stp_iinc, stp_iadd, stp_isub, stp_imul, stp_ineg, stp_idiv, stp_irem, stp_ladd, stp_lmul, stp_ldiv, stp_lrem, stp_ishl, stp_ishr, stp_iushr, stp_iand, stp_ior, stp_i2l, stp_i2b, stp_i2s, stp_lcmp, stp_dup, stp_dup2, stp_pop, stp_ifCond, stp_if_icmp, stp_goto, stp_tableswitch, stp_lookupswitch, stp_ldc, stp_ldc_w, stp_ldc2_w, stp_getstatic, stp_getfield, stp_putfield, stp_iaload, stp_baload, stp_iastore, stp_bastore, stp_aaload, stp_aastore, stp_invokevirtual, stp_invokestatic, stp_ireturn, stp_lreturn, stp_return_, lg, lset, okl, spl, wd, c1, cnd, tg, swT, swL, f4_0, f4_1, f4_2, f4_3, f2_0, f2_1, List.mem_cons, List.not_mem_nil, List.length_cons, List.length_nil, List.cons_append, List.nil_append, Nat.reduceAdd, Nat.reduceMul, Nat.reduceLT, Nat.reduceEqDiff, Nat.reduceLeDiff, Int.reduceAdd, Int.reduceNeg, Int.reduceToNat, Int.cast_ofNat_Int, Int.reduceNatCast, Int.toNat_zero, Int.toNat_one, Int.reduceLE, Int.reduceLT, Int.reduceEq, Int.zero_add, Int.add_zero, or_false, false_or, or_true, true_or, and_true, true_and, and_false, false_and, reduceIte, not_true_eq_false, not_false_eq_true, forall_const, false_implies, true_implies, implies_true, ne_eq, reduceCtorEq, List.all_cons, List.all_nil, Bool.and_true, Bool.and_self, decide_eq_true_eq, decide_true, dX5_give_0, dX5_give_1, dX5_give_4, dX5_give_5, dX5_give_8, dX5_give_11, dX5_give_12, dX5_give_13, dX5_give_14, dX5_give_17, dX5_give_20, dX5_give_21, dX5_give_22, dX5_give_25, dX5_give_26, dX5_give_29, dX5_give_30, FX5_10, FX5_88, G_X5_give_111, kd_0, kd_1, T1_has]
  repeat' (first | exact trivial | omega | (with_reducible assumption) | exact absurd trivial (by with_reducible assumption) | contradiction | apply And.intro | intro _)
  all_goals first | exact h4 ⟨by omega, by omega⟩ | exact h5 (by omega)
theorem good_X5_give (l : Launch) : Good l 1 yX5_give cX5_give 3 (some .int) T5_give := by
  refine Good.mk 1 (by decide) rfl (by simp [retOK]) FOK5 COK5 (gk_X5_give l) ?_ ?_
  · intro a μ K h
    unfold T5_give at h
    split at h
    · simp [entl]
    · exact h.elim
  · intro a μ K V hV h
    unfold T5_give at h
    split at h
    · exact body_X5_give _ _ μ K V hV h
    · exact h.elim

def T6_forget : TT := fun a μ K => match a with
  | [.inr (.inr o), .inl n] => o = 66 ∧ (InR n ∧ (0 ≤ rI μ 67 41 ∧ rI μ 67 41 ≤ 6) ∧ (0 ≤ n ∧ n ≤ rI μ 67 41 → K [.inl (rI μ 67 41)] (wI μ 67 41 n)) ∧ (¬ (0 ≤ n ∧ n ≤ rI μ 67 41) → K [.inl (-1)] μ))
  | _ => False
theorem rec_X6_forget : ∀ a μ K, T6_forget a μ K → ∃ k r, a = .inr (.inr k) :: r ∧ kd k = 6 := by
  intro a μ K h
  unfold T6_forget at h
  split at h
  · exact ⟨_, _, rfl, by rw [h.1]; rfl⟩
  · exact h.elim
def GL_X6_forget : List (Nat × Nat × Bool × TT) := [(59, 3, true, T6_in), (187, 3, false, T6_becomes)]
def G_X6_forget : Nat → Option (Nat × Bool × TT) := fun i => GL_X6_forget.lookup i
theorem G_X6_forget_59 : G_X6_forget 59 = some (3, true, T6_in) := rfl
theorem G_X6_forget_187 : G_X6_forget 187 = some (3, false, T6_becomes) := rfl
theorem gk_X6_forget (l : Launch) : ∀ i n b T, G_X6_forget i = some (n, b, T) → CallOK l 1 RX6 i n b T := by
  intro i n b T h
  have hm : (i, n, b, T) ∈ GL_X6_forget := lk_mem h
  simp only [GL_X6_forget, List.mem_cons, List.not_mem_nil, or_false, Prod.mk.injEq] at hm
  rcases hm with ⟨rfl, rfl, rfl, rfl⟩ | ⟨rfl, rfl, rfl, rfl⟩
  · exact CallOK.S (d := 1) (own := RX6) (i := 59) (n := 3) (good_X6_in l) (by decide) (by decide) (mg 708 (by decide +kernel) (by decide +kernel)) (mg 709 (by decide +kernel) (by decide +kernel)) (mg 7 (by decide +kernel) (by decide +kernel)) (mg 710 (by decide +kernel) (by decide +kernel)) (by decide +kernel)
  · exact CallOK.V (d := 1) (own := RX6) (i := 187) (n := 2) (ci := 6) (good_X6_becomes l) (by decide) (by decide) rfl (by decide) rec_X6_becomes (mg 806 (by decide +kernel) (by decide +kernel)) (mg 808 (by decide +kernel) (by decide +kernel)) (mgs 39 (by decide +kernel) (by decide +kernel)) (mg 7 (by decide +kernel) (by decide +kernel)) (mg 809 (by decide +kernel) (by decide +kernel)) (by decide +kernel)
set_option maxRecDepth 20000 in
set_option maxHeartbeats 4000000 in
theorem body_X6_forget (o : Nat) (n : Int) (μ : Mem) (K : List AV → Mem → Prop) (V : Nat → List (Option AV) → List AV → Mem → Prop) (hV : Clos FX6 CX6 G_X6_forget 1 K cX6_forget V) (hT : o = 66 ∧ (InR n ∧ (0 ≤ rI μ 67 41 ∧ rI μ 67 41 ≤ 6) ∧ (0 ≤ n ∧ n ≤ rI μ 67 41 → K [.inl (rI μ 67 41)] (wI μ 67 41 n)) ∧ (¬ (0 ≤ n ∧ n ≤ rI μ 67 41) → K [.inl (-1)] μ))) : V 0 [some (.inr (.inr o)), some (.inl n)] [] μ := by
  simp only [InR] at hT
  obtain ⟨rfl, h1, h3, h4, h5⟩ := hT
  apply hV [] 60
  simp only [InR, InL, inb, Int.toNat_natCast, wp1, wpc_z, wpc_s, stp_iconst, stp_bipush, stp_sipush, stp_lconst, stp_iload_n, stp_iload, stp_lload_n, stp_lload, stp_aload_n, stp_aload, stp_istore_n, stp_istore, stp_lstore_n, stp_lstore, stp_astore_n, stp_astore, stp_iinc, stp_iadd, stp_isub, stp_imul, stp_ineg, stp_idiv, stp_irem, stp_ladd, stp_lmul, stp_ldiv, stp_lrem, stp_ishl, stp_ishr, stp_iushr, stp_iand, stp_ior, stp_i2l, stp_i2b, stp_i2s, stp_lcmp, stp_dup, stp_dup2, stp_pop, stp_ifCond, stp_if_icmp, stp_goto, stp_tableswitch, stp_lookupswitch, stp_ldc, stp_ldc_w, stp_ldc2_w, stp_getstatic, stp_getfield, stp_putfield, stp_iaload, stp_baload, stp_iastore, stp_bastore, stp_aaload, stp_aastore, stp_invokevirtual, stp_invokestatic, stp_ireturn, stp_lreturn, stp_return_, lg, lset, okl, spl, wd, c1, cnd, tg, swT, swL, f4_0, f4_1, f4_2, f4_3, f2_0, f2_1, List.mem_cons, List.not_mem_nil, List.length_cons, List.length_nil, List.cons_append, List.nil_append, Nat.reduceAdd, Nat.reduceMul, Nat.reduceLT, Nat.reduceEqDiff, Nat.reduceLeDiff, Int.reduceAdd, Int.reduceNeg, Int.reduceToNat, Int.cast_ofNat_Int, Int.reduceNatCast, Int.toNat_zero, Int.toNat_one, Int.reduceLE, Int.reduceLT, Int.reduceEq, Int.zero_add, Int.add_zero, or_false, false_or, or_true, true_or, and_true, true_and, and_false, false_and, reduceIte, not_true_eq_false, not_false_eq_true, forall_const, false_implies, true_implies, implies_true, ne_eq, reduceCtorEq, List.all_cons, List.all_nil, Bool.and_true, Bool.and_self, decide_eq_true_eq, decide_true, dX6_forget_0, dX6_forget_1, dX6_forget_2, dX6_forget_3, dX6_forget_4, dX6_forget_7, dX6_forget_9, dX6_forget_10, dX6_forget_11, dX6_forget_14, dX6_forget_17, dX6_forget_18, dX6_forget_20, dX6_forget_21, dX6_forget_24, dX6_forget_27, dX6_forget_28, FX6_7, G_X6_forget_59, G_X6_forget_187, kd_66, kd_67, ln_67, T6_in, T6_becomes]
  repeat' (first | exact trivial | omega | (with_reducible assumption) | exact absurd trivial (by with_reducible assumption) | contradiction | apply And.intro | intro _)
  all_goals first | exact h4 ⟨by omega, by omega⟩ | exact h5 (by omega)
theorem good_X6_forget (l : Launch) : Good l 1 yX6_forget cX6_forget 2 (some .int) T6_forget := by
  refine Good.mk 1 (by decide) rfl (by simp [retOK]) FOK6 COK6 (gk_X6_forget l) ?_ ?_
  · intro a μ K h
    unfold T6_forget at h
    split at h
    · simp [entl]
    · exact h.elim
  · intro a μ K V hV h
    unfold T6_forget at h
    split at h
    · exact body_X6_forget _ _ μ K V hV h
    · exact h.elim

def T5_forget : TT := fun a μ K => match a with
  | [.inr (.inr o), .inl n] => o = 0 ∧ (InR n ∧ (0 ≤ rI μ 15 3 ∧ rI μ 15 3 ≤ 6) ∧ (0 ≤ n ∧ n ≤ rI μ 15 3 → K [.inl (rI μ 15 3)] (wI μ 15 3 n)) ∧ (¬ (0 ≤ n ∧ n ≤ rI μ 15 3) → K [.inl (-1)] μ))
  | _ => False
theorem rec_X5_forget : ∀ a μ K, T5_forget a μ K → ∃ k r, a = .inr (.inr k) :: r ∧ kd k = 5 := by
  intro a μ K h
  unfold T5_forget at h
  split at h
  · exact ⟨_, _, rfl, by rw [h.1]; rfl⟩
  · exact h.elim
def GL_X5_forget : List (Nat × Nat × Bool × TT) := [(52, 3, true, T5_isOutside)]
def G_X5_forget : Nat → Option (Nat × Bool × TT) := fun i => GL_X5_forget.lookup i
theorem G_X5_forget_52 : G_X5_forget 52 = some (3, true, T5_isOutside) := rfl
theorem gk_X5_forget (l : Launch) : ∀ i n b T, G_X5_forget i = some (n, b, T) → CallOK l 1 RX5 i n b T := by
  intro i n b T h
  have hm : (i, n, b, T) ∈ GL_X5_forget := lk_mem h
  simp only [GL_X5_forget, List.mem_cons, List.not_mem_nil, or_false, Prod.mk.injEq] at hm
  rcases hm with ⟨rfl, rfl, rfl, rfl⟩
  · exact CallOK.S (d := 1) (own := RX5) (i := 52) (n := 3) (good_X5_isOutside l) (by decide) (by decide) (mg 191 (by decide +kernel) (by decide +kernel)) (mg 192 (by decide +kernel) (by decide +kernel)) (mg 1 (by decide +kernel) (by decide +kernel)) (mg 193 (by decide +kernel) (by decide +kernel)) (by decide +kernel)
set_option maxRecDepth 20000 in
set_option maxHeartbeats 4000000 in
theorem body_X5_forget (o : Nat) (n : Int) (μ : Mem) (K : List AV → Mem → Prop) (V : Nat → List (Option AV) → List AV → Mem → Prop) (hV : Clos FX5 CX5 G_X5_forget 1 K cX5_forget V) (hT : o = 0 ∧ (InR n ∧ (0 ≤ rI μ 15 3 ∧ rI μ 15 3 ≤ 6) ∧ (0 ≤ n ∧ n ≤ rI μ 15 3 → K [.inl (rI μ 15 3)] (wI μ 15 3 n)) ∧ (¬ (0 ≤ n ∧ n ≤ rI μ 15 3) → K [.inl (-1)] μ))) : V 0 [some (.inr (.inr o)), some (.inl n), none] [] μ := by
  simp only [InR] at hT
  obtain ⟨rfl, h1, h3, h4, h5⟩ := hT
  apply hV [] 60
  simp only [InR, InL, inb, Int.toNat_natCast, wp1, wpc_z, wpc_s, stp_iconst, stp_bipush, stp_sipush, stp_lconst, stp_iload_n, stp_iload, stp_lload_n, stp_lload, stp_aload_n, stp_aload, stp_istore_n, stp_istore, stp_lstore_n, stp_lstore, stp_astore_n, stp_astore, stp_iinc, stp_iadd, stp_isub, stp_imul, stp_ineg, stp_idiv, stp_irem, stp_ladd, stp_lmul, stp_ldiv, stp_lrem, stp_ishl, stp_ishr, stp_iushr, stp_iand, stp_ior, stp_i2l, stp_i2b, stp_i2s, stp_lcmp, stp_dup, stp_dup2, stp_pop, stp_ifCond, stp_if_icmp, stp_goto, stp_tableswitch, stp_lookupswitch, stp_ldc, stp_ldc_w, stp_ldc2_w, stp_getstatic, stp_getfield, stp_putfield, stp_iaload, stp_baload, stp_iastore, stp_bastore, stp_aaload, stp_aastore, stp_invokevirtual, stp_invokestatic, stp_ireturn, stp_lreturn, stp_return_, lg, lset, okl, spl, wd, c1, cnd, tg, swT, swL, f4_0, f4_1, f4_2, f4_3, f2_0, f2_1, List.mem_cons, List.not_mem_nil, List.length_cons, List.length_nil, List.cons_append, List.nil_append, Nat.reduceAdd, Nat.reduceMul, Nat.reduceLT, Nat.reduceEqDiff, Nat.reduceLeDiff, Int.reduceAdd, Int.reduceNeg, Int.reduceToNat, Int.cast_ofNat_Int, Int.reduceNatCast, Int.toNat_zero, Int.toNat_one, Int.reduceLE, Int.reduceLT, Int.reduceEq, Int.zero_add, Int.add_zero, or_false, false_or, or_true, true_or, and_true, true_and, and_false, false_and, reduceIte, not_true_eq_false, not_false_eq_true, forall_const, false_implies, true_implies, implies_true, ne_eq, reduceCtorEq, List.all_cons, List.all_nil, Bool.and_true, Bool.and_self, decide_eq_true_eq, decide_true, dX5_forget_0, dX5_forget_1, dX5_forget_2, dX5_forget_3, dX5_forget_6, dX5_forget_9, dX5_forget_12, dX5_forget_15, dX5_forget_16, dX5_forget_17, dX5_forget_18, dX5_forget_21, dX5_forget_24, dX5_forget_25, dX5_forget_26, dX5_forget_29, dX5_forget_30, dX5_forget_33, dX5_forget_34, FX5_22, FX5_78, G_X5_forget_52, kd_0, kd_15, T5_isOutside]
  repeat' (first | exact trivial | omega | (with_reducible assumption) | exact absurd trivial (by with_reducible assumption) | contradiction | apply And.intro | intro _)
  all_goals first | exact h4 ⟨by omega, by omega⟩ | exact h5 (by omega)
theorem good_X5_forget (l : Launch) : Good l 1 yX5_forget cX5_forget 3 (some .int) T5_forget := by
  refine Good.mk 1 (by decide) rfl (by simp [retOK]) FOK5 COK5 (gk_X5_forget l) ?_ ?_
  · intro a μ K h
    unfold T5_forget at h
    split at h
    · simp [entl]
    · exact h.elim
  · intro a μ K V hV h
    unfold T5_forget at h
    split at h
    · exact body_X5_forget _ _ μ K V hV h
    · exact h.elim

def seeOK (f : Nat → Int) (n i v : Int) : Prop := (0 ≤ n ∧ n ≤ 40) ∧ (0 ≤ i ∧ i < f 35) ∧ 0 ≤ v ∧ v ≤ 99
def T6_see : TT := fun a μ K => match a with
  | [.inr (.inr o), .inl n, .inl i, .inl v] => o = 66 ∧ (InR n ∧ InR i ∧ InR v ∧ (0 ≤ rI μ 67 35 ∧ rI μ 67 35 ≤ 5) ∧ (0 ≤ rI μ 67 41 ∧ rI μ 67 41 ≤ 6) ∧ (seeOK (rI μ 67) n i v → rI μ 67 41 < 6 → K [.inl (rI μ 67 41 + 1)] (wI (wI (wI (wI μ 67 (42 + 3 * (rI μ 67 41).toNat) n) 67 (43 + 3 * (rI μ 67 41).toNat) i) 67 (44 + 3 * (rI μ 67 41).toNat) v) 67 41 (rI μ 67 41 + 1))) ∧ (seeOK (rI μ 67) n i v → rI μ 67 41 = 6 → K [.inl (-3)] μ) ∧ (¬ seeOK (rI μ 67) n i v → K [.inl (-1)] μ))
  | _ => False
theorem rec_X6_see : ∀ a μ K, T6_see a μ K → ∃ k r, a = .inr (.inr k) :: r ∧ kd k = 6 := by
  intro a μ K h
  unfold T6_see at h
  split at h
  · exact ⟨_, _, rfl, by rw [h.1]; rfl⟩
  · exact h.elim
def GL_X6_see : List (Nat × Nat × Bool × TT) := [(59, 3, true, T6_in), (180, 2, false, T6_isStation)]
def G_X6_see : Nat → Option (Nat × Bool × TT) := fun i => GL_X6_see.lookup i
theorem G_X6_see_59 : G_X6_see 59 = some (3, true, T6_in) := rfl
theorem G_X6_see_180 : G_X6_see 180 = some (2, false, T6_isStation) := rfl
theorem gk_X6_see (l : Launch) : ∀ i n b T, G_X6_see i = some (n, b, T) → CallOK l 2 RX6 i n b T := by
  intro i n b T h
  have hm : (i, n, b, T) ∈ GL_X6_see := lk_mem h
  simp only [GL_X6_see, List.mem_cons, List.not_mem_nil, or_false, Prod.mk.injEq] at hm
  rcases hm with ⟨rfl, rfl, rfl, rfl⟩ | ⟨rfl, rfl, rfl, rfl⟩
  · exact CallOK.S (d := 2) (own := RX6) (i := 59) (n := 3) (good_X6_in l) (by decide) (by decide) (mg 708 (by decide +kernel) (by decide +kernel)) (mg 709 (by decide +kernel) (by decide +kernel)) (mg 7 (by decide +kernel) (by decide +kernel)) (mg 710 (by decide +kernel) (by decide +kernel)) (by decide +kernel)
  · exact CallOK.V (d := 2) (own := RX6) (i := 180) (n := 1) (ci := 6) (good_X6_isStation l) (by decide) (by decide) rfl (by decide) rec_X6_isStation (mg 796 (by decide +kernel) (by decide +kernel)) (mg 798 (by decide +kernel) (by decide +kernel)) (mgs 38 (by decide +kernel) (by decide +kernel)) (mg 7 (by decide +kernel) (by decide +kernel)) (mg 799 (by decide +kernel) (by decide +kernel)) (by decide +kernel)
set_option maxRecDepth 20000 in
set_option maxHeartbeats 4000000 in
theorem body_X6_see (o : Nat) (n : Int) (i : Int) (v : Int) (μ : Mem) (K : List AV → Mem → Prop) (V : Nat → List (Option AV) → List AV → Mem → Prop) (hV : Clos FX6 CX6 G_X6_see 1 K cX6_see V) (hT : o = 66 ∧ (InR n ∧ InR i ∧ InR v ∧ (0 ≤ rI μ 67 35 ∧ rI μ 67 35 ≤ 5) ∧ (0 ≤ rI μ 67 41 ∧ rI μ 67 41 ≤ 6) ∧ (seeOK (rI μ 67) n i v → rI μ 67 41 < 6 → K [.inl (rI μ 67 41 + 1)] (wI (wI (wI (wI μ 67 (42 + 3 * (rI μ 67 41).toNat) n) 67 (43 + 3 * (rI μ 67 41).toNat) i) 67 (44 + 3 * (rI μ 67 41).toNat) v) 67 41 (rI μ 67 41 + 1))) ∧ (seeOK (rI μ 67) n i v → rI μ 67 41 = 6 → K [.inl (-3)] μ) ∧ (¬ seeOK (rI μ 67) n i v → K [.inl (-1)] μ))) : V 0 [some (.inr (.inr o)), some (.inl n), some (.inl i), some (.inl v), none] [] μ := by
  simp only [InR] at hT
  obtain ⟨rfl, h1, h2, h3, h35, h41, h4, h5, h6⟩ := hT
  obtain ⟨q, hq⟩ := Int.eq_ofNat_of_zero_le h41.1
  have e1 : (42 + 3 * (q : Int)).toNat = 42 + 3 * q := by omega
  have e2 : (42 + 3 * (q : Int) + 1).toNat = 43 + 3 * q := by omega
  have e3 : (42 + 3 * (q : Int) + 2).toNat = 44 + 3 * q := by omega
  have n1 : ¬ (41 = 42 + 3 * q) := by omega
  have n2 : ¬ (41 = 43 + 3 * q) := by omega
  have n3 : ¬ (41 = 44 + 3 * q) := by omega
  rw [hq, Int.toNat_natCast] at h4
  by_cases hc : seeOK (rI μ 67) n i v
  · have h4 := h4 hc
    have h5 := h5 hc
    unfold seeOK at hc
    apply hV [] 90
    simp only [InR, InL, inb, Int.toNat_natCast, wp1, wpc_z, wpc_s, stp_iconst, stp_bipush, stp_sipush, stp_lconst, stp_iload_n, stp_iload, stp_lload_n, stp_lload, stp_aload_n, stp_aload, stp_istore_n, stp_istore, stp_lstore_n, stp_lstore, stp_astore_n, stp_astore, stp_iinc, stp_iadd, stp_isub, stp_imul, stp_ineg, stp_idiv, stp_irem, stp_ladd, stp_lmul, stp_ldiv, stp_lrem, stp_ishl, stp_ishr, stp_iushr, stp_iand, stp_ior, stp_i2l, stp_i2b, stp_i2s, stp_lcmp, stp_dup, stp_dup2, stp_pop, stp_ifCond, stp_if_icmp, stp_goto, stp_tableswitch, stp_lookupswitch, stp_ldc, stp_ldc_w, stp_ldc2_w, stp_getstatic, stp_getfield, stp_putfield, stp_iaload, stp_baload, stp_iastore, stp_bastore, stp_aaload, stp_aastore, stp_invokevirtual, stp_invokestatic, stp_ireturn, stp_lreturn, stp_return_, lg, lset, okl, spl, wd, c1, cnd, tg, swT, swL, f4_0, f4_1, f4_2, f4_3, f2_0, f2_1, List.mem_cons, List.not_mem_nil, List.length_cons, List.length_nil, List.cons_append, List.nil_append, Nat.reduceAdd, Nat.reduceMul, Nat.reduceLT, Nat.reduceEqDiff, Nat.reduceLeDiff, Int.reduceAdd, Int.reduceNeg, Int.reduceToNat, Int.cast_ofNat_Int, Int.reduceNatCast, Int.toNat_zero, Int.toNat_one, Int.reduceLE, Int.reduceLT, Int.reduceEq, Int.zero_add, Int.add_zero, or_false, false_or, or_true, true_or, and_true, true_and, and_false, false_and, reduceIte, not_true_eq_false, not_false_eq_true, forall_const, false_implies, true_implies, implies_true, ne_eq, reduceCtorEq, List.all_cons, List.all_nil, Bool.and_true, Bool.and_self, decide_eq_true_eq, decide_true, dX6_see_0, dX6_see_1, dX6_see_2, dX6_see_3, dX6_see_6, dX6_see_9, dX6_see_12, dX6_see_13, dX6_see_14, dX6_see_17, dX6_see_20, dX6_see_21, dX6_see_22, dX6_see_23, dX6_see_26, dX6_see_29, dX6_see_32, dX6_see_33, dX6_see_34, dX6_see_35, dX6_see_38, dX6_see_40, dX6_see_41, dX6_see_43, dX6_see_46, dX6_see_48, dX6_see_49, dX6_see_51, dX6_see_52, dX6_see_53, dX6_see_56, dX6_see_58, dX6_see_59, dX6_see_60, dX6_see_61, dX6_see_63, dX6_see_64, dX6_see_67, dX6_see_69, dX6_see_70, dX6_see_71, dX6_see_72, dX6_see_75, dX6_see_77, dX6_see_78, dX6_see_79, dX6_see_80, dX6_see_81, dX6_see_82, dX6_see_85, dX6_see_87, dX6_see_88, dX6_see_89, dX6_see_90, dX6_see_91, dX6_see_92, dX6_see_95, dX6_see_97, dX6_see_98, dX6_see_99, dX6_see_100, dX6_see_101, dX6_see_102, dX6_see_103, dX6_see_106, dX6_see_108, dX6_see_109, CX6_262, CX6_190, FX6_7, G_X6_see_59, G_X6_see_180, kd_66, kd_67, ln_67, T6_in, T6_isStation, rI_wI, hq, e1, e2, e3, n1, n2, n3]
    by_cases h6' : rI μ 67 41 = 6
    · have h5 := h5 h6'
      repeat' (first | exact trivial | omega | (with_reducible assumption) | exact absurd trivial (by with_reducible assumption) | contradiction | apply And.intro | intro _)
    · have h4 := h4 (by omega)
      repeat' (first | exact trivial | omega | (with_reducible assumption) | exact absurd trivial (by with_reducible assumption) | contradiction | apply And.intro | intro _)
  · have h6 := h6 hc
    unfold seeOK at hc
    apply hV [34] 90
    simp only [InR, InL, inb, Int.toNat_natCast, wp1, wpc_z, wpc_s, stp_iconst, stp_bipush, stp_sipush, stp_lconst, stp_iload_n, stp_iload, stp_lload_n, stp_lload, stp_aload_n, stp_aload, stp_istore_n, stp_istore, stp_lstore_n, stp_lstore, stp_astore_n, stp_astore, stp_iinc, stp_iadd, stp_isub, stp_imul, stp_ineg, stp_idiv, stp_irem, stp_ladd, stp_lmul, stp_ldiv, stp_lrem, stp_ishl, stp_ishr, stp_iushr, stp_iand, stp_ior, stp_i2l, stp_i2b, stp_i2s, stp_lcmp, stp_dup, stp_dup2, stp_pop, stp_ifCond, stp_if_icmp, stp_goto, stp_tableswitch, stp_lookupswitch, stp_ldc, stp_ldc_w, stp_ldc2_w, stp_getstatic, stp_getfield, stp_putfield, stp_iaload, stp_baload, stp_iastore, stp_bastore, stp_aaload, stp_aastore, stp_invokevirtual, stp_invokestatic, stp_ireturn, stp_lreturn, stp_return_, lg, lset, okl, spl, wd, c1, cnd, tg, swT, swL, f4_0, f4_1, f4_2, f4_3, f2_0, f2_1, List.mem_cons, List.not_mem_nil, List.length_cons, List.length_nil, List.cons_append, List.nil_append, Nat.reduceAdd, Nat.reduceMul, Nat.reduceLT, Nat.reduceEqDiff, Nat.reduceLeDiff, Int.reduceAdd, Int.reduceNeg, Int.reduceToNat, Int.cast_ofNat_Int, Int.reduceNatCast, Int.toNat_zero, Int.toNat_one, Int.reduceLE, Int.reduceLT, Int.reduceEq, Int.zero_add, Int.add_zero, or_false, false_or, or_true, true_or, and_true, true_and, and_false, false_and, reduceIte, not_true_eq_false, not_false_eq_true, forall_const, false_implies, true_implies, implies_true, ne_eq, reduceCtorEq, List.all_cons, List.all_nil, Bool.and_true, Bool.and_self, decide_eq_true_eq, decide_true, dX6_see_0, dX6_see_1, dX6_see_2, dX6_see_3, dX6_see_6, dX6_see_9, dX6_see_12, dX6_see_13, dX6_see_14, dX6_see_17, dX6_see_20, dX6_see_21, dX6_see_22, dX6_see_23, dX6_see_26, dX6_see_29, dX6_see_32, dX6_see_33, dX6_see_34, dX6_see_35, dX6_see_38, dX6_see_40, dX6_see_41, dX6_see_43, dX6_see_46, dX6_see_48, dX6_see_49, dX6_see_51, dX6_see_52, dX6_see_53, dX6_see_56, dX6_see_58, dX6_see_59, dX6_see_60, dX6_see_61, dX6_see_63, dX6_see_64, dX6_see_67, dX6_see_69, dX6_see_70, dX6_see_71, dX6_see_72, dX6_see_75, dX6_see_77, dX6_see_78, dX6_see_79, dX6_see_80, dX6_see_81, dX6_see_82, dX6_see_85, dX6_see_87, dX6_see_88, dX6_see_89, dX6_see_90, dX6_see_91, dX6_see_92, dX6_see_95, dX6_see_97, dX6_see_98, dX6_see_99, dX6_see_100, dX6_see_101, dX6_see_102, dX6_see_103, dX6_see_106, dX6_see_108, dX6_see_109, CX6_262, CX6_190, FX6_7, G_X6_see_59, G_X6_see_180, kd_66, kd_67, ln_67, T6_in, T6_isStation]
    repeat' (first | exact trivial | omega | (with_reducible assumption) | exact absurd trivial (by with_reducible assumption) | contradiction | apply And.intro | intro _)
theorem good_X6_see (l : Launch) : Good l 2 yX6_see cX6_see 5 (some .int) T6_see := by
  refine Good.mk 1 (by decide) rfl (by simp [retOK]) FOK6 COK6 (gk_X6_see l) ?_ ?_
  · intro a μ K h
    unfold T6_see at h
    split at h
    · simp [entl]
    · exact h.elim
  · intro a μ K V hV h
    unfold T6_see at h
    split at h
    · exact body_X6_see _ _ _ _ μ K V hV h
    · exact h.elim

def T5_see : TT := fun a μ K => match a with
  | [.inr (.inr o), .inl n, .inl i, .inl v] => o = 0 ∧ (InR n ∧ InR i ∧ InR v ∧ ∃ f, rI μ 1 1 = f 35 ∧ rI μ 15 3 = f 41 ∧ (0 ≤ f 35 ∧ f 35 ≤ 5) ∧ (0 ≤ f 41 ∧ f 41 ≤ 6) ∧ (seeOK f n i v → f 41 < 6 → K [.inl (f 41 + 1)] (wI (wI (wI (wI μ 16 (f 41).toNat n) 17 (f 41).toNat i) 18 (f 41).toNat v) 15 3 (f 41 + 1))) ∧ (seeOK f n i v → f 41 = 6 → K [.inl (-3)] μ) ∧ (¬ seeOK f n i v → K [.inl (-1)] μ))
  | _ => False
theorem rec_X5_see : ∀ a μ K, T5_see a μ K → ∃ k r, a = .inr (.inr k) :: r ∧ kd k = 5 := by
  intro a μ K h
  unfold T5_see at h
  split at h
  · exact ⟨_, _, rfl, by rw [h.1]; rfl⟩
  · exact h.elim
def GL_X5_see : List (Nat × Nat × Bool × TT) := [(52, 3, true, T5_isOutside), (111, 2, false, T1_has), (173, 4, false, T2_add)]
def G_X5_see : Nat → Option (Nat × Bool × TT) := fun i => GL_X5_see.lookup i
theorem G_X5_see_52 : G_X5_see 52 = some (3, true, T5_isOutside) := rfl
theorem G_X5_see_111 : G_X5_see 111 = some (2, false, T1_has) := rfl
theorem G_X5_see_173 : G_X5_see 173 = some (4, false, T2_add) := rfl
theorem gk_X5_see (l : Launch) : ∀ i n b T, G_X5_see i = some (n, b, T) → CallOK l 1 RX5 i n b T := by
  intro i n b T h
  have hm : (i, n, b, T) ∈ GL_X5_see := lk_mem h
  simp only [GL_X5_see, List.mem_cons, List.not_mem_nil, or_false, Prod.mk.injEq] at hm
  rcases hm with ⟨rfl, rfl, rfl, rfl⟩ | ⟨rfl, rfl, rfl, rfl⟩ | ⟨rfl, rfl, rfl, rfl⟩
  · exact CallOK.S (d := 1) (own := RX5) (i := 52) (n := 3) (good_X5_isOutside l) (by decide) (by decide) (mg 191 (by decide +kernel) (by decide +kernel)) (mg 192 (by decide +kernel) (by decide +kernel)) (mg 1 (by decide +kernel) (by decide +kernel)) (mg 193 (by decide +kernel) (by decide +kernel)) (by decide +kernel)
  · exact CallOK.V (d := 1) (own := RX5) (i := 111) (n := 1) (ci := 1) (good_X1_has l) (by decide) (by decide) rfl (by decide) rec_X1_has (mg 351 (by decide +kernel) (by decide +kernel)) (mg 313 (by decide +kernel) (by decide +kernel)) (mg 314 (by decide +kernel) (by decide +kernel)) (mg 2 (by decide +kernel) (by decide +kernel)) (mg 315 (by decide +kernel) (by decide +kernel)) (by decide +kernel)
  · exact CallOK.V (d := 1) (own := RX5) (i := 173) (n := 3) (ci := 2) (good_X2_add l) (by decide) (by decide) rfl (by decide) rec_X2_add (mg 480 (by decide +kernel) (by decide +kernel)) (mg 481 (by decide +kernel) (by decide +kernel)) (mg 482 (by decide +kernel) (by decide +kernel)) (mg 3 (by decide +kernel) (by decide +kernel)) (mg 483 (by decide +kernel) (by decide +kernel)) (by decide +kernel)
set_option maxRecDepth 20000 in
set_option maxHeartbeats 4000000 in
theorem body_X5_see (o : Nat) (n : Int) (i : Int) (v : Int) (μ : Mem) (K : List AV → Mem → Prop) (V : Nat → List (Option AV) → List AV → Mem → Prop) (hV : Clos FX5 CX5 G_X5_see 1 K cX5_see V) (hT : o = 0 ∧ (InR n ∧ InR i ∧ InR v ∧ ∃ f, rI μ 1 1 = f 35 ∧ rI μ 15 3 = f 41 ∧ (0 ≤ f 35 ∧ f 35 ≤ 5) ∧ (0 ≤ f 41 ∧ f 41 ≤ 6) ∧ (seeOK f n i v → f 41 < 6 → K [.inl (f 41 + 1)] (wI (wI (wI (wI μ 16 (f 41).toNat n) 17 (f 41).toNat i) 18 (f 41).toNat v) 15 3 (f 41 + 1))) ∧ (seeOK f n i v → f 41 = 6 → K [.inl (-3)] μ) ∧ (¬ seeOK f n i v → K [.inl (-1)] μ))) : V 0 [some (.inr (.inr o)), some (.inl n), some (.inl i), some (.inl v)] [] μ := by
  simp only [InR] at hT
  obtain ⟨rfl, h1, h2, h3, f, r35, r41, h35, h41, h4, h5, h6⟩ := hT
  by_cases hc : seeOK f n i v
  · have h4 := h4 hc
    have h5 := h5 hc
    unfold seeOK at hc
    apply hV [] 90
    simp only [InR, InL, inb, Int.toNat_natCast, wp1, wpc_z, wpc_s, stp_iconst, stp_bipush, stp_sipush, stp_lconst, stp_iload_n, stp_iload, stp_lload_n, stp_lload, stp_aload_n, stp_aload, stp_istore_n, stp_istore, stp_lstore_n, stp_lstore, stp_astore_n, stp_astore, stp_iinc, stp_iadd, stp_isub, stp_imul, stp_ineg, stp_idiv, stp_irem, stp_ladd, stp_lmul, stp_ldiv, stp_lrem, stp_ishl, stp_ishr, stp_iushr, stp_iand, stp_ior, stp_i2l, stp_i2b, stp_i2s, stp_lcmp, stp_dup, stp_dup2, stp_pop, stp_ifCond, stp_if_icmp, stp_goto, stp_tableswitch, stp_lookupswitch, stp_ldc, stp_ldc_w, stp_ldc2_w, stp_getstatic, stp_getfield, stp_putfield, stp_iaload, stp_baload, stp_iastore, stp_bastore, stp_aaload, stp_aastore, stp_invokevirtual, stp_invokestatic, stp_ireturn, stp_lreturn, stp_return_, lg, lset, okl, spl, wd, c1, cnd, tg, swT, swL, f4_0, f4_1, f4_2, f4_3, f2_0, f2_1, List.mem_cons, List.not_mem_nil, List.length_cons, List.length_nil, List.cons_append, List.nil_append, Nat.reduceAdd, Nat.reduceMul, Nat.reduceLT, Nat.reduceEqDiff, Nat.reduceLeDiff, Int.reduceAdd, Int.reduceNeg, Int.reduceToNat, Int.cast_ofNat_Int, Int.reduceNatCast, Int.toNat_zero, Int.toNat_one, Int.reduceLE, Int.reduceLT, Int.reduceEq, Int.zero_add, Int.add_zero, or_false, false_or, or_true, true_or, and_true, true_and, and_false, false_and, reduceIte, not_true_eq_false, not_false_eq_true, forall_const, false_implies, true_implies, implies_true, ne_eq, reduceCtorEq, List.all_cons, List.all_nil, Bool.and_true, Bool.and_self, decide_eq_true_eq, decide_true, dX5_see_0, dX5_see_1, dX5_see_2, dX5_see_4, dX5_see_7, dX5_see_10, dX5_see_11, dX5_see_14, dX5_see_15, dX5_see_18, dX5_see_21, dX5_see_22, dX5_see_23, dX5_see_25, dX5_see_28, dX5_see_31, dX5_see_32, dX5_see_33, dX5_see_34, dX5_see_37, dX5_see_40, dX5_see_42, dX5_see_45, dX5_see_47, dX5_see_48, dX5_see_49, dX5_see_52, dX5_see_53, dX5_see_54, dX5_see_55, dX5_see_58, dX5_see_59, dX5_see_62, dX5_see_65, FX5_10, FX5_22, FX5_78, G_X5_see_52, G_X5_see_111, G_X5_see_173, kd_0, kd_1, kd_15, T5_isOutside, T1_has, T2_add, rI_wI, r35, r41]
    by_cases h6' : f 41 = 6
    · have h5 := h5 h6'
      repeat' (first | exact trivial | omega | (with_reducible assumption) | exact absurd trivial (by with_reducible assumption) | contradiction | apply And.intro | intro _)
    · have h4 := h4 (by omega)
      repeat' (first | exact trivial | omega | (with_reducible assumption) | exact absurd trivial (by with_reducible assumption) | contradiction | apply And.intro | intro _)
  · have h6 := h6 hc
    unfold seeOK at hc
    apply hV [33] 90
    simp only [InR, InL, inb, Int.toNat_natCast, wp1, wpc_z, wpc_s, stp_iconst, stp_bipush, stp_sipush, stp_lconst, stp_iload_n, stp_iload, stp_lload_n, stp_lload, stp_aload_n, stp_aload, stp_istore_n, stp_istore, stp_lstore_n, stp_lstore, stp_astore_n, stp_astore, stp_iinc, stp_iadd, stp_isub, stp_imul, stp_ineg, stp_idiv, stp_irem, stp_ladd, stp_lmul, stp_ldiv, stp_lrem, stp_ishl, stp_ishr, stp_iushr, stp_iand, stp_ior, stp_i2l, stp_i2b, stp_i2s, stp_lcmp, stp_dup, stp_dup2, stp_pop, stp_ifCond, stp_if_icmp, stp_goto, stp_tableswitch, stp_lookupswitch, stp_ldc, stp_ldc_w, stp_ldc2_w, stp_getstatic, stp_getfield, stp_putfield, stp_iaload, stp_baload, stp_iastore, stp_bastore, stp_aaload, stp_aastore, stp_invokevirtual, stp_invokestatic, stp_ireturn, stp_lreturn, stp_return_, lg, lset, okl, spl, wd, c1, cnd, tg, swT, swL, f4_0, f4_1, f4_2, f4_3, f2_0, f2_1, List.mem_cons, List.not_mem_nil, List.length_cons, List.length_nil, List.cons_append, List.nil_append, Nat.reduceAdd, Nat.reduceMul, Nat.reduceLT, Nat.reduceEqDiff, Nat.reduceLeDiff, Int.reduceAdd, Int.reduceNeg, Int.reduceToNat, Int.cast_ofNat_Int, Int.reduceNatCast, Int.toNat_zero, Int.toNat_one, Int.reduceLE, Int.reduceLT, Int.reduceEq, Int.zero_add, Int.add_zero, or_false, false_or, or_true, true_or, and_true, true_and, and_false, false_and, reduceIte, not_true_eq_false, not_false_eq_true, forall_const, false_implies, true_implies, implies_true, ne_eq, reduceCtorEq, List.all_cons, List.all_nil, Bool.and_true, Bool.and_self, decide_eq_true_eq, decide_true, dX5_see_0, dX5_see_1, dX5_see_2, dX5_see_4, dX5_see_7, dX5_see_10, dX5_see_11, dX5_see_14, dX5_see_15, dX5_see_18, dX5_see_21, dX5_see_22, dX5_see_23, dX5_see_25, dX5_see_28, dX5_see_31, dX5_see_32, dX5_see_33, dX5_see_34, dX5_see_37, dX5_see_40, dX5_see_42, dX5_see_45, dX5_see_47, dX5_see_48, dX5_see_49, dX5_see_52, dX5_see_53, dX5_see_54, dX5_see_55, dX5_see_58, dX5_see_59, dX5_see_62, dX5_see_65, FX5_10, FX5_22, FX5_78, G_X5_see_52, G_X5_see_111, G_X5_see_173, kd_0, kd_1, kd_15, T5_isOutside, T1_has, r35]
    repeat' (first | exact trivial | omega | (with_reducible assumption) | exact absurd trivial (by with_reducible assumption) | contradiction | apply And.intro | intro _)
theorem good_X5_see (l : Launch) : Good l 1 yX5_see cX5_see 4 (some .int) T5_see := by
  refine Good.mk 1 (by decide) rfl (by simp [retOK]) FOK5 COK5 (gk_X5_see l) ?_ ?_
  · intro a μ K h
    unfold T5_see at h
    split at h
    · simp [entl]
    · exact h.elim
  · intro a μ K V hV h
    unfold T5_see at h
    split at h
    · exact body_X5_see _ _ _ _ μ K V hV h
    · exact h.elim

def ruleR (f : Nat → Int) (w : Int) : Int := if w = 0 then f 35 else if w = 1 then (if f 35 = 0 then -4 else f 36) else if w = 2 then f 37 else if w = 3 then f 38 else if w = 4 then f 39 else if w = 5 then f 40 else if w = 6 then sumF f 1 (f 35).toNat else if w = 7 then (if f 35 = 0 then 0 else due f (f 36).toNat) else -1
def T5_rule : TT := fun a μ K => match a with
  | [.inr (.inr o), .inl w] => o = 0 ∧ (InR w ∧ ∃ f, RG μ 1 f ∧ WF f ∧ rI μ 1 5 = f 39 ∧ rI μ 1 6 = f 40 ∧ K [.inl (ruleR f w)] μ)
  | _ => False
theorem rec_X5_rule : ∀ a μ K, T5_rule a μ K → ∃ k r, a = .inr (.inr k) :: r ∧ kd k = 5 := by
  intro a μ K h
  unfold T5_rule at h
  split at h
  · exact ⟨_, _, rfl, by rw [h.1]; rfl⟩
  · exact h.elim
def GL_X5_rule : List (Nat × Nat × Bool × TT) := [(103, 2, false, T1_total), (107, 1, false, T1_due)]
def G_X5_rule : Nat → Option (Nat × Bool × TT) := fun i => GL_X5_rule.lookup i
theorem G_X5_rule_103 : G_X5_rule 103 = some (2, false, T1_total) := rfl
theorem G_X5_rule_107 : G_X5_rule 107 = some (1, false, T1_due) := rfl
theorem gk_X5_rule (l : Launch) : ∀ i n b T, G_X5_rule i = some (n, b, T) → CallOK l 2 RX5 i n b T := by
  intro i n b T h
  have hm : (i, n, b, T) ∈ GL_X5_rule := lk_mem h
  simp only [GL_X5_rule, List.mem_cons, List.not_mem_nil, or_false, Prod.mk.injEq] at hm
  rcases hm with ⟨rfl, rfl, rfl, rfl⟩ | ⟨rfl, rfl, rfl, rfl⟩
  · exact CallOK.V (d := 2) (own := RX5) (i := 103) (n := 1) (ci := 1) (good_X1_total l) (by decide) (by decide) rfl (by decide) rec_X1_total (mg 331 (by decide +kernel) (by decide +kernel)) (mg 332 (by decide +kernel) (by decide +kernel)) (mg 333 (by decide +kernel) (by decide +kernel)) (mg 2 (by decide +kernel) (by decide +kernel)) (mg 334 (by decide +kernel) (by decide +kernel)) (by decide +kernel)
  · exact CallOK.V (d := 2) (own := RX5) (i := 107) (n := 0) (ci := 1) (good_X1_due l) (by decide) (by decide) rfl (by decide) rec_X1_due (mg 335 (by decide +kernel) (by decide +kernel)) (mg 336 (by decide +kernel) (by decide +kernel)) (mg 337 (by decide +kernel) (by decide +kernel)) (mg 2 (by decide +kernel) (by decide +kernel)) (mg 338 (by decide +kernel) (by decide +kernel)) (by decide +kernel)
set_option maxRecDepth 20000 in
set_option maxHeartbeats 4000000 in
theorem body_X5_rule (o : Nat) (w : Int) (μ : Mem) (K : List AV → Mem → Prop) (V : Nat → List (Option AV) → List AV → Mem → Prop) (hV : Clos FX5 CX5 G_X5_rule 1 K cX5_rule V) (hT : o = 0 ∧ (InR w ∧ ∃ f, RG μ 1 f ∧ WF f ∧ rI μ 1 5 = f 39 ∧ rI μ 1 6 = f 40 ∧ K [.inl (ruleR f w)] μ)) : V 0 [some (.inr (.inr o)), some (.inl w)] [] μ := by
  simp only [InR] at hT
  obtain ⟨rfl, hw, f, hR, hW, h39, h40, hK⟩ := hT
  have hR' := hR
  obtain ⟨r1, r2, r3, r4, r5, r6⟩ := hR
  have h35 := hW.1
  unfold ruleR at hK
  apply hV [] 60
  simp only [InR, InL, inb, Int.toNat_natCast, wp1, wpc_z, wpc_s, stp_iconst, stp_bipush, stp_sipush, stp_lconst, stp_iload_n, stp_iload, stp_lload_n, stp_lload, stp_aload_n, stp_aload, stp_istore_n, stp_istore, stp_lstore_n, stp_lstore, stp_astore_n, stp_astore, stp_iinc, stp_iadd, stp_isub, stp_imul, stp_ineg, stp_idiv, stp_irem, stp_ladd, stp_lmul, stp_ldiv, stp_lrem, stp_ishl, stp_ishr, stp_iushr, stp_iand, stp_ior, stp_i2l, stp_i2b, stp_i2s, stp_lcmp, stp_dup, stp_dup2, stp_pop, stp_ifCond, stp_if_icmp, stp_goto, stp_tableswitch, stp_lookupswitch, stp_ldc, stp_ldc_w, stp_ldc2_w, stp_getstatic, stp_getfield, stp_putfield, stp_iaload, stp_baload, stp_iastore, stp_bastore, stp_aaload, stp_aastore, stp_invokevirtual, stp_invokestatic, stp_ireturn, stp_lreturn, stp_return_, lg, lset, okl, spl, wd, c1, cnd, tg, swT, swL, f4_0, f4_1, f4_2, f4_3, f2_0, f2_1, List.mem_cons, List.not_mem_nil, List.length_cons, List.length_nil, List.cons_append, List.nil_append, Nat.reduceAdd, Nat.reduceMul, Nat.reduceLT, Nat.reduceEqDiff, Nat.reduceLeDiff, Int.reduceAdd, Int.reduceNeg, Int.reduceToNat, Int.cast_ofNat_Int, Int.reduceNatCast, Int.toNat_zero, Int.toNat_one, Int.reduceLE, Int.reduceLT, Int.reduceEq, Int.zero_add, Int.add_zero, or_false, false_or, or_true, true_or, and_true, true_and, and_false, false_and, reduceIte, not_true_eq_false, not_false_eq_true, forall_const, false_implies, true_implies, implies_true, ne_eq, reduceCtorEq, List.all_cons, List.all_nil, Bool.and_true, Bool.and_self, decide_eq_true_eq, decide_true, dX5_rule_0, dX5_rule_1, dX5_rule_48, dX5_rule_49, dX5_rule_52, dX5_rule_55, dX5_rule_56, dX5_rule_57, dX5_rule_60, dX5_rule_63, dX5_rule_64, dX5_rule_65, dX5_rule_68, dX5_rule_71, dX5_rule_72, dX5_rule_73, dX5_rule_76, dX5_rule_79, dX5_rule_80, dX5_rule_81, dX5_rule_84, dX5_rule_87, dX5_rule_88, dX5_rule_89, dX5_rule_92, dX5_rule_95, dX5_rule_96, dX5_rule_97, dX5_rule_100, dX5_rule_101, dX5_rule_104, dX5_rule_105, dX5_rule_106, dX5_rule_109, dX5_rule_112, dX5_rule_113, dX5_rule_114, FX5_10, FX5_85, FX5_88, FX5_91, FX5_94, FX5_97, FX5_100, G_X5_rule_103, G_X5_rule_107, kd_0, kd_1, T1_total, T1_due, r2, r3, r4, r5, h39, h40, List.size_toArray, Int.reduceSub]
  rcases (show w = 0 ∨ w = 1 ∨ w = 2 ∨ w = 3 ∨ w = 4 ∨ w = 5 ∨ w = 6 ∨ w = 7 ∨ (w < 0 ∨ 7 < w) by omega) with rfl | rfl | rfl | rfl | rfl | rfl | rfl | rfl | z
  all_goals try simp only [Int.reduceEq, if_true, if_false] at hK
  · repeat' (first | exact trivial | omega | (with_reducible assumption) | exact absurd trivial (by with_reducible assumption) | contradiction | apply And.intro | intro _)
  · repeat' (first | exact trivial | omega | (with_reducible assumption) | exact absurd trivial (by with_reducible assumption) | contradiction | apply And.intro | intro _)
  · repeat' (first | exact trivial | omega | (with_reducible assumption) | exact absurd trivial (by with_reducible assumption) | contradiction | apply And.intro | intro _)
  · repeat' (first | exact trivial | omega | (with_reducible assumption) | exact absurd trivial (by with_reducible assumption) | contradiction | apply And.intro | intro _)
  · repeat' (first | exact trivial | omega | (with_reducible assumption) | exact absurd trivial (by with_reducible assumption) | contradiction | apply And.intro | intro _)
  · repeat' (first | exact trivial | omega | (with_reducible assumption) | exact absurd trivial (by with_reducible assumption) | contradiction | apply And.intro | intro _)
  · repeat' (first | exact trivial | omega | (with_reducible assumption) | exact absurd trivial (by with_reducible assumption) | contradiction | apply And.intro | intro _)
    all_goals exact ⟨f, hR', h35, hK⟩
  · repeat' (first | exact trivial | omega | (with_reducible assumption) | exact absurd trivial (by with_reducible assumption) | contradiction | apply And.intro | intro _)
    all_goals exact ⟨f, hR', hW, hK⟩
  · rw [if_neg (by omega), if_neg (by omega), if_neg (by omega), if_neg (by omega), if_neg (by omega), if_neg (by omega), if_neg (by omega), if_neg (by omega)] at hK
    repeat' (first | exact trivial | omega | (with_reducible assumption) | exact absurd trivial (by with_reducible assumption) | contradiction | apply And.intro | intro _)
theorem good_X5_rule (l : Launch) : Good l 2 yX5_rule cX5_rule 2 (some .int) T5_rule := by
  refine Good.mk 1 (by decide) rfl (by simp [retOK]) FOK5 COK5 (gk_X5_rule l) ?_ ?_
  · intro a μ K h
    unfold T5_rule at h
    split at h
    · simp [entl]
    · exact h.elim
  · intro a μ K V hV h
    unfold T5_rule at h
    split at h
    · exact body_X5_rule _ _ μ K V hV h
    · exact h.elim

def T6_rule : TT := fun a μ K => match a with
  | [.inr (.inr o), .inl w] => o = 66 ∧ (InR w ∧ MOK μ ∧ ∀ ν, MF μ ν → K [.inl (ruleR (rI μ 67) w)] ν)
  | _ => False
theorem rec_X6_rule : ∀ a μ K, T6_rule a μ K → ∃ k r, a = .inr (.inr k) :: r ∧ kd k = 6 := by
  intro a μ K h
  unfold T6_rule at h
  split at h
  · exact ⟨_, _, rfl, by rw [h.1]; rfl⟩
  · exact h.elim
def GL_X6_rule : List (Nat × Nat × Bool × TT) := [(174, 1, false, T6_starts), (177, 2, false, T6_sumOf), (160, 2, false, T6_sendsNow)]
def G_X6_rule : Nat → Option (Nat × Bool × TT) := fun i => GL_X6_rule.lookup i
theorem G_X6_rule_174 : G_X6_rule 174 = some (1, false, T6_starts) := rfl
theorem G_X6_rule_177 : G_X6_rule 177 = some (2, false, T6_sumOf) := rfl
theorem G_X6_rule_160 : G_X6_rule 160 = some (2, false, T6_sendsNow) := rfl
theorem gk_X6_rule (l : Launch) : ∀ i n b T, G_X6_rule i = some (n, b, T) → CallOK l 3 RX6 i n b T := by
  intro i n b T h
  have hm : (i, n, b, T) ∈ GL_X6_rule := lk_mem h
  simp only [GL_X6_rule, List.mem_cons, List.not_mem_nil, or_false, Prod.mk.injEq] at hm
  rcases hm with ⟨rfl, rfl, rfl, rfl⟩ | ⟨rfl, rfl, rfl, rfl⟩ | ⟨rfl, rfl, rfl, rfl⟩
  · exact CallOK.V (d := 3) (own := RX6) (i := 174) (n := 0) (ci := 6) (good_X6_starts l) (by decide) (by decide) rfl (by decide) rec_X6_starts (mg 769 (by decide +kernel) (by decide +kernel)) (mg 771 (by decide +kernel) (by decide +kernel)) (mgs 33 (by decide +kernel) (by decide +kernel)) (mg 7 (by decide +kernel) (by decide +kernel)) (mg 772 (by decide +kernel) (by decide +kernel)) (by decide +kernel)
  · exact CallOK.V (d := 3) (own := RX6) (i := 177) (n := 1) (ci := 6) (good_X6_sumOf l) (by decide) (by decide) rfl (by decide) rec_X6_sumOf (mg 773 (by decide +kernel) (by decide +kernel)) (mg 775 (by decide +kernel) (by decide +kernel)) (mgs 34 (by decide +kernel) (by decide +kernel)) (mg 7 (by decide +kernel) (by decide +kernel)) (mg 776 (by decide +kernel) (by decide +kernel)) (by decide +kernel)
  · exact CallOK.V (d := 3) (own := RX6) (i := 160) (n := 1) (ci := 6) (good_X6_sendsNow l) (by decide) (by decide) rfl (by decide) rec_X6_sendsNow (mg 781 (by decide +kernel) (by decide +kernel)) (mg 783 (by decide +kernel) (by decide +kernel)) (mgs 36 (by decide +kernel) (by decide +kernel)) (mg 7 (by decide +kernel) (by decide +kernel)) (mg 784 (by decide +kernel) (by decide +kernel)) (by decide +kernel)
set_option maxRecDepth 20000 in
set_option maxHeartbeats 4000000 in
theorem body_X6_rule (o : Nat) (w : Int) (μ : Mem) (K : List AV → Mem → Prop) (V : Nat → List (Option AV) → List AV → Mem → Prop) (hV : Clos FX6 CX6 G_X6_rule 1 K cX6_rule V) (hT : o = 66 ∧ (InR w ∧ MOK μ ∧ ∀ ν, MF μ ν → K [.inl (ruleR (rI μ 67) w)] ν)) : V 0 [some (.inr (.inr o)), some (.inl w)] [] μ := by
  simp only [InR] at hT
  obtain ⟨rfl, hw, hQ, hK⟩ := hT
  obtain ⟨hW, h38, h39, h40⟩ := hQ
  have h35 := hW.1
  have hk := hK (stM μ) (st_MF μ)
  have o67 : ∀ j, rI (stM μ) 67 j = rI μ 67 j := fun j => st_o μ (by omega) (by omega) (by omega) j
  have e35 : rI (stM μ) 68 35 = rI μ 67 35 := st_68 μ (by omega)
  have esum : sumF (rI (stM μ) 68) 1 (rI μ 67 35).toNat = sumF (rI μ 67) 1 (rI μ 67 35).toNat := sumF_congr (st_E μ) (by omega) _ (by omega)
  have hS : ∀ k : Nat, (k : Int) < rI μ 67 35 → SOK (rI (stM μ) 68) k := fun k hk => (hW.of (st_E μ).sy).2.2.2 k (by rw [e35]; exact hk)
  unfold ruleR at hk
  apply hV [] 60
  simp only [InR, InL, inb, Int.toNat_natCast, wp1, wpc_z, wpc_s, stp_iconst, stp_bipush, stp_sipush, stp_lconst, stp_iload_n, stp_iload, stp_lload_n, stp_lload, stp_aload_n, stp_aload, stp_istore_n, stp_istore, stp_lstore_n, stp_lstore, stp_astore_n, stp_astore, stp_iinc, stp_iadd, stp_isub, stp_imul, stp_ineg, stp_idiv, stp_irem, stp_ladd, stp_lmul, stp_ldiv, stp_lrem, stp_ishl, stp_ishr, stp_iushr, stp_iand, stp_ior, stp_i2l, stp_i2b, stp_i2s, stp_lcmp, stp_dup, stp_dup2, stp_pop, stp_ifCond, stp_if_icmp, stp_goto, stp_tableswitch, stp_lookupswitch, stp_ldc, stp_ldc_w, stp_ldc2_w, stp_getstatic, stp_getfield, stp_putfield, stp_iaload, stp_baload, stp_iastore, stp_bastore, stp_aaload, stp_aastore, stp_invokevirtual, stp_invokestatic, stp_ireturn, stp_lreturn, stp_return_, lg, lset, okl, spl, wd, c1, cnd, tg, swT, swL, f4_0, f4_1, f4_2, f4_3, f2_0, f2_1, List.mem_cons, List.not_mem_nil, List.length_cons, List.length_nil, List.cons_append, List.nil_append, Nat.reduceAdd, Nat.reduceMul, Nat.reduceLT, Nat.reduceEqDiff, Nat.reduceLeDiff, Int.reduceAdd, Int.reduceNeg, Int.reduceToNat, Int.cast_ofNat_Int, Int.reduceNatCast, Int.toNat_zero, Int.toNat_one, Int.reduceLE, Int.reduceLT, Int.reduceEq, Int.zero_add, Int.add_zero, or_false, false_or, or_true, true_or, and_true, true_and, and_false, false_and, reduceIte, not_true_eq_false, not_false_eq_true, forall_const, false_implies, true_implies, implies_true, ne_eq, reduceCtorEq, List.all_cons, List.all_nil, Bool.and_true, Bool.and_self, decide_eq_true_eq, decide_true, dX6_rule_0, dX6_rule_1, dX6_rule_4, dX6_rule_5, dX6_rule_52, dX6_rule_53, dX6_rule_56, dX6_rule_58, dX6_rule_59, dX6_rule_60, dX6_rule_61, dX6_rule_64, dX6_rule_66, dX6_rule_67, dX6_rule_70, dX6_rule_72, dX6_rule_75, dX6_rule_76, dX6_rule_79, dX6_rule_81, dX6_rule_82, dX6_rule_83, dX6_rule_84, dX6_rule_87, dX6_rule_89, dX6_rule_90, dX6_rule_91, dX6_rule_92, dX6_rule_95, dX6_rule_97, dX6_rule_98, dX6_rule_99, dX6_rule_100, dX6_rule_103, dX6_rule_105, dX6_rule_106, dX6_rule_107, dX6_rule_108, dX6_rule_111, dX6_rule_113, dX6_rule_114, dX6_rule_115, dX6_rule_116, dX6_rule_117, dX6_rule_120, dX6_rule_121, dX6_rule_122, dX6_rule_125, dX6_rule_127, dX6_rule_128, dX6_rule_131, dX6_rule_132, dX6_rule_135, dX6_rule_136, dX6_rule_137, dX6_rule_140, dX6_rule_142, dX6_rule_143, dX6_rule_146, dX6_rule_147, dX6_rule_148, FX6_7, G_X6_rule_174, G_X6_rule_177, G_X6_rule_160, kd_66, kd_67, ln_67, T6_starts, T6_sumOf, T6_sendsNow, o67, e35, esum, List.size_toArray, Int.reduceSub]
  rcases (show w = 0 ∨ w = 1 ∨ w = 2 ∨ w = 3 ∨ w = 4 ∨ w = 5 ∨ w = 6 ∨ w = 7 ∨ (w < 0 ∨ 7 < w) by omega) with rfl | rfl | rfl | rfl | rfl | rfl | rfl | rfl | z
  all_goals try simp only [Int.reduceEq, if_true, if_false] at hk
  · repeat' (first | exact trivial | omega | (with_reducible assumption) | exact absurd trivial (by with_reducible assumption) | contradiction | apply And.intro | intro _)
  · by_cases z : rI μ 67 35 = 0
    · rw [if_pos z] at hk
      repeat' (first | exact trivial | omega | (with_reducible assumption) | exact absurd trivial (by with_reducible assumption) | contradiction | apply And.intro | intro _)
    · rw [if_neg z] at hk
      have := hW.2.1 z
      repeat' (first | exact trivial | omega | (with_reducible assumption) | exact absurd trivial (by with_reducible assumption) | contradiction | apply And.intro | intro _)
  · repeat' (first | exact trivial | omega | (with_reducible assumption) | exact absurd trivial (by with_reducible assumption) | contradiction | apply And.intro | intro _)
  · repeat' (first | exact trivial | omega | (with_reducible assumption) | exact absurd trivial (by with_reducible assumption) | contradiction | apply And.intro | intro _)
  · repeat' (first | exact trivial | omega | (with_reducible assumption) | exact absurd trivial (by with_reducible assumption) | contradiction | apply And.intro | intro _)
  · repeat' (first | exact trivial | omega | (with_reducible assumption) | exact absurd trivial (by with_reducible assumption) | contradiction | apply And.intro | intro _)
  · repeat' (first | exact trivial | omega | (with_reducible assumption) | exact absurd trivial (by with_reducible assumption) | contradiction | apply And.intro | intro _)
  · by_cases z : rI μ 67 35 = 0
    · rw [if_pos z] at hk
      repeat' (first | exact trivial | omega | (with_reducible assumption) | exact absurd trivial (by with_reducible assumption) | contradiction | apply And.intro | intro _)
    · rw [if_neg z] at hk
      have h36 := hW.2.1 z
      have ed : due (rI (stM μ) 68) (rI μ 67 36).toNat = due (rI μ 67) (rI μ 67 36).toNat := due_congr (f := rI μ 67) (f' := rI (stM μ) 68) (fun x hx => st_68 μ (by omega)) h35.2 (by omega)
      rw [← ed] at hk
      repeat' (first | exact trivial | omega | (with_reducible assumption) | exact absurd trivial (by with_reducible assumption) | contradiction | apply And.intro | intro _)
      all_goals first | exact hS _ (by omega) | omega
  · rw [if_neg (by omega), if_neg (by omega), if_neg (by omega), if_neg (by omega), if_neg (by omega), if_neg (by omega), if_neg (by omega), if_neg (by omega)] at hk
    repeat' (first | exact trivial | omega | (with_reducible assumption) | exact absurd trivial (by with_reducible assumption) | contradiction | apply And.intro | intro _)
theorem good_X6_rule (l : Launch) : Good l 3 yX6_rule cX6_rule 2 (some .int) T6_rule := by
  refine Good.mk 1 (by decide) rfl (by simp [retOK]) FOK6 COK6 (gk_X6_rule l) ?_ ?_
  · intro a μ K h
    unfold T6_rule at h
    split at h
    · simp [entl]
    · exact h.elim
  · intro a μ K V hV h
    unfold T6_rule at h
    split at h
    · exact body_X6_rule _ _ μ K V hV h
    · exact h.elim

