/-! the reference: what is sent, what comes -/
theorem tn7_0 (n : Nat) : (7 * (n : Int) + 0).toNat = 7 * n := by omega
theorem tn7_00 (n : Nat) : (7 * (n : Int)).toNat = 7 * n := by omega
theorem tn7_1 (n : Nat) : (7 * (n : Int) + 1).toNat = 7 * n + 1 := by omega
theorem tn7_2 (n : Nat) : (7 * (n : Int) + 2).toNat = 7 * n + 2 := by omega
theorem tn7_3 (n : Nat) : (7 * (n : Int) + 3).toNat = 7 * n + 3 := by omega
theorem tn7_4 (n : Nat) : (7 * (n : Int) + 4).toNat = 7 * n + 4 := by omega
theorem tn7_5 (n : Nat) : (7 * (n : Int) + 5).toNat = 7 * n + 5 := by omega
theorem tn7_6 (n : Nat) : (7 * (n : Int) + 6).toNat = 7 * n + 6 := by omega
def T6_sendsNow : TT := fun a μ K => match a with
  | [.inr (.inr o), .inl i] => o = 66 ∧ (0 ≤ i ∧ i < rI μ 68 35 ∧ rI μ 68 35 ≤ 5 ∧ (∀ k : Nat, (k : Int) < rI μ 68 35 → SOK (rI μ 68) k) ∧ K [.inl (due (rI μ 68) i.toNat)] μ)
  | _ => False
theorem rec_X6_sendsNow : ∀ a μ K, T6_sendsNow a μ K → ∃ k r, a = .inr (.inr k) :: r ∧ kd k = 6 := by
  intro a μ K h
  unfold T6_sendsNow at h
  split at h
  · exact ⟨_, _, rfl, by rw [h.1]; rfl⟩
  · exact h.elim
def GL_X6_sendsNow : List (Nat × Nat × Bool × TT) := [(145, 3, false, T6_of), (142, 2, true, T6_lesser), (148, 2, false, T6_isOutdone)]
def G_X6_sendsNow : Nat → Option (Nat × Bool × TT) := fun i => GL_X6_sendsNow.lookup i
theorem G_X6_sendsNow_145 : G_X6_sendsNow 145 = some (3, false, T6_of) := rfl
theorem G_X6_sendsNow_142 : G_X6_sendsNow 142 = some (2, true, T6_lesser) := rfl
theorem G_X6_sendsNow_148 : G_X6_sendsNow 148 = some (2, false, T6_isOutdone) := rfl
theorem gk_X6_sendsNow (l : Launch) : ∀ i n b T, G_X6_sendsNow i = some (n, b, T) → CallOK l 2 RX6 i n b T := by
  intro i n b T h
  have hm : (i, n, b, T) ∈ GL_X6_sendsNow := lk_mem h
  simp only [GL_X6_sendsNow, List.mem_cons, List.not_mem_nil, or_false, Prod.mk.injEq] at hm
  rcases hm with ⟨rfl, rfl, rfl, rfl⟩ | ⟨rfl, rfl, rfl, rfl⟩ | ⟨rfl, rfl, rfl, rfl⟩
  · exact CallOK.V (d := 2) (own := RX6) (i := 145) (n := 2) (ci := 6) (good_X6_of l) (by decide) (by decide) rfl (by decide) rec_X6_of (mg 777 (by decide +kernel) (by decide +kernel)) (mg 779 (by decide +kernel) (by decide +kernel)) (mgs 35 (by decide +kernel) (by decide +kernel)) (mg 7 (by decide +kernel) (by decide +kernel)) (mg 780 (by decide +kernel) (by decide +kernel)) (by decide +kernel)
  · exact CallOK.S (d := 2) (own := RX6) (i := 142) (n := 2) (good_X6_lesser l) (by decide) (by decide) (mg 785 (by decide +kernel) (by decide +kernel)) (mg 786 (by decide +kernel) (by decide +kernel)) (mg 7 (by decide +kernel) (by decide +kernel)) (mg 787 (by decide +kernel) (by decide +kernel)) (by decide +kernel)
  · exact CallOK.V (d := 2) (own := RX6) (i := 148) (n := 1) (ci := 6) (good_X6_isOutdone l) (by decide) (by decide) rfl (by decide) rec_X6_isOutdone (mg 788 (by decide +kernel) (by decide +kernel)) (mg 790 (by decide +kernel) (by decide +kernel)) (mgs 37 (by decide +kernel) (by decide +kernel)) (mg 7 (by decide +kernel) (by decide +kernel)) (mg 791 (by decide +kernel) (by decide +kernel)) (by decide +kernel)
set_option maxRecDepth 20000 in
set_option maxHeartbeats 4000000 in
theorem body_X6_sendsNow (o : Nat) (i : Int) (μ : Mem) (K : List AV → Mem → Prop) (V : Nat → List (Option AV) → List AV → Mem → Prop) (hV : Clos FX6 CX6 G_X6_sendsNow 1 K cX6_sendsNow V) (hT : o = 66 ∧ (0 ≤ i ∧ i < rI μ 68 35 ∧ rI μ 68 35 ≤ 5 ∧ (∀ k : Nat, (k : Int) < rI μ 68 35 → SOK (rI μ 68) k) ∧ K [.inl (due (rI μ 68) i.toNat)] μ)) : V 0 [some (.inr (.inr o)), some (.inl i), none, none] [] μ := by
  obtain ⟨rfl, h1, h2, h3, h4, hK⟩ := hT
  obtain ⟨n, rfl⟩ := Int.eq_ofNat_of_zero_le h1
  rw [Int.toNat_natCast] at hK
  have hq : ∀ k : Nat, k < 5 → ((k : Int) < rI μ 68 35 ∨ k = n) → InR (rI μ 68 (7 * k + 1)) := fun k _ hk => by
    have := (h4 k (by omega)).2.1
    exact ⟨by omega, by omega⟩
  simp only [InR] at hq
  have hs := h4 n (by omega)
  unfold SOK at hs
  obtain ⟨s1, s2, s3, s4, s5, s6, s7⟩ := hs
  apply hV [] 80
  simp only [InR, InL, inb, Int.toNat_natCast, wp1, wpc_z, wpc_s, stp_iconst, stp_bipush, stp_sipush, stp_lconst, stp_iload_n, stp_iload, stp_lload_n, stp_lload, stp_aload_n, stp_aload, stp_istore_n, stp_istore, stp_lstore_n, stp_lstore, stp_astore_n, stp_astore, stp_iinc, stp_iadd, stp_isub, stp_imul, stp_ineg, stp_idiv, stp_irem, stp_ladd, stp_lmul, stp_ldiv, stp_lrem, stp_ishl, stp_ishr, stp_iushr, stp_iand, stp_ior, stp_i2l, stp_i2b, stp_i2s, stp_lcmp, stp_dup, stp_dup2, stp_pop, stp_ifCond, stp_if_icmp, stp_goto, stp_tableswitch, stp_lookupswitch, stp_ldc, stp_ldc_w, stp_ldc2_w, stp_getstatic, stp_getfield, stp_putfield, stp_iaload, stp_baload, stp_iastore, stp_bastore, stp_aaload, stp_aastore, stp_invokevirtual, stp_invokestatic, stp_ireturn, stp_lreturn, stp_return_, lg, lset, okl, spl, wd, c1, cnd, tg, swT, swL, f4_0, f4_1, f4_2, f4_3, f2_0, f2_1, List.mem_cons, List.not_mem_nil, List.length_cons, List.length_nil, List.cons_append, List.nil_append, Nat.reduceAdd, Nat.reduceMul, Nat.reduceLT, Nat.reduceEqDiff, Nat.reduceLeDiff, Int.reduceAdd, Int.reduceNeg, Int.reduceToNat, Int.cast_ofNat_Int, Int.reduceNatCast, Int.toNat_zero, Int.toNat_one, Int.reduceLE, Int.reduceLT, Int.reduceEq, Int.zero_add, Int.add_zero, or_false, false_or, or_true, true_or, and_true, true_and, and_false, false_and, reduceIte, not_true_eq_false, not_false_eq_true, forall_const, false_implies, true_implies, implies_true, ne_eq, reduceCtorEq, List.all_cons, List.all_nil, Bool.and_true, Bool.and_self, decide_eq_true_eq, decide_true, dX6_sendsNow_0, dX6_sendsNow_1, dX6_sendsNow_2, dX6_sendsNow_3, dX6_sendsNow_6, dX6_sendsNow_7, dX6_sendsNow_8, dX6_sendsNow_9, dX6_sendsNow_10, dX6_sendsNow_13, dX6_sendsNow_14, dX6_sendsNow_15, dX6_sendsNow_18, dX6_sendsNow_19, dX6_sendsNow_20, dX6_sendsNow_21, dX6_sendsNow_22, dX6_sendsNow_25, dX6_sendsNow_26, dX6_sendsNow_29, dX6_sendsNow_30, dX6_sendsNow_31, dX6_sendsNow_32, dX6_sendsNow_35, dX6_sendsNow_38, dX6_sendsNow_39, dX6_sendsNow_40, dX6_sendsNow_41, dX6_sendsNow_44, dX6_sendsNow_45, dX6_sendsNow_46, dX6_sendsNow_48, dX6_sendsNow_51, dX6_sendsNow_52, dX6_sendsNow_55, dX6_sendsNow_56, dX6_sendsNow_57, dX6_sendsNow_58, dX6_sendsNow_59, dX6_sendsNow_62, dX6_sendsNow_63, dX6_sendsNow_64, dX6_sendsNow_67, dX6_sendsNow_68, dX6_sendsNow_71, dX6_sendsNow_72, dX6_sendsNow_73, dX6_sendsNow_76, dX6_sendsNow_79, dX6_sendsNow_80, dX6_sendsNow_81, dX6_sendsNow_82, dX6_sendsNow_85, dX6_sendsNow_86, G_X6_sendsNow_145, G_X6_sendsNow_142, G_X6_sendsNow_148, kd_66, kd_67, kd_68, kd_69, kd_70, kd_71, kd_72, kd_73, kd_74, kd_75, kd_76, kd_77, kd_78, ln_66, ln_67, ln_68, ln_69, ln_70, ln_71, ln_72, ln_73, ln_74, ln_75, ln_76, ln_77, ln_78, T6_of, T6_lesser, T6_isOutdone, tn7_0, tn7_00, tn7_1, tn7_2, tn7_6]
  unfold due dm at hK
  by_cases e1 : rI μ 68 (7 * n) = 1
  · have e3 : ¬ rI μ 68 (7 * n) = 3 := by omega
    have e2 : ¬ rI μ 68 (7 * n) = 2 := by omega
    simp only [e1, e2, e3, if_true, false_and, if_false, or_self, false_or, Int.reduceEq] at hK
    repeat' (first | exact trivial | omega | (with_reducible assumption) | exact absurd trivial (by with_reducible assumption) | contradiction | apply And.intro | intro _)
  · simp only [e1, if_false] at hK
    by_cases e3 : rI μ 68 (7 * n) = 3
    · simp only [e3, true_and, or_true] at hK
      by_cases e6 : rI μ 68 (7 * n + 6) = 1
      · simp only [e6, if_true] at hK
        repeat' (first | exact trivial | omega | (with_reducible assumption) | exact absurd trivial (by with_reducible assumption) | contradiction | apply And.intro | intro _)
      · simp only [e6, if_false] at hK
        by_cases ep : 0 < min (rI μ 68 (7 * n + 1)) (rI μ 68 (7 * n + 2))
        · simp only [ep, true_and] at hK
          by_cases eo : outB (rI μ 68) (rI μ 68 (7 * n + 1)) (rI μ 68 35).toNat = true
          · simp only [eo, if_true] at hK
            repeat' (first | exact trivial | omega | (with_reducible assumption) | exact absurd trivial (by with_reducible assumption) | contradiction | apply And.intro | intro _)
          · simp only [eo, Bool.false_eq_true, if_false] at hK
            repeat' (first | exact trivial | omega | (with_reducible assumption) | exact absurd trivial (by with_reducible assumption) | contradiction | apply And.intro | intro _)
        · simp only [ep, false_and, if_false] at hK
          repeat' (first | exact trivial | omega | (with_reducible assumption) | exact absurd trivial (by with_reducible assumption) | contradiction | apply And.intro | intro _)
    · simp only [e3, false_and, if_false, or_false] at hK
      by_cases e2 : rI μ 68 (7 * n) = 2
      · simp only [e2, true_and] at hK
        by_cases ep : 0 < min (rI μ 68 (7 * n + 1)) (rI μ 68 (7 * n + 2))
        · simp only [ep, true_and] at hK
          by_cases eo : outB (rI μ 68) (rI μ 68 (7 * n + 1)) (rI μ 68 35).toNat = true
          · simp only [eo, if_true] at hK
            repeat' (first | exact trivial | omega | (with_reducible assumption) | exact absurd trivial (by with_reducible assumption) | contradiction | apply And.intro | intro _)
          · simp only [eo, Bool.false_eq_true, if_false] at hK
            repeat' (first | exact trivial | omega | (with_reducible assumption) | exact absurd trivial (by with_reducible assumption) | contradiction | apply And.intro | intro _)
        · simp only [ep, false_and, if_false] at hK
          repeat' (first | exact trivial | omega | (with_reducible assumption) | exact absurd trivial (by with_reducible assumption) | contradiction | apply And.intro | intro _)
      · simp only [e2, false_and, if_false] at hK
        repeat' (first | exact trivial | omega | (with_reducible assumption) | exact absurd trivial (by with_reducible assumption) | contradiction | apply And.intro | intro _)
theorem good_X6_sendsNow (l : Launch) : Good l 2 yX6_sendsNow cX6_sendsNow 4 (some .int) T6_sendsNow := by
  refine Good.mk 1 (by decide) rfl (by simp [retOK]) FOK6 COK6 (gk_X6_sendsNow l) ?_ ?_
  · intro a μ K h
    unfold T6_sendsNow at h
    split at h
    · simp [entl]
    · exact h.elim
  · intro a μ K V hV h
    unfold T6_sendsNow at h
    split at h
    · exact body_X6_sendsNow _ _ μ K V hV h
    · exact h.elim

def T6_comesTo : TT := fun a μ K => match a with
  | [.inr (.inr o), .inl i, .inl n] => o = 66 ∧ ((0 ≤ i ∧ i < 5) ∧ (0 ≤ rI μ 68 (7 * i.toNat + 1) ∧ rI μ 68 (7 * i.toNat + 1) ≤ 99) ∧ (0 ≤ n ∧ n ≤ 1000) ∧ (0 ≤ rI μ 68 40 ∧ rI μ 68 40 ≤ 999999) ∧ K [.inl (n - min n (99 - rI μ 68 (7 * i.toNat + 1)))] (wI (wI (wI μ 68 (7 * i.toNat + 1) (rI μ 68 (7 * i.toNat + 1) + min n (99 - rI μ 68 (7 * i.toNat + 1)))) 66 16 (rI μ 66 16 + (n - min n (99 - rI μ 68 (7 * i.toNat + 1))))) 68 40 (min 999999 (rI μ 68 40 + (n - min n (99 - rI μ 68 (7 * i.toNat + 1)))))))
  | _ => False
theorem rec_X6_comesTo : ∀ a μ K, T6_comesTo a μ K → ∃ k r, a = .inr (.inr k) :: r ∧ kd k = 6 := by
  intro a μ K h
  unfold T6_comesTo at h
  split at h
  · exact ⟨_, _, rfl, by rw [h.1]; rfl⟩
  · exact h.elim
def GL_X6_comesTo : List (Nat × Nat × Bool × TT) := [(145, 3, false, T6_of), (142, 2, true, T6_lesser), (152, 4, false, T6_becomesOf), (156, 3, false, T6_growsTo)]
def G_X6_comesTo : Nat → Option (Nat × Bool × TT) := fun i => GL_X6_comesTo.lookup i
theorem G_X6_comesTo_145 : G_X6_comesTo 145 = some (3, false, T6_of) := rfl
theorem G_X6_comesTo_142 : G_X6_comesTo 142 = some (2, true, T6_lesser) := rfl
theorem G_X6_comesTo_152 : G_X6_comesTo 152 = some (4, false, T6_becomesOf) := rfl
theorem G_X6_comesTo_156 : G_X6_comesTo 156 = some (3, false, T6_growsTo) := rfl
theorem gk_X6_comesTo (l : Launch) : ∀ i n b T, G_X6_comesTo i = some (n, b, T) → CallOK l 2 RX6 i n b T := by
  intro i n b T h
  have hm : (i, n, b, T) ∈ GL_X6_comesTo := lk_mem h
  simp only [GL_X6_comesTo, List.mem_cons, List.not_mem_nil, or_false, Prod.mk.injEq] at hm
  rcases hm with ⟨rfl, rfl, rfl, rfl⟩ | ⟨rfl, rfl, rfl, rfl⟩ | ⟨rfl, rfl, rfl, rfl⟩ | ⟨rfl, rfl, rfl, rfl⟩
  · exact CallOK.V (d := 2) (own := RX6) (i := 145) (n := 2) (ci := 6) (good_X6_of l) (by decide) (by decide) rfl (by decide) rec_X6_of (mg 777 (by decide +kernel) (by decide +kernel)) (mg 779 (by decide +kernel) (by decide +kernel)) (mgs 35 (by decide +kernel) (by decide +kernel)) (mg 7 (by decide +kernel) (by decide +kernel)) (mg 780 (by decide +kernel) (by decide +kernel)) (by decide +kernel)
  · exact CallOK.S (d := 2) (own := RX6) (i := 142) (n := 2) (good_X6_lesser l) (by decide) (by decide) (mg 785 (by decide +kernel) (by decide +kernel)) (mg 786 (by decide +kernel) (by decide +kernel)) (mg 7 (by decide +kernel) (by decide +kernel)) (mg 787 (by decide +kernel) (by decide +kernel)) (by decide +kernel)
  · exact CallOK.V (d := 2) (own := RX6) (i := 152) (n := 3) (ci := 6) (good_X6_becomesOf l) (by decide) (by decide) rfl (by decide) rec_X6_becomesOf (mg 823 (by decide +kernel) (by decide +kernel)) (mg 825 (by decide +kernel) (by decide +kernel)) (mgs 41 (by decide +kernel) (by decide +kernel)) (mg 7 (by decide +kernel) (by decide +kernel)) (mg 826 (by decide +kernel) (by decide +kernel)) (by decide +kernel)
  · exact CallOK.V (d := 2) (own := RX6) (i := 156) (n := 2) (ci := 6) (good_X6_growsTo l) (by decide) (by decide) rfl (by decide) rec_X6_growsTo (mg 827 (by decide +kernel) (by decide +kernel)) (mg 829 (by decide +kernel) (by decide +kernel)) (mgs 42 (by decide +kernel) (by decide +kernel)) (mg 7 (by decide +kernel) (by decide +kernel)) (mg 830 (by decide +kernel) (by decide +kernel)) (by decide +kernel)
set_option maxRecDepth 20000 in
set_option maxHeartbeats 4000000 in
theorem body_X6_comesTo (o : Nat) (i : Int) (n : Int) (μ : Mem) (K : List AV → Mem → Prop) (V : Nat → List (Option AV) → List AV → Mem → Prop) (hV : Clos FX6 CX6 G_X6_comesTo 1 K cX6_comesTo V) (hT : o = 66 ∧ ((0 ≤ i ∧ i < 5) ∧ (0 ≤ rI μ 68 (7 * i.toNat + 1) ∧ rI μ 68 (7 * i.toNat + 1) ≤ 99) ∧ (0 ≤ n ∧ n ≤ 1000) ∧ (0 ≤ rI μ 68 40 ∧ rI μ 68 40 ≤ 999999) ∧ K [.inl (n - min n (99 - rI μ 68 (7 * i.toNat + 1)))] (wI (wI (wI μ 68 (7 * i.toNat + 1) (rI μ 68 (7 * i.toNat + 1) + min n (99 - rI μ 68 (7 * i.toNat + 1)))) 66 16 (rI μ 66 16 + (n - min n (99 - rI μ 68 (7 * i.toNat + 1))))) 68 40 (min 999999 (rI μ 68 40 + (n - min n (99 - rI μ 68 (7 * i.toNat + 1)))))))) : V 0 [some (.inr (.inr o)), some (.inl i), some (.inl n), none] [] μ := by
  obtain ⟨rfl, ⟨h1, h2⟩, h3, h4, h5, hK⟩ := hT
  obtain ⟨k, rfl⟩ := Int.eq_ofNat_of_zero_le h1
  rw [Int.toNat_natCast] at hK h3
  apply hV [] 80
  have e40 : ¬ (40 = 7 * k + 1) := by omega
  simp only [InR, InL, inb, Int.toNat_natCast, wp1, wpc_z, wpc_s, stp_iconst, stp_bipush, stp_sipush, stp_lconst, stp_iload_n, stp_iload, stp_lload_n, stp_lload, stp_aload_n, stp_aload, stp_istore_n, stp_istore, stp_lstore_n, stp_lstore, stp_astore_n, stp_astore, stp_iinc, stp_iadd, stp_isub, stp_imul, stp_ineg, stp_idiv, stp_irem, stp_ladd, stp_lmul, stp_ldiv, stp_lrem, stp_ishl, stp_ishr, stp_iushr, stp_iand, stp_ior, stp_i2l, stp_i2b, stp_i2s, stp_lcmp, stp_dup, stp_dup2, stp_pop, stp_ifCond, stp_if_icmp, stp_goto, stp_tableswitch, stp_lookupswitch, stp_ldc, stp_ldc_w, stp_ldc2_w, stp_getstatic, stp_getfield, stp_putfield, stp_iaload, stp_baload, stp_iastore, stp_bastore, stp_aaload, stp_aastore, stp_invokevirtual, stp_invokestatic, stp_ireturn, stp_lreturn, stp_return_, lg, lset, okl, spl, wd, c1, cnd, tg, swT, swL, f4_0, f4_1, f4_2, f4_3, f2_0, f2_1, List.mem_cons, List.not_mem_nil, List.length_cons, List.length_nil, List.cons_append, List.nil_append, Nat.reduceAdd, Nat.reduceMul, Nat.reduceLT, Nat.reduceEqDiff, Nat.reduceLeDiff, Int.reduceAdd, Int.reduceNeg, Int.reduceToNat, Int.cast_ofNat_Int, Int.reduceNatCast, Int.toNat_zero, Int.toNat_one, Int.reduceLE, Int.reduceLT, Int.reduceEq, Int.zero_add, Int.add_zero, or_false, false_or, or_true, true_or, and_true, true_and, and_false, false_and, reduceIte, not_true_eq_false, not_false_eq_true, forall_const, false_implies, true_implies, implies_true, ne_eq, reduceCtorEq, List.all_cons, List.all_nil, Bool.and_true, Bool.and_self, decide_eq_true_eq, decide_true, dX6_comesTo_0, dX6_comesTo_1, dX6_comesTo_3, dX6_comesTo_4, dX6_comesTo_5, dX6_comesTo_6, dX6_comesTo_9, dX6_comesTo_10, dX6_comesTo_13, dX6_comesTo_14, dX6_comesTo_15, dX6_comesTo_16, dX6_comesTo_17, dX6_comesTo_18, dX6_comesTo_19, dX6_comesTo_20, dX6_comesTo_23, dX6_comesTo_24, dX6_comesTo_25, dX6_comesTo_28, dX6_comesTo_29, dX6_comesTo_30, dX6_comesTo_33, dX6_comesTo_34, dX6_comesTo_35, dX6_comesTo_36, dX6_comesTo_37, dX6_comesTo_40, dX6_comesTo_41, dX6_comesTo_43, dX6_comesTo_44, dX6_comesTo_45, dX6_comesTo_46, dX6_comesTo_49, dX6_comesTo_50, dX6_comesTo_51, dX6_comesTo_52, FX6_138, G_X6_comesTo_145, G_X6_comesTo_142, G_X6_comesTo_152, G_X6_comesTo_156, kd_66, kd_67, kd_68, kd_69, kd_70, kd_71, kd_72, kd_73, kd_74, kd_75, kd_76, kd_77, kd_78, ln_66, ln_67, ln_68, ln_69, ln_70, ln_71, ln_72, ln_73, ln_74, ln_75, ln_76, ln_77, ln_78, T6_of, T6_lesser, T6_becomesOf, T6_growsTo, tn7_1, rI_wI, e40, and_self]
  repeat' (first | exact trivial | omega | (with_reducible assumption) | exact absurd trivial (by with_reducible assumption) | contradiction | apply And.intro | intro _)
theorem good_X6_comesTo (l : Launch) : Good l 2 yX6_comesTo cX6_comesTo 4 (some .int) T6_comesTo := by
  refine Good.mk 1 (by decide) rfl (by simp [retOK]) FOK6 COK6 (gk_X6_comesTo l) ?_ ?_
  · intro a μ K h
    unfold T6_comesTo at h
    split at h
    · simp [entl]
    · exact h.elim
  · intro a μ K V hV h
    unfold T6_comesTo at h
    split at h
    · exact body_X6_comesTo _ _ _ μ K V hV h
    · exact h.elim

