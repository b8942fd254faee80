/-! the reference: copies -/
def GL_X6_settles : List (Nat × Nat × Bool × TT) := []
def G_X6_settles : Nat → Option (Nat × Bool × TT) := fun i => GL_X6_settles.lookup i

set_option maxRecDepth 20000 in
set_option maxHeartbeats 4000000 in
theorem lp_settles (V : Nat → List (Option AV) → List AV → Mem → Prop) (K : List AV → Mem → Prop) (hV : Clos FX6 CX6 G_X6_settles 0 K cX6_settles V) (μ : Mem) (hK : K [] (wB μ 67 60 (rI μ 68))) : ∀ m n : Nat, n + m = 60 → V 2 [some (.inr (.inr 66)), some (.inl (n : Int))] [] (wB μ 67 n (rI μ 68)) := by
  intro m
  induction m with
  | zero =>
    intro n hn
    apply hV [2] 40
    simp only [InR, InL, inb, Int.toNat_natCast, wp1, wpc_z, wpc_s, stp_iconst, stp_bipush, stp_sipush, stp_lconst, stp_iload_n, stp_iload, stp_lload_n, stp_lload, stp_aload_n, stp_aload, stp_istore_n, stp_istore, stp_lstore_n, stp_lstore, stp_astore_n, stp_astore, stp_iinc, stp_iadd, stp_isub, stp_imul, stp_ineg, stp_idiv, stp_irem, stp_ladd, stp_lmul, stp_ldiv, stp_lrem, stp_ishl, stp_ishr, stp_iushr, stp_iand, stp_ior, stp_i2l, stp_i2b, stp_i2s, stp_lcmp, stp_dup, stp_dup2, stp_pop, stp_ifCond, stp_if_icmp, stp_goto, stp_tableswitch, stp_lookupswitch, stp_ldc, stp_ldc_w, stp_ldc2_w, stp_getstatic, stp_getfield, stp_putfield, stp_iaload, stp_baload, stp_iastore, stp_bastore, stp_aaload, stp_aastore, stp_invokevirtual, stp_invokestatic, stp_ireturn, stp_lreturn, stp_return_, lg, lset, okl, spl, wd, c1, cnd, tg, swT, swL, f4_0, f4_1, f4_2, f4_3, f2_0, f2_1, List.mem_cons, List.not_mem_nil, List.length_cons, List.length_nil, List.cons_append, List.nil_append, Nat.reduceAdd, Nat.reduceMul, Nat.reduceLT, Nat.reduceEqDiff, Nat.reduceLeDiff, Int.reduceAdd, Int.reduceNeg, Int.reduceToNat, Int.cast_ofNat_Int, Int.reduceNatCast, Int.toNat_zero, Int.toNat_one, Int.reduceLE, Int.reduceLT, Int.reduceEq, Int.zero_add, Int.add_zero, or_false, false_or, or_true, true_or, and_true, true_and, and_false, false_and, reduceIte, not_true_eq_false, not_false_eq_true, forall_const, false_implies, true_implies, implies_true, ne_eq, reduceCtorEq, List.all_cons, List.all_nil, Bool.and_true, Bool.and_self, decide_eq_true_eq, decide_true, dX6_settles_0, dX6_settles_1, dX6_settles_2, dX6_settles_3, dX6_settles_5, dX6_settles_8, dX6_settles_9, dX6_settles_12, dX6_settles_13, dX6_settles_14, dX6_settles_17, dX6_settles_18, dX6_settles_19, dX6_settles_20, dX6_settles_23, dX6_settles_26, FX6_7, FX6_13, kd_66, kd_67, kd_68, kd_69, kd_70, kd_71, kd_72, kd_73, kd_74, kd_75, kd_76, kd_77, kd_78, ln_66, ln_67, ln_68, ln_69, ln_70, ln_71, ln_72, ln_73, ln_74, ln_75, ln_76, ln_77, ln_78]
    repeat' (first | exact trivial | omega | (with_reducible assumption) | exact absurd trivial (by with_reducible assumption) | contradiction | apply And.intro | intro _)
    rw [show n = 60 by omega]
    exact hK
  | succ m ih =>
    intro n hn
    apply hV [2] 40
    simp only [InR, InL, inb, Int.toNat_natCast, wp1, wpc_z, wpc_s, stp_iconst, stp_bipush, stp_sipush, stp_lconst, stp_iload_n, stp_iload, stp_lload_n, stp_lload, stp_aload_n, stp_aload, stp_istore_n, stp_istore, stp_lstore_n, stp_lstore, stp_astore_n, stp_astore, stp_iinc, stp_iadd, stp_isub, stp_imul, stp_ineg, stp_idiv, stp_irem, stp_ladd, stp_lmul, stp_ldiv, stp_lrem, stp_ishl, stp_ishr, stp_iushr, stp_iand, stp_ior, stp_i2l, stp_i2b, stp_i2s, stp_lcmp, stp_dup, stp_dup2, stp_pop, stp_ifCond, stp_if_icmp, stp_goto, stp_tableswitch, stp_lookupswitch, stp_ldc, stp_ldc_w, stp_ldc2_w, stp_getstatic, stp_getfield, stp_putfield, stp_iaload, stp_baload, stp_iastore, stp_bastore, stp_aaload, stp_aastore, stp_invokevirtual, stp_invokestatic, stp_ireturn, stp_lreturn, stp_return_, lg, lset, okl, spl, wd, c1, cnd, tg, swT, swL, f4_0, f4_1, f4_2, f4_3, f2_0, f2_1, List.mem_cons, List.not_mem_nil, List.length_cons, List.length_nil, List.cons_append, List.nil_append, Nat.reduceAdd, Nat.reduceMul, Nat.reduceLT, Nat.reduceEqDiff, Nat.reduceLeDiff, Int.reduceAdd, Int.reduceNeg, Int.reduceToNat, Int.cast_ofNat_Int, Int.reduceNatCast, Int.toNat_zero, Int.toNat_one, Int.reduceLE, Int.reduceLT, Int.reduceEq, Int.zero_add, Int.add_zero, or_false, false_or, or_true, true_or, and_true, true_and, and_false, false_and, reduceIte, not_true_eq_false, not_false_eq_true, forall_const, false_implies, true_implies, implies_true, ne_eq, reduceCtorEq, List.all_cons, List.all_nil, Bool.and_true, Bool.and_self, decide_eq_true_eq, decide_true, dX6_settles_0, dX6_settles_1, dX6_settles_2, dX6_settles_3, dX6_settles_5, dX6_settles_8, dX6_settles_9, dX6_settles_12, dX6_settles_13, dX6_settles_14, dX6_settles_17, dX6_settles_18, dX6_settles_19, dX6_settles_20, dX6_settles_23, dX6_settles_26, FX6_7, FX6_13, kd_66, kd_67, kd_68, kd_69, kd_70, kd_71, kd_72, kd_73, kd_74, kd_75, kd_76, kd_77, kd_78, ln_66, ln_67, ln_68, ln_69, ln_70, ln_71, ln_72, ln_73, ln_74, ln_75, ln_76, ln_77, ln_78]
    repeat' (first | exact trivial | omega | (with_reducible assumption) | exact absurd trivial (by with_reducible assumption) | contradiction | apply And.intro | intro _)
    have h := ih (n + 1) (by omega)
    rw [← wI_wB (v := rI (wB μ 67 n (rI μ 68)) 68 n) μ 67 n (rI μ 68) (by rw [rI_wB]; simp)] at h
    exact h
def T6_settles : TT := fun a μ K => match a with
  | [.inr (.inr o)] => o = 66 ∧ (K [] (wB μ 67 60 (rI μ 68)))
  | _ => False
theorem rec_X6_settles : ∀ a μ K, T6_settles a μ K → ∃ k r, a = .inr (.inr k) :: r ∧ kd k = 6 := by
  intro a μ K h
  unfold T6_settles at h
  split at h
  · exact ⟨_, _, rfl, by rw [h.1]; rfl⟩
  · exact h.elim
theorem gk_X6_settles (l : Launch) : ∀ i n b T, G_X6_settles i = some (n, b, T) → CallOK l 0 RX6 i n b T := by
  intro i n b T h
  have hm : (i, n, b, T) ∈ GL_X6_settles := lk_mem h
  simp [GL_X6_settles] at hm
set_option maxRecDepth 20000 in
set_option maxHeartbeats 4000000 in
theorem body_X6_settles (o : Nat) (μ : Mem) (K : List AV → Mem → Prop) (V : Nat → List (Option AV) → List AV → Mem → Prop) (hV : Clos FX6 CX6 G_X6_settles 0 K cX6_settles V) (hT : o = 66 ∧ (K [] (wB μ 67 60 (rI μ 68)))) : V 0 [some (.inr (.inr o)), none] [] μ := by
  obtain ⟨rfl, hK⟩ := hT
  apply hV [2] 40
  simp only [InR, InL, inb, Int.toNat_natCast, wp1, wpc_z, wpc_s, stp_iconst, stp_bipush, stp_sipush, stp_lconst, stp_iload_n, stp_iload, stp_lload_n, stp_lload, stp_aload_n, stp_aload, stp_istore_n, stp_istore, stp_lstore_n, stp_lstore, stp_astore_n, stp_astore, stp_iinc, stp_iadd, stp_isub, stp_imul, stp_ineg, stp_idiv, stp_irem, stp_ladd, stp_lmul, stp_ldiv, stp_lrem, stp_ishl, stp_ishr, stp_iushr, stp_iand, stp_ior, stp_i2l, stp_i2b, stp_i2s, stp_lcmp, stp_dup, stp_dup2, stp_pop, stp_ifCond, stp_if_icmp, stp_goto, stp_tableswitch, stp_lookupswitch, stp_ldc, stp_ldc_w, stp_ldc2_w, stp_getstatic, stp_getfield, stp_putfield, stp_iaload, stp_baload, stp_iastore, stp_bastore, stp_aaload, stp_aastore, stp_invokevirtual, stp_invokestatic, stp_ireturn, stp_lreturn, stp_return_, lg, lset, okl, spl, wd, c1, cnd, tg, swT, swL, f4_0, f4_1, f4_2, f4_3, f2_0, f2_1, List.mem_cons, List.not_mem_nil, List.length_cons, List.length_nil, List.cons_append, List.nil_append, Nat.reduceAdd, Nat.reduceMul, Nat.reduceLT, Nat.reduceEqDiff, Nat.reduceLeDiff, Int.reduceAdd, Int.reduceNeg, Int.reduceToNat, Int.cast_ofNat_Int, Int.reduceNatCast, Int.toNat_zero, Int.toNat_one, Int.reduceLE, Int.reduceLT, Int.reduceEq, Int.zero_add, Int.add_zero, or_false, false_or, or_true, true_or, and_true, true_and, and_false, false_and, reduceIte, not_true_eq_false, not_false_eq_true, forall_const, false_implies, true_implies, implies_true, ne_eq, reduceCtorEq, List.all_cons, List.all_nil, Bool.and_true, Bool.and_self, decide_eq_true_eq, decide_true, dX6_settles_0, dX6_settles_1, dX6_settles_2, dX6_settles_3, dX6_settles_5, dX6_settles_8, dX6_settles_9, dX6_settles_12, dX6_settles_13, dX6_settles_14, dX6_settles_17, dX6_settles_18, dX6_settles_19, dX6_settles_20, dX6_settles_23, dX6_settles_26, FX6_7, FX6_13, kd_66, kd_67, kd_68, kd_69, kd_70, kd_71, kd_72, kd_73, kd_74, kd_75, kd_76, kd_77, kd_78, ln_66, ln_67, ln_68, ln_69, ln_70, ln_71, ln_72, ln_73, ln_74, ln_75, ln_76, ln_77, ln_78]
  have h := lp_settles V K hV μ hK 60 0 (by omega)
  rw [wB_0] at h
  exact h
theorem good_X6_settles (l : Launch) : Good l 0 yX6_settles cX6_settles 2 none T6_settles := by
  refine Good.mk 0 (by decide) rfl (by simp [retOK]) FOK6 COK6 (gk_X6_settles l) ?_ ?_
  · intro a μ K h
    unfold T6_settles at h
    split at h
    · simp [entl]
    · exact h.elim
  · intro a μ K V hV h
    unfold T6_settles at h
    split at h
    · exact body_X6_settles _ μ K V hV h
    · exact h.elim

/-- the state at hand, as starts() leaves it -/
def stM (μ : Mem) : Mem := wI (wI (wI (wI (wB (wB μ 68 60 (rI μ 67)) 72 5 (fun _ => 0)) 66 13 (-4)) 66 14 0) 66 15 0) 66 16 0
def GL_X6_starts : List (Nat × Nat × Bool × TT) := []
def G_X6_starts : Nat → Option (Nat × Bool × TT) := fun i => GL_X6_starts.lookup i

set_option maxRecDepth 20000 in
set_option maxHeartbeats 4000000 in
theorem lp_starts2 (V : Nat → List (Option AV) → List AV → Mem → Prop) (K : List AV → Mem → Prop) (hV : Clos FX6 CX6 G_X6_starts 0 K cX6_starts V) (μ : Mem) (hK : K [] (stM μ)) : ∀ m n : Nat, n + m = 5 → V 28 [some (.inr (.inr 66)), some (.inl (n : Int))] [] (wB (wB μ 68 60 (rI μ 67)) 72 n (fun _ => 0)) := by
  intro m
  induction m with
  | zero =>
    intro n hn
    apply hV [28] 40
    simp only [InR, InL, inb, Int.toNat_natCast, wp1, wpc_z, wpc_s, stp_iconst, stp_bipush, stp_sipush, stp_lconst, stp_iload_n, stp_iload, stp_lload_n, stp_lload, stp_aload_n, stp_aload, stp_istore_n, stp_istore, stp_lstore_n, stp_lstore, stp_astore_n, stp_astore, stp_iinc, stp_iadd, stp_isub, stp_imul, stp_ineg, stp_idiv, stp_irem, stp_ladd, stp_lmul, stp_ldiv, stp_lrem, stp_ishl, stp_ishr, stp_iushr, stp_iand, stp_ior, stp_i2l, stp_i2b, stp_i2s, stp_lcmp, stp_dup, stp_dup2, stp_pop, stp_ifCond, stp_if_icmp, stp_goto, stp_tableswitch, stp_lookupswitch, stp_ldc, stp_ldc_w, stp_ldc2_w, stp_getstatic, stp_getfield, stp_putfield, stp_iaload, stp_baload, stp_iastore, stp_bastore, stp_aaload, stp_aastore, stp_invokevirtual, stp_invokestatic, stp_ireturn, stp_lreturn, stp_return_, lg, lset, okl, spl, wd, c1, cnd, tg, swT, swL, f4_0, f4_1, f4_2, f4_3, f2_0, f2_1, List.mem_cons, List.not_mem_nil, List.length_cons, List.length_nil, List.cons_append, List.nil_append, Nat.reduceAdd, Nat.reduceMul, Nat.reduceLT, Nat.reduceEqDiff, Nat.reduceLeDiff, Int.reduceAdd, Int.reduceNeg, Int.reduceToNat, Int.cast_ofNat_Int, Int.reduceNatCast, Int.toNat_zero, Int.toNat_one, Int.reduceLE, Int.reduceLT, Int.reduceEq, Int.zero_add, Int.add_zero, or_false, false_or, or_true, true_or, and_true, true_and, and_false, false_and, reduceIte, not_true_eq_false, not_false_eq_true, forall_const, false_implies, true_implies, implies_true, ne_eq, reduceCtorEq, List.all_cons, List.all_nil, Bool.and_true, Bool.and_self, decide_eq_true_eq, decide_true, dX6_starts_0, dX6_starts_1, dX6_starts_2, dX6_starts_3, dX6_starts_5, dX6_starts_8, dX6_starts_9, dX6_starts_12, dX6_starts_13, dX6_starts_14, dX6_starts_17, dX6_starts_18, dX6_starts_19, dX6_starts_20, dX6_starts_23, dX6_starts_26, dX6_starts_27, dX6_starts_28, dX6_starts_29, dX6_starts_30, dX6_starts_33, dX6_starts_34, dX6_starts_37, dX6_starts_38, dX6_starts_39, dX6_starts_40, dX6_starts_43, dX6_starts_46, dX6_starts_47, dX6_starts_49, dX6_starts_52, dX6_starts_53, dX6_starts_54, dX6_starts_57, dX6_starts_58, dX6_starts_59, dX6_starts_62, dX6_starts_63, dX6_starts_64, dX6_starts_67, FX6_13, FX6_7, FX6_26, FX6_129, FX6_132, FX6_135, FX6_138, kd_66, kd_67, kd_68, kd_69, kd_70, kd_71, kd_72, kd_73, kd_74, kd_75, kd_76, kd_77, kd_78, ln_66, ln_67, ln_68, ln_69, ln_70, ln_71, ln_72, ln_73, ln_74, ln_75, ln_76, ln_77, ln_78]
    repeat' (first | exact trivial | omega | (with_reducible assumption) | exact absurd trivial (by with_reducible assumption) | contradiction | apply And.intro | intro _)
    rw [show n = 5 by omega]
    exact hK
  | succ m ih =>
    intro n hn
    apply hV [28] 40
    simp only [InR, InL, inb, Int.toNat_natCast, wp1, wpc_z, wpc_s, stp_iconst, stp_bipush, stp_sipush, stp_lconst, stp_iload_n, stp_iload, stp_lload_n, stp_lload, stp_aload_n, stp_aload, stp_istore_n, stp_istore, stp_lstore_n, stp_lstore, stp_astore_n, stp_astore, stp_iinc, stp_iadd, stp_isub, stp_imul, stp_ineg, stp_idiv, stp_irem, stp_ladd, stp_lmul, stp_ldiv, stp_lrem, stp_ishl, stp_ishr, stp_iushr, stp_iand, stp_ior, stp_i2l, stp_i2b, stp_i2s, stp_lcmp, stp_dup, stp_dup2, stp_pop, stp_ifCond, stp_if_icmp, stp_goto, stp_tableswitch, stp_lookupswitch, stp_ldc, stp_ldc_w, stp_ldc2_w, stp_getstatic, stp_getfield, stp_putfield, stp_iaload, stp_baload, stp_iastore, stp_bastore, stp_aaload, stp_aastore, stp_invokevirtual, stp_invokestatic, stp_ireturn, stp_lreturn, stp_return_, lg, lset, okl, spl, wd, c1, cnd, tg, swT, swL, f4_0, f4_1, f4_2, f4_3, f2_0, f2_1, List.mem_cons, List.not_mem_nil, List.length_cons, List.length_nil, List.cons_append, List.nil_append, Nat.reduceAdd, Nat.reduceMul, Nat.reduceLT, Nat.reduceEqDiff, Nat.reduceLeDiff, Int.reduceAdd, Int.reduceNeg, Int.reduceToNat, Int.cast_ofNat_Int, Int.reduceNatCast, Int.toNat_zero, Int.toNat_one, Int.reduceLE, Int.reduceLT, Int.reduceEq, Int.zero_add, Int.add_zero, or_false, false_or, or_true, true_or, and_true, true_and, and_false, false_and, reduceIte, not_true_eq_false, not_false_eq_true, forall_const, false_implies, true_implies, implies_true, ne_eq, reduceCtorEq, List.all_cons, List.all_nil, Bool.and_true, Bool.and_self, decide_eq_true_eq, decide_true, dX6_starts_0, dX6_starts_1, dX6_starts_2, dX6_starts_3, dX6_starts_5, dX6_starts_8, dX6_starts_9, dX6_starts_12, dX6_starts_13, dX6_starts_14, dX6_starts_17, dX6_starts_18, dX6_starts_19, dX6_starts_20, dX6_starts_23, dX6_starts_26, dX6_starts_27, dX6_starts_28, dX6_starts_29, dX6_starts_30, dX6_starts_33, dX6_starts_34, dX6_starts_37, dX6_starts_38, dX6_starts_39, dX6_starts_40, dX6_starts_43, dX6_starts_46, dX6_starts_47, dX6_starts_49, dX6_starts_52, dX6_starts_53, dX6_starts_54, dX6_starts_57, dX6_starts_58, dX6_starts_59, dX6_starts_62, dX6_starts_63, dX6_starts_64, dX6_starts_67, FX6_13, FX6_7, FX6_26, FX6_129, FX6_132, FX6_135, FX6_138, kd_66, kd_67, kd_68, kd_69, kd_70, kd_71, kd_72, kd_73, kd_74, kd_75, kd_76, kd_77, kd_78, ln_66, ln_67, ln_68, ln_69, ln_70, ln_71, ln_72, ln_73, ln_74, ln_75, ln_76, ln_77, ln_78]
    repeat' (first | exact trivial | omega | (with_reducible assumption) | exact absurd trivial (by with_reducible assumption) | contradiction | apply And.intro | intro _)
    have h := ih (n + 1) (by omega)
    rw [← wI_wB (v := 0) _ 72 n _ rfl] at h
    exact h
set_option maxRecDepth 20000 in
set_option maxHeartbeats 4000000 in
theorem lp_starts1 (V : Nat → List (Option AV) → List AV → Mem → Prop) (K : List AV → Mem → Prop) (hV : Clos FX6 CX6 G_X6_starts 0 K cX6_starts V) (μ : Mem) (hK : K [] (stM μ)) : ∀ m n : Nat, n + m = 60 → V 2 [some (.inr (.inr 66)), some (.inl (n : Int))] [] (wB μ 68 n (rI μ 67)) := by
  intro m
  induction m with
  | zero =>
    intro n hn
    apply hV [2, 28] 40
    simp only [InR, InL, inb, Int.toNat_natCast, wp1, wpc_z, wpc_s, stp_iconst, stp_bipush, stp_sipush, stp_lconst, stp_iload_n, stp_iload, stp_lload_n, stp_lload, stp_aload_n, stp_aload, stp_istore_n, stp_istore, stp_lstore_n, stp_lstore, stp_astore_n, stp_astore, stp_iinc, stp_iadd, stp_isub, stp_imul, stp_ineg, stp_idiv, stp_irem, stp_ladd, stp_lmul, stp_ldiv, stp_lrem, stp_ishl, stp_ishr, stp_iushr, stp_iand, stp_ior, stp_i2l, stp_i2b, stp_i2s, stp_lcmp, stp_dup, stp_dup2, stp_pop, stp_ifCond, stp_if_icmp, stp_goto, stp_tableswitch, stp_lookupswitch, stp_ldc, stp_ldc_w, stp_ldc2_w, stp_getstatic, stp_getfield, stp_putfield, stp_iaload, stp_baload, stp_iastore, stp_bastore, stp_aaload, stp_aastore, stp_invokevirtual, stp_invokestatic, stp_ireturn, stp_lreturn, stp_return_, lg, lset, okl, spl, wd, c1, cnd, tg, swT, swL, f4_0, f4_1, f4_2, f4_3, f2_0, f2_1, List.mem_cons, List.not_mem_nil, List.length_cons, List.length_nil, List.cons_append, List.nil_append, Nat.reduceAdd, Nat.reduceMul, Nat.reduceLT, Nat.reduceEqDiff, Nat.reduceLeDiff, Int.reduceAdd, Int.reduceNeg, Int.reduceToNat, Int.cast_ofNat_Int, Int.reduceNatCast, Int.toNat_zero, Int.toNat_one, Int.reduceLE, Int.reduceLT, Int.reduceEq, Int.zero_add, Int.add_zero, or_false, false_or, or_true, true_or, and_true, true_and, and_false, false_and, reduceIte, not_true_eq_false, not_false_eq_true, forall_const, false_implies, true_implies, implies_true, ne_eq, reduceCtorEq, List.all_cons, List.all_nil, Bool.and_true, Bool.and_self, decide_eq_true_eq, decide_true, dX6_starts_0, dX6_starts_1, dX6_starts_2, dX6_starts_3, dX6_starts_5, dX6_starts_8, dX6_starts_9, dX6_starts_12, dX6_starts_13, dX6_starts_14, dX6_starts_17, dX6_starts_18, dX6_starts_19, dX6_starts_20, dX6_starts_23, dX6_starts_26, dX6_starts_27, dX6_starts_28, dX6_starts_29, dX6_starts_30, dX6_starts_33, dX6_starts_34, dX6_starts_37, dX6_starts_38, dX6_starts_39, dX6_starts_40, dX6_starts_43, dX6_starts_46, dX6_starts_47, dX6_starts_49, dX6_starts_52, dX6_starts_53, dX6_starts_54, dX6_starts_57, dX6_starts_58, dX6_starts_59, dX6_starts_62, dX6_starts_63, dX6_starts_64, dX6_starts_67, FX6_13, FX6_7, FX6_26, FX6_129, FX6_132, FX6_135, FX6_138, kd_66, kd_67, kd_68, kd_69, kd_70, kd_71, kd_72, kd_73, kd_74, kd_75, kd_76, kd_77, kd_78, ln_66, ln_67, ln_68, ln_69, ln_70, ln_71, ln_72, ln_73, ln_74, ln_75, ln_76, ln_77, ln_78]
    repeat' (first | exact trivial | omega | (with_reducible assumption) | exact absurd trivial (by with_reducible assumption) | contradiction | apply And.intro | intro _)
    rw [show n = 60 by omega]
    have h := lp_starts2 V K hV μ hK 5 0 (by omega)
    rw [wB_0] at h
    exact h
  | succ m ih =>
    intro n hn
    apply hV [2, 28] 40
    simp only [InR, InL, inb, Int.toNat_natCast, wp1, wpc_z, wpc_s, stp_iconst, stp_bipush, stp_sipush, stp_lconst, stp_iload_n, stp_iload, stp_lload_n, stp_lload, stp_aload_n, stp_aload, stp_istore_n, stp_istore, stp_lstore_n, stp_lstore, stp_astore_n, stp_astore, stp_iinc, stp_iadd, stp_isub, stp_imul, stp_ineg, stp_idiv, stp_irem, stp_ladd, stp_lmul, stp_ldiv, stp_lrem, stp_ishl, stp_ishr, stp_iushr, stp_iand, stp_ior, stp_i2l, stp_i2b, stp_i2s, stp_lcmp, stp_dup, stp_dup2, stp_pop, stp_ifCond, stp_if_icmp, stp_goto, stp_tableswitch, stp_lookupswitch, stp_ldc, stp_ldc_w, stp_ldc2_w, stp_getstatic, stp_getfield, stp_putfield, stp_iaload, stp_baload, stp_iastore, stp_bastore, stp_aaload, stp_aastore, stp_invokevirtual, stp_invokestatic, stp_ireturn, stp_lreturn, stp_return_, lg, lset, okl, spl, wd, c1, cnd, tg, swT, swL, f4_0, f4_1, f4_2, f4_3, f2_0, f2_1, List.mem_cons, List.not_mem_nil, List.length_cons, List.length_nil, List.cons_append, List.nil_append, Nat.reduceAdd, Nat.reduceMul, Nat.reduceLT, Nat.reduceEqDiff, Nat.reduceLeDiff, Int.reduceAdd, Int.reduceNeg, Int.reduceToNat, Int.cast_ofNat_Int, Int.reduceNatCast, Int.toNat_zero, Int.toNat_one, Int.reduceLE, Int.reduceLT, Int.reduceEq, Int.zero_add, Int.add_zero, or_false, false_or, or_true, true_or, and_true, true_and, and_false, false_and, reduceIte, not_true_eq_false, not_false_eq_true, forall_const, false_implies, true_implies, implies_true, ne_eq, reduceCtorEq, List.all_cons, List.all_nil, Bool.and_true, Bool.and_self, decide_eq_true_eq, decide_true, dX6_starts_0, dX6_starts_1, dX6_starts_2, dX6_starts_3, dX6_starts_5, dX6_starts_8, dX6_starts_9, dX6_starts_12, dX6_starts_13, dX6_starts_14, dX6_starts_17, dX6_starts_18, dX6_starts_19, dX6_starts_20, dX6_starts_23, dX6_starts_26, dX6_starts_27, dX6_starts_28, dX6_starts_29, dX6_starts_30, dX6_starts_33, dX6_starts_34, dX6_starts_37, dX6_starts_38, dX6_starts_39, dX6_starts_40, dX6_starts_43, dX6_starts_46, dX6_starts_47, dX6_starts_49, dX6_starts_52, dX6_starts_53, dX6_starts_54, dX6_starts_57, dX6_starts_58, dX6_starts_59, dX6_starts_62, dX6_starts_63, dX6_starts_64, dX6_starts_67, FX6_13, FX6_7, FX6_26, FX6_129, FX6_132, FX6_135, FX6_138, kd_66, kd_67, kd_68, kd_69, kd_70, kd_71, kd_72, kd_73, kd_74, kd_75, kd_76, kd_77, kd_78, ln_66, ln_67, ln_68, ln_69, ln_70, ln_71, ln_72, ln_73, ln_74, ln_75, ln_76, ln_77, ln_78]
    repeat' (first | exact trivial | omega | (with_reducible assumption) | exact absurd trivial (by with_reducible assumption) | contradiction | apply And.intro | intro _)
    have h := ih (n + 1) (by omega)
    rw [← wI_wB (v := rI (wB μ 68 n (rI μ 67)) 67 n) μ 68 n (rI μ 67) (by rw [rI_wB]; simp)] at h
    exact h
def T6_starts : TT := fun a μ K => match a with
  | [.inr (.inr o)] => o = 66 ∧ (K [] (stM μ))
  | _ => False
theorem rec_X6_starts : ∀ a μ K, T6_starts a μ K → ∃ k r, a = .inr (.inr k) :: r ∧ kd k = 6 := by
  intro a μ K h
  unfold T6_starts at h
  split at h
  · exact ⟨_, _, rfl, by rw [h.1]; rfl⟩
  · exact h.elim
theorem gk_X6_starts (l : Launch) : ∀ i n b T, G_X6_starts i = some (n, b, T) → CallOK l 0 RX6 i n b T := by
  intro i n b T h
  have hm : (i, n, b, T) ∈ GL_X6_starts := lk_mem h
  simp [GL_X6_starts] at hm
set_option maxRecDepth 20000 in
set_option maxHeartbeats 4000000 in
theorem body_X6_starts (o : Nat) (μ : Mem) (K : List AV → Mem → Prop) (V : Nat → List (Option AV) → List AV → Mem → Prop) (hV : Clos FX6 CX6 G_X6_starts 0 K cX6_starts V) (hT : o = 66 ∧ (K [] (stM μ))) : V 0 [some (.inr (.inr o)), none] [] μ := by
  obtain ⟨rfl, hK⟩ := hT
  apply hV [2] 40
  simp only [InR, InL, inb, Int.toNat_natCast, wp1, wpc_z, wpc_s, stp_iconst, stp_bipush, stp_sipush, stp_lconst, stp_iload_n, stp_iload, stp_lload_n, stp_lload, stp_aload_n, stp_aload, stp_istore_n, stp_istore, stp_lstore_n, stp_lstore, stp_astore_n, stp_astore, stp_iinc, stp_iadd, stp_isub, stp_imul, stp_ineg, stp_idiv, stp_irem, stp_ladd, stp_lmul, stp_ldiv, stp_lrem, stp_ishl, stp_ishr, stp_iushr, stp_iand, stp_ior, stp_i2l, stp_i2b, stp_i2s, stp_lcmp, stp_dup, stp_dup2, stp_pop, stp_ifCond, stp_if_icmp, stp_goto, stp_tableswitch, stp_lookupswitch, stp_ldc, stp_ldc_w, stp_ldc2_w, stp_getstatic, stp_getfield, stp_putfield, stp_iaload, stp_baload, stp_iastore, stp_bastore, stp_aaload, stp_aastore, stp_invokevirtual, stp_invokestatic, stp_ireturn, stp_lreturn, stp_return_, lg, lset, okl, spl, wd, c1, cnd, tg, swT, swL, f4_0, f4_1, f4_2, f4_3, f2_0, f2_1, List.mem_cons, List.not_mem_nil, List.length_cons, List.length_nil, List.cons_append, List.nil_append, Nat.reduceAdd, Nat.reduceMul, Nat.reduceLT, Nat.reduceEqDiff, Nat.reduceLeDiff, Int.reduceAdd, Int.reduceNeg, Int.reduceToNat, Int.cast_ofNat_Int, Int.reduceNatCast, Int.toNat_zero, Int.toNat_one, Int.reduceLE, Int.reduceLT, Int.reduceEq, Int.zero_add, Int.add_zero, or_false, false_or, or_true, true_or, and_true, true_and, and_false, false_and, reduceIte, not_true_eq_false, not_false_eq_true, forall_const, false_implies, true_implies, implies_true, ne_eq, reduceCtorEq, List.all_cons, List.all_nil, Bool.and_true, Bool.and_self, decide_eq_true_eq, decide_true, dX6_starts_0, dX6_starts_1, dX6_starts_2, dX6_starts_3, dX6_starts_5, dX6_starts_8, dX6_starts_9, dX6_starts_12, dX6_starts_13, dX6_starts_14, dX6_starts_17, dX6_starts_18, dX6_starts_19, dX6_starts_20, dX6_starts_23, dX6_starts_26, dX6_starts_27, dX6_starts_28, dX6_starts_29, dX6_starts_30, dX6_starts_33, dX6_starts_34, dX6_starts_37, dX6_starts_38, dX6_starts_39, dX6_starts_40, dX6_starts_43, dX6_starts_46, dX6_starts_47, dX6_starts_49, dX6_starts_52, dX6_starts_53, dX6_starts_54, dX6_starts_57, dX6_starts_58, dX6_starts_59, dX6_starts_62, dX6_starts_63, dX6_starts_64, dX6_starts_67, FX6_13, FX6_7, FX6_26, FX6_129, FX6_132, FX6_135, FX6_138, kd_66, kd_67, kd_68, kd_69, kd_70, kd_71, kd_72, kd_73, kd_74, kd_75, kd_76, kd_77, kd_78, ln_66, ln_67, ln_68, ln_69, ln_70, ln_71, ln_72, ln_73, ln_74, ln_75, ln_76, ln_77, ln_78]
  have h := lp_starts1 V K hV μ hK 60 0 (by omega)
  rw [wB_0] at h
  exact h
theorem good_X6_starts (l : Launch) : Good l 0 yX6_starts cX6_starts 2 none T6_starts := by
  refine Good.mk 0 (by decide) rfl (by simp [retOK]) FOK6 COK6 (gk_X6_starts l) ?_ ?_
  · intro a μ K h
    unfold T6_starts at h
    split at h
    · simp [entl]
    · exact h.elim
  · intro a μ K V hV h
    unfold T6_starts at h
    split at h
    · exact body_X6_starts _ μ K V hV h
    · exact h.elim

def GL_X6_firstDraft : List (Nat × Nat × Bool × TT) := []
def G_X6_firstDraft : Nat → Option (Nat × Bool × TT) := fun i => GL_X6_firstDraft.lookup i

set_option maxRecDepth 20000 in
set_option maxHeartbeats 4000000 in
theorem lp_firstDraft (V : Nat → List (Option AV) → List AV → Mem → Prop) (K : List AV → Mem → Prop) (hV : Clos FX6 CX6 G_X6_firstDraft 0 K cX6_firstDraft V) (μ : Mem) (hK : K [] (wI (wB μ 70 60 (fun _ => 0)) 66 4 0)) : ∀ m n : Nat, n + m = 60 → V 2 [some (.inr (.inr 66)), some (.inl (n : Int))] [] (wB μ 70 n (fun _ => 0)) := by
  intro m
  induction m with
  | zero =>
    intro n hn
    apply hV [2] 40
    simp only [InR, InL, inb, Int.toNat_natCast, wp1, wpc_z, wpc_s, stp_iconst, stp_bipush, stp_sipush, stp_lconst, stp_iload_n, stp_iload, stp_lload_n, stp_lload, stp_aload_n, stp_aload, stp_istore_n, stp_istore, stp_lstore_n, stp_lstore, stp_astore_n, stp_astore, stp_iinc, stp_iadd, stp_isub, stp_imul, stp_ineg, stp_idiv, stp_irem, stp_ladd, stp_lmul, stp_ldiv, stp_lrem, stp_ishl, stp_ishr, stp_iushr, stp_iand, stp_ior, stp_i2l, stp_i2b, stp_i2s, stp_lcmp, stp_dup, stp_dup2, stp_pop, stp_ifCond, stp_if_icmp, stp_goto, stp_tableswitch, stp_lookupswitch, stp_ldc, stp_ldc_w, stp_ldc2_w, stp_getstatic, stp_getfield, stp_putfield, stp_iaload, stp_baload, stp_iastore, stp_bastore, stp_aaload, stp_aastore, stp_invokevirtual, stp_invokestatic, stp_ireturn, stp_lreturn, stp_return_, lg, lset, okl, spl, wd, c1, cnd, tg, swT, swL, f4_0, f4_1, f4_2, f4_3, f2_0, f2_1, List.mem_cons, List.not_mem_nil, List.length_cons, List.length_nil, List.cons_append, List.nil_append, Nat.reduceAdd, Nat.reduceMul, Nat.reduceLT, Nat.reduceEqDiff, Nat.reduceLeDiff, Int.reduceAdd, Int.reduceNeg, Int.reduceToNat, Int.cast_ofNat_Int, Int.reduceNatCast, Int.toNat_zero, Int.toNat_one, Int.reduceLE, Int.reduceLT, Int.reduceEq, Int.zero_add, Int.add_zero, or_false, false_or, or_true, true_or, and_true, true_and, and_false, false_and, reduceIte, not_true_eq_false, not_false_eq_true, forall_const, false_implies, true_implies, implies_true, ne_eq, reduceCtorEq, List.all_cons, List.all_nil, Bool.and_true, Bool.and_self, decide_eq_true_eq, decide_true, dX6_firstDraft_0, dX6_firstDraft_1, dX6_firstDraft_2, dX6_firstDraft_3, dX6_firstDraft_5, dX6_firstDraft_8, dX6_firstDraft_9, dX6_firstDraft_12, dX6_firstDraft_13, dX6_firstDraft_14, dX6_firstDraft_15, dX6_firstDraft_18, dX6_firstDraft_21, dX6_firstDraft_22, dX6_firstDraft_23, dX6_firstDraft_26, FX6_20, FX6_53, kd_66, kd_67, kd_68, kd_69, kd_70, kd_71, kd_72, kd_73, kd_74, kd_75, kd_76, kd_77, kd_78, ln_66, ln_67, ln_68, ln_69, ln_70, ln_71, ln_72, ln_73, ln_74, ln_75, ln_76, ln_77, ln_78]
    repeat' (first | exact trivial | omega | (with_reducible assumption) | exact absurd trivial (by with_reducible assumption) | contradiction | apply And.intro | intro _)
    rw [show n = 60 by omega]
    exact hK
  | succ m ih =>
    intro n hn
    apply hV [2] 40
    simp only [InR, InL, inb, Int.toNat_natCast, wp1, wpc_z, wpc_s, stp_iconst, stp_bipush, stp_sipush, stp_lconst, stp_iload_n, stp_iload, stp_lload_n, stp_lload, stp_aload_n, stp_aload, stp_istore_n, stp_istore, stp_lstore_n, stp_lstore, stp_astore_n, stp_astore, stp_iinc, stp_iadd, stp_isub, stp_imul, stp_ineg, stp_idiv, stp_irem, stp_ladd, stp_lmul, stp_ldiv, stp_lrem, stp_ishl, stp_ishr, stp_iushr, stp_iand, stp_ior, stp_i2l, stp_i2b, stp_i2s, stp_lcmp, stp_dup, stp_dup2, stp_pop, stp_ifCond, stp_if_icmp, stp_goto, stp_tableswitch, stp_lookupswitch, stp_ldc, stp_ldc_w, stp_ldc2_w, stp_getstatic, stp_getfield, stp_putfield, stp_iaload, stp_baload, stp_iastore, stp_bastore, stp_aaload, stp_aastore, stp_invokevirtual, stp_invokestatic, stp_ireturn, stp_lreturn, stp_return_, lg, lset, okl, spl, wd, c1, cnd, tg, swT, swL, f4_0, f4_1, f4_2, f4_3, f2_0, f2_1, List.mem_cons, List.not_mem_nil, List.length_cons, List.length_nil, List.cons_append, List.nil_append, Nat.reduceAdd, Nat.reduceMul, Nat.reduceLT, Nat.reduceEqDiff, Nat.reduceLeDiff, Int.reduceAdd, Int.reduceNeg, Int.reduceToNat, Int.cast_ofNat_Int, Int.reduceNatCast, Int.toNat_zero, Int.toNat_one, Int.reduceLE, Int.reduceLT, Int.reduceEq, Int.zero_add, Int.add_zero, or_false, false_or, or_true, true_or, and_true, true_and, and_false, false_and, reduceIte, not_true_eq_false, not_false_eq_true, forall_const, false_implies, true_implies, implies_true, ne_eq, reduceCtorEq, List.all_cons, List.all_nil, Bool.and_true, Bool.and_self, decide_eq_true_eq, decide_true, dX6_firstDraft_0, dX6_firstDraft_1, dX6_firstDraft_2, dX6_firstDraft_3, dX6_firstDraft_5, dX6_firstDraft_8, dX6_firstDraft_9, dX6_firstDraft_12, dX6_firstDraft_13, dX6_firstDraft_14, dX6_firstDraft_15, dX6_firstDraft_18, dX6_firstDraft_21, dX6_firstDraft_22, dX6_firstDraft_23, dX6_firstDraft_26, FX6_20, FX6_53, kd_66, kd_67, kd_68, kd_69, kd_70, kd_71, kd_72, kd_73, kd_74, kd_75, kd_76, kd_77, kd_78, ln_66, ln_67, ln_68, ln_69, ln_70, ln_71, ln_72, ln_73, ln_74, ln_75, ln_76, ln_77, ln_78]
    repeat' (first | exact trivial | omega | (with_reducible assumption) | exact absurd trivial (by with_reducible assumption) | contradiction | apply And.intro | intro _)
    have h := ih (n + 1) (by omega)
    rw [← wI_wB (v := 0) _ 70 n _ rfl] at h
    exact h
def T6_firstDraft : TT := fun a μ K => match a with
  | [.inr (.inr o)] => o = 66 ∧ (K [] (wI (wB μ 70 60 (fun _ => 0)) 66 4 0))
  | _ => False
theorem rec_X6_firstDraft : ∀ a μ K, T6_firstDraft a μ K → ∃ k r, a = .inr (.inr k) :: r ∧ kd k = 6 := by
  intro a μ K h
  unfold T6_firstDraft at h
  split at h
  · exact ⟨_, _, rfl, by rw [h.1]; rfl⟩
  · exact h.elim
theorem gk_X6_firstDraft (l : Launch) : ∀ i n b T, G_X6_firstDraft i = some (n, b, T) → CallOK l 0 RX6 i n b T := by
  intro i n b T h
  have hm : (i, n, b, T) ∈ GL_X6_firstDraft := lk_mem h
  simp [GL_X6_firstDraft] at hm
set_option maxRecDepth 20000 in
set_option maxHeartbeats 4000000 in
theorem body_X6_firstDraft (o : Nat) (μ : Mem) (K : List AV → Mem → Prop) (V : Nat → List (Option AV) → List AV → Mem → Prop) (hV : Clos FX6 CX6 G_X6_firstDraft 0 K cX6_firstDraft V) (hT : o = 66 ∧ (K [] (wI (wB μ 70 60 (fun _ => 0)) 66 4 0))) : V 0 [some (.inr (.inr o)), none] [] μ := by
  obtain ⟨rfl, hK⟩ := hT
  apply hV [2] 40
  simp only [InR, InL, inb, Int.toNat_natCast, wp1, wpc_z, wpc_s, stp_iconst, stp_bipush, stp_sipush, stp_lconst, stp_iload_n, stp_iload, stp_lload_n, stp_lload, stp_aload_n, stp_aload, stp_istore_n, stp_istore, stp_lstore_n, stp_lstore, stp_astore_n, stp_astore, stp_iinc, stp_iadd, stp_isub, stp_imul, stp_ineg, stp_idiv, stp_irem, stp_ladd, stp_lmul, stp_ldiv, stp_lrem, stp_ishl, stp_ishr, stp_iushr, stp_iand, stp_ior, stp_i2l, stp_i2b, stp_i2s, stp_lcmp, stp_dup, stp_dup2, stp_pop, stp_ifCond, stp_if_icmp, stp_goto, stp_tableswitch, stp_lookupswitch, stp_ldc, stp_ldc_w, stp_ldc2_w, stp_getstatic, stp_getfield, stp_putfield, stp_iaload, stp_baload, stp_iastore, stp_bastore, stp_aaload, stp_aastore, stp_invokevirtual, stp_invokestatic, stp_ireturn, stp_lreturn, stp_return_, lg, lset, okl, spl, wd, c1, cnd, tg, swT, swL, f4_0, f4_1, f4_2, f4_3, f2_0, f2_1, List.mem_cons, List.not_mem_nil, List.length_cons, List.length_nil, List.cons_append, List.nil_append, Nat.reduceAdd, Nat.reduceMul, Nat.reduceLT, Nat.reduceEqDiff, Nat.reduceLeDiff, Int.reduceAdd, Int.reduceNeg, Int.reduceToNat, Int.cast_ofNat_Int, Int.reduceNatCast, Int.toNat_zero, Int.toNat_one, Int.reduceLE, Int.reduceLT, Int.reduceEq, Int.zero_add, Int.add_zero, or_false, false_or, or_true, true_or, and_true, true_and, and_false, false_and, reduceIte, not_true_eq_false, not_false_eq_true, forall_const, false_implies, true_implies, implies_true, ne_eq, reduceCtorEq, List.all_cons, List.all_nil, Bool.and_true, Bool.and_self, decide_eq_true_eq, decide_true, dX6_firstDraft_0, dX6_firstDraft_1, dX6_firstDraft_2, dX6_firstDraft_3, dX6_firstDraft_5, dX6_firstDraft_8, dX6_firstDraft_9, dX6_firstDraft_12, dX6_firstDraft_13, dX6_firstDraft_14, dX6_firstDraft_15, dX6_firstDraft_18, dX6_firstDraft_21, dX6_firstDraft_22, dX6_firstDraft_23, dX6_firstDraft_26, FX6_20, FX6_53, kd_66, kd_67, kd_68, kd_69, kd_70, kd_71, kd_72, kd_73, kd_74, kd_75, kd_76, kd_77, kd_78, ln_66, ln_67, ln_68, ln_69, ln_70, ln_71, ln_72, ln_73, ln_74, ln_75, ln_76, ln_77, ln_78]
  have h := lp_firstDraft V K hV μ hK 60 0 (by omega)
  rw [wB_0] at h
  exact h
theorem good_X6_firstDraft (l : Launch) : Good l 0 yX6_firstDraft cX6_firstDraft 2 none T6_firstDraft := by
  refine Good.mk 0 (by decide) rfl (by simp [retOK]) FOK6 COK6 (gk_X6_firstDraft l) ?_ ?_
  · intro a μ K h
    unfold T6_firstDraft at h
    split at h
    · simp [entl]
    · exact h.elim
  · intro a μ K V hV h
    unfold T6_firstDraft at h
    split at h
    · exact body_X6_firstDraft _ μ K V hV h
    · exact h.elim

def GL_X6_keepDraft : List (Nat × Nat × Bool × TT) := []
def G_X6_keepDraft : Nat → Option (Nat × Bool × TT) := fun i => GL_X6_keepDraft.lookup i

set_option maxRecDepth 20000 in
set_option maxHeartbeats 4000000 in
theorem lp_keepDraft (V : Nat → List (Option AV) → List AV → Mem → Prop) (K : List AV → Mem → Prop) (hV : Clos FX6 CX6 G_X6_keepDraft 0 K cX6_keepDraft V) (μ : Mem) (hK : K [] (wI (wI (wB μ 67 60 (rI μ 70)) 69 0 0) 69 1 0)) : ∀ m n : Nat, n + m = 60 → V 2 [some (.inr (.inr 66)), some (.inl (n : Int))] [] (wB μ 67 n (rI μ 70)) := by
  intro m
  induction m with
  | zero =>
    intro n hn
    apply hV [2] 40
    simp only [InR, InL, inb, Int.toNat_natCast, wp1, wpc_z, wpc_s, stp_iconst, stp_bipush, stp_sipush, stp_lconst, stp_iload_n, stp_iload, stp_lload_n, stp_lload, stp_aload_n, stp_aload, stp_istore_n, stp_istore, stp_lstore_n, stp_lstore, stp_astore_n, stp_astore, stp_iinc, stp_iadd, stp_isub, stp_imul, stp_ineg, stp_idiv, stp_irem, stp_ladd, stp_lmul, stp_ldiv, stp_lrem, stp_ishl, stp_ishr, stp_iushr, stp_iand, stp_ior, stp_i2l, stp_i2b, stp_i2s, stp_lcmp, stp_dup, stp_dup2, stp_pop, stp_ifCond, stp_if_icmp, stp_goto, stp_tableswitch, stp_lookupswitch, stp_ldc, stp_ldc_w, stp_ldc2_w, stp_getstatic, stp_getfield, stp_putfield, stp_iaload, stp_baload, stp_iastore, stp_bastore, stp_aaload, stp_aastore, stp_invokevirtual, stp_invokestatic, stp_ireturn, stp_lreturn, stp_return_, lg, lset, okl, spl, wd, c1, cnd, tg, swT, swL, f4_0, f4_1, f4_2, f4_3, f2_0, f2_1, List.mem_cons, List.not_mem_nil, List.length_cons, List.length_nil, List.cons_append, List.nil_append, Nat.reduceAdd, Nat.reduceMul, Nat.reduceLT, Nat.reduceEqDiff, Nat.reduceLeDiff, Int.reduceAdd, Int.reduceNeg, Int.reduceToNat, Int.cast_ofNat_Int, Int.reduceNatCast, Int.toNat_zero, Int.toNat_one, Int.reduceLE, Int.reduceLT, Int.reduceEq, Int.zero_add, Int.add_zero, or_false, false_or, or_true, true_or, and_true, true_and, and_false, false_and, reduceIte, not_true_eq_false, not_false_eq_true, forall_const, false_implies, true_implies, implies_true, ne_eq, reduceCtorEq, List.all_cons, List.all_nil, Bool.and_true, Bool.and_self, decide_eq_true_eq, decide_true, dX6_keepDraft_0, dX6_keepDraft_1, dX6_keepDraft_2, dX6_keepDraft_3, dX6_keepDraft_5, dX6_keepDraft_8, dX6_keepDraft_9, dX6_keepDraft_12, dX6_keepDraft_13, dX6_keepDraft_14, dX6_keepDraft_17, dX6_keepDraft_18, dX6_keepDraft_19, dX6_keepDraft_20, dX6_keepDraft_23, dX6_keepDraft_26, dX6_keepDraft_27, dX6_keepDraft_30, dX6_keepDraft_31, dX6_keepDraft_32, dX6_keepDraft_33, dX6_keepDraft_34, dX6_keepDraft_37, dX6_keepDraft_38, dX6_keepDraft_39, dX6_keepDraft_40, FX6_7, FX6_20, FX6_16, kd_66, kd_67, kd_68, kd_69, kd_70, kd_71, kd_72, kd_73, kd_74, kd_75, kd_76, kd_77, kd_78, ln_66, ln_67, ln_68, ln_69, ln_70, ln_71, ln_72, ln_73, ln_74, ln_75, ln_76, ln_77, ln_78]
    repeat' (first | exact trivial | omega | (with_reducible assumption) | exact absurd trivial (by with_reducible assumption) | contradiction | apply And.intro | intro _)
    rw [show n = 60 by omega]
    exact hK
  | succ m ih =>
    intro n hn
    apply hV [2] 40
    simp only [InR, InL, inb, Int.toNat_natCast, wp1, wpc_z, wpc_s, stp_iconst, stp_bipush, stp_sipush, stp_lconst, stp_iload_n, stp_iload, stp_lload_n, stp_lload, stp_aload_n, stp_aload, stp_istore_n, stp_istore, stp_lstore_n, stp_lstore, stp_astore_n, stp_astore, stp_iinc, stp_iadd, stp_isub, stp_imul, stp_ineg, stp_idiv, stp_irem, stp_ladd, stp_lmul, stp_ldiv, stp_lrem, stp_ishl, stp_ishr, stp_iushr, stp_iand, stp_ior, stp_i2l, stp_i2b, stp_i2s, stp_lcmp, stp_dup, stp_dup2, stp_pop, stp_ifCond, stp_if_icmp, stp_goto, stp_tableswitch, stp_lookupswitch, stp_ldc, stp_ldc_w, stp_ldc2_w, stp_getstatic, stp_getfield, stp_putfield, stp_iaload, stp_baload, stp_iastore, stp_bastore, stp_aaload, stp_aastore, stp_invokevirtual, stp_invokestatic, stp_ireturn, stp_lreturn, stp_return_, lg, lset, okl, spl, wd, c1, cnd, tg, swT, swL, f4_0, f4_1, f4_2, f4_3, f2_0, f2_1, List.mem_cons, List.not_mem_nil, List.length_cons, List.length_nil, List.cons_append, List.nil_append, Nat.reduceAdd, Nat.reduceMul, Nat.reduceLT, Nat.reduceEqDiff, Nat.reduceLeDiff, Int.reduceAdd, Int.reduceNeg, Int.reduceToNat, Int.cast_ofNat_Int, Int.reduceNatCast, Int.toNat_zero, Int.toNat_one, Int.reduceLE, Int.reduceLT, Int.reduceEq, Int.zero_add, Int.add_zero, or_false, false_or, or_true, true_or, and_true, true_and, and_false, false_and, reduceIte, not_true_eq_false, not_false_eq_true, forall_const, false_implies, true_implies, implies_true, ne_eq, reduceCtorEq, List.all_cons, List.all_nil, Bool.and_true, Bool.and_self, decide_eq_true_eq, decide_true, dX6_keepDraft_0, dX6_keepDraft_1, dX6_keepDraft_2, dX6_keepDraft_3, dX6_keepDraft_5, dX6_keepDraft_8, dX6_keepDraft_9, dX6_keepDraft_12, dX6_keepDraft_13, dX6_keepDraft_14, dX6_keepDraft_17, dX6_keepDraft_18, dX6_keepDraft_19, dX6_keepDraft_20, dX6_keepDraft_23, dX6_keepDraft_26, dX6_keepDraft_27, dX6_keepDraft_30, dX6_keepDraft_31, dX6_keepDraft_32, dX6_keepDraft_33, dX6_keepDraft_34, dX6_keepDraft_37, dX6_keepDraft_38, dX6_keepDraft_39, dX6_keepDraft_40, FX6_7, FX6_20, FX6_16, kd_66, kd_67, kd_68, kd_69, kd_70, kd_71, kd_72, kd_73, kd_74, kd_75, kd_76, kd_77, kd_78, ln_66, ln_67, ln_68, ln_69, ln_70, ln_71, ln_72, ln_73, ln_74, ln_75, ln_76, ln_77, ln_78]
    repeat' (first | exact trivial | omega | (with_reducible assumption) | exact absurd trivial (by with_reducible assumption) | contradiction | apply And.intro | intro _)
    have h := ih (n + 1) (by omega)
    rw [← wI_wB (v := rI (wB μ 67 n (rI μ 70)) 70 n) μ 67 n (rI μ 70) (by rw [rI_wB]; simp)] at h
    exact h
def T6_keepDraft : TT := fun a μ K => match a with
  | [.inr (.inr o)] => o = 66 ∧ (K [] (wI (wI (wB μ 67 60 (rI μ 70)) 69 0 0) 69 1 0))
  | _ => False
theorem rec_X6_keepDraft : ∀ a μ K, T6_keepDraft a μ K → ∃ k r, a = .inr (.inr k) :: r ∧ kd k = 6 := by
  intro a μ K h
  unfold T6_keepDraft at h
  split at h
  · exact ⟨_, _, rfl, by rw [h.1]; rfl⟩
  · exact h.elim
theorem gk_X6_keepDraft (l : Launch) : ∀ i n b T, G_X6_keepDraft i = some (n, b, T) → CallOK l 0 RX6 i n b T := by
  intro i n b T h
  have hm : (i, n, b, T) ∈ GL_X6_keepDraft := lk_mem h
  simp [GL_X6_keepDraft] at hm
set_option maxRecDepth 20000 in
set_option maxHeartbeats 4000000 in
theorem body_X6_keepDraft (o : Nat) (μ : Mem) (K : List AV → Mem → Prop) (V : Nat → List (Option AV) → List AV → Mem → Prop) (hV : Clos FX6 CX6 G_X6_keepDraft 0 K cX6_keepDraft V) (hT : o = 66 ∧ (K [] (wI (wI (wB μ 67 60 (rI μ 70)) 69 0 0) 69 1 0))) : V 0 [some (.inr (.inr o)), none] [] μ := by
  obtain ⟨rfl, hK⟩ := hT
  apply hV [2] 40
  simp only [InR, InL, inb, Int.toNat_natCast, wp1, wpc_z, wpc_s, stp_iconst, stp_bipush, stp_sipush, stp_lconst, stp_iload_n, stp_iload, stp_lload_n, stp_lload, stp_aload_n, stp_aload, stp_istore_n, stp_istore, stp_lstore_n, stp_lstore, stp_astore_n, stp_astore, stp_iinc, stp_iadd, stp_isub, stp_imul, stp_ineg, stp_idiv, stp_irem, stp_ladd, stp_lmul, stp_ldiv, stp_lrem, stp_ishl, stp_ishr, stp_iushr, stp_iand, stp_ior, stp_i2l, stp_i2b, stp_i2s, stp_lcmp, stp_dup, stp_dup2, stp_pop, stp_ifCond, stp_if_icmp, stp_goto, stp_tableswitch, stp_lookupswitch, stp_ldc, stp_ldc_w, stp_ldc2_w, stp_getstatic, stp_getfield, stp_putfield, stp_iaload, stp_baload, stp_iastore, stp_bastore, stp_aaload, stp_aastore, stp_invokevirtual, stp_invokestatic, stp_ireturn, stp_lreturn, stp_return_, lg, lset, okl, spl, wd, c1, cnd, tg, swT, swL, f4_0, f4_1, f4_2, f4_3, f2_0, f2_1, List.mem_cons, List.not_mem_nil, List.length_cons, List.length_nil, List.cons_append, List.nil_append, Nat.reduceAdd, Nat.reduceMul, Nat.reduceLT, Nat.reduceEqDiff, Nat.reduceLeDiff, Int.reduceAdd, Int.reduceNeg, Int.reduceToNat, Int.cast_ofNat_Int, Int.reduceNatCast, Int.toNat_zero, Int.toNat_one, Int.reduceLE, Int.reduceLT, Int.reduceEq, Int.zero_add, Int.add_zero, or_false, false_or, or_true, true_or, and_true, true_and, and_false, false_and, reduceIte, not_true_eq_false, not_false_eq_true, forall_const, false_implies, true_implies, implies_true, ne_eq, reduceCtorEq, List.all_cons, List.all_nil, Bool.and_true, Bool.and_self, decide_eq_true_eq, decide_true, dX6_keepDraft_0, dX6_keepDraft_1, dX6_keepDraft_2, dX6_keepDraft_3, dX6_keepDraft_5, dX6_keepDraft_8, dX6_keepDraft_9, dX6_keepDraft_12, dX6_keepDraft_13, dX6_keepDraft_14, dX6_keepDraft_17, dX6_keepDraft_18, dX6_keepDraft_19, dX6_keepDraft_20, dX6_keepDraft_23, dX6_keepDraft_26, dX6_keepDraft_27, dX6_keepDraft_30, dX6_keepDraft_31, dX6_keepDraft_32, dX6_keepDraft_33, dX6_keepDraft_34, dX6_keepDraft_37, dX6_keepDraft_38, dX6_keepDraft_39, dX6_keepDraft_40, FX6_7, FX6_20, FX6_16, kd_66, kd_67, kd_68, kd_69, kd_70, kd_71, kd_72, kd_73, kd_74, kd_75, kd_76, kd_77, kd_78, ln_66, ln_67, ln_68, ln_69, ln_70, ln_71, ln_72, ln_73, ln_74, ln_75, ln_76, ln_77, ln_78]
  have h := lp_keepDraft V K hV μ hK 60 0 (by omega)
  rw [wB_0] at h
  exact h
theorem good_X6_keepDraft (l : Launch) : Good l 0 yX6_keepDraft cX6_keepDraft 2 none T6_keepDraft := by
  refine Good.mk 0 (by decide) rfl (by simp [retOK]) FOK6 COK6 (gk_X6_keepDraft l) ?_ ?_
  · intro a μ K h
    unfold T6_keepDraft at h
    split at h
    · simp [entl]
    · exact h.elim
  · intro a μ K V hV h
    unfold T6_keepDraft at h
    split at h
    · exact body_X6_keepDraft _ μ K V hV h
    · exact h.elim

def GL_X6_copies : List (Nat × Nat × Bool × TT) := []
def G_X6_copies : Nat → Option (Nat × Bool × TT) := fun i => GL_X6_copies.lookup i

set_option maxRecDepth 20000 in
set_option maxHeartbeats 4000000 in
theorem lp_copies (V : Nat → List (Option AV) → List AV → Mem → Prop) (K : List AV → Mem → Prop) (hV : Clos FX6 CX6 G_X6_copies 0 K cX6_copies V) (μ : Mem) (t s : Nat) (ht : t ≤ 120) (hs : s ≤ 120) (hd : t + 60 ≤ s ∨ s + 60 ≤ t) (hK : K [] (wC μ 67 s 67 t 60)) : ∀ m n : Nat, n + m = 60 → V 2 [some (.inr (.inr 66)), some (.inl (t : Int)), some (.inl (s : Int)), some (.inl (n : Int))] [] (wC μ 67 s 67 t n) := by
  intro m
  induction m with
  | zero =>
    intro n hn
    apply hV [2] 40
    simp only [InR, InL, inb, Int.toNat_natCast, wp1, wpc_z, wpc_s, stp_iconst, stp_bipush, stp_sipush, stp_lconst, stp_iload_n, stp_iload, stp_lload_n, stp_lload, stp_aload_n, stp_aload, stp_istore_n, stp_istore, stp_lstore_n, stp_lstore, stp_astore_n, stp_astore, stp_iinc, stp_iadd, stp_isub, stp_imul, stp_ineg, stp_idiv, stp_irem, stp_ladd, stp_lmul, stp_ldiv, stp_lrem, stp_ishl, stp_ishr, stp_iushr, stp_iand, stp_ior, stp_i2l, stp_i2b, stp_i2s, stp_lcmp, stp_dup, stp_dup2, stp_pop, stp_ifCond, stp_if_icmp, stp_goto, stp_tableswitch, stp_lookupswitch, stp_ldc, stp_ldc_w, stp_ldc2_w, stp_getstatic, stp_getfield, stp_putfield, stp_iaload, stp_baload, stp_iastore, stp_bastore, stp_aaload, stp_aastore, stp_invokevirtual, stp_invokestatic, stp_ireturn, stp_lreturn, stp_return_, lg, lset, okl, spl, wd, c1, cnd, tg, swT, swL, f4_0, f4_1, f4_2, f4_3, f2_0, f2_1, List.mem_cons, List.not_mem_nil, List.length_cons, List.length_nil, List.cons_append, List.nil_append, Nat.reduceAdd, Nat.reduceMul, Nat.reduceLT, Nat.reduceEqDiff, Nat.reduceLeDiff, Int.reduceAdd, Int.reduceNeg, Int.reduceToNat, Int.cast_ofNat_Int, Int.reduceNatCast, Int.toNat_zero, Int.toNat_one, Int.reduceLE, Int.reduceLT, Int.reduceEq, Int.zero_add, Int.add_zero, or_false, false_or, or_true, true_or, and_true, true_and, and_false, false_and, reduceIte, not_true_eq_false, not_false_eq_true, forall_const, false_implies, true_implies, implies_true, ne_eq, reduceCtorEq, List.all_cons, List.all_nil, Bool.and_true, Bool.and_self, decide_eq_true_eq, decide_true, dX6_copies_0, dX6_copies_1, dX6_copies_2, dX6_copies_3, dX6_copies_5, dX6_copies_8, dX6_copies_9, dX6_copies_12, dX6_copies_13, dX6_copies_14, dX6_copies_15, dX6_copies_16, dX6_copies_19, dX6_copies_20, dX6_copies_21, dX6_copies_22, dX6_copies_23, dX6_copies_24, dX6_copies_27, dX6_copies_30, FX6_7, kd_66, kd_67, kd_68, kd_69, kd_70, kd_71, kd_72, kd_73, kd_74, kd_75, kd_76, kd_77, kd_78, ln_66, ln_67, ln_68, ln_69, ln_70, ln_71, ln_72, ln_73, ln_74, ln_75, ln_76, ln_77, ln_78]
    repeat' (first | exact trivial | omega | (with_reducible assumption) | exact absurd trivial (by with_reducible assumption) | contradiction | apply And.intro | intro _)
    rw [show n = 60 by omega]
    exact hK
  | succ m ih =>
    intro n hn
    apply hV [2] 40
    simp only [InR, InL, inb, Int.toNat_natCast, wp1, wpc_z, wpc_s, stp_iconst, stp_bipush, stp_sipush, stp_lconst, stp_iload_n, stp_iload, stp_lload_n, stp_lload, stp_aload_n, stp_aload, stp_istore_n, stp_istore, stp_lstore_n, stp_lstore, stp_astore_n, stp_astore, stp_iinc, stp_iadd, stp_isub, stp_imul, stp_ineg, stp_idiv, stp_irem, stp_ladd, stp_lmul, stp_ldiv, stp_lrem, stp_ishl, stp_ishr, stp_iushr, stp_iand, stp_ior, stp_i2l, stp_i2b, stp_i2s, stp_lcmp, stp_dup, stp_dup2, stp_pop, stp_ifCond, stp_if_icmp, stp_goto, stp_tableswitch, stp_lookupswitch, stp_ldc, stp_ldc_w, stp_ldc2_w, stp_getstatic, stp_getfield, stp_putfield, stp_iaload, stp_baload, stp_iastore, stp_bastore, stp_aaload, stp_aastore, stp_invokevirtual, stp_invokestatic, stp_ireturn, stp_lreturn, stp_return_, lg, lset, okl, spl, wd, c1, cnd, tg, swT, swL, f4_0, f4_1, f4_2, f4_3, f2_0, f2_1, List.mem_cons, List.not_mem_nil, List.length_cons, List.length_nil, List.cons_append, List.nil_append, Nat.reduceAdd, Nat.reduceMul, Nat.reduceLT, Nat.reduceEqDiff, Nat.reduceLeDiff, Int.reduceAdd, Int.reduceNeg, Int.reduceToNat, Int.cast_ofNat_Int, Int.reduceNatCast, Int.toNat_zero, Int.toNat_one, Int.reduceLE, Int.reduceLT, Int.reduceEq, Int.zero_add, Int.add_zero, or_false, false_or, or_true, true_or, and_true, true_and, and_false, false_and, reduceIte, not_true_eq_false, not_false_eq_true, forall_const, false_implies, true_implies, implies_true, ne_eq, reduceCtorEq, List.all_cons, List.all_nil, Bool.and_true, Bool.and_self, decide_eq_true_eq, decide_true, dX6_copies_0, dX6_copies_1, dX6_copies_2, dX6_copies_3, dX6_copies_5, dX6_copies_8, dX6_copies_9, dX6_copies_12, dX6_copies_13, dX6_copies_14, dX6_copies_15, dX6_copies_16, dX6_copies_19, dX6_copies_20, dX6_copies_21, dX6_copies_22, dX6_copies_23, dX6_copies_24, dX6_copies_27, dX6_copies_30, FX6_7, kd_66, kd_67, kd_68, kd_69, kd_70, kd_71, kd_72, kd_73, kd_74, kd_75, kd_76, kd_77, kd_78, ln_66, ln_67, ln_68, ln_69, ln_70, ln_71, ln_72, ln_73, ln_74, ln_75, ln_76, ln_77, ln_78]
    have e1 : ((t : Int) + (n : Int)).toNat = t + n := by omega
    have e2 : ((s : Int) + (n : Int)).toNat = s + n := by omega
    rw [e1, e2]
    repeat' (first | exact trivial | omega | (with_reducible assumption) | exact absurd trivial (by with_reducible assumption) | contradiction | apply And.intro | intro _)
    have h := ih (n + 1) (by omega)
    rw [← wI_wC (v := rI (wC μ 67 s 67 t n) 67 (s + n)) μ 67 s 67 t n (by rw [rI_wC, if_neg (by omega)])] at h
    exact h
def T6_copies : TT := fun a μ K => match a with
  | [.inr (.inr o), .inl t, .inl s] => o = 66 ∧ ((0 ≤ t ∧ t ≤ 120 ∧ 0 ≤ s ∧ s ≤ 120) ∧ (t + 60 ≤ s ∨ s + 60 ≤ t) ∧ K [] (wC μ 67 s.toNat 67 t.toNat 60))
  | _ => False
theorem rec_X6_copies : ∀ a μ K, T6_copies a μ K → ∃ k r, a = .inr (.inr k) :: r ∧ kd k = 6 := by
  intro a μ K h
  unfold T6_copies at h
  split at h
  · exact ⟨_, _, rfl, by rw [h.1]; rfl⟩
  · exact h.elim
theorem gk_X6_copies (l : Launch) : ∀ i n b T, G_X6_copies i = some (n, b, T) → CallOK l 0 RX6 i n b T := by
  intro i n b T h
  have hm : (i, n, b, T) ∈ GL_X6_copies := lk_mem h
  simp [GL_X6_copies] at hm
set_option maxRecDepth 20000 in
set_option maxHeartbeats 4000000 in
theorem body_X6_copies (o : Nat) (t : Int) (s : Int) (μ : Mem) (K : List AV → Mem → Prop) (V : Nat → List (Option AV) → List AV → Mem → Prop) (hV : Clos FX6 CX6 G_X6_copies 0 K cX6_copies V) (hT : o = 66 ∧ ((0 ≤ t ∧ t ≤ 120 ∧ 0 ≤ s ∧ s ≤ 120) ∧ (t + 60 ≤ s ∨ s + 60 ≤ t) ∧ K [] (wC μ 67 s.toNat 67 t.toNat 60))) : V 0 [some (.inr (.inr o)), some (.inl t), some (.inl s), none] [] μ := by
  obtain ⟨rfl, ⟨h1, h2, h3, h4⟩, h5, hK⟩ := hT
  obtain ⟨t', rfl⟩ := Int.eq_ofNat_of_zero_le h1
  obtain ⟨s', rfl⟩ := Int.eq_ofNat_of_zero_le h3
  apply hV [2] 40
  simp only [InR, InL, inb, Int.toNat_natCast, wp1, wpc_z, wpc_s, stp_iconst, stp_bipush, stp_sipush, stp_lconst, stp_iload_n, stp_iload, stp_lload_n, stp_lload, stp_aload_n, stp_aload, stp_istore_n, stp_istore, stp_lstore_n, stp_lstore, stp_astore_n, stp_astore, stp_iinc, stp_iadd, stp_isub, stp_imul, stp_ineg, stp_idiv, stp_irem, stp_ladd, stp_lmul, stp_ldiv, stp_lrem, stp_ishl, stp_ishr, stp_iushr, stp_iand, stp_ior, stp_i2l, stp_i2b, stp_i2s, stp_lcmp, stp_dup, stp_dup2, stp_pop, stp_ifCond, stp_if_icmp, stp_goto, stp_tableswitch, stp_lookupswitch, stp_ldc, stp_ldc_w, stp_ldc2_w, stp_getstatic, stp_getfield, stp_putfield, stp_iaload, stp_baload, stp_iastore, stp_bastore, stp_aaload, stp_aastore, stp_invokevirtual, stp_invokestatic, stp_ireturn, stp_lreturn, stp_return_, lg, lset, okl, spl, wd, c1, cnd, tg, swT, swL, f4_0, f4_1, f4_2, f4_3, f2_0, f2_1, List.mem_cons, List.not_mem_nil, List.length_cons, List.length_nil, List.cons_append, List.nil_append, Nat.reduceAdd, Nat.reduceMul, Nat.reduceLT, Nat.reduceEqDiff, Nat.reduceLeDiff, Int.reduceAdd, Int.reduceNeg, Int.reduceToNat, Int.cast_ofNat_Int, Int.reduceNatCast, Int.toNat_zero, Int.toNat_one, Int.reduceLE, Int.reduceLT, Int.reduceEq, Int.zero_add, Int.add_zero, or_false, false_or, or_true, true_or, and_true, true_and, and_false, false_and, reduceIte, not_true_eq_false, not_false_eq_true, forall_const, false_implies, true_implies, implies_true, ne_eq, reduceCtorEq, List.all_cons, List.all_nil, Bool.and_true, Bool.and_self, decide_eq_true_eq, decide_true, dX6_copies_0, dX6_copies_1, dX6_copies_2, dX6_copies_3, dX6_copies_5, dX6_copies_8, dX6_copies_9, dX6_copies_12, dX6_copies_13, dX6_copies_14, dX6_copies_15, dX6_copies_16, dX6_copies_19, dX6_copies_20, dX6_copies_21, dX6_copies_22, dX6_copies_23, dX6_copies_24, dX6_copies_27, dX6_copies_30, FX6_7, kd_66, kd_67, kd_68, kd_69, kd_70, kd_71, kd_72, kd_73, kd_74, kd_75, kd_76, kd_77, kd_78, ln_66, ln_67, ln_68, ln_69, ln_70, ln_71, ln_72, ln_73, ln_74, ln_75, ln_76, ln_77, ln_78]
  have h := lp_copies V K hV μ t' s' (by omega) (by omega) (by omega) hK 60 0 (by omega)
  rw [wC_0] at h
  exact h
theorem good_X6_copies (l : Launch) : Good l 0 yX6_copies cX6_copies 4 none T6_copies := by
  refine Good.mk 0 (by decide) rfl (by simp [retOK]) FOK6 COK6 (gk_X6_copies l) ?_ ?_
  · intro a μ K h
    unfold T6_copies at h
    split at h
    · simp [entl]
    · exact h.elim
  · intro a μ K V hV h
    unfold T6_copies at h
    split at h
    · exact body_X6_copies _ _ _ μ K V hV h
    · exact h.elim

/-- QUEUES, LINKS, GAINS summed -/
def sumF (f : Nat → Int) (w : Nat) : Nat → Int
  | 0 => 0
  | n + 1 => sumF f w n + f (7 * n + w)
def GL_X6_sumOf : List (Nat × Nat × Bool × TT) := [(145, 3, false, T6_of)]
def G_X6_sumOf : Nat → Option (Nat × Bool × TT) := fun i => GL_X6_sumOf.lookup i
theorem G_X6_sumOf_145 : G_X6_sumOf 145 = some (3, false, T6_of) := rfl

set_option maxRecDepth 20000 in
set_option maxHeartbeats 4000000 in
theorem lp_sumOf (V : Nat → List (Option AV) → List AV → Mem → Prop) (K : List AV → Mem → Prop) (hV : Clos FX6 CX6 G_X6_sumOf 1 K cX6_sumOf V) (μ : Mem) (w : Nat) (hw : w < 7) (hm : 0 ≤ rI μ 68 35 ∧ rI μ 68 35 ≤ 5) (hK : K [.inl (sumF (rI μ 68) w (rI μ 68 35).toNat)] μ) : ∀ m n : Nat, n + m = (rI μ 68 35).toNat → V 4 [some (.inr (.inr 66)), some (.inl (w : Int)), some (.inl (sumF (rI μ 68) w n)), some (.inl (n : Int))] [] μ := by
  intro m
  induction m with
  | zero =>
    intro n hn
    apply hV [4] 40
    simp only [InR, InL, inb, Int.toNat_natCast, wp1, wpc_z, wpc_s, stp_iconst, stp_bipush, stp_sipush, stp_lconst, stp_iload_n, stp_iload, stp_lload_n, stp_lload, stp_aload_n, stp_aload, stp_istore_n, stp_istore, stp_lstore_n, stp_lstore, stp_astore_n, stp_astore, stp_iinc, stp_iadd, stp_isub, stp_imul, stp_ineg, stp_idiv, stp_irem, stp_ladd, stp_lmul, stp_ldiv, stp_lrem, stp_ishl, stp_ishr, stp_iushr, stp_iand, stp_ior, stp_i2l, stp_i2b, stp_i2s, stp_lcmp, stp_dup, stp_dup2, stp_pop, stp_ifCond, stp_if_icmp, stp_goto, stp_tableswitch, stp_lookupswitch, stp_ldc, stp_ldc_w, stp_ldc2_w, stp_getstatic, stp_getfield, stp_putfield, stp_iaload, stp_baload, stp_iastore, stp_bastore, stp_aaload, stp_aastore, stp_invokevirtual, stp_invokestatic, stp_ireturn, stp_lreturn, stp_return_, lg, lset, okl, spl, wd, c1, cnd, tg, swT, swL, f4_0, f4_1, f4_2, f4_3, f2_0, f2_1, List.mem_cons, List.not_mem_nil, List.length_cons, List.length_nil, List.cons_append, List.nil_append, Nat.reduceAdd, Nat.reduceMul, Nat.reduceLT, Nat.reduceEqDiff, Nat.reduceLeDiff, Int.reduceAdd, Int.reduceNeg, Int.reduceToNat, Int.cast_ofNat_Int, Int.reduceNatCast, Int.toNat_zero, Int.toNat_one, Int.reduceLE, Int.reduceLT, Int.reduceEq, Int.zero_add, Int.add_zero, or_false, false_or, or_true, true_or, and_true, true_and, and_false, false_and, reduceIte, not_true_eq_false, not_false_eq_true, forall_const, false_implies, true_implies, implies_true, ne_eq, reduceCtorEq, List.all_cons, List.all_nil, Bool.and_true, Bool.and_self, decide_eq_true_eq, decide_true, dX6_sumOf_0, dX6_sumOf_1, dX6_sumOf_2, dX6_sumOf_3, dX6_sumOf_4, dX6_sumOf_5, dX6_sumOf_6, dX6_sumOf_9, dX6_sumOf_11, dX6_sumOf_12, dX6_sumOf_15, dX6_sumOf_16, dX6_sumOf_17, dX6_sumOf_18, dX6_sumOf_19, dX6_sumOf_22, dX6_sumOf_23, dX6_sumOf_24, dX6_sumOf_27, dX6_sumOf_30, dX6_sumOf_31, FX6_13, G_X6_sumOf_145, kd_66, kd_67, kd_68, kd_69, kd_70, kd_71, kd_72, kd_73, kd_74, kd_75, kd_76, kd_77, kd_78, ln_66, ln_67, ln_68, ln_69, ln_70, ln_71, ln_72, ln_73, ln_74, ln_75, ln_76, ln_77, ln_78, T6_of]
    repeat' (first | exact trivial | omega | (with_reducible assumption) | exact absurd trivial (by with_reducible assumption) | contradiction | apply And.intro | intro _)
    rw [show n = (rI μ 68 35).toNat by omega]
    exact hK
  | succ m ih =>
    intro n hn
    apply hV [4] 40
    simp only [InR, InL, inb, Int.toNat_natCast, wp1, wpc_z, wpc_s, stp_iconst, stp_bipush, stp_sipush, stp_lconst, stp_iload_n, stp_iload, stp_lload_n, stp_lload, stp_aload_n, stp_aload, stp_istore_n, stp_istore, stp_lstore_n, stp_lstore, stp_astore_n, stp_astore, stp_iinc, stp_iadd, stp_isub, stp_imul, stp_ineg, stp_idiv, stp_irem, stp_ladd, stp_lmul, stp_ldiv, stp_lrem, stp_ishl, stp_ishr, stp_iushr, stp_iand, stp_ior, stp_i2l, stp_i2b, stp_i2s, stp_lcmp, stp_dup, stp_dup2, stp_pop, stp_ifCond, stp_if_icmp, stp_goto, stp_tableswitch, stp_lookupswitch, stp_ldc, stp_ldc_w, stp_ldc2_w, stp_getstatic, stp_getfield, stp_putfield, stp_iaload, stp_baload, stp_iastore, stp_bastore, stp_aaload, stp_aastore, stp_invokevirtual, stp_invokestatic, stp_ireturn, stp_lreturn, stp_return_, lg, lset, okl, spl, wd, c1, cnd, tg, swT, swL, f4_0, f4_1, f4_2, f4_3, f2_0, f2_1, List.mem_cons, List.not_mem_nil, List.length_cons, List.length_nil, List.cons_append, List.nil_append, Nat.reduceAdd, Nat.reduceMul, Nat.reduceLT, Nat.reduceEqDiff, Nat.reduceLeDiff, Int.reduceAdd, Int.reduceNeg, Int.reduceToNat, Int.cast_ofNat_Int, Int.reduceNatCast, Int.toNat_zero, Int.toNat_one, Int.reduceLE, Int.reduceLT, Int.reduceEq, Int.zero_add, Int.add_zero, or_false, false_or, or_true, true_or, and_true, true_and, and_false, false_and, reduceIte, not_true_eq_false, not_false_eq_true, forall_const, false_implies, true_implies, implies_true, ne_eq, reduceCtorEq, List.all_cons, List.all_nil, Bool.and_true, Bool.and_self, decide_eq_true_eq, decide_true, dX6_sumOf_0, dX6_sumOf_1, dX6_sumOf_2, dX6_sumOf_3, dX6_sumOf_4, dX6_sumOf_5, dX6_sumOf_6, dX6_sumOf_9, dX6_sumOf_11, dX6_sumOf_12, dX6_sumOf_15, dX6_sumOf_16, dX6_sumOf_17, dX6_sumOf_18, dX6_sumOf_19, dX6_sumOf_22, dX6_sumOf_23, dX6_sumOf_24, dX6_sumOf_27, dX6_sumOf_30, dX6_sumOf_31, FX6_13, G_X6_sumOf_145, kd_66, kd_67, kd_68, kd_69, kd_70, kd_71, kd_72, kd_73, kd_74, kd_75, kd_76, kd_77, kd_78, ln_66, ln_67, ln_68, ln_69, ln_70, ln_71, ln_72, ln_73, ln_74, ln_75, ln_76, ln_77, ln_78, T6_of]
    have e1 : (7 * (n : Int) + (w : Int)).toNat = 7 * n + w := by omega
    rw [e1]
    repeat' (first | exact trivial | omega | (with_reducible assumption) | exact absurd trivial (by with_reducible assumption) | contradiction | apply And.intro | intro _)
    exact ih (n + 1) (by omega)
def T6_sumOf : TT := fun a μ K => match a with
  | [.inr (.inr o), .inl w] => o = 66 ∧ ((0 ≤ w ∧ w < 7) ∧ (0 ≤ rI μ 68 35 ∧ rI μ 68 35 ≤ 5) ∧ K [.inl (sumF (rI μ 68) w.toNat (rI μ 68 35).toNat)] μ)
  | _ => False
theorem rec_X6_sumOf : ∀ a μ K, T6_sumOf a μ K → ∃ k r, a = .inr (.inr k) :: r ∧ kd k = 6 := by
  intro a μ K h
  unfold T6_sumOf at h
  split at h
  · exact ⟨_, _, rfl, by rw [h.1]; rfl⟩
  · exact h.elim
theorem gk_X6_sumOf (l : Launch) : ∀ i n b T, G_X6_sumOf i = some (n, b, T) → CallOK l 1 RX6 i n b T := by
  intro i n b T h
  have hm : (i, n, b, T) ∈ GL_X6_sumOf := lk_mem h
  simp only [GL_X6_sumOf, List.mem_cons, List.not_mem_nil, or_false, Prod.mk.injEq] at hm
  rcases hm with ⟨rfl, rfl, rfl, rfl⟩
  · exact CallOK.V (d := 1) (own := RX6) (i := 145) (n := 2) (ci := 6) (good_X6_of l) (by decide) (by decide) rfl (by decide) rec_X6_of (mg 777 (by decide +kernel) (by decide +kernel)) (mg 779 (by decide +kernel) (by decide +kernel)) (mgs 35 (by decide +kernel) (by decide +kernel)) (mg 7 (by decide +kernel) (by decide +kernel)) (mg 780 (by decide +kernel) (by decide +kernel)) (by decide +kernel)
set_option maxRecDepth 20000 in
set_option maxHeartbeats 4000000 in
theorem body_X6_sumOf (o : Nat) (w : Int) (μ : Mem) (K : List AV → Mem → Prop) (V : Nat → List (Option AV) → List AV → Mem → Prop) (hV : Clos FX6 CX6 G_X6_sumOf 1 K cX6_sumOf V) (hT : o = 66 ∧ ((0 ≤ w ∧ w < 7) ∧ (0 ≤ rI μ 68 35 ∧ rI μ 68 35 ≤ 5) ∧ K [.inl (sumF (rI μ 68) w.toNat (rI μ 68 35).toNat)] μ)) : V 0 [some (.inr (.inr o)), some (.inl w), none, none] [] μ := by
  obtain ⟨rfl, ⟨h1, h2⟩, h3, hK⟩ := hT
  obtain ⟨w', rfl⟩ := Int.eq_ofNat_of_zero_le h1
  apply hV [4] 40
  simp only [InR, InL, inb, Int.toNat_natCast, wp1, wpc_z, wpc_s, stp_iconst, stp_bipush, stp_sipush, stp_lconst, stp_iload_n, stp_iload, stp_lload_n, stp_lload, stp_aload_n, stp_aload, stp_istore_n, stp_istore, stp_lstore_n, stp_lstore, stp_astore_n, stp_astore, stp_iinc, stp_iadd, stp_isub, stp_imul, stp_ineg, stp_idiv, stp_irem, stp_ladd, stp_lmul, stp_ldiv, stp_lrem, stp_ishl, stp_ishr, stp_iushr, stp_iand, stp_ior, stp_i2l, stp_i2b, stp_i2s, stp_lcmp, stp_dup, stp_dup2, stp_pop, stp_ifCond, stp_if_icmp, stp_goto, stp_tableswitch, stp_lookupswitch, stp_ldc, stp_ldc_w, stp_ldc2_w, stp_getstatic, stp_getfield, stp_putfield, stp_iaload, stp_baload, stp_iastore, stp_bastore, stp_aaload, stp_aastore, stp_invokevirtual, stp_invokestatic, stp_ireturn, stp_lreturn, stp_return_, lg, lset, okl, spl, wd, c1, cnd, tg, swT, swL, f4_0, f4_1, f4_2, f4_3, f2_0, f2_1, List.mem_cons, List.not_mem_nil, List.length_cons, List.length_nil, List.cons_append, List.nil_append, Nat.reduceAdd, Nat.reduceMul, Nat.reduceLT, Nat.reduceEqDiff, Nat.reduceLeDiff, Int.reduceAdd, Int.reduceNeg, Int.reduceToNat, Int.cast_ofNat_Int, Int.reduceNatCast, Int.toNat_zero, Int.toNat_one, Int.reduceLE, Int.reduceLT, Int.reduceEq, Int.zero_add, Int.add_zero, or_false, false_or, or_true, true_or, and_true, true_and, and_false, false_and, reduceIte, not_true_eq_false, not_false_eq_true, forall_const, false_implies, true_implies, implies_true, ne_eq, reduceCtorEq, List.all_cons, List.all_nil, Bool.and_true, Bool.and_self, decide_eq_true_eq, decide_true, dX6_sumOf_0, dX6_sumOf_1, dX6_sumOf_2, dX6_sumOf_3, dX6_sumOf_4, dX6_sumOf_5, dX6_sumOf_6, dX6_sumOf_9, dX6_sumOf_11, dX6_sumOf_12, dX6_sumOf_15, dX6_sumOf_16, dX6_sumOf_17, dX6_sumOf_18, dX6_sumOf_19, dX6_sumOf_22, dX6_sumOf_23, dX6_sumOf_24, dX6_sumOf_27, dX6_sumOf_30, dX6_sumOf_31, FX6_13, G_X6_sumOf_145, kd_66, kd_67, kd_68, kd_69, kd_70, kd_71, kd_72, kd_73, kd_74, kd_75, kd_76, kd_77, kd_78, ln_66, ln_67, ln_68, ln_69, ln_70, ln_71, ln_72, ln_73, ln_74, ln_75, ln_76, ln_77, ln_78]
  exact lp_sumOf V K hV μ w' (by omega) h3 hK (rI μ 68 35).toNat 0 (by omega)
theorem good_X6_sumOf (l : Launch) : Good l 1 yX6_sumOf cX6_sumOf 4 (some .int) T6_sumOf := by
  refine Good.mk 1 (by decide) rfl (by simp [retOK]) FOK6 COK6 (gk_X6_sumOf l) ?_ ?_
  · intro a μ K h
    unfold T6_sumOf at h
    split at h
    · simp [entl]
    · exact h.elim
  · intro a μ K V hV h
    unfold T6_sumOf at h
    split at h
    · exact body_X6_sumOf _ _ μ K V hV h
    · exact h.elim

def GL_X6_isOutdone : List (Nat × Nat × Bool × TT) := [(145, 3, false, T6_of)]
def G_X6_isOutdone : Nat → Option (Nat × Bool × TT) := fun i => GL_X6_isOutdone.lookup i
theorem G_X6_isOutdone_145 : G_X6_isOutdone 145 = some (3, false, T6_of) := rfl

set_option maxRecDepth 20000 in
set_option maxHeartbeats 4000000 in
theorem lp_isOutdone (V : Nat → List (Option AV) → List AV → Mem → Prop) (K : List AV → Mem → Prop) (hV : Clos FX6 CX6 G_X6_isOutdone 2 K cX6_isOutdone V) (μ : Mem) (i : Nat) (hi : i < 5) (hm : 0 ≤ rI μ 68 35 ∧ rI μ 68 35 ≤ 5) (hq : ∀ k : Nat, k < 5 → ((k : Int) < rI μ 68 35 ∨ k = i) → InR (rI μ 68 (7 * k + 1))) (hK : K [.inl (if outB (rI μ 68) (rI μ 68 (7 * i + 1)) (rI μ 68 35).toNat = true then 1 else 0)] μ) : ∀ m n : Nat, n + m = (rI μ 68 35).toNat → V 4 [some (.inr (.inr 66)), some (.inl (i : Int)), some (.inl (if outB (rI μ 68) (rI μ 68 (7 * i + 1)) n = true then 1 else 0)), some (.inl (n : Int))] [] μ := by
  intro m
  induction m with
  | zero =>
    intro n hn
    apply hV [4] 40
    simp only [InR, InL, inb, Int.toNat_natCast, wp1, wpc_z, wpc_s, stp_iconst, stp_bipush, stp_sipush, stp_lconst, stp_iload_n, stp_iload, stp_lload_n, stp_lload, stp_aload_n, stp_aload, stp_istore_n, stp_istore, stp_lstore_n, stp_lstore, stp_astore_n, stp_astore, stp_iinc, stp_iadd, stp_isub, stp_imul, stp_ineg, stp_idiv, stp_irem, stp_ladd, stp_lmul, stp_ldiv, stp_lrem, stp_ishl, stp_ishr, stp_iushr, stp_iand, stp_ior, stp_i2l, stp_i2b, stp_i2s, stp_lcmp, stp_dup, stp_dup2, stp_pop, stp_ifCond, stp_if_icmp, stp_goto, stp_tableswitch, stp_lookupswitch, stp_ldc, stp_ldc_w, stp_ldc2_w, stp_getstatic, stp_getfield, stp_putfield, stp_iaload, stp_baload, stp_iastore, stp_bastore, stp_aaload, stp_aastore, stp_invokevirtual, stp_invokestatic, stp_ireturn, stp_lreturn, stp_return_, lg, lset, okl, spl, wd, c1, cnd, tg, swT, swL, f4_0, f4_1, f4_2, f4_3, f2_0, f2_1, List.mem_cons, List.not_mem_nil, List.length_cons, List.length_nil, List.cons_append, List.nil_append, Nat.reduceAdd, Nat.reduceMul, Nat.reduceLT, Nat.reduceEqDiff, Nat.reduceLeDiff, Int.reduceAdd, Int.reduceNeg, Int.reduceToNat, Int.cast_ofNat_Int, Int.reduceNatCast, Int.toNat_zero, Int.toNat_one, Int.reduceLE, Int.reduceLT, Int.reduceEq, Int.zero_add, Int.add_zero, or_false, false_or, or_true, true_or, and_true, true_and, and_false, false_and, reduceIte, not_true_eq_false, not_false_eq_true, forall_const, false_implies, true_implies, implies_true, ne_eq, reduceCtorEq, List.all_cons, List.all_nil, Bool.and_true, Bool.and_self, decide_eq_true_eq, decide_true, dX6_isOutdone_0, dX6_isOutdone_1, dX6_isOutdone_2, dX6_isOutdone_3, dX6_isOutdone_4, dX6_isOutdone_5, dX6_isOutdone_6, dX6_isOutdone_9, dX6_isOutdone_11, dX6_isOutdone_12, dX6_isOutdone_15, dX6_isOutdone_16, dX6_isOutdone_19, dX6_isOutdone_20, dX6_isOutdone_21, dX6_isOutdone_22, dX6_isOutdone_25, dX6_isOutdone_26, dX6_isOutdone_27, dX6_isOutdone_28, dX6_isOutdone_31, dX6_isOutdone_34, dX6_isOutdone_35, dX6_isOutdone_38, dX6_isOutdone_39, dX6_isOutdone_40, dX6_isOutdone_43, dX6_isOutdone_46, dX6_isOutdone_47, FX6_13, G_X6_isOutdone_145, kd_66, kd_67, kd_68, kd_69, kd_70, kd_71, kd_72, kd_73, kd_74, kd_75, kd_76, kd_77, kd_78, ln_66, ln_67, ln_68, ln_69, ln_70, ln_71, ln_72, ln_73, ln_74, ln_75, ln_76, ln_77, ln_78, T6_of]
    repeat' (first | exact trivial | omega | (with_reducible assumption) | exact absurd trivial (by with_reducible assumption) | contradiction | apply And.intro | intro _)
    all_goals (rw [show n = (rI μ 68 35).toNat by omega]; exact hK)
  | succ m ih =>
    intro n hn
    apply hV [4] 40
    simp only [InR, InL, inb, Int.toNat_natCast, wp1, wpc_z, wpc_s, stp_iconst, stp_bipush, stp_sipush, stp_lconst, stp_iload_n, stp_iload, stp_lload_n, stp_lload, stp_aload_n, stp_aload, stp_istore_n, stp_istore, stp_lstore_n, stp_lstore, stp_astore_n, stp_astore, stp_iinc, stp_iadd, stp_isub, stp_imul, stp_ineg, stp_idiv, stp_irem, stp_ladd, stp_lmul, stp_ldiv, stp_lrem, stp_ishl, stp_ishr, stp_iushr, stp_iand, stp_ior, stp_i2l, stp_i2b, stp_i2s, stp_lcmp, stp_dup, stp_dup2, stp_pop, stp_ifCond, stp_if_icmp, stp_goto, stp_tableswitch, stp_lookupswitch, stp_ldc, stp_ldc_w, stp_ldc2_w, stp_getstatic, stp_getfield, stp_putfield, stp_iaload, stp_baload, stp_iastore, stp_bastore, stp_aaload, stp_aastore, stp_invokevirtual, stp_invokestatic, stp_ireturn, stp_lreturn, stp_return_, lg, lset, okl, spl, wd, c1, cnd, tg, swT, swL, f4_0, f4_1, f4_2, f4_3, f2_0, f2_1, List.mem_cons, List.not_mem_nil, List.length_cons, List.length_nil, List.cons_append, List.nil_append, Nat.reduceAdd, Nat.reduceMul, Nat.reduceLT, Nat.reduceEqDiff, Nat.reduceLeDiff, Int.reduceAdd, Int.reduceNeg, Int.reduceToNat, Int.cast_ofNat_Int, Int.reduceNatCast, Int.toNat_zero, Int.toNat_one, Int.reduceLE, Int.reduceLT, Int.reduceEq, Int.zero_add, Int.add_zero, or_false, false_or, or_true, true_or, and_true, true_and, and_false, false_and, reduceIte, not_true_eq_false, not_false_eq_true, forall_const, false_implies, true_implies, implies_true, ne_eq, reduceCtorEq, List.all_cons, List.all_nil, Bool.and_true, Bool.and_self, decide_eq_true_eq, decide_true, dX6_isOutdone_0, dX6_isOutdone_1, dX6_isOutdone_2, dX6_isOutdone_3, dX6_isOutdone_4, dX6_isOutdone_5, dX6_isOutdone_6, dX6_isOutdone_9, dX6_isOutdone_11, dX6_isOutdone_12, dX6_isOutdone_15, dX6_isOutdone_16, dX6_isOutdone_19, dX6_isOutdone_20, dX6_isOutdone_21, dX6_isOutdone_22, dX6_isOutdone_25, dX6_isOutdone_26, dX6_isOutdone_27, dX6_isOutdone_28, dX6_isOutdone_31, dX6_isOutdone_34, dX6_isOutdone_35, dX6_isOutdone_38, dX6_isOutdone_39, dX6_isOutdone_40, dX6_isOutdone_43, dX6_isOutdone_46, dX6_isOutdone_47, FX6_13, G_X6_isOutdone_145, kd_66, kd_67, kd_68, kd_69, kd_70, kd_71, kd_72, kd_73, kd_74, kd_75, kd_76, kd_77, kd_78, ln_66, ln_67, ln_68, ln_69, ln_70, ln_71, ln_72, ln_73, ln_74, ln_75, ln_76, ln_77, ln_78, T6_of]
    have e1 : (7 * (n : Int) + 1).toNat = 7 * n + 1 := by omega
    have e2 : (7 * (i : Int) + 1).toNat = 7 * i + 1 := by omega
    rw [e1, e2]
    have q1 := hq n (by omega) (by omega)
    have q2 := hq i hi (by omega)
    simp only [InR] at q1 q2
    have h := ih (n + 1) (by omega)
    rw [show ((n + 1 : Nat) : Int) = (n : Int) + 1 by omega] at h
    simp only [outB] at h
    by_cases e : outB (rI μ 68) (rI μ 68 (7 * i + 1)) n = true
    · simp only [e, Bool.true_or, if_true] at h ⊢
      repeat' (first | exact trivial | omega | (with_reducible assumption) | exact absurd trivial (by with_reducible assumption) | contradiction | apply And.intro | intro _)
    · simp only [e, Bool.false_or, Bool.false_eq_true, if_false, decide_eq_true_eq] at h ⊢
      by_cases e2 : rI μ 68 (7 * i + 1) < rI μ 68 (7 * n + 1)
      · rw [if_pos e2] at h
        repeat' (first | exact trivial | omega | (with_reducible assumption) | exact absurd trivial (by with_reducible assumption) | contradiction | apply And.intro | intro _)
      · rw [if_neg e2] at h
        repeat' (first | exact trivial | omega | (with_reducible assumption) | exact absurd trivial (by with_reducible assumption) | contradiction | apply And.intro | intro _)
def T6_isOutdone : TT := fun a μ K => match a with
  | [.inr (.inr o), .inl i] => o = 66 ∧ ((0 ≤ i ∧ i < 5) ∧ (0 ≤ rI μ 68 35 ∧ rI μ 68 35 ≤ 5) ∧ (∀ k : Nat, k < 5 → ((k : Int) < rI μ 68 35 ∨ k = i.toNat) → InR (rI μ 68 (7 * k + 1))) ∧ (outB (rI μ 68) (rI μ 68 (7 * i.toNat + 1)) (rI μ 68 35).toNat = true → K [.inl 1] μ) ∧ (¬ outB (rI μ 68) (rI μ 68 (7 * i.toNat + 1)) (rI μ 68 35).toNat = true → K [.inl 0] μ))
  | _ => False
theorem rec_X6_isOutdone : ∀ a μ K, T6_isOutdone a μ K → ∃ k r, a = .inr (.inr k) :: r ∧ kd k = 6 := by
  intro a μ K h
  unfold T6_isOutdone at h
  split at h
  · exact ⟨_, _, rfl, by rw [h.1]; rfl⟩
  · exact h.elim
theorem gk_X6_isOutdone (l : Launch) : ∀ i n b T, G_X6_isOutdone i = some (n, b, T) → CallOK l 1 RX6 i n b T := by
  intro i n b T h
  have hm : (i, n, b, T) ∈ GL_X6_isOutdone := lk_mem h
  simp only [GL_X6_isOutdone, List.mem_cons, List.not_mem_nil, or_false, Prod.mk.injEq] at hm
  rcases hm with ⟨rfl, rfl, rfl, rfl⟩
  · exact CallOK.V (d := 1) (own := RX6) (i := 145) (n := 2) (ci := 6) (good_X6_of l) (by decide) (by decide) rfl (by decide) rec_X6_of (mg 777 (by decide +kernel) (by decide +kernel)) (mg 779 (by decide +kernel) (by decide +kernel)) (mgs 35 (by decide +kernel) (by decide +kernel)) (mg 7 (by decide +kernel) (by decide +kernel)) (mg 780 (by decide +kernel) (by decide +kernel)) (by decide +kernel)
set_option maxRecDepth 20000 in
set_option maxHeartbeats 4000000 in
theorem body_X6_isOutdone (o : Nat) (i : Int) (μ : Mem) (K : List AV → Mem → Prop) (V : Nat → List (Option AV) → List AV → Mem → Prop) (hV : Clos FX6 CX6 G_X6_isOutdone 2 K cX6_isOutdone V) (hT : o = 66 ∧ ((0 ≤ i ∧ i < 5) ∧ (0 ≤ rI μ 68 35 ∧ rI μ 68 35 ≤ 5) ∧ (∀ k : Nat, k < 5 → ((k : Int) < rI μ 68 35 ∨ k = i.toNat) → InR (rI μ 68 (7 * k + 1))) ∧ (outB (rI μ 68) (rI μ 68 (7 * i.toNat + 1)) (rI μ 68 35).toNat = true → K [.inl 1] μ) ∧ (¬ outB (rI μ 68) (rI μ 68 (7 * i.toNat + 1)) (rI μ 68 35).toNat = true → K [.inl 0] μ))) : V 0 [some (.inr (.inr o)), some (.inl i), none, none] [] μ := by
  obtain ⟨rfl, ⟨h1, h2⟩, h3, h4, h5, h6⟩ := hT
  obtain ⟨i', rfl⟩ := Int.eq_ofNat_of_zero_le h1
  rw [Int.toNat_natCast] at h4 h5 h6
  apply hV [4] 40
  simp only [InR, InL, inb, Int.toNat_natCast, wp1, wpc_z, wpc_s, stp_iconst, stp_bipush, stp_sipush, stp_lconst, stp_iload_n, stp_iload, stp_lload_n, stp_lload, stp_aload_n, stp_aload, stp_istore_n, stp_istore, stp_lstore_n, stp_lstore, stp_astore_n, stp_astore, stp_iinc, stp_iadd, stp_isub, stp_imul, stp_ineg, stp_idiv, stp_irem, stp_ladd, stp_lmul, stp_ldiv, stp_lrem, stp_ishl, stp_ishr, stp_iushr, stp_iand, stp_ior, stp_i2l, stp_i2b, stp_i2s, stp_lcmp, stp_dup, stp_dup2, stp_pop, stp_ifCond, stp_if_icmp, stp_goto, stp_tableswitch, stp_lookupswitch, stp_ldc, stp_ldc_w, stp_ldc2_w, stp_getstatic, stp_getfield, stp_putfield, stp_iaload, stp_baload, stp_iastore, stp_bastore, stp_aaload, stp_aastore, stp_invokevirtual, stp_invokestatic, stp_ireturn, stp_lreturn, stp_return_, lg, lset, okl, spl, wd, c1, cnd, tg, swT, swL, f4_0, f4_1, f4_2, f4_3, f2_0, f2_1, List.mem_cons, List.not_mem_nil, List.length_cons, List.length_nil, List.cons_append, List.nil_append, Nat.reduceAdd, Nat.reduceMul, Nat.reduceLT, Nat.reduceEqDiff, Nat.reduceLeDiff, Int.reduceAdd, Int.reduceNeg, Int.reduceToNat, Int.cast_ofNat_Int, Int.reduceNatCast, Int.toNat_zero, Int.toNat_one, Int.reduceLE, Int.reduceLT, Int.reduceEq, Int.zero_add, Int.add_zero, or_false, false_or, or_true, true_or, and_true, true_and, and_false, false_and, reduceIte, not_true_eq_false, not_false_eq_true, forall_const, false_implies, true_implies, implies_true, ne_eq, reduceCtorEq, List.all_cons, List.all_nil, Bool.and_true, Bool.and_self, decide_eq_true_eq, decide_true, dX6_isOutdone_0, dX6_isOutdone_1, dX6_isOutdone_2, dX6_isOutdone_3, dX6_isOutdone_4, dX6_isOutdone_5, dX6_isOutdone_6, dX6_isOutdone_9, dX6_isOutdone_11, dX6_isOutdone_12, dX6_isOutdone_15, dX6_isOutdone_16, dX6_isOutdone_19, dX6_isOutdone_20, dX6_isOutdone_21, dX6_isOutdone_22, dX6_isOutdone_25, dX6_isOutdone_26, dX6_isOutdone_27, dX6_isOutdone_28, dX6_isOutdone_31, dX6_isOutdone_34, dX6_isOutdone_35, dX6_isOutdone_38, dX6_isOutdone_39, dX6_isOutdone_40, dX6_isOutdone_43, dX6_isOutdone_46, dX6_isOutdone_47, FX6_13, G_X6_isOutdone_145, kd_66, kd_67, kd_68, kd_69, kd_70, kd_71, kd_72, kd_73, kd_74, kd_75, kd_76, kd_77, kd_78, ln_66, ln_67, ln_68, ln_69, ln_70, ln_71, ln_72, ln_73, ln_74, ln_75, ln_76, ln_77, ln_78]
  refine lp_isOutdone V K hV μ i' (by omega) h3 h4 ?_ (rI μ 68 35).toNat 0 (by omega)
  split
  · rename_i h; exact h5 h
  · rename_i h; exact h6 h
theorem good_X6_isOutdone (l : Launch) : Good l 1 yX6_isOutdone cX6_isOutdone 4 (some .boolean) T6_isOutdone := by
  refine Good.mk 2 (by decide) rfl (by simp [retOK]) FOK6 COK6 (gk_X6_isOutdone l) ?_ ?_
  · intro a μ K h
    unfold T6_isOutdone at h
    split at h
    · simp [entl]
    · exact h.elim
  · intro a μ K V hV h
    unfold T6_isOutdone at h
    split at h
    · exact body_X6_isOutdone _ _ μ K V hV h
    · exact h.elim

