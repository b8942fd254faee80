/-! the reference's small methods -/
def T6_in : TT := fun a μ K => match a with
  | [.inr (.inl v), .inr (.inl lo), .inr (.inl hi)] => InL v ∧ InL lo ∧ InL hi ∧ (lo ≤ v ∧ v ≤ hi → K [.inl 1] μ) ∧ (¬ (lo ≤ v ∧ v ≤ hi) → K [.inl 0] μ)
  | _ => False
def GL_X6_in : List (Nat × Nat × Bool × TT) := []
def G_X6_in : Nat → Option (Nat × Bool × TT) := fun i => GL_X6_in.lookup i
theorem gk_X6_in (l : Launch) : ∀ i n b T, G_X6_in i = some (n, b, T) → CallOK l 0 RX6 i n b T := by
  intro i n b T h
  have hm : (i, n, b, T) ∈ GL_X6_in := lk_mem h
  simp [GL_X6_in] at hm
set_option maxRecDepth 20000 in
set_option maxHeartbeats 4000000 in
theorem body_X6_in (v : Int) (lo : Int) (hi : Int) (μ : Mem) (K : List AV → Mem → Prop) (V : Nat → List (Option AV) → List AV → Mem → Prop) (hV : Clos FX6 CX6 G_X6_in 2 K cX6_in V) (hT : InL v ∧ InL lo ∧ InL hi ∧ (lo ≤ v ∧ v ≤ hi → K [.inl 1] μ) ∧ (¬ (lo ≤ v ∧ v ≤ hi) → K [.inl 0] μ)) : V 0 [some (.inr (.inl v)), none, some (.inr (.inl lo)), none, some (.inr (.inl hi)), none] [] μ := by
  simp only [InL] at hT
  obtain ⟨h1, h2, h3, h4, h5⟩ := hT
  apply hV [] 60
  simp only [InR, InL, inb, Int.toNat_natCast, wp1, wpc_z, wpc_s, stp_iconst, stp_bipush, stp_sipush, stp_lconst, stp_iload_n, stp_iload, stp_lload_n, stp_lload, stp_aload_n, stp_aload, stp_istore_n, stp_istore, stp_lstore_n, stp_lstore, stp_astore_n, stp_astore, stp_iinc, stp_iadd, stp_isub, stp_imul, stp_ineg, stp_idiv, stp_irem, stp_ladd, stp_lmul, stp_ldiv, stp_lrem, stp_ishl, stp_ishr, stp_iushr, stp_iand, stp_ior, stp_i2l, stp_i2b, stp_i2s, stp_lcmp, stp_dup, stp_dup2, stp_pop, stp_ifCond, stp_if_icmp, stp_goto, stp_tableswitch, stp_lookupswitch, stp_ldc, stp_ldc_w, stp_ldc2_w, stp_getstatic, stp_getfield, stp_putfield, stp_iaload, stp_baload, stp_iastore, stp_bastore, stp_aaload, stp_aastore, stp_invokevirtual, stp_invokestatic, stp_ireturn, stp_lreturn, stp_return_, lg, lset, okl, spl, wd, c1, cnd, tg, swT, swL, f4_0, f4_1, f4_2, f4_3, f2_0, f2_1, List.mem_cons, List.not_mem_nil, List.length_cons, List.length_nil, List.cons_append, List.nil_append, Nat.reduceAdd, Nat.reduceMul, Nat.reduceLT, Nat.reduceEqDiff, Nat.reduceLeDiff, Int.reduceAdd, Int.reduceNeg, Int.reduceToNat, Int.cast_ofNat_Int, Int.reduceNatCast, Int.toNat_zero, Int.toNat_one, Int.reduceLE, Int.reduceLT, Int.reduceEq, Int.zero_add, Int.add_zero, or_false, false_or, or_true, true_or, and_true, true_and, and_false, false_and, reduceIte, not_true_eq_false, not_false_eq_true, forall_const, false_implies, true_implies, implies_true, ne_eq, reduceCtorEq, List.all_cons, List.all_nil, Bool.and_true, Bool.and_self, decide_eq_true_eq, decide_true, dX6_in_0, dX6_in_1, dX6_in_2, dX6_in_3, dX6_in_6, dX6_in_7, dX6_in_9, dX6_in_10, dX6_in_13, dX6_in_14, dX6_in_17, dX6_in_18]
  repeat' (first | exact trivial | omega | (with_reducible assumption) | exact absurd trivial (by with_reducible assumption) | contradiction | apply And.intro | intro _)
  all_goals first | exact h4 ⟨by omega, by omega⟩ | exact h5 (by omega)
theorem good_X6_in (l : Launch) : Good l 0 yX6_in cX6_in 6 (some .boolean) T6_in := by
  refine Good.mk 2 (by decide) rfl (by simp [retOK]) FOK6 COK6 (gk_X6_in l) ?_ ?_
  · intro a μ K h
    unfold T6_in at h
    split at h
    · simp [entl]
    · exact h.elim
  · intro a μ K V hV h
    unfold T6_in at h
    split at h
    · exact body_X6_in _ _ _ μ K V hV h
    · exact h.elim

def T6_flag : TT := fun a μ K => match a with
  | [.inl b] => (b = 0 ∨ b = 1) ∧ K [.inl b] μ
  | _ => False
def GL_X6_flag : List (Nat × Nat × Bool × TT) := []
def G_X6_flag : Nat → Option (Nat × Bool × TT) := fun i => GL_X6_flag.lookup i
theorem gk_X6_flag (l : Launch) : ∀ i n b T, G_X6_flag i = some (n, b, T) → CallOK l 0 RX6 i n b T := by
  intro i n b T h
  have hm : (i, n, b, T) ∈ GL_X6_flag := lk_mem h
  simp [GL_X6_flag] at hm
set_option maxRecDepth 20000 in
set_option maxHeartbeats 4000000 in
theorem body_X6_flag (b : Int) (μ : Mem) (K : List AV → Mem → Prop) (V : Nat → List (Option AV) → List AV → Mem → Prop) (hV : Clos FX6 CX6 G_X6_flag 1 K cX6_flag V) (hT : (b = 0 ∨ b = 1) ∧ K [.inl b] μ) : V 0 [some (.inl b)] [] μ := by
  obtain ⟨h1, h2⟩ := hT
  apply hV [] 60
  simp only [InR, InL, inb, Int.toNat_natCast, wp1, wpc_z, wpc_s, stp_iconst, stp_bipush, stp_sipush, stp_lconst, stp_iload_n, stp_iload, stp_lload_n, stp_lload, stp_aload_n, stp_aload, stp_istore_n, stp_istore, stp_lstore_n, stp_lstore, stp_astore_n, stp_astore, stp_iinc, stp_iadd, stp_isub, stp_imul, stp_ineg, stp_idiv, stp_irem, stp_ladd, stp_lmul, stp_ldiv, stp_lrem, stp_ishl, stp_ishr, stp_iushr, stp_iand, stp_ior, stp_i2l, stp_i2b, stp_i2s, stp_lcmp, stp_dup, stp_dup2, stp_pop, stp_ifCond, stp_if_icmp, stp_goto, stp_tableswitch, stp_lookupswitch, stp_ldc, stp_ldc_w, stp_ldc2_w, stp_getstatic, stp_getfield, stp_putfield, stp_iaload, stp_baload, stp_iastore, stp_bastore, stp_aaload, stp_aastore, stp_invokevirtual, stp_invokestatic, stp_ireturn, stp_lreturn, stp_return_, lg, lset, okl, spl, wd, c1, cnd, tg, swT, swL, f4_0, f4_1, f4_2, f4_3, f2_0, f2_1, List.mem_cons, List.not_mem_nil, List.length_cons, List.length_nil, List.cons_append, List.nil_append, Nat.reduceAdd, Nat.reduceMul, Nat.reduceLT, Nat.reduceEqDiff, Nat.reduceLeDiff, Int.reduceAdd, Int.reduceNeg, Int.reduceToNat, Int.cast_ofNat_Int, Int.reduceNatCast, Int.toNat_zero, Int.toNat_one, Int.reduceLE, Int.reduceLT, Int.reduceEq, Int.zero_add, Int.add_zero, or_false, false_or, or_true, true_or, and_true, true_and, and_false, false_and, reduceIte, not_true_eq_false, not_false_eq_true, forall_const, false_implies, true_implies, implies_true, ne_eq, reduceCtorEq, List.all_cons, List.all_nil, Bool.and_true, Bool.and_self, decide_eq_true_eq, decide_true, dX6_flag_0, dX6_flag_1, dX6_flag_4, dX6_flag_5, dX6_flag_8, dX6_flag_9]
  rcases h1 with rfl | rfl
  · repeat' (first | exact trivial | omega | (with_reducible assumption) | exact absurd trivial (by with_reducible assumption) | contradiction | apply And.intro | intro _)
    all_goals first | exact h2 | omega
  · repeat' (first | exact trivial | omega | (with_reducible assumption) | exact absurd trivial (by with_reducible assumption) | contradiction | apply And.intro | intro _)
    all_goals first | exact h2 | omega
theorem good_X6_flag (l : Launch) : Good l 0 yX6_flag cX6_flag 1 (some .int) T6_flag := by
  refine Good.mk 1 (by decide) rfl (by simp [retOK]) FOK6 COK6 (gk_X6_flag l) ?_ ?_
  · intro a μ K h
    unfold T6_flag at h
    split at h
    · simp [entl]
    · exact h.elim
  · intro a μ K V hV h
    unfold T6_flag at h
    split at h
    · exact body_X6_flag _ μ K V hV h
    · exact h.elim

def T6_lesser : TT := fun a μ K => match a with
  | [.inl a, .inl b] => InR a ∧ InR b ∧ K [.inl (min a b)] μ
  | _ => False
def GL_X6_lesser : List (Nat × Nat × Bool × TT) := []
def G_X6_lesser : Nat → Option (Nat × Bool × TT) := fun i => GL_X6_lesser.lookup i
theorem gk_X6_lesser (l : Launch) : ∀ i n b T, G_X6_lesser i = some (n, b, T) → CallOK l 0 RX6 i n b T := by
  intro i n b T h
  have hm : (i, n, b, T) ∈ GL_X6_lesser := lk_mem h
  simp [GL_X6_lesser] at hm
set_option maxRecDepth 20000 in
set_option maxHeartbeats 4000000 in
theorem body_X6_lesser (a : Int) (b : Int) (μ : Mem) (K : List AV → Mem → Prop) (V : Nat → List (Option AV) → List AV → Mem → Prop) (hV : Clos FX6 CX6 G_X6_lesser 1 K cX6_lesser V) (hT : InR a ∧ InR b ∧ K [.inl (min a b)] μ) : V 0 [some (.inl a), some (.inl b)] [] μ := by
  simp only [InR] at hT
  obtain ⟨h1, h2, h3⟩ := hT
  apply hV [] 60
  simp only [InR, InL, inb, Int.toNat_natCast, wp1, wpc_z, wpc_s, stp_iconst, stp_bipush, stp_sipush, stp_lconst, stp_iload_n, stp_iload, stp_lload_n, stp_lload, stp_aload_n, stp_aload, stp_istore_n, stp_istore, stp_lstore_n, stp_lstore, stp_astore_n, stp_astore, stp_iinc, stp_iadd, stp_isub, stp_imul, stp_ineg, stp_idiv, stp_irem, stp_ladd, stp_lmul, stp_ldiv, stp_lrem, stp_ishl, stp_ishr, stp_iushr, stp_iand, stp_ior, stp_i2l, stp_i2b, stp_i2s, stp_lcmp, stp_dup, stp_dup2, stp_pop, stp_ifCond, stp_if_icmp, stp_goto, stp_tableswitch, stp_lookupswitch, stp_ldc, stp_ldc_w, stp_ldc2_w, stp_getstatic, stp_getfield, stp_putfield, stp_iaload, stp_baload, stp_iastore, stp_bastore, stp_aaload, stp_aastore, stp_invokevirtual, stp_invokestatic, stp_ireturn, stp_lreturn, stp_return_, lg, lset, okl, spl, wd, c1, cnd, tg, swT, swL, f4_0, f4_1, f4_2, f4_3, f2_0, f2_1, List.mem_cons, List.not_mem_nil, List.length_cons, List.length_nil, List.cons_append, List.nil_append, Nat.reduceAdd, Nat.reduceMul, Nat.reduceLT, Nat.reduceEqDiff, Nat.reduceLeDiff, Int.reduceAdd, Int.reduceNeg, Int.reduceToNat, Int.cast_ofNat_Int, Int.reduceNatCast, Int.toNat_zero, Int.toNat_one, Int.reduceLE, Int.reduceLT, Int.reduceEq, Int.zero_add, Int.add_zero, or_false, false_or, or_true, true_or, and_true, true_and, and_false, false_and, reduceIte, not_true_eq_false, not_false_eq_true, forall_const, false_implies, true_implies, implies_true, ne_eq, reduceCtorEq, List.all_cons, List.all_nil, Bool.and_true, Bool.and_self, decide_eq_true_eq, decide_true, dX6_lesser_0, dX6_lesser_1, dX6_lesser_2, dX6_lesser_5, dX6_lesser_6, dX6_lesser_9, dX6_lesser_10]
  refine ⟨h1, h2, fun z => ?_, fun z => ?_⟩
  · rwa [show min a b = b by omega] at h3
  · rwa [show min a b = a by omega] at h3
theorem good_X6_lesser (l : Launch) : Good l 0 yX6_lesser cX6_lesser 2 (some .int) T6_lesser := by
  refine Good.mk 1 (by decide) rfl (by simp [retOK]) FOK6 COK6 (gk_X6_lesser l) ?_ ?_
  · intro a μ K h
    unfold T6_lesser at h
    split at h
    · simp [entl]
    · exact h.elim
  · intro a μ K V hV h
    unfold T6_lesser at h
    split at h
    · exact body_X6_lesser _ _ μ K V hV h
    · exact h.elim

def T6_of : TT := fun a μ K => match a with
  | [.inr (.inr o), .inl i, .inl w] => o = 66 ∧ ((0 ≤ 7 * i + w ∧ 7 * i + w < 60) ∧ K [.inl (rI μ 68 (7 * i + w).toNat)] μ)
  | _ => False
theorem rec_X6_of : ∀ a μ K, T6_of a μ K → ∃ k r, a = .inr (.inr k) :: r ∧ kd k = 6 := by
  intro a μ K h
  unfold T6_of at h
  split at h
  · exact ⟨_, _, rfl, by rw [h.1]; rfl⟩
  · exact h.elim
def GL_X6_of : List (Nat × Nat × Bool × TT) := []
def G_X6_of : Nat → Option (Nat × Bool × TT) := fun i => GL_X6_of.lookup i
theorem gk_X6_of (l : Launch) : ∀ i n b T, G_X6_of i = some (n, b, T) → CallOK l 0 RX6 i n b T := by
  intro i n b T h
  have hm : (i, n, b, T) ∈ GL_X6_of := lk_mem h
  simp [GL_X6_of] at hm
set_option maxRecDepth 20000 in
set_option maxHeartbeats 4000000 in
theorem body_X6_of (o : Nat) (i : Int) (w : Int) (μ : Mem) (K : List AV → Mem → Prop) (V : Nat → List (Option AV) → List AV → Mem → Prop) (hV : Clos FX6 CX6 G_X6_of 1 K cX6_of V) (hT : o = 66 ∧ ((0 ≤ 7 * i + w ∧ 7 * i + w < 60) ∧ K [.inl (rI μ 68 (7 * i + w).toNat)] μ)) : V 0 [some (.inr (.inr o)), some (.inl i), some (.inl w)] [] μ := by
  obtain ⟨rfl, h1, h2⟩ := hT
  apply hV [] 60
  simp only [InR, InL, inb, Int.toNat_natCast, wp1, wpc_z, wpc_s, stp_iconst, stp_bipush, stp_sipush, stp_lconst, stp_iload_n, stp_iload, stp_lload_n, stp_lload, stp_aload_n, stp_aload, stp_istore_n, stp_istore, stp_lstore_n, stp_lstore, stp_astore_n, stp_astore, stp_iinc, stp_iadd, stp_isub, stp_imul, stp_ineg, stp_idiv, stp_irem, stp_ladd, stp_lmul, stp_ldiv, stp_lrem, stp_ishl, stp_ishr, stp_iushr, stp_iand, stp_ior, stp_i2l, stp_i2b, stp_i2s, stp_lcmp, stp_dup, stp_dup2, stp_pop, stp_ifCond, stp_if_icmp, stp_goto, stp_tableswitch, stp_lookupswitch, stp_ldc, stp_ldc_w, stp_ldc2_w, stp_getstatic, stp_getfield, stp_putfield, stp_iaload, stp_baload, stp_iastore, stp_bastore, stp_aaload, stp_aastore, stp_invokevirtual, stp_invokestatic, stp_ireturn, stp_lreturn, stp_return_, lg, lset, okl, spl, wd, c1, cnd, tg, swT, swL, f4_0, f4_1, f4_2, f4_3, f2_0, f2_1, List.mem_cons, List.not_mem_nil, List.length_cons, List.length_nil, List.cons_append, List.nil_append, Nat.reduceAdd, Nat.reduceMul, Nat.reduceLT, Nat.reduceEqDiff, Nat.reduceLeDiff, Int.reduceAdd, Int.reduceNeg, Int.reduceToNat, Int.cast_ofNat_Int, Int.reduceNatCast, Int.toNat_zero, Int.toNat_one, Int.reduceLE, Int.reduceLT, Int.reduceEq, Int.zero_add, Int.add_zero, or_false, false_or, or_true, true_or, and_true, true_and, and_false, false_and, reduceIte, not_true_eq_false, not_false_eq_true, forall_const, false_implies, true_implies, implies_true, ne_eq, reduceCtorEq, List.all_cons, List.all_nil, Bool.and_true, Bool.and_self, decide_eq_true_eq, decide_true, dX6_of_0, dX6_of_1, dX6_of_4, dX6_of_6, dX6_of_7, dX6_of_8, dX6_of_9, dX6_of_10, dX6_of_11, FX6_13, kd_66, kd_67, kd_68, kd_69, kd_70, kd_71, kd_72, kd_73, kd_74, kd_75, kd_76, kd_77, kd_78, ln_66, ln_67, ln_68, ln_69, ln_70, ln_71, ln_72, ln_73, ln_74, ln_75, ln_76, ln_77, ln_78]
  repeat' (first | exact trivial | omega | (with_reducible assumption) | exact absurd trivial (by with_reducible assumption) | contradiction | apply And.intro | intro _)
theorem good_X6_of (l : Launch) : Good l 0 yX6_of cX6_of 3 (some .int) T6_of := by
  refine Good.mk 1 (by decide) rfl (by simp [retOK]) FOK6 COK6 (gk_X6_of l) ?_ ?_
  · intro a μ K h
    unfold T6_of at h
    split at h
    · simp [entl]
    · exact h.elim
  · intro a μ K V hV h
    unfold T6_of at h
    split at h
    · exact body_X6_of _ _ _ μ K V hV h
    · exact h.elim

def T6_becomesOf : TT := fun a μ K => match a with
  | [.inr (.inr o), .inl i, .inl w, .inl v] => o = 66 ∧ ((0 ≤ 7 * i + w ∧ 7 * i + w < 60) ∧ K [] (wI μ 68 (7 * i + w).toNat v))
  | _ => False
theorem rec_X6_becomesOf : ∀ a μ K, T6_becomesOf a μ K → ∃ k r, a = .inr (.inr k) :: r ∧ kd k = 6 := by
  intro a μ K h
  unfold T6_becomesOf at h
  split at h
  · exact ⟨_, _, rfl, by rw [h.1]; rfl⟩
  · exact h.elim
def GL_X6_becomesOf : List (Nat × Nat × Bool × TT) := []
def G_X6_becomesOf : Nat → Option (Nat × Bool × TT) := fun i => GL_X6_becomesOf.lookup i
theorem gk_X6_becomesOf (l : Launch) : ∀ i n b T, G_X6_becomesOf i = some (n, b, T) → CallOK l 0 RX6 i n b T := by
  intro i n b T h
  have hm : (i, n, b, T) ∈ GL_X6_becomesOf := lk_mem h
  simp [GL_X6_becomesOf] at hm
set_option maxRecDepth 20000 in
set_option maxHeartbeats 4000000 in
theorem body_X6_becomesOf (o : Nat) (i : Int) (w : Int) (v : Int) (μ : Mem) (K : List AV → Mem → Prop) (V : Nat → List (Option AV) → List AV → Mem → Prop) (hV : Clos FX6 CX6 G_X6_becomesOf 0 K cX6_becomesOf V) (hT : o = 66 ∧ ((0 ≤ 7 * i + w ∧ 7 * i + w < 60) ∧ K [] (wI μ 68 (7 * i + w).toNat v))) : V 0 [some (.inr (.inr o)), some (.inl i), some (.inl w), some (.inl v)] [] μ := by
  obtain ⟨rfl, h1, h2⟩ := hT
  apply hV [] 60
  simp only [InR, InL, inb, Int.toNat_natCast, wp1, wpc_z, wpc_s, stp_iconst, stp_bipush, stp_sipush, stp_lconst, stp_iload_n, stp_iload, stp_lload_n, stp_lload, stp_aload_n, stp_aload, stp_istore_n, stp_istore, stp_lstore_n, stp_lstore, stp_astore_n, stp_astore, stp_iinc, stp_iadd, stp_isub, stp_imul, stp_ineg, stp_idiv, stp_irem, stp_ladd, stp_lmul, stp_ldiv, stp_lrem, stp_ishl, stp_ishr, stp_iushr, stp_iand, stp_ior, stp_i2l, stp_i2b, stp_i2s, stp_lcmp, stp_dup, stp_dup2, stp_pop, stp_ifCond, stp_if_icmp, stp_goto, stp_tableswitch, stp_lookupswitch, stp_ldc, stp_ldc_w, stp_ldc2_w, stp_getstatic, stp_getfield, stp_putfield, stp_iaload, stp_baload, stp_iastore, stp_bastore, stp_aaload, stp_aastore, stp_invokevirtual, stp_invokestatic, stp_ireturn, stp_lreturn, stp_return_, lg, lset, okl, spl, wd, c1, cnd, tg, swT, swL, f4_0, f4_1, f4_2, f4_3, f2_0, f2_1, List.mem_cons, List.not_mem_nil, List.length_cons, List.length_nil, List.cons_append, List.nil_append, Nat.reduceAdd, Nat.reduceMul, Nat.reduceLT, Nat.reduceEqDiff, Nat.reduceLeDiff, Int.reduceAdd, Int.reduceNeg, Int.reduceToNat, Int.cast_ofNat_Int, Int.reduceNatCast, Int.toNat_zero, Int.toNat_one, Int.reduceLE, Int.reduceLT, Int.reduceEq, Int.zero_add, Int.add_zero, or_false, false_or, or_true, true_or, and_true, true_and, and_false, false_and, reduceIte, not_true_eq_false, not_false_eq_true, forall_const, false_implies, true_implies, implies_true, ne_eq, reduceCtorEq, List.all_cons, List.all_nil, Bool.and_true, Bool.and_self, decide_eq_true_eq, decide_true, dX6_becomesOf_0, dX6_becomesOf_1, dX6_becomesOf_4, dX6_becomesOf_6, dX6_becomesOf_7, dX6_becomesOf_8, dX6_becomesOf_9, dX6_becomesOf_10, dX6_becomesOf_11, dX6_becomesOf_12, FX6_13, kd_66, kd_67, kd_68, kd_69, kd_70, kd_71, kd_72, kd_73, kd_74, kd_75, kd_76, kd_77, kd_78, ln_66, ln_67, ln_68, ln_69, ln_70, ln_71, ln_72, ln_73, ln_74, ln_75, ln_76, ln_77, ln_78]
  repeat' (first | exact trivial | omega | (with_reducible assumption) | exact absurd trivial (by with_reducible assumption) | contradiction | apply And.intro | intro _)
theorem good_X6_becomesOf (l : Launch) : Good l 0 yX6_becomesOf cX6_becomesOf 4 none T6_becomesOf := by
  refine Good.mk 0 (by decide) rfl (by simp [retOK]) FOK6 COK6 (gk_X6_becomesOf l) ?_ ?_
  · intro a μ K h
    unfold T6_becomesOf at h
    split at h
    · simp [entl]
    · exact h.elim
  · intro a μ K V hV h
    unfold T6_becomesOf at h
    split at h
    · exact body_X6_becomesOf _ _ _ _ μ K V hV h
    · exact h.elim

def T6_becomes : TT := fun a μ K => match a with
  | [.inr (.inr o), .inl k, .inl v] => o = 66 ∧ ((0 ≤ k ∧ k < 180) ∧ K [.inl (rI μ 67 k.toNat)] (wI μ 67 k.toNat v))
  | _ => False
theorem rec_X6_becomes : ∀ a μ K, T6_becomes a μ K → ∃ k r, a = .inr (.inr k) :: r ∧ kd k = 6 := by
  intro a μ K h
  unfold T6_becomes at h
  split at h
  · exact ⟨_, _, rfl, by rw [h.1]; rfl⟩
  · exact h.elim
def GL_X6_becomes : List (Nat × Nat × Bool × TT) := []
def G_X6_becomes : Nat → Option (Nat × Bool × TT) := fun i => GL_X6_becomes.lookup i
theorem gk_X6_becomes (l : Launch) : ∀ i n b T, G_X6_becomes i = some (n, b, T) → CallOK l 0 RX6 i n b T := by
  intro i n b T h
  have hm : (i, n, b, T) ∈ GL_X6_becomes := lk_mem h
  simp [GL_X6_becomes] at hm
set_option maxRecDepth 20000 in
set_option maxHeartbeats 4000000 in
theorem body_X6_becomes (o : Nat) (k : Int) (v : Int) (μ : Mem) (K : List AV → Mem → Prop) (V : Nat → List (Option AV) → List AV → Mem → Prop) (hV : Clos FX6 CX6 G_X6_becomes 1 K cX6_becomes V) (hT : o = 66 ∧ ((0 ≤ k ∧ k < 180) ∧ K [.inl (rI μ 67 k.toNat)] (wI μ 67 k.toNat v))) : V 0 [some (.inr (.inr o)), some (.inl k), some (.inl v), none] [] μ := by
  obtain ⟨rfl, h1, h2⟩ := hT
  apply hV [] 60
  simp only [InR, InL, inb, Int.toNat_natCast, wp1, wpc_z, wpc_s, stp_iconst, stp_bipush, stp_sipush, stp_lconst, stp_iload_n, stp_iload, stp_lload_n, stp_lload, stp_aload_n, stp_aload, stp_istore_n, stp_istore, stp_lstore_n, stp_lstore, stp_astore_n, stp_astore, stp_iinc, stp_iadd, stp_isub, stp_imul, stp_ineg, stp_idiv, stp_irem, stp_ladd, stp_lmul, stp_ldiv, stp_lrem, stp_ishl, stp_ishr, stp_iushr, stp_iand, stp_ior, stp_i2l, stp_i2b, stp_i2s, stp_lcmp, stp_dup, stp_dup2, stp_pop, stp_ifCond, stp_if_icmp, stp_goto, stp_tableswitch, stp_lookupswitch, stp_ldc, stp_ldc_w, stp_ldc2_w, stp_getstatic, stp_getfield, stp_putfield, stp_iaload, stp_baload, stp_iastore, stp_bastore, stp_aaload, stp_aastore, stp_invokevirtual, stp_invokestatic, stp_ireturn, stp_lreturn, stp_return_, lg, lset, okl, spl, wd, c1, cnd, tg, swT, swL, f4_0, f4_1, f4_2, f4_3, f2_0, f2_1, List.mem_cons, List.not_mem_nil, List.length_cons, List.length_nil, List.cons_append, List.nil_append, Nat.reduceAdd, Nat.reduceMul, Nat.reduceLT, Nat.reduceEqDiff, Nat.reduceLeDiff, Int.reduceAdd, Int.reduceNeg, Int.reduceToNat, Int.cast_ofNat_Int, Int.reduceNatCast, Int.toNat_zero, Int.toNat_one, Int.reduceLE, Int.reduceLT, Int.reduceEq, Int.zero_add, Int.add_zero, or_false, false_or, or_true, true_or, and_true, true_and, and_false, false_and, reduceIte, not_true_eq_false, not_false_eq_true, forall_const, false_implies, true_implies, implies_true, ne_eq, reduceCtorEq, List.all_cons, List.all_nil, Bool.and_true, Bool.and_self, decide_eq_true_eq, decide_true, dX6_becomes_0, dX6_becomes_1, dX6_becomes_4, dX6_becomes_5, dX6_becomes_6, dX6_becomes_7, dX6_becomes_8, dX6_becomes_11, dX6_becomes_12, dX6_becomes_13, dX6_becomes_14, dX6_becomes_15, FX6_7, kd_66, kd_67, kd_68, kd_69, kd_70, kd_71, kd_72, kd_73, kd_74, kd_75, kd_76, kd_77, kd_78, ln_66, ln_67, ln_68, ln_69, ln_70, ln_71, ln_72, ln_73, ln_74, ln_75, ln_76, ln_77, ln_78]
  repeat' (first | exact trivial | omega | (with_reducible assumption) | exact absurd trivial (by with_reducible assumption) | contradiction | apply And.intro | intro _)
theorem good_X6_becomes (l : Launch) : Good l 0 yX6_becomes cX6_becomes 4 (some .int) T6_becomes := by
  refine Good.mk 1 (by decide) rfl (by simp [retOK]) FOK6 COK6 (gk_X6_becomes l) ?_ ?_
  · intro a μ K h
    unfold T6_becomes at h
    split at h
    · simp [entl]
    · exact h.elim
  · intro a μ K V hV h
    unfold T6_becomes at h
    split at h
    · exact body_X6_becomes _ _ _ μ K V hV h
    · exact h.elim

def T6_growsTo : TT := fun a μ K => match a with
  | [.inr (.inr o), .inl c, .inl b] => o = 66 ∧ ((0 ≤ c ∧ c < 60) ∧ InR (rI μ 68 c.toNat + b) ∧ K [] (wI μ 68 c.toNat (min 999999 (rI μ 68 c.toNat + b))))
  | _ => False
theorem rec_X6_growsTo : ∀ a μ K, T6_growsTo a μ K → ∃ k r, a = .inr (.inr k) :: r ∧ kd k = 6 := by
  intro a μ K h
  unfold T6_growsTo at h
  split at h
  · exact ⟨_, _, rfl, by rw [h.1]; rfl⟩
  · exact h.elim
def GL_X6_growsTo : List (Nat × Nat × Bool × TT) := [(142, 2, true, T6_lesser)]
def G_X6_growsTo : Nat → Option (Nat × Bool × TT) := fun i => GL_X6_growsTo.lookup i
theorem G_X6_growsTo_142 : G_X6_growsTo 142 = some (2, true, T6_lesser) := rfl
theorem gk_X6_growsTo (l : Launch) : ∀ i n b T, G_X6_growsTo i = some (n, b, T) → CallOK l 1 RX6 i n b T := by
  intro i n b T h
  have hm : (i, n, b, T) ∈ GL_X6_growsTo := lk_mem h
  simp only [GL_X6_growsTo, List.mem_cons, List.not_mem_nil, or_false, Prod.mk.injEq] at hm
  rcases hm with ⟨rfl, rfl, rfl, rfl⟩
  · exact CallOK.S (d := 1) (own := RX6) (i := 142) (n := 2) (good_X6_lesser l) (by decide) (by decide) (mg 785 (by decide +kernel) (by decide +kernel)) (mg 786 (by decide +kernel) (by decide +kernel)) (mg 7 (by decide +kernel) (by decide +kernel)) (mg 787 (by decide +kernel) (by decide +kernel)) (by decide +kernel)
set_option maxRecDepth 20000 in
set_option maxHeartbeats 4000000 in
theorem body_X6_growsTo (o : Nat) (c : Int) (b : Int) (μ : Mem) (K : List AV → Mem → Prop) (V : Nat → List (Option AV) → List AV → Mem → Prop) (hV : Clos FX6 CX6 G_X6_growsTo 0 K cX6_growsTo V) (hT : o = 66 ∧ ((0 ≤ c ∧ c < 60) ∧ InR (rI μ 68 c.toNat + b) ∧ K [] (wI μ 68 c.toNat (min 999999 (rI μ 68 c.toNat + b))))) : V 0 [some (.inr (.inr o)), some (.inl c), some (.inl b)] [] μ := by
  simp only [InR] at hT
  obtain ⟨rfl, h1, h2, h3⟩ := hT
  apply hV [] 60
  simp only [InR, InL, inb, Int.toNat_natCast, wp1, wpc_z, wpc_s, stp_iconst, stp_bipush, stp_sipush, stp_lconst, stp_iload_n, stp_iload, stp_lload_n, stp_lload, stp_aload_n, stp_aload, stp_istore_n, stp_istore, stp_lstore_n, stp_lstore, stp_astore_n, stp_astore, stp_iinc, stp_iadd, stp_isub, stp_imul, stp_ineg, stp_idiv, stp_irem, stp_ladd, stp_lmul, stp_ldiv, stp_lrem, stp_ishl, stp_ishr, stp_iushr, stp_iand, stp_ior, stp_i2l, stp_i2b, stp_i2s, stp_lcmp, stp_dup, stp_dup2, stp_pop, stp_ifCond, stp_if_icmp, stp_goto, stp_tableswitch, stp_lookupswitch, stp_ldc, stp_ldc_w, stp_ldc2_w, stp_getstatic, stp_getfield, stp_putfield, stp_iaload, stp_baload, stp_iastore, stp_bastore, stp_aaload, stp_aastore, stp_invokevirtual, stp_invokestatic, stp_ireturn, stp_lreturn, stp_return_, lg, lset, okl, spl, wd, c1, cnd, tg, swT, swL, f4_0, f4_1, f4_2, f4_3, f2_0, f2_1, List.mem_cons, List.not_mem_nil, List.length_cons, List.length_nil, List.cons_append, List.nil_append, Nat.reduceAdd, Nat.reduceMul, Nat.reduceLT, Nat.reduceEqDiff, Nat.reduceLeDiff, Int.reduceAdd, Int.reduceNeg, Int.reduceToNat, Int.cast_ofNat_Int, Int.reduceNatCast, Int.toNat_zero, Int.toNat_one, Int.reduceLE, Int.reduceLT, Int.reduceEq, Int.zero_add, Int.add_zero, or_false, false_or, or_true, true_or, and_true, true_and, and_false, false_and, reduceIte, not_true_eq_false, not_false_eq_true, forall_const, false_implies, true_implies, implies_true, ne_eq, reduceCtorEq, List.all_cons, List.all_nil, Bool.and_true, Bool.and_self, decide_eq_true_eq, decide_true, dX6_growsTo_0, dX6_growsTo_1, dX6_growsTo_4, dX6_growsTo_5, dX6_growsTo_7, dX6_growsTo_8, dX6_growsTo_11, dX6_growsTo_12, dX6_growsTo_13, dX6_growsTo_14, dX6_growsTo_15, dX6_growsTo_18, dX6_growsTo_19, FX6_13, CX6_141, G_X6_growsTo_142, kd_66, kd_67, kd_68, kd_69, kd_70, kd_71, kd_72, kd_73, kd_74, kd_75, kd_76, kd_77, kd_78, ln_66, ln_67, ln_68, ln_69, ln_70, ln_71, ln_72, ln_73, ln_74, ln_75, ln_76, ln_77, ln_78, T6_lesser]
  repeat' (first | exact trivial | omega | (with_reducible assumption) | exact absurd trivial (by with_reducible assumption) | contradiction | apply And.intro | intro _)
theorem good_X6_growsTo (l : Launch) : Good l 1 yX6_growsTo cX6_growsTo 3 none T6_growsTo := by
  refine Good.mk 0 (by decide) rfl (by simp [retOK]) FOK6 COK6 (gk_X6_growsTo l) ?_ ?_
  · intro a μ K h
    unfold T6_growsTo at h
    split at h
    · simp [entl]
    · exact h.elim
  · intro a μ K V hV h
    unfold T6_growsTo at h
    split at h
    · exact body_X6_growsTo _ _ _ μ K V hV h
    · exact h.elim

def T6_isStation : TT := fun a μ K => match a with
  | [.inr (.inr o), .inl i] => o = 66 ∧ (InR i ∧ (0 ≤ rI μ 67 35 ∧ rI μ 67 35 ≤ 5) ∧ (0 ≤ i ∧ i < rI μ 67 35 → K [.inl 1] μ) ∧ (¬ (0 ≤ i ∧ i < rI μ 67 35) → K [.inl 0] μ))
  | _ => False
theorem rec_X6_isStation : ∀ a μ K, T6_isStation a μ K → ∃ k r, a = .inr (.inr k) :: r ∧ kd k = 6 := by
  intro a μ K h
  unfold T6_isStation at h
  split at h
  · exact ⟨_, _, rfl, by rw [h.1]; rfl⟩
  · exact h.elim
def GL_X6_isStation : List (Nat × Nat × Bool × TT) := [(59, 3, true, T6_in)]
def G_X6_isStation : Nat → Option (Nat × Bool × TT) := fun i => GL_X6_isStation.lookup i
theorem G_X6_isStation_59 : G_X6_isStation 59 = some (3, true, T6_in) := rfl
theorem gk_X6_isStation (l : Launch) : ∀ i n b T, G_X6_isStation i = some (n, b, T) → CallOK l 1 RX6 i n b T := by
  intro i n b T h
  have hm : (i, n, b, T) ∈ GL_X6_isStation := lk_mem h
  simp only [GL_X6_isStation, List.mem_cons, List.not_mem_nil, or_false, Prod.mk.injEq] at hm
  rcases hm with ⟨rfl, rfl, rfl, rfl⟩
  · exact CallOK.S (d := 1) (own := RX6) (i := 59) (n := 3) (good_X6_in l) (by decide) (by decide) (mg 708 (by decide +kernel) (by decide +kernel)) (mg 709 (by decide +kernel) (by decide +kernel)) (mg 7 (by decide +kernel) (by decide +kernel)) (mg 710 (by decide +kernel) (by decide +kernel)) (by decide +kernel)
set_option maxRecDepth 20000 in
set_option maxHeartbeats 4000000 in
theorem body_X6_isStation (o : Nat) (i : Int) (μ : Mem) (K : List AV → Mem → Prop) (V : Nat → List (Option AV) → List AV → Mem → Prop) (hV : Clos FX6 CX6 G_X6_isStation 2 K cX6_isStation V) (hT : o = 66 ∧ (InR i ∧ (0 ≤ rI μ 67 35 ∧ rI μ 67 35 ≤ 5) ∧ (0 ≤ i ∧ i < rI μ 67 35 → K [.inl 1] μ) ∧ (¬ (0 ≤ i ∧ i < rI μ 67 35) → K [.inl 0] μ))) : V 0 [some (.inr (.inr o)), some (.inl i)] [] μ := by
  simp only [InR] at hT
  obtain ⟨rfl, h1, h2, h3, h4⟩ := hT
  apply hV [] 60
  simp only [InR, InL, inb, Int.toNat_natCast, wp1, wpc_z, wpc_s, stp_iconst, stp_bipush, stp_sipush, stp_lconst, stp_iload_n, stp_iload, stp_lload_n, stp_lload, stp_aload_n, stp_aload, stp_istore_n, stp_istore, stp_lstore_n, stp_lstore, stp_astore_n, stp_astore, stp_iinc, stp_iadd, stp_isub, stp_imul, stp_ineg, stp_idiv, stp_irem, stp_ladd, stp_lmul, stp_ldiv, stp_lrem, stp_ishl, stp_ishr, stp_iushr, stp_iand, stp_ior, stp_i2l, stp_i2b, stp_i2s, stp_lcmp, stp_dup, stp_dup2, stp_pop, stp_ifCond, stp_if_icmp, stp_goto, stp_tableswitch, stp_lookupswitch, stp_ldc, stp_ldc_w, stp_ldc2_w, stp_getstatic, stp_getfield, stp_putfield, stp_iaload, stp_baload, stp_iastore, stp_bastore, stp_aaload, stp_aastore, stp_invokevirtual, stp_invokestatic, stp_ireturn, stp_lreturn, stp_return_, lg, lset, okl, spl, wd, c1, cnd, tg, swT, swL, f4_0, f4_1, f4_2, f4_3, f2_0, f2_1, List.mem_cons, List.not_mem_nil, List.length_cons, List.length_nil, List.cons_append, List.nil_append, Nat.reduceAdd, Nat.reduceMul, Nat.reduceLT, Nat.reduceEqDiff, Nat.reduceLeDiff, Int.reduceAdd, Int.reduceNeg, Int.reduceToNat, Int.cast_ofNat_Int, Int.reduceNatCast, Int.toNat_zero, Int.toNat_one, Int.reduceLE, Int.reduceLT, Int.reduceEq, Int.zero_add, Int.add_zero, or_false, false_or, or_true, true_or, and_true, true_and, and_false, false_and, reduceIte, not_true_eq_false, not_false_eq_true, forall_const, false_implies, true_implies, implies_true, ne_eq, reduceCtorEq, List.all_cons, List.all_nil, Bool.and_true, Bool.and_self, decide_eq_true_eq, decide_true, dX6_isStation_0, dX6_isStation_1, dX6_isStation_2, dX6_isStation_3, dX6_isStation_4, dX6_isStation_7, dX6_isStation_9, dX6_isStation_10, dX6_isStation_11, dX6_isStation_12, dX6_isStation_13, dX6_isStation_16, FX6_7, G_X6_isStation_59, kd_66, kd_67, kd_68, kd_69, kd_70, kd_71, kd_72, kd_73, kd_74, kd_75, kd_76, kd_77, kd_78, ln_66, ln_67, ln_68, ln_69, ln_70, ln_71, ln_72, ln_73, ln_74, ln_75, ln_76, ln_77, ln_78, T6_in]
  repeat' (first | exact trivial | omega | (with_reducible assumption) | exact absurd trivial (by with_reducible assumption) | contradiction | apply And.intro | intro _)
  all_goals first | exact h3 ⟨by omega, by omega⟩ | exact h4 (by omega)
theorem good_X6_isStation (l : Launch) : Good l 1 yX6_isStation cX6_isStation 2 (some .boolean) T6_isStation := by
  refine Good.mk 2 (by decide) rfl (by simp [retOK]) FOK6 COK6 (gk_X6_isStation l) ?_ ?_
  · intro a μ K h
    unfold T6_isStation at h
    split at h
    · simp [entl]
    · exact h.elim
  · intro a μ K V hV h
    unfold T6_isStation at h
    split at h
    · exact body_X6_isStation _ _ μ K V hV h
    · exact h.elim

def T6_isPart : TT := fun a μ K => match a with
  | [.inl w] => InR w ∧ (w = 0 → K [.inl 1] μ) ∧ (w = 1 → K [.inl 1] μ) ∧ (¬ (w = 0 ∨ w = 1) → K [.inl 0] μ)
  | _ => False
def GL_X6_isPart : List (Nat × Nat × Bool × TT) := [(59, 3, true, T6_in)]
def G_X6_isPart : Nat → Option (Nat × Bool × TT) := fun i => GL_X6_isPart.lookup i
theorem G_X6_isPart_59 : G_X6_isPart 59 = some (3, true, T6_in) := rfl
theorem gk_X6_isPart (l : Launch) : ∀ i n b T, G_X6_isPart i = some (n, b, T) → CallOK l 1 RX6 i n b T := by
  intro i n b T h
  have hm : (i, n, b, T) ∈ GL_X6_isPart := lk_mem h
  simp only [GL_X6_isPart, List.mem_cons, List.not_mem_nil, or_false, Prod.mk.injEq] at hm
  rcases hm with ⟨rfl, rfl, rfl, rfl⟩
  · exact CallOK.S (d := 1) (own := RX6) (i := 59) (n := 3) (good_X6_in l) (by decide) (by decide) (mg 708 (by decide +kernel) (by decide +kernel)) (mg 709 (by decide +kernel) (by decide +kernel)) (mg 7 (by decide +kernel) (by decide +kernel)) (mg 710 (by decide +kernel) (by decide +kernel)) (by decide +kernel)
set_option maxRecDepth 20000 in
set_option maxHeartbeats 4000000 in
theorem body_X6_isPart (w : Int) (μ : Mem) (K : List AV → Mem → Prop) (V : Nat → List (Option AV) → List AV → Mem → Prop) (hV : Clos FX6 CX6 G_X6_isPart 2 K cX6_isPart V) (hT : InR w ∧ (w = 0 → K [.inl 1] μ) ∧ (w = 1 → K [.inl 1] μ) ∧ (¬ (w = 0 ∨ w = 1) → K [.inl 0] μ)) : V 0 [some (.inl w)] [] μ := by
  simp only [InR] at hT
  obtain ⟨h1, h3, h4, h5⟩ := hT
  apply hV [] 60
  simp only [InR, InL, inb, Int.toNat_natCast, wp1, wpc_z, wpc_s, stp_iconst, stp_bipush, stp_sipush, stp_lconst, stp_iload_n, stp_iload, stp_lload_n, stp_lload, stp_aload_n, stp_aload, stp_istore_n, stp_istore, stp_lstore_n, stp_lstore, stp_astore_n, stp_astore, stp_iinc, stp_iadd, stp_isub, stp_imul, stp_ineg, stp_idiv, stp_irem, stp_ladd, stp_lmul, stp_ldiv, stp_lrem, stp_ishl, stp_ishr, stp_iushr, stp_iand, stp_ior, stp_i2l, stp_i2b, stp_i2s, stp_lcmp, stp_dup, stp_dup2, stp_pop, stp_ifCond, stp_if_icmp, stp_goto, stp_tableswitch, stp_lookupswitch, stp_ldc, stp_ldc_w, stp_ldc2_w, stp_getstatic, stp_getfield, stp_putfield, stp_iaload, stp_baload, stp_iastore, stp_bastore, stp_aaload, stp_aastore, stp_invokevirtual, stp_invokestatic, stp_ireturn, stp_lreturn, stp_return_, lg, lset, okl, spl, wd, c1, cnd, tg, swT, swL, f4_0, f4_1, f4_2, f4_3, f2_0, f2_1, List.mem_cons, List.not_mem_nil, List.length_cons, List.length_nil, List.cons_append, List.nil_append, Nat.reduceAdd, Nat.reduceMul, Nat.reduceLT, Nat.reduceEqDiff, Nat.reduceLeDiff, Int.reduceAdd, Int.reduceNeg, Int.reduceToNat, Int.cast_ofNat_Int, Int.reduceNatCast, Int.toNat_zero, Int.toNat_one, Int.reduceLE, Int.reduceLT, Int.reduceEq, Int.zero_add, Int.add_zero, or_false, false_or, or_true, true_or, and_true, true_and, and_false, false_and, reduceIte, not_true_eq_false, not_false_eq_true, forall_const, false_implies, true_implies, implies_true, ne_eq, reduceCtorEq, List.all_cons, List.all_nil, Bool.and_true, Bool.and_self, decide_eq_true_eq, decide_true, dX6_isPart_0, dX6_isPart_1, dX6_isPart_2, dX6_isPart_3, dX6_isPart_4, dX6_isPart_7, G_X6_isPart_59, T6_in]
  repeat' (first | exact trivial | omega | (with_reducible assumption) | exact absurd trivial (by with_reducible assumption) | contradiction | apply And.intro | intro _)
  · rcases (show w = 0 ∨ w = 1 by omega) with z | z
    · exact h3 z
    · exact h4 z
  all_goals exact h5 (by omega)
theorem good_X6_isPart (l : Launch) : Good l 1 yX6_isPart cX6_isPart 1 (some .boolean) T6_isPart := by
  refine Good.mk 2 (by decide) rfl (by simp [retOK]) FOK6 COK6 (gk_X6_isPart l) ?_ ?_
  · intro a μ K h
    unfold T6_isPart at h
    split at h
    · simp [entl]
    · exact h.elim
  · intro a μ K V hV h
    unfold T6_isPart at h
    split at h
    · exact body_X6_isPart _ μ K V hV h
    · exact h.elim

def T6_isFar : TT := fun a μ K => match a with
  | [.inl n] => InR n ∧ (0 ≤ n ∧ n ≤ 200 → K [.inl 1] μ) ∧ (¬ (0 ≤ n ∧ n ≤ 200) → K [.inl 0] μ)
  | _ => False
def GL_X6_isFar : List (Nat × Nat × Bool × TT) := [(59, 3, true, T6_in)]
def G_X6_isFar : Nat → Option (Nat × Bool × TT) := fun i => GL_X6_isFar.lookup i
theorem G_X6_isFar_59 : G_X6_isFar 59 = some (3, true, T6_in) := rfl
theorem gk_X6_isFar (l : Launch) : ∀ i n b T, G_X6_isFar i = some (n, b, T) → CallOK l 1 RX6 i n b T := by
  intro i n b T h
  have hm : (i, n, b, T) ∈ GL_X6_isFar := lk_mem h
  simp only [GL_X6_isFar, List.mem_cons, List.not_mem_nil, or_false, Prod.mk.injEq] at hm
  rcases hm with ⟨rfl, rfl, rfl, rfl⟩
  · exact CallOK.S (d := 1) (own := RX6) (i := 59) (n := 3) (good_X6_in l) (by decide) (by decide) (mg 708 (by decide +kernel) (by decide +kernel)) (mg 709 (by decide +kernel) (by decide +kernel)) (mg 7 (by decide +kernel) (by decide +kernel)) (mg 710 (by decide +kernel) (by decide +kernel)) (by decide +kernel)
set_option maxRecDepth 20000 in
set_option maxHeartbeats 4000000 in
theorem body_X6_isFar (n : Int) (μ : Mem) (K : List AV → Mem → Prop) (V : Nat → List (Option AV) → List AV → Mem → Prop) (hV : Clos FX6 CX6 G_X6_isFar 2 K cX6_isFar V) (hT : InR n ∧ (0 ≤ n ∧ n ≤ 200 → K [.inl 1] μ) ∧ (¬ (0 ≤ n ∧ n ≤ 200) → K [.inl 0] μ)) : V 0 [some (.inl n)] [] μ := by
  simp only [InR] at hT
  obtain ⟨h1, h3, h4⟩ := hT
  apply hV [] 60
  simp only [InR, InL, inb, Int.toNat_natCast, wp1, wpc_z, wpc_s, stp_iconst, stp_bipush, stp_sipush, stp_lconst, stp_iload_n, stp_iload, stp_lload_n, stp_lload, stp_aload_n, stp_aload, stp_istore_n, stp_istore, stp_lstore_n, stp_lstore, stp_astore_n, stp_astore, stp_iinc, stp_iadd, stp_isub, stp_imul, stp_ineg, stp_idiv, stp_irem, stp_ladd, stp_lmul, stp_ldiv, stp_lrem, stp_ishl, stp_ishr, stp_iushr, stp_iand, stp_ior, stp_i2l, stp_i2b, stp_i2s, stp_lcmp, stp_dup, stp_dup2, stp_pop, stp_ifCond, stp_if_icmp, stp_goto, stp_tableswitch, stp_lookupswitch, stp_ldc, stp_ldc_w, stp_ldc2_w, stp_getstatic, stp_getfield, stp_putfield, stp_iaload, stp_baload, stp_iastore, stp_bastore, stp_aaload, stp_aastore, stp_invokevirtual, stp_invokestatic, stp_ireturn, stp_lreturn, stp_return_, lg, lset, okl, spl, wd, c1, cnd, tg, swT, swL, f4_0, f4_1, f4_2, f4_3, f2_0, f2_1, List.mem_cons, List.not_mem_nil, List.length_cons, List.length_nil, List.cons_append, List.nil_append, Nat.reduceAdd, Nat.reduceMul, Nat.reduceLT, Nat.reduceEqDiff, Nat.reduceLeDiff, Int.reduceAdd, Int.reduceNeg, Int.reduceToNat, Int.cast_ofNat_Int, Int.reduceNatCast, Int.toNat_zero, Int.toNat_one, Int.reduceLE, Int.reduceLT, Int.reduceEq, Int.zero_add, Int.add_zero, or_false, false_or, or_true, true_or, and_true, true_and, and_false, false_and, reduceIte, not_true_eq_false, not_false_eq_true, forall_const, false_implies, true_implies, implies_true, ne_eq, reduceCtorEq, List.all_cons, List.all_nil, Bool.and_true, Bool.and_self, decide_eq_true_eq, decide_true, dX6_isFar_0, dX6_isFar_1, dX6_isFar_2, dX6_isFar_3, dX6_isFar_6, dX6_isFar_9, CX6_203, G_X6_isFar_59, T6_in]
  repeat' (first | exact trivial | omega | (with_reducible assumption) | exact absurd trivial (by with_reducible assumption) | contradiction | apply And.intro | intro _)
  all_goals first | exact h3 ⟨by omega, by omega⟩ | exact h4 (by omega)
theorem good_X6_isFar (l : Launch) : Good l 1 yX6_isFar cX6_isFar 1 (some .boolean) T6_isFar := by
  refine Good.mk 2 (by decide) rfl (by simp [retOK]) FOK6 COK6 (gk_X6_isFar l) ?_ ?_
  · intro a μ K h
    unfold T6_isFar at h
    split at h
    · simp [entl]
    · exact h.elim
  · intro a μ K V hV h
    unfold T6_isFar at h
    split at h
    · exact body_X6_isFar _ μ K V hV h
    · exact h.elim

def T6_isSheet : TT := fun a μ K => match a with
  | [.inl k, .inl w] => InR k ∧ InR w ∧ ((0 ≤ k ∧ k ≤ 3) ∧ (0 ≤ w ∧ w ≤ 2) → K [.inl 1] μ) ∧ (¬ ((0 ≤ k ∧ k ≤ 3) ∧ (0 ≤ w ∧ w ≤ 2)) → K [.inl 0] μ)
  | _ => False
def GL_X6_isSheet : List (Nat × Nat × Bool × TT) := [(59, 3, true, T6_in)]
def G_X6_isSheet : Nat → Option (Nat × Bool × TT) := fun i => GL_X6_isSheet.lookup i
theorem G_X6_isSheet_59 : G_X6_isSheet 59 = some (3, true, T6_in) := rfl
theorem gk_X6_isSheet (l : Launch) : ∀ i n b T, G_X6_isSheet i = some (n, b, T) → CallOK l 1 RX6 i n b T := by
  intro i n b T h
  have hm : (i, n, b, T) ∈ GL_X6_isSheet := lk_mem h
  simp only [GL_X6_isSheet, List.mem_cons, List.not_mem_nil, or_false, Prod.mk.injEq] at hm
  rcases hm with ⟨rfl, rfl, rfl, rfl⟩
  · exact CallOK.S (d := 1) (own := RX6) (i := 59) (n := 3) (good_X6_in l) (by decide) (by decide) (mg 708 (by decide +kernel) (by decide +kernel)) (mg 709 (by decide +kernel) (by decide +kernel)) (mg 7 (by decide +kernel) (by decide +kernel)) (mg 710 (by decide +kernel) (by decide +kernel)) (by decide +kernel)
set_option maxRecDepth 20000 in
set_option maxHeartbeats 4000000 in
theorem body_X6_isSheet (k : Int) (w : Int) (μ : Mem) (K : List AV → Mem → Prop) (V : Nat → List (Option AV) → List AV → Mem → Prop) (hV : Clos FX6 CX6 G_X6_isSheet 2 K cX6_isSheet V) (hT : InR k ∧ InR w ∧ ((0 ≤ k ∧ k ≤ 3) ∧ (0 ≤ w ∧ w ≤ 2) → K [.inl 1] μ) ∧ (¬ ((0 ≤ k ∧ k ≤ 3) ∧ (0 ≤ w ∧ w ≤ 2)) → K [.inl 0] μ)) : V 0 [some (.inl k), some (.inl w)] [] μ := by
  simp only [InR] at hT
  obtain ⟨h1, h2, h3, h4⟩ := hT
  apply hV [] 60
  simp only [InR, InL, inb, Int.toNat_natCast, wp1, wpc_z, wpc_s, stp_iconst, stp_bipush, stp_sipush, stp_lconst, stp_iload_n, stp_iload, stp_lload_n, stp_lload, stp_aload_n, stp_aload, stp_istore_n, stp_istore, stp_lstore_n, stp_lstore, stp_astore_n, stp_astore, stp_iinc, stp_iadd, stp_isub, stp_imul, stp_ineg, stp_idiv, stp_irem, stp_ladd, stp_lmul, stp_ldiv, stp_lrem, stp_ishl, stp_ishr, stp_iushr, stp_iand, stp_ior, stp_i2l, stp_i2b, stp_i2s, stp_lcmp, stp_dup, stp_dup2, stp_pop, stp_ifCond, stp_if_icmp, stp_goto, stp_tableswitch, stp_lookupswitch, stp_ldc, stp_ldc_w, stp_ldc2_w, stp_getstatic, stp_getfield, stp_putfield, stp_iaload, stp_baload, stp_iastore, stp_bastore, stp_aaload, stp_aastore, stp_invokevirtual, stp_invokestatic, stp_ireturn, stp_lreturn, stp_return_, lg, lset, okl, spl, wd, c1, cnd, tg, swT, swL, f4_0, f4_1, f4_2, f4_3, f2_0, f2_1, List.mem_cons, List.not_mem_nil, List.length_cons, List.length_nil, List.cons_append, List.nil_append, Nat.reduceAdd, Nat.reduceMul, Nat.reduceLT, Nat.reduceEqDiff, Nat.reduceLeDiff, Int.reduceAdd, Int.reduceNeg, Int.reduceToNat, Int.cast_ofNat_Int, Int.reduceNatCast, Int.toNat_zero, Int.toNat_one, Int.reduceLE, Int.reduceLT, Int.reduceEq, Int.zero_add, Int.add_zero, or_false, false_or, or_true, true_or, and_true, true_and, and_false, false_and, reduceIte, not_true_eq_false, not_false_eq_true, forall_const, false_implies, true_implies, implies_true, ne_eq, reduceCtorEq, List.all_cons, List.all_nil, Bool.and_true, Bool.and_self, decide_eq_true_eq, decide_true, dX6_isSheet_0, dX6_isSheet_1, dX6_isSheet_2, dX6_isSheet_3, dX6_isSheet_6, dX6_isSheet_9, dX6_isSheet_12, dX6_isSheet_13, dX6_isSheet_14, dX6_isSheet_15, dX6_isSheet_18, dX6_isSheet_21, dX6_isSheet_24, dX6_isSheet_25, dX6_isSheet_28, dX6_isSheet_29, CX6_208, CX6_210, G_X6_isSheet_59, T6_in]
  repeat' (first | exact trivial | omega | (with_reducible assumption) | exact absurd trivial (by with_reducible assumption) | contradiction | apply And.intro | intro _)
  all_goals first | exact h3 ⟨⟨by omega, by omega⟩, ⟨by omega, by omega⟩⟩ | exact h4 (by omega)
theorem good_X6_isSheet (l : Launch) : Good l 1 yX6_isSheet cX6_isSheet 2 (some .boolean) T6_isSheet := by
  refine Good.mk 2 (by decide) rfl (by simp [retOK]) FOK6 COK6 (gk_X6_isSheet l) ?_ ?_
  · intro a μ K h
    unfold T6_isSheet at h
    split at h
    · simp [entl]
    · exact h.elim
  · intro a μ K V hV h
    unfold T6_isSheet at h
    split at h
    · exact body_X6_isSheet _ _ μ K V hV h
    · exact h.elim

def T6_lowOf : TT := fun a μ K => match a with
  | [.inl w] => InR w ∧ K [.inl (if w = 2 ∨ w = 4 then 1 else 0)] μ
  | _ => False
def GL_X6_lowOf : List (Nat × Nat × Bool × TT) := []
def G_X6_lowOf : Nat → Option (Nat × Bool × TT) := fun i => GL_X6_lowOf.lookup i
theorem gk_X6_lowOf (l : Launch) : ∀ i n b T, G_X6_lowOf i = some (n, b, T) → CallOK l 0 RX6 i n b T := by
  intro i n b T h
  have hm : (i, n, b, T) ∈ GL_X6_lowOf := lk_mem h
  simp [GL_X6_lowOf] at hm
set_option maxRecDepth 20000 in
set_option maxHeartbeats 4000000 in
theorem body_X6_lowOf (w : Int) (μ : Mem) (K : List AV → Mem → Prop) (V : Nat → List (Option AV) → List AV → Mem → Prop) (hV : Clos FX6 CX6 G_X6_lowOf 1 K cX6_lowOf V) (hT : InR w ∧ K [.inl (if w = 2 ∨ w = 4 then 1 else 0)] μ) : V 0 [some (.inl w)] [] μ := by
  simp only [InR] at hT
  obtain ⟨h1, h2⟩ := hT
  apply hV [] 60
  simp only [InR, InL, inb, Int.toNat_natCast, wp1, wpc_z, wpc_s, stp_iconst, stp_bipush, stp_sipush, stp_lconst, stp_iload_n, stp_iload, stp_lload_n, stp_lload, stp_aload_n, stp_aload, stp_istore_n, stp_istore, stp_lstore_n, stp_lstore, stp_astore_n, stp_astore, stp_iinc, stp_iadd, stp_isub, stp_imul, stp_ineg, stp_idiv, stp_irem, stp_ladd, stp_lmul, stp_ldiv, stp_lrem, stp_ishl, stp_ishr, stp_iushr, stp_iand, stp_ior, stp_i2l, stp_i2b, stp_i2s, stp_lcmp, stp_dup, stp_dup2, stp_pop, stp_ifCond, stp_if_icmp, stp_goto, stp_tableswitch, stp_lookupswitch, stp_ldc, stp_ldc_w, stp_ldc2_w, stp_getstatic, stp_getfield, stp_putfield, stp_iaload, stp_baload, stp_iastore, stp_bastore, stp_aaload, stp_aastore, stp_invokevirtual, stp_invokestatic, stp_ireturn, stp_lreturn, stp_return_, lg, lset, okl, spl, wd, c1, cnd, tg, swT, swL, f4_0, f4_1, f4_2, f4_3, f2_0, f2_1, List.mem_cons, List.not_mem_nil, List.length_cons, List.length_nil, List.cons_append, List.nil_append, Nat.reduceAdd, Nat.reduceMul, Nat.reduceLT, Nat.reduceEqDiff, Nat.reduceLeDiff, Int.reduceAdd, Int.reduceNeg, Int.reduceToNat, Int.cast_ofNat_Int, Int.reduceNatCast, Int.toNat_zero, Int.toNat_one, Int.reduceLE, Int.reduceLT, Int.reduceEq, Int.zero_add, Int.add_zero, or_false, false_or, or_true, true_or, and_true, true_and, and_false, false_and, reduceIte, not_true_eq_false, not_false_eq_true, forall_const, false_implies, true_implies, implies_true, ne_eq, reduceCtorEq, List.all_cons, List.all_nil, Bool.and_true, Bool.and_self, decide_eq_true_eq, decide_true, dX6_lowOf_0, dX6_lowOf_1, dX6_lowOf_2, dX6_lowOf_5, dX6_lowOf_6, dX6_lowOf_7, dX6_lowOf_10, dX6_lowOf_11, dX6_lowOf_14, dX6_lowOf_15]
  repeat' (first | exact trivial | omega | (with_reducible assumption) | exact absurd trivial (by with_reducible assumption) | contradiction | apply And.intro | intro _)
  all_goals first | (rw [if_pos (by omega)] at h2; exact h2) | (rw [if_neg (by omega)] at h2; exact h2)
theorem good_X6_lowOf (l : Launch) : Good l 0 yX6_lowOf cX6_lowOf 1 (some .int) T6_lowOf := by
  refine Good.mk 1 (by decide) rfl (by simp [retOK]) FOK6 COK6 (gk_X6_lowOf l) ?_ ?_
  · intro a μ K h
    unfold T6_lowOf at h
    split at h
    · simp [entl]
    · exact h.elim
  · intro a μ K V hV h
    unfold T6_lowOf at h
    split at h
    · exact body_X6_lowOf _ μ K V hV h
    · exact h.elim

def T6_mostOf : TT := fun a μ K => match a with
  | [.inl w] => InR w ∧ K [.inl (if w = 0 then 3 else if w = 1 then 99 else 9)] μ
  | _ => False
def GL_X6_mostOf : List (Nat × Nat × Bool × TT) := []
def G_X6_mostOf : Nat → Option (Nat × Bool × TT) := fun i => GL_X6_mostOf.lookup i
theorem gk_X6_mostOf (l : Launch) : ∀ i n b T, G_X6_mostOf i = some (n, b, T) → CallOK l 0 RX6 i n b T := by
  intro i n b T h
  have hm : (i, n, b, T) ∈ GL_X6_mostOf := lk_mem h
  simp [GL_X6_mostOf] at hm
set_option maxRecDepth 20000 in
set_option maxHeartbeats 4000000 in
theorem body_X6_mostOf (w : Int) (μ : Mem) (K : List AV → Mem → Prop) (V : Nat → List (Option AV) → List AV → Mem → Prop) (hV : Clos FX6 CX6 G_X6_mostOf 1 K cX6_mostOf V) (hT : InR w ∧ K [.inl (if w = 0 then 3 else if w = 1 then 99 else 9)] μ) : V 0 [some (.inl w)] [] μ := by
  simp only [InR] at hT
  obtain ⟨h1, h2⟩ := hT
  apply hV [] 60
  simp only [InR, InL, inb, Int.toNat_natCast, wp1, wpc_z, wpc_s, stp_iconst, stp_bipush, stp_sipush, stp_lconst, stp_iload_n, stp_iload, stp_lload_n, stp_lload, stp_aload_n, stp_aload, stp_istore_n, stp_istore, stp_lstore_n, stp_lstore, stp_astore_n, stp_astore, stp_iinc, stp_iadd, stp_isub, stp_imul, stp_ineg, stp_idiv, stp_irem, stp_ladd, stp_lmul, stp_ldiv, stp_lrem, stp_ishl, stp_ishr, stp_iushr, stp_iand, stp_ior, stp_i2l, stp_i2b, stp_i2s, stp_lcmp, stp_dup, stp_dup2, stp_pop, stp_ifCond, stp_if_icmp, stp_goto, stp_tableswitch, stp_lookupswitch, stp_ldc, stp_ldc_w, stp_ldc2_w, stp_getstatic, stp_getfield, stp_putfield, stp_iaload, stp_baload, stp_iastore, stp_bastore, stp_aaload, stp_aastore, stp_invokevirtual, stp_invokestatic, stp_ireturn, stp_lreturn, stp_return_, lg, lset, okl, spl, wd, c1, cnd, tg, swT, swL, f4_0, f4_1, f4_2, f4_3, f2_0, f2_1, List.mem_cons, List.not_mem_nil, List.length_cons, List.length_nil, List.cons_append, List.nil_append, Nat.reduceAdd, Nat.reduceMul, Nat.reduceLT, Nat.reduceEqDiff, Nat.reduceLeDiff, Int.reduceAdd, Int.reduceNeg, Int.reduceToNat, Int.cast_ofNat_Int, Int.reduceNatCast, Int.toNat_zero, Int.toNat_one, Int.reduceLE, Int.reduceLT, Int.reduceEq, Int.zero_add, Int.add_zero, or_false, false_or, or_true, true_or, and_true, true_and, and_false, false_and, reduceIte, not_true_eq_false, not_false_eq_true, forall_const, false_implies, true_implies, implies_true, ne_eq, reduceCtorEq, List.all_cons, List.all_nil, Bool.and_true, Bool.and_self, decide_eq_true_eq, decide_true, dX6_mostOf_0, dX6_mostOf_1, dX6_mostOf_4, dX6_mostOf_5, dX6_mostOf_8, dX6_mostOf_9, dX6_mostOf_10, dX6_mostOf_13, dX6_mostOf_15, dX6_mostOf_18, dX6_mostOf_20]
  repeat' (first | exact trivial | omega | (with_reducible assumption) | exact absurd trivial (by with_reducible assumption) | contradiction | apply And.intro | intro _)
  all_goals first | (rw [if_pos (by omega)] at h2; exact h2) | (rw [if_neg (by omega), if_pos (by omega)] at h2; exact h2) | (rw [if_neg (by omega), if_neg (by omega)] at h2; exact h2)
theorem good_X6_mostOf (l : Launch) : Good l 0 yX6_mostOf cX6_mostOf 1 (some .int) T6_mostOf := by
  refine Good.mk 1 (by decide) rfl (by simp [retOK]) FOK6 COK6 (gk_X6_mostOf l) ?_ ?_
  · intro a μ K h
    unfold T6_mostOf at h
    split at h
    · simp [entl]
    · exact h.elim
  · intro a μ K V hV h
    unfold T6_mostOf at h
    split at h
    · exact body_X6_mostOf _ μ K V hV h
    · exact h.elim

