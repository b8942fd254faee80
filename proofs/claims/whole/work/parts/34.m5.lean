/-! the reference: trials, what is best -/
def T6_startsJudging : TT := fun a μ K => match a with
  | [.inr (.inr o), .inl m] => o = 66 ∧ (K [] (wI (wI μ 66 18 (-4)) 66 19 m))
  | _ => False
theorem rec_X6_startsJudging : ∀ a μ K, T6_startsJudging a μ K → ∃ k r, a = .inr (.inr k) :: r ∧ kd k = 6 := by
  intro a μ K h
  unfold T6_startsJudging at h
  split at h
  · exact ⟨_, _, rfl, by rw [h.1]; rfl⟩
  · exact h.elim
def GL_X6_startsJudging : List (Nat × Nat × Bool × TT) := []
def G_X6_startsJudging : Nat → Option (Nat × Bool × TT) := fun i => GL_X6_startsJudging.lookup i
theorem gk_X6_startsJudging (l : Launch) : ∀ i n b T, G_X6_startsJudging i = some (n, b, T) → CallOK l 0 RX6 i n b T := by
  intro i n b T h
  have hm : (i, n, b, T) ∈ GL_X6_startsJudging := lk_mem h
  simp [GL_X6_startsJudging] at hm
set_option maxRecDepth 20000 in
set_option maxHeartbeats 4000000 in
theorem body_X6_startsJudging (o : Nat) (m : Int) (μ : Mem) (K : List AV → Mem → Prop) (V : Nat → List (Option AV) → List AV → Mem → Prop) (hV : Clos FX6 CX6 G_X6_startsJudging 0 K cX6_startsJudging V) (hT : o = 66 ∧ (K [] (wI (wI μ 66 18 (-4)) 66 19 m))) : V 0 [some (.inr (.inr o)), some (.inl m)] [] μ := by
  obtain ⟨rfl, hK⟩ := hT
  apply hV [] 30
  simp only [InR, InL, inb, Int.toNat_natCast, wp1, wpc_z, wpc_s, stp_iconst, stp_bipush, stp_sipush, stp_lconst, stp_iload_n, stp_iload, stp_lload_n, stp_lload, stp_aload_n, stp_aload, stp_istore_n, stp_istore, stp_lstore_n, stp_lstore, stp_astore_n, stp_astore, stp_iinc, stp_iadd, stp_isub, stp_imul, stp_ineg, stp_idiv, stp_irem, stp_ladd, stp_lmul, stp_ldiv, stp_lrem, stp_ishl, stp_ishr, stp_iushr, stp_iand, stp_ior, stp_i2l, stp_i2b, stp_i2s, stp_lcmp, stp_dup, stp_dup2, stp_pop, stp_ifCond, stp_if_icmp, stp_goto, stp_tableswitch, stp_lookupswitch, stp_ldc, stp_ldc_w, stp_ldc2_w, stp_getstatic, stp_getfield, stp_putfield, stp_iaload, stp_baload, stp_iastore, stp_bastore, stp_aaload, stp_aastore, stp_invokevirtual, stp_invokestatic, stp_ireturn, stp_lreturn, stp_return_, lg, lset, okl, spl, wd, c1, cnd, tg, swT, swL, f4_0, f4_1, f4_2, f4_3, f2_0, f2_1, List.mem_cons, List.not_mem_nil, List.length_cons, List.length_nil, List.cons_append, List.nil_append, Nat.reduceAdd, Nat.reduceMul, Nat.reduceLT, Nat.reduceEqDiff, Nat.reduceLeDiff, Int.reduceAdd, Int.reduceNeg, Int.reduceToNat, Int.cast_ofNat_Int, Int.reduceNatCast, Int.toNat_zero, Int.toNat_one, Int.reduceLE, Int.reduceLT, Int.reduceEq, Int.zero_add, Int.add_zero, or_false, false_or, or_true, true_or, and_true, true_and, and_false, false_and, reduceIte, not_true_eq_false, not_false_eq_true, forall_const, false_implies, true_implies, implies_true, ne_eq, reduceCtorEq, List.all_cons, List.all_nil, Bool.and_true, Bool.and_self, decide_eq_true_eq, decide_true, dX6_startsJudging_0, dX6_startsJudging_1, dX6_startsJudging_3, dX6_startsJudging_6, dX6_startsJudging_7, dX6_startsJudging_8, dX6_startsJudging_11, FX6_212, FX6_215, kd_66]
  exact hK
theorem good_X6_startsJudging (l : Launch) : Good l 0 yX6_startsJudging cX6_startsJudging 2 none T6_startsJudging := by
  refine Good.mk 0 (by decide) rfl (by simp [retOK]) FOK6 COK6 (gk_X6_startsJudging l) ?_ ?_
  · intro a μ K h
    unfold T6_startsJudging at h
    split at h
    · simp [entl]
    · exact h.elim
  · intro a μ K V hV h
    unfold T6_startsJudging at h
    split at h
    · exact body_X6_startsJudging _ _ μ K V hV h
    · exact h.elim

def T6_judges : TT := fun a μ K => match a with
  | [.inr (.inr o), .inl c, .inl m] => o = 66 ∧ (InR m ∧ InR (rI μ 66 19) ∧ (m < rI μ 66 19 → K [] (wI (wI μ 66 18 c) 66 19 m)) ∧ (¬ m < rI μ 66 19 → K [] μ))
  | _ => False
theorem rec_X6_judges : ∀ a μ K, T6_judges a μ K → ∃ k r, a = .inr (.inr k) :: r ∧ kd k = 6 := by
  intro a μ K h
  unfold T6_judges at h
  split at h
  · exact ⟨_, _, rfl, by rw [h.1]; rfl⟩
  · exact h.elim
def GL_X6_judges : List (Nat × Nat × Bool × TT) := []
def G_X6_judges : Nat → Option (Nat × Bool × TT) := fun i => GL_X6_judges.lookup i
theorem gk_X6_judges (l : Launch) : ∀ i n b T, G_X6_judges i = some (n, b, T) → CallOK l 0 RX6 i n b T := by
  intro i n b T h
  have hm : (i, n, b, T) ∈ GL_X6_judges := lk_mem h
  simp [GL_X6_judges] at hm
set_option maxRecDepth 20000 in
set_option maxHeartbeats 4000000 in
theorem body_X6_judges (o : Nat) (c : Int) (m : Int) (μ : Mem) (K : List AV → Mem → Prop) (V : Nat → List (Option AV) → List AV → Mem → Prop) (hV : Clos FX6 CX6 G_X6_judges 0 K cX6_judges V) (hT : o = 66 ∧ (InR m ∧ InR (rI μ 66 19) ∧ (m < rI μ 66 19 → K [] (wI (wI μ 66 18 c) 66 19 m)) ∧ (¬ m < rI μ 66 19 → K [] μ))) : V 0 [some (.inr (.inr o)), some (.inl c), some (.inl m)] [] μ := by
  simp only [InR] at hT
  obtain ⟨rfl, h1, h2, h3, h4⟩ := hT
  apply hV [] 30
  simp only [InR, InL, inb, Int.toNat_natCast, wp1, wpc_z, wpc_s, stp_iconst, stp_bipush, stp_sipush, stp_lconst, stp_iload_n, stp_iload, stp_lload_n, stp_lload, stp_aload_n, stp_aload, stp_istore_n, stp_istore, stp_lstore_n, stp_lstore, stp_astore_n, stp_astore, stp_iinc, stp_iadd, stp_isub, stp_imul, stp_ineg, stp_idiv, stp_irem, stp_ladd, stp_lmul, stp_ldiv, stp_lrem, stp_ishl, stp_ishr, stp_iushr, stp_iand, stp_ior, stp_i2l, stp_i2b, stp_i2s, stp_lcmp, stp_dup, stp_dup2, stp_pop, stp_ifCond, stp_if_icmp, stp_goto, stp_tableswitch, stp_lookupswitch, stp_ldc, stp_ldc_w, stp_ldc2_w, stp_getstatic, stp_getfield, stp_putfield, stp_iaload, stp_baload, stp_iastore, stp_bastore, stp_aaload, stp_aastore, stp_invokevirtual, stp_invokestatic, stp_ireturn, stp_lreturn, stp_return_, lg, lset, okl, spl, wd, c1, cnd, tg, swT, swL, f4_0, f4_1, f4_2, f4_3, f2_0, f2_1, List.mem_cons, List.not_mem_nil, List.length_cons, List.length_nil, List.cons_append, List.nil_append, Nat.reduceAdd, Nat.reduceMul, Nat.reduceLT, Nat.reduceEqDiff, Nat.reduceLeDiff, Int.reduceAdd, Int.reduceNeg, Int.reduceToNat, Int.cast_ofNat_Int, Int.reduceNatCast, Int.toNat_zero, Int.toNat_one, Int.reduceLE, Int.reduceLT, Int.reduceEq, Int.zero_add, Int.add_zero, or_false, false_or, or_true, true_or, and_true, true_and, and_false, false_and, reduceIte, not_true_eq_false, not_false_eq_true, forall_const, false_implies, true_implies, implies_true, ne_eq, reduceCtorEq, List.all_cons, List.all_nil, Bool.and_true, Bool.and_self, decide_eq_true_eq, decide_true, dX6_judges_0, dX6_judges_1, dX6_judges_2, dX6_judges_5, dX6_judges_8, dX6_judges_9, dX6_judges_10, dX6_judges_13, dX6_judges_14, dX6_judges_15, dX6_judges_18, FX6_215, FX6_212, kd_66]
  refine ⟨h1, h2, fun z => h4 (by omega), fun z => h3 (by omega)⟩
theorem good_X6_judges (l : Launch) : Good l 0 yX6_judges cX6_judges 3 none T6_judges := by
  refine Good.mk 0 (by decide) rfl (by simp [retOK]) FOK6 COK6 (gk_X6_judges l) ?_ ?_
  · intro a μ K h
    unfold T6_judges at h
    split at h
    · simp [entl]
    · exact h.elim
  · intro a μ K V hV h
    unfold T6_judges at h
    split at h
    · exact body_X6_judges _ _ _ μ K V hV h
    · exact h.elim

def T6_judged : TT := fun a μ K => match a with
  | [.inr (.inr o), .inl w] => o = 66 ∧ (InR w ∧ InR (rI μ 66 18) ∧ K [.inl (jdA (rI μ 66 18, rI μ 66 19) w)] μ)
  | _ => False
theorem rec_X6_judged : ∀ a μ K, T6_judged a μ K → ∃ k r, a = .inr (.inr k) :: r ∧ kd k = 6 := by
  intro a μ K h
  unfold T6_judged at h
  split at h
  · exact ⟨_, _, rfl, by rw [h.1]; rfl⟩
  · exact h.elim
def GL_X6_judged : List (Nat × Nat × Bool × TT) := []
def G_X6_judged : Nat → Option (Nat × Bool × TT) := fun i => GL_X6_judged.lookup i
theorem gk_X6_judged (l : Launch) : ∀ i n b T, G_X6_judged i = some (n, b, T) → CallOK l 0 RX6 i n b T := by
  intro i n b T h
  have hm : (i, n, b, T) ∈ GL_X6_judged := lk_mem h
  simp [GL_X6_judged] at hm
set_option maxRecDepth 20000 in
set_option maxHeartbeats 4000000 in
theorem body_X6_judged (o : Nat) (w : Int) (μ : Mem) (K : List AV → Mem → Prop) (V : Nat → List (Option AV) → List AV → Mem → Prop) (hV : Clos FX6 CX6 G_X6_judged 1 K cX6_judged V) (hT : o = 66 ∧ (InR w ∧ InR (rI μ 66 18) ∧ K [.inl (jdA (rI μ 66 18, rI μ 66 19) w)] μ)) : V 0 [some (.inr (.inr o)), some (.inl w)] [] μ := by
  simp only [InR] at hT
  obtain ⟨rfl, h1, h2, hK⟩ := hT
  unfold jdA at hK
  apply hV [] 30
  simp only [InR, InL, inb, Int.toNat_natCast, wp1, wpc_z, wpc_s, stp_iconst, stp_bipush, stp_sipush, stp_lconst, stp_iload_n, stp_iload, stp_lload_n, stp_lload, stp_aload_n, stp_aload, stp_istore_n, stp_istore, stp_lstore_n, stp_lstore, stp_astore_n, stp_astore, stp_iinc, stp_iadd, stp_isub, stp_imul, stp_ineg, stp_idiv, stp_irem, stp_ladd, stp_lmul, stp_ldiv, stp_lrem, stp_ishl, stp_ishr, stp_iushr, stp_iand, stp_ior, stp_i2l, stp_i2b, stp_i2s, stp_lcmp, stp_dup, stp_dup2, stp_pop, stp_ifCond, stp_if_icmp, stp_goto, stp_tableswitch, stp_lookupswitch, stp_ldc, stp_ldc_w, stp_ldc2_w, stp_getstatic, stp_getfield, stp_putfield, stp_iaload, stp_baload, stp_iastore, stp_bastore, stp_aaload, stp_aastore, stp_invokevirtual, stp_invokestatic, stp_ireturn, stp_lreturn, stp_return_, lg, lset, okl, spl, wd, c1, cnd, tg, swT, swL, f4_0, f4_1, f4_2, f4_3, f2_0, f2_1, List.mem_cons, List.not_mem_nil, List.length_cons, List.length_nil, List.cons_append, List.nil_append, Nat.reduceAdd, Nat.reduceMul, Nat.reduceLT, Nat.reduceEqDiff, Nat.reduceLeDiff, Int.reduceAdd, Int.reduceNeg, Int.reduceToNat, Int.cast_ofNat_Int, Int.reduceNatCast, Int.toNat_zero, Int.toNat_one, Int.reduceLE, Int.reduceLT, Int.reduceEq, Int.zero_add, Int.add_zero, or_false, false_or, or_true, true_or, and_true, true_and, and_false, false_and, reduceIte, not_true_eq_false, not_false_eq_true, forall_const, false_implies, true_implies, implies_true, ne_eq, reduceCtorEq, List.all_cons, List.all_nil, Bool.and_true, Bool.and_self, decide_eq_true_eq, decide_true, dX6_judged_0, dX6_judged_1, dX6_judged_4, dX6_judged_6, dX6_judged_9, dX6_judged_11, dX6_judged_14, dX6_judged_15, dX6_judged_18, dX6_judged_19, dX6_judged_22, dX6_judged_25, dX6_judged_26, dX6_judged_29, FX6_212, FX6_215, kd_66]
  by_cases z : rI μ 66 18 = -4
  · rw [if_pos z] at hK
    repeat' (first | exact trivial | omega | (with_reducible assumption) | exact absurd trivial (by with_reducible assumption) | contradiction | apply And.intro | intro _)
  · rw [if_neg z] at hK
    by_cases w0 : w = 0
    · rw [if_pos w0] at hK
      repeat' (first | exact trivial | omega | (with_reducible assumption) | exact absurd trivial (by with_reducible assumption) | contradiction | apply And.intro | intro _)
    · rw [if_neg w0] at hK
      repeat' (first | exact trivial | omega | (with_reducible assumption) | exact absurd trivial (by with_reducible assumption) | contradiction | apply And.intro | intro _)
theorem good_X6_judged (l : Launch) : Good l 0 yX6_judged cX6_judged 2 (some .int) T6_judged := by
  refine Good.mk 1 (by decide) rfl (by simp [retOK]) FOK6 COK6 (gk_X6_judged l) ?_ ?_
  · intro a μ K h
    unfold T6_judged at h
    split at h
    · simp [entl]
    · exact h.elim
  · intro a μ K V hV h
    unfold T6_judged at h
    split at h
    · exact body_X6_judged _ _ μ K V hV h
    · exact h.elim

def T6_judgedMore : TT := fun a μ K => match a with
  | [.inr (.inr o), .inl w] => o = 66 ∧ (InR w ∧ InR (rI μ 66 18) ∧ K [.inl (jdB (rI μ 66 18, rI μ 66 19) w)] μ)
  | _ => False
theorem rec_X6_judgedMore : ∀ a μ K, T6_judgedMore a μ K → ∃ k r, a = .inr (.inr k) :: r ∧ kd k = 6 := by
  intro a μ K h
  unfold T6_judgedMore at h
  split at h
  · exact ⟨_, _, rfl, by rw [h.1]; rfl⟩
  · exact h.elim
def GL_X6_judgedMore : List (Nat × Nat × Bool × TT) := []
def G_X6_judgedMore : Nat → Option (Nat × Bool × TT) := fun i => GL_X6_judgedMore.lookup i
theorem gk_X6_judgedMore (l : Launch) : ∀ i n b T, G_X6_judgedMore i = some (n, b, T) → CallOK l 0 RX6 i n b T := by
  intro i n b T h
  have hm : (i, n, b, T) ∈ GL_X6_judgedMore := lk_mem h
  simp [GL_X6_judgedMore] at hm
set_option maxRecDepth 20000 in
set_option maxHeartbeats 4000000 in
theorem body_X6_judgedMore (o : Nat) (w : Int) (μ : Mem) (K : List AV → Mem → Prop) (V : Nat → List (Option AV) → List AV → Mem → Prop) (hV : Clos FX6 CX6 G_X6_judgedMore 1 K cX6_judgedMore V) (hT : o = 66 ∧ (InR w ∧ InR (rI μ 66 18) ∧ K [.inl (jdB (rI μ 66 18, rI μ 66 19) w)] μ)) : V 0 [some (.inr (.inr o)), some (.inl w)] [] μ := by
  simp only [InR] at hT
  obtain ⟨rfl, h1, h2, hK⟩ := hT
  unfold jdB at hK
  apply hV [] 30
  simp only [InR, InL, inb, Int.toNat_natCast, wp1, wpc_z, wpc_s, stp_iconst, stp_bipush, stp_sipush, stp_lconst, stp_iload_n, stp_iload, stp_lload_n, stp_lload, stp_aload_n, stp_aload, stp_istore_n, stp_istore, stp_lstore_n, stp_lstore, stp_astore_n, stp_astore, stp_iinc, stp_iadd, stp_isub, stp_imul, stp_ineg, stp_idiv, stp_irem, stp_ladd, stp_lmul, stp_ldiv, stp_lrem, stp_ishl, stp_ishr, stp_iushr, stp_iand, stp_ior, stp_i2l, stp_i2b, stp_i2s, stp_lcmp, stp_dup, stp_dup2, stp_pop, stp_ifCond, stp_if_icmp, stp_goto, stp_tableswitch, stp_lookupswitch, stp_ldc, stp_ldc_w, stp_ldc2_w, stp_getstatic, stp_getfield, stp_putfield, stp_iaload, stp_baload, stp_iastore, stp_bastore, stp_aaload, stp_aastore, stp_invokevirtual, stp_invokestatic, stp_ireturn, stp_lreturn, stp_return_, lg, lset, okl, spl, wd, c1, cnd, tg, swT, swL, f4_0, f4_1, f4_2, f4_3, f2_0, f2_1, List.mem_cons, List.not_mem_nil, List.length_cons, List.length_nil, List.cons_append, List.nil_append, Nat.reduceAdd, Nat.reduceMul, Nat.reduceLT, Nat.reduceEqDiff, Nat.reduceLeDiff, Int.reduceAdd, Int.reduceNeg, Int.reduceToNat, Int.cast_ofNat_Int, Int.reduceNatCast, Int.toNat_zero, Int.toNat_one, Int.reduceLE, Int.reduceLT, Int.reduceEq, Int.zero_add, Int.add_zero, or_false, false_or, or_true, true_or, and_true, true_and, and_false, false_and, reduceIte, not_true_eq_false, not_false_eq_true, forall_const, false_implies, true_implies, implies_true, ne_eq, reduceCtorEq, List.all_cons, List.all_nil, Bool.and_true, Bool.and_self, decide_eq_true_eq, decide_true, dX6_judgedMore_0, dX6_judgedMore_1, dX6_judgedMore_4, dX6_judgedMore_6, dX6_judgedMore_9, dX6_judgedMore_11, dX6_judgedMore_14, dX6_judgedMore_15, dX6_judgedMore_18, dX6_judgedMore_19, dX6_judgedMore_22, dX6_judgedMore_25, dX6_judgedMore_26, dX6_judgedMore_29, dX6_judgedMore_30, FX6_212, FX6_215, kd_66]
  by_cases z : rI μ 66 18 = -4
  · rw [if_pos z] at hK
    repeat' (first | exact trivial | omega | (with_reducible assumption) | exact absurd trivial (by with_reducible assumption) | contradiction | apply And.intro | intro _)
  · rw [if_neg z] at hK
    by_cases w0 : w = 0
    · rw [if_pos w0] at hK
      repeat' (first | exact trivial | omega | (with_reducible assumption) | exact absurd trivial (by with_reducible assumption) | contradiction | apply And.intro | intro _)
    · rw [if_neg w0] at hK
      repeat' (first | exact trivial | omega | (with_reducible assumption) | exact absurd trivial (by with_reducible assumption) | contradiction | apply And.intro | intro _)
theorem good_X6_judgedMore (l : Launch) : Good l 0 yX6_judgedMore cX6_judgedMore 2 (some .int) T6_judgedMore := by
  refine Good.mk 1 (by decide) rfl (by simp [retOK]) FOK6 COK6 (gk_X6_judgedMore l) ?_ ?_
  · intro a μ K h
    unfold T6_judgedMore at h
    split at h
    · simp [entl]
    · exact h.elim
  · intro a μ K V hV h
    unfold T6_judgedMore at h
    split at h
    · exact body_X6_judgedMore _ _ μ K V hV h
    · exact h.elim

/-- nothing but what trials use has changed -/
def MF (μ ν : Mem) : Prop := (∀ k, k ≠ 66 → k ≠ 68 → k ≠ 72 → k ≠ 73 → k ≠ 74 → ∀ j, rI ν k j = rI μ k j) ∧ (∀ j, (j < 13 ∨ j = 28) → rI ν 66 j = rI μ 66 j) ∧ ∀ k j, rR ν k j = rR μ k j
theorem MF.rf {μ : Mem} : MF μ μ := ⟨fun _ _ _ _ _ _ _ => rfl, fun _ _ => rfl, fun _ _ => rfl⟩
theorem MF.tr {μ ν ρ : Mem} (h : MF μ ν) (h2 : MF ν ρ) : MF μ ρ := ⟨fun k a b c d e j => (h2.1 k a b c d e j).trans (h.1 k a b c d e j), fun j hj => (h2.2.1 j hj).trans (h.2.1 j hj), fun k j => (h2.2.2 k j).trans (h.2.2 k j)⟩
theorem st_68 (μ : Mem) {j : Nat} (h : j < 60) : rI (stM μ) 68 j = rI μ 67 j := by
  simp [stM, rI_wI, rI_wB, h]
theorem st_66 (μ : Mem) (j : Nat) : rI (stM μ) 66 j = if j = 16 then 0 else if j = 15 then 0 else if j = 14 then 0 else if j = 13 then -4 else rI μ 66 j := by
  simp [stM, rI_wI, rI_wB]
theorem st_72 (μ : Mem) {j : Nat} (h : j < 5) : rI (stM μ) 72 j = 0 := by
  simp [stM, rI_wI, rI_wB, h]
theorem st_o (μ : Mem) {k : Nat} (h1 : k ≠ 66) (h2 : k ≠ 68) (h3 : k ≠ 72) (j : Nat) : rI (stM μ) k j = rI μ k j := by
  simp [stM, rI_wI, rI_wB, h1, h2, h3]
theorem st_R (μ : Mem) (k j : Nat) : rR (stM μ) k j = rR μ k j := rfl
theorem st_MF (μ : Mem) : MF μ (stM μ) := ⟨fun k a b c _ _ j => st_o μ a b c j, fun j hj => by rw [st_66, if_neg (by omega), if_neg (by omega), if_neg (by omega), if_neg (by omega)], fun _ _ => rfl⟩
theorem st_E (μ : Mem) : Eq39 (rI (stM μ) 68) (rI μ 67) := fun x hx => st_68 μ (by omega)
def MOK (μ : Mem) : Prop := WF (rI μ 67) ∧ rI μ 67 38 ≤ 9999 ∧ (0 ≤ rI μ 67 39 ∧ rI μ 67 39 ≤ 999999) ∧ (0 ≤ rI μ 67 40 ∧ rI μ 67 40 ≤ 999999)
theorem MF.mq {μ ν : Mem} (h : MF μ ν) (hq : MOK μ) : MOK ν := by
  have e : ∀ j, rI ν 67 j = rI μ 67 j := fun j => h.1 67 (by omega) (by omega) (by omega) (by omega) (by omega) j
  have e' : rI ν 67 = rI μ 67 := funext e
  unfold MOK
  rw [e']
  exact hq
theorem MGR.mf {p : Nat → (Nat → Int) → Bool} {μ ν : Mem} {n : Nat} (h : MGR p μ ν n) : MF μ ν := by
  obtain ⟨a1, a2, a3, a4, a5, a6, a7, a8, a9, a10, a11, a12, a13⟩ := h
  exact ⟨fun k a b c _ _ j => a10 k a b c j, fun j hj => a8 j (by omega) (by omega) (by omega), a11⟩
/-- the passed one that there is not -/
theorem nx_psd4 {f : Nat → Int} (h : WF f) : ∀ n, nx (psd (-4)) f n = nx yes f n ∧ sS (psd (-4)) f n = sS yes f n ∧ sL (psd (-4)) f n = sL yes f n
  | 0 => ⟨rfl, rfl, rfl⟩
  | n + 1 => by
    obtain ⟨h1, h2, h3⟩ := nx_psd4 h n
    obtain ⟨x1, x2, x3⟩ := nx_WF (p := yes) h n
    simp only [nx, sS, sL]
    rw [h1, h2, h3]
    by_cases h0 : nx yes f n 35 = 0
    · have e1 : ∀ b, nxt (nx yes f n) b = upF (nx yes f n) 38 (nx yes f n 38 + 1) := fun b => by unfold nxt; rw [if_pos h0]
      have e2 : ∀ b, sndI (nx yes f n) b = 0 := fun b => by unfold sndI; rw [if_pos h0]
      have e3 : ∀ b, lstI (nx yes f n) b = 0 := fun b => by unfold lstI; rw [if_pos h0]
      rw [e1, e1, e2, e2, e3, e3]
      exact ⟨rfl, rfl, rfl⟩
    · have hw := x1.2.1 h0
      have : psd (-4) n (nx yes f n) = yes n (nx yes f n) := by
        show decide (nx yes f n 36 ≠ -4) = true
        exact decide_eq_true (by omega)
      rw [this]
      exact ⟨rfl, rfl, rfl⟩
/-- a trial of the reference from a state that stands for f -/
theorem mrun {ν ρ : Mem} {f : Nat → Int} {w : Int} {n : Nat} (hE : Eq39 (rI ν 68) f) (hW : WF f) (h14 : rI ν 66 14 = 0) (h15 : rI ν 66 15 = 0) (h16 : rI ν 66 16 = 0) (h : MGR (psd w) ν ρ n) : rI ρ 66 14 = sS (psd w) f n ∧ rI ρ 66 15 = nx (psd w) f n 37 - f 37 ∧ rI ρ 66 16 = sL (psd w) f n ∧ Eq39 (rI ρ 68) (nx (psd w) f n) ∧ ∀ j, j ≠ 14 → j ≠ 15 → j ≠ 16 → rI ρ 66 j = rI ν 66 j := by
  obtain ⟨a1, a2, a3, a4, a5, a6, a7, a8, a9, a10, a11, a12, a13⟩ := h
  obtain ⟨c1', c2', c3'⟩ := nx_congr (psd_congr w) (hW.of hE.sy) hE n
  refine ⟨by rw [a5, h14, c2']; omega, by rw [a6, h15, c1' 37 (by omega), hE 37 (by omega)]; omega, by rw [a7, h16, c3']; omega, a1.tr c1', a8⟩
def T6_runs : TT := fun a μ K => match a with
  | [.inr (.inr o), .inl n, .inl w] => o = 66 ∧ (InR n ∧ InR w ∧ MOK μ ∧ ∀ ν, MF μ ν → K [.inl (runsR (rI μ 67) n w)] ν)
  | _ => False
theorem rec_X6_runs : ∀ a μ K, T6_runs a μ K → ∃ k r, a = .inr (.inr k) :: r ∧ kd k = 6 := by
  intro a μ K h
  unfold T6_runs at h
  split at h
  · exact ⟨_, _, rfl, by rw [h.1]; rfl⟩
  · exact h.elim
def GL_X6_runs : List (Nat × Nat × Bool × TT) := [(205, 1, true, T6_isFar), (59, 3, true, T6_in), (174, 1, false, T6_starts), (200, 2, false, T6_visitsGo), (177, 2, false, T6_sumOf)]
def G_X6_runs : Nat → Option (Nat × Bool × TT) := fun i => GL_X6_runs.lookup i
theorem G_X6_runs_205 : G_X6_runs 205 = some (1, true, T6_isFar) := rfl
theorem G_X6_runs_59 : G_X6_runs 59 = some (3, true, T6_in) := rfl
theorem G_X6_runs_174 : G_X6_runs 174 = some (1, false, T6_starts) := rfl
theorem G_X6_runs_200 : G_X6_runs 200 = some (2, false, T6_visitsGo) := rfl
theorem G_X6_runs_177 : G_X6_runs 177 = some (2, false, T6_sumOf) := rfl
theorem gk_X6_runs (l : Launch) : ∀ i n b T, G_X6_runs i = some (n, b, T) → CallOK l 5 RX6 i n b T := by
  intro i n b T h
  have hm : (i, n, b, T) ∈ GL_X6_runs := lk_mem h
  simp only [GL_X6_runs, List.mem_cons, List.not_mem_nil, or_false, Prod.mk.injEq] at hm
  rcases hm with ⟨rfl, rfl, rfl, rfl⟩ | ⟨rfl, rfl, rfl, rfl⟩ | ⟨rfl, rfl, rfl, rfl⟩ | ⟨rfl, rfl, rfl, rfl⟩ | ⟨rfl, rfl, rfl, rfl⟩
  · exact CallOK.S (d := 5) (own := RX6) (i := 205) (n := 1) (good_X6_isFar l) (by decide) (by decide) (mg 864 (by decide +kernel) (by decide +kernel)) (mg 865 (by decide +kernel) (by decide +kernel)) (mg 7 (by decide +kernel) (by decide +kernel)) (mg 866 (by decide +kernel) (by decide +kernel)) (by decide +kernel)
  · exact CallOK.S (d := 5) (own := RX6) (i := 59) (n := 3) (good_X6_in l) (by decide) (by decide) (mg 708 (by decide +kernel) (by decide +kernel)) (mg 709 (by decide +kernel) (by decide +kernel)) (mg 7 (by decide +kernel) (by decide +kernel)) (mg 710 (by decide +kernel) (by decide +kernel)) (by decide +kernel)
  · exact CallOK.V (d := 5) (own := RX6) (i := 174) (n := 0) (ci := 6) (good_X6_starts l) (by decide) (by decide) rfl (by decide) rec_X6_starts (mg 769 (by decide +kernel) (by decide +kernel)) (mg 771 (by decide +kernel) (by decide +kernel)) (mgs 33 (by decide +kernel) (by decide +kernel)) (mg 7 (by decide +kernel) (by decide +kernel)) (mg 772 (by decide +kernel) (by decide +kernel)) (by decide +kernel)
  · exact CallOK.V (d := 5) (own := RX6) (i := 200) (n := 1) (ci := 6) (good_X6_visitsGo l) (by decide) (by decide) rfl (by decide) rec_X6_visitsGo (mg 849 (by decide +kernel) (by decide +kernel)) (mg 851 (by decide +kernel) (by decide +kernel)) (mgs 45 (by decide +kernel) (by decide +kernel)) (mg 7 (by decide +kernel) (by decide +kernel)) (mg 852 (by decide +kernel) (by decide +kernel)) (by decide +kernel)
  · exact CallOK.V (d := 5) (own := RX6) (i := 177) (n := 1) (ci := 6) (good_X6_sumOf l) (by decide) (by decide) rfl (by decide) rec_X6_sumOf (mg 773 (by decide +kernel) (by decide +kernel)) (mg 775 (by decide +kernel) (by decide +kernel)) (mgs 34 (by decide +kernel) (by decide +kernel)) (mg 7 (by decide +kernel) (by decide +kernel)) (mg 776 (by decide +kernel) (by decide +kernel)) (by decide +kernel)
set_option maxRecDepth 20000 in
set_option maxHeartbeats 4000000 in
theorem body_X6_runs (o : Nat) (n : Int) (w : Int) (μ : Mem) (K : List AV → Mem → Prop) (V : Nat → List (Option AV) → List AV → Mem → Prop) (hV : Clos FX6 CX6 G_X6_runs 1 K cX6_runs V) (hT : o = 66 ∧ (InR n ∧ InR w ∧ MOK μ ∧ ∀ ν, MF μ ν → K [.inl (runsR (rI μ 67) n w)] ν)) : V 0 [some (.inr (.inr o)), some (.inl n), some (.inl w)] [] μ := by
  simp only [InR] at hT
  obtain ⟨rfl, hn, hw, hQ, hK⟩ := hT
  obtain ⟨hW, h38, h39, h40⟩ := hQ
  have h35 := hW.1
  by_cases hc : (0 ≤ n ∧ n ≤ 200) ∧ 0 ≤ w ∧ w ≤ 3
  · have g38 : rI (stM μ) 68 38 = rI μ 67 38 := st_68 μ (by omega)
    have g39 : rI (stM μ) 68 39 = rI μ 67 39 := st_68 μ (by omega)
    have g40 : rI (stM μ) 68 40 = rI μ 67 40 := st_68 μ (by omega)
    have g13 : rI (stM μ) 66 13 = -4 := by rw [st_66]; simp
    have hW2 : WF (rI (stM μ) 68) := hW.of (st_E μ).sy
    have fin : ∀ ν, MGR (psd (-4)) (stM μ) ν n.toNat → (w = 0 → K [.inl (rI ν 66 14)] ν) ∧ (w = 1 → K [.inl (rI ν 66 15)] ν) ∧ (w = 2 → K [.inl (rI ν 66 16)] ν) ∧ (w = 3 → (0 ≤ rI ν 68 35 ∧ rI ν 68 35 ≤ 5) ∧ K [.inl (sumF (rI ν 68) 1 (rI ν 68 35).toNat)] ν) := by
      intro ν hν
      have hm := mrun (st_E μ) hW (by rw [st_66]; simp) (by rw [st_66]; simp) (by rw [st_66]; simp) hν
      obtain ⟨m1, m2, m3, m4, m5⟩ := hm
      have hk := hK ν ((st_MF μ).tr hν.mf)
      obtain ⟨p1, p2, p3⟩ := nx_psd4 hW n.toNat
      rw [p1] at m2 m4
      rw [p2] at m1
      rw [p3] at m3
      unfold runsR at hk
      rw [if_pos hc] at hk
      unfold runsV at hk
      have e35 : rI ν 68 35 = rI μ 67 35 := by rw [m4 35 (by omega), (nx_WF (p := yes) hW n.toNat).2.2]
      refine ⟨fun z => ?_, fun z => ?_, fun z => ?_, fun z => ?_⟩
      · rw [if_pos z] at hk; rw [m1]; exact hk
      · rw [if_neg (by omega), if_pos z] at hk; rw [m2]; exact hk
      · rw [if_neg (by omega), if_neg (by omega), if_pos z] at hk; rw [m3]; exact hk
      · rw [if_neg (by omega), if_neg (by omega), if_neg (by omega)] at hk
        rw [e35]
        refine ⟨by omega, ?_⟩
        rw [sumF_congr m4 (by omega) _ (by omega)]
        exact hk
    apply hV [] 80
    simp only [InR, InL, inb, Int.toNat_natCast, wp1, wpc_z, wpc_s, stp_iconst, stp_bipush, stp_sipush, stp_lconst, stp_iload_n, stp_iload, stp_lload_n, stp_lload, stp_aload_n, stp_aload, stp_istore_n, stp_istore, stp_lstore_n, stp_lstore, stp_astore_n, stp_astore, stp_iinc, stp_iadd, stp_isub, stp_imul, stp_ineg, stp_idiv, stp_irem, stp_ladd, stp_lmul, stp_ldiv, stp_lrem, stp_ishl, stp_ishr, stp_iushr, stp_iand, stp_ior, stp_i2l, stp_i2b, stp_i2s, stp_lcmp, stp_dup, stp_dup2, stp_pop, stp_ifCond, stp_if_icmp, stp_goto, stp_tableswitch, stp_lookupswitch, stp_ldc, stp_ldc_w, stp_ldc2_w, stp_getstatic, stp_getfield, stp_putfield, stp_iaload, stp_baload, stp_iastore, stp_bastore, stp_aaload, stp_aastore, stp_invokevirtual, stp_invokestatic, stp_ireturn, stp_lreturn, stp_return_, lg, lset, okl, spl, wd, c1, cnd, tg, swT, swL, f4_0, f4_1, f4_2, f4_3, f2_0, f2_1, List.mem_cons, List.not_mem_nil, List.length_cons, List.length_nil, List.cons_append, List.nil_append, Nat.reduceAdd, Nat.reduceMul, Nat.reduceLT, Nat.reduceEqDiff, Nat.reduceLeDiff, Int.reduceAdd, Int.reduceNeg, Int.reduceToNat, Int.cast_ofNat_Int, Int.reduceNatCast, Int.toNat_zero, Int.toNat_one, Int.reduceLE, Int.reduceLT, Int.reduceEq, Int.zero_add, Int.add_zero, or_false, false_or, or_true, true_or, and_true, true_and, and_false, false_and, reduceIte, not_true_eq_false, not_false_eq_true, forall_const, false_implies, true_implies, implies_true, ne_eq, reduceCtorEq, List.all_cons, List.all_nil, Bool.and_true, Bool.and_self, decide_eq_true_eq, decide_true, dX6_runs_0, dX6_runs_1, dX6_runs_4, dX6_runs_7, dX6_runs_8, dX6_runs_9, dX6_runs_10, dX6_runs_13, dX6_runs_16, dX6_runs_19, dX6_runs_20, dX6_runs_21, dX6_runs_22, dX6_runs_25, dX6_runs_26, dX6_runs_27, dX6_runs_30, dX6_runs_31, dX6_runs_56, dX6_runs_57, dX6_runs_60, dX6_runs_61, dX6_runs_62, dX6_runs_65, dX6_runs_66, dX6_runs_67, dX6_runs_70, dX6_runs_71, dX6_runs_72, dX6_runs_73, dX6_runs_76, CX6_208, FX6_132, FX6_135, FX6_138, G_X6_runs_205, G_X6_runs_59, G_X6_runs_174, G_X6_runs_200, G_X6_runs_177, kd_66, T6_isFar, T6_in, T6_starts, T6_visitsGo, T6_sumOf, g13, g38, g39, g40, List.size_toArray, Int.reduceSub]
    repeat' (first | exact trivial | omega | (with_reducible assumption) | exact absurd trivial (by with_reducible assumption) | contradiction | apply And.intro | intro _)
    all_goals first | exact (fin _ (by assumption)).1 (by omega) | exact (fin _ (by assumption)).2.1 (by omega) | exact (fin _ (by assumption)).2.2.1 (by omega) | exact ((fin _ (by assumption)).2.2.2 (by omega)).2 | exact ((fin _ (by assumption)).2.2.2 (by omega)).1.1 | exact ((fin _ (by assumption)).2.2.2 (by omega)).1.2
  · have hk := hK μ MF.rf
    unfold runsR at hk
    rw [if_neg hc] at hk
    apply hV [21] 80
    simp only [InR, InL, inb, Int.toNat_natCast, wp1, wpc_z, wpc_s, stp_iconst, stp_bipush, stp_sipush, stp_lconst, stp_iload_n, stp_iload, stp_lload_n, stp_lload, stp_aload_n, stp_aload, stp_istore_n, stp_istore, stp_lstore_n, stp_lstore, stp_astore_n, stp_astore, stp_iinc, stp_iadd, stp_isub, stp_imul, stp_ineg, stp_idiv, stp_irem, stp_ladd, stp_lmul, stp_ldiv, stp_lrem, stp_ishl, stp_ishr, stp_iushr, stp_iand, stp_ior, stp_i2l, stp_i2b, stp_i2s, stp_lcmp, stp_dup, stp_dup2, stp_pop, stp_ifCond, stp_if_icmp, stp_goto, stp_tableswitch, stp_lookupswitch, stp_ldc, stp_ldc_w, stp_ldc2_w, stp_getstatic, stp_getfield, stp_putfield, stp_iaload, stp_baload, stp_iastore, stp_bastore, stp_aaload, stp_aastore, stp_invokevirtual, stp_invokestatic, stp_ireturn, stp_lreturn, stp_return_, lg, lset, okl, spl, wd, c1, cnd, tg, swT, swL, f4_0, f4_1, f4_2, f4_3, f2_0, f2_1, List.mem_cons, List.not_mem_nil, List.length_cons, List.length_nil, List.cons_append, List.nil_append, Nat.reduceAdd, Nat.reduceMul, Nat.reduceLT, Nat.reduceEqDiff, Nat.reduceLeDiff, Int.reduceAdd, Int.reduceNeg, Int.reduceToNat, Int.cast_ofNat_Int, Int.reduceNatCast, Int.toNat_zero, Int.toNat_one, Int.reduceLE, Int.reduceLT, Int.reduceEq, Int.zero_add, Int.add_zero, or_false, false_or, or_true, true_or, and_true, true_and, and_false, false_and, reduceIte, not_true_eq_false, not_false_eq_true, forall_const, false_implies, true_implies, implies_true, ne_eq, reduceCtorEq, List.all_cons, List.all_nil, Bool.and_true, Bool.and_self, decide_eq_true_eq, decide_true, dX6_runs_0, dX6_runs_1, dX6_runs_4, dX6_runs_7, dX6_runs_8, dX6_runs_9, dX6_runs_10, dX6_runs_13, dX6_runs_16, dX6_runs_19, dX6_runs_20, dX6_runs_21, dX6_runs_22, dX6_runs_25, dX6_runs_26, dX6_runs_27, dX6_runs_30, dX6_runs_31, dX6_runs_56, dX6_runs_57, dX6_runs_60, dX6_runs_61, dX6_runs_62, dX6_runs_65, dX6_runs_66, dX6_runs_67, dX6_runs_70, dX6_runs_71, dX6_runs_72, dX6_runs_73, dX6_runs_76, CX6_208, FX6_132, FX6_135, FX6_138, G_X6_runs_205, G_X6_runs_59, G_X6_runs_174, G_X6_runs_200, G_X6_runs_177, kd_66, T6_isFar, T6_in]
    repeat' (first | exact trivial | omega | (with_reducible assumption) | exact absurd trivial (by with_reducible assumption) | contradiction | apply And.intro | intro _)
theorem good_X6_runs (l : Launch) : Good l 5 yX6_runs cX6_runs 3 (some .int) T6_runs := by
  refine Good.mk 1 (by decide) rfl (by simp [retOK]) FOK6 COK6 (gk_X6_runs l) ?_ ?_
  · intro a μ K h
    unfold T6_runs at h
    split at h
    · simp [entl]
    · exact h.elim
  · intro a μ K V hV h
    unfold T6_runs at h
    split at h
    · exact body_X6_runs _ _ _ μ K V hV h
    · exact h.elim

def GL_X6_kind : List (Nat × Nat × Bool × TT) := [(180, 2, false, T6_isStation), (205, 1, true, T6_isFar), (218, 1, true, T6_isPart), (221, 2, false, T6_startsJudging), (174, 1, false, T6_starts), (152, 4, false, T6_becomesOf), (200, 2, false, T6_visitsGo), (224, 3, false, T6_judges), (227, 2, false, T6_judgedMore)]
def G_X6_kind : Nat → Option (Nat × Bool × TT) := fun i => GL_X6_kind.lookup i
theorem G_X6_kind_180 : G_X6_kind 180 = some (2, false, T6_isStation) := rfl
theorem G_X6_kind_205 : G_X6_kind 205 = some (1, true, T6_isFar) := rfl
theorem G_X6_kind_218 : G_X6_kind 218 = some (1, true, T6_isPart) := rfl
theorem G_X6_kind_221 : G_X6_kind 221 = some (2, false, T6_startsJudging) := rfl
theorem G_X6_kind_174 : G_X6_kind 174 = some (1, false, T6_starts) := rfl
theorem G_X6_kind_152 : G_X6_kind 152 = some (4, false, T6_becomesOf) := rfl
theorem G_X6_kind_200 : G_X6_kind 200 = some (2, false, T6_visitsGo) := rfl
theorem G_X6_kind_224 : G_X6_kind 224 = some (3, false, T6_judges) := rfl
theorem G_X6_kind_227 : G_X6_kind 227 = some (2, false, T6_judgedMore) := rfl

set_option maxRecDepth 20000 in
set_option maxHeartbeats 4000000 in
theorem lp_mkind (V : Nat → List (Option AV) → List AV → Mem → Prop) (K : List AV → Mem → Prop) (hV : Clos FX6 CX6 G_X6_kind 1 K cX6_kind V) (μ : Mem) (hQ : MOK μ) (i : Nat) (hi : (i : Int) < rI μ 67 35) (e : Nat) (he : e ≤ 200) (w : Int) (hw : 0 ≤ w ∧ w ≤ 1) (hK : ∀ ν, MF μ ν → K [.inl (jdB (jd (fun v => v) (kindU (rI μ 67) i e) 1 4) w)] ν) : ∀ m n : Nat, n + m = 4 → ∀ ν, MF μ ν → (rI ν 66 18, rI ν 66 19) = jd (fun v => v) (kindU (rI μ 67) i e) 1 n → V 32 [some (.inr (.inr 66)), some (.inl (i : Int)), some (.inl (e : Int)), some (.inl w), some (.inl (n : Int))] [] ν := by
  obtain ⟨hW, h38, h39, h40⟩ := hQ
  have h35 := hW.1
  have hu : ∀ v : Nat, v < 4 → -3600 ≤ kindU (rI μ 67) i e v ∧ kindU (rI μ 67) i e v ≤ 0 := by
    intro v hv
    have := (sum_in (p := yes) (hW.set (t := 0) hi (by omega) (v := v) ⟨fun _ => by omega, fun z => by omega, fun z => by omega, fun z => by omega, fun z => by omega⟩) e).1
    unfold kindU
    rw [Nat.add_zero] at this
    omega
  have hj := fun (n : Nat) (hn : n ≤ 4) => jd_rg (c := fun v => (v : Int)) (u := kindU (rI μ 67) i e) (b := 1) (lo := -3600) (hi := 0) (lc := 0) (hc := 9) (fun n => by show (n : Int) ≠ -4; omega) n (fun k hk => hu k (by omega)) (fun k hk => ⟨by show 0 ≤ (k : Int); omega, by show (k : Int) ≤ 9; omega⟩)
  intro m
  induction m with
  | zero =>
    intro n hn ν hF hq
    have en : n = 4 := by omega
    subst en
    have hk := hK ν hF
    have hjn := hj 4 (by omega)
    rw [← hq] at hk hjn
    have hrg : -4 ≤ rI ν 66 18 ∧ rI ν 66 18 ≤ 9 := by
      by_cases z : rI ν 66 18 = -4
      · omega
      · have := hjn.2 z; simp only at this; omega
    apply hV [32] 40
    simp only [InR, InL, inb, Int.toNat_natCast, wp1, wpc_z, wpc_s, stp_iconst, stp_bipush, stp_sipush, stp_lconst, stp_iload_n, stp_iload, stp_lload_n, stp_lload, stp_aload_n, stp_aload, stp_istore_n, stp_istore, stp_lstore_n, stp_lstore, stp_astore_n, stp_astore, stp_iinc, stp_iadd, stp_isub, stp_imul, stp_ineg, stp_idiv, stp_irem, stp_ladd, stp_lmul, stp_ldiv, stp_lrem, stp_ishl, stp_ishr, stp_iushr, stp_iand, stp_ior, stp_i2l, stp_i2b, stp_i2s, stp_lcmp, stp_dup, stp_dup2, stp_pop, stp_ifCond, stp_if_icmp, stp_goto, stp_tableswitch, stp_lookupswitch, stp_ldc, stp_ldc_w, stp_ldc2_w, stp_getstatic, stp_getfield, stp_putfield, stp_iaload, stp_baload, stp_iastore, stp_bastore, stp_aaload, stp_aastore, stp_invokevirtual, stp_invokestatic, stp_ireturn, stp_lreturn, stp_return_, lg, lset, okl, spl, wd, c1, cnd, tg, swT, swL, f4_0, f4_1, f4_2, f4_3, f2_0, f2_1, List.mem_cons, List.not_mem_nil, List.length_cons, List.length_nil, List.cons_append, List.nil_append, Nat.reduceAdd, Nat.reduceMul, Nat.reduceLT, Nat.reduceEqDiff, Nat.reduceLeDiff, Int.reduceAdd, Int.reduceNeg, Int.reduceToNat, Int.cast_ofNat_Int, Int.reduceNatCast, Int.toNat_zero, Int.toNat_one, Int.reduceLE, Int.reduceLT, Int.reduceEq, Int.zero_add, Int.add_zero, or_false, false_or, or_true, true_or, and_true, true_and, and_false, false_and, reduceIte, not_true_eq_false, not_false_eq_true, forall_const, false_implies, true_implies, implies_true, ne_eq, reduceCtorEq, List.all_cons, List.all_nil, Bool.and_true, Bool.and_self, decide_eq_true_eq, decide_true, dX6_kind_0, dX6_kind_1, dX6_kind_2, dX6_kind_5, dX6_kind_8, dX6_kind_9, dX6_kind_12, dX6_kind_15, dX6_kind_16, dX6_kind_19, dX6_kind_22, dX6_kind_23, dX6_kind_24, dX6_kind_25, dX6_kind_26, dX6_kind_29, dX6_kind_30, dX6_kind_32, dX6_kind_34, dX6_kind_35, dX6_kind_38, dX6_kind_39, dX6_kind_42, dX6_kind_43, dX6_kind_44, dX6_kind_45, dX6_kind_47, dX6_kind_50, dX6_kind_51, dX6_kind_52, dX6_kind_55, dX6_kind_56, dX6_kind_58, dX6_kind_59, dX6_kind_62, dX6_kind_63, dX6_kind_66, dX6_kind_69, dX6_kind_72, dX6_kind_73, dX6_kind_74, dX6_kind_77, FX6_132, G_X6_kind_180, G_X6_kind_205, G_X6_kind_218, G_X6_kind_221, G_X6_kind_174, G_X6_kind_152, G_X6_kind_200, G_X6_kind_224, G_X6_kind_227, kd_66, T6_judgedMore]
    repeat' (first | exact trivial | omega | (with_reducible assumption) | exact absurd trivial (by with_reducible assumption) | contradiction | apply And.intro | intro _)
  | succ m ih =>
    intro n hn ν hF hq
    have hun := hu n (by omega)
    have hjn := hj n (by omega)
    have key := fun σ hσ => ih (n + 1) (by omega) σ hσ
    rw [show ((n + 1 : Nat) : Int) = (n : Int) + 1 by omega, jd_s, ← hq] at key
    rw [← hq] at hjn
    have hrg : -3600 ≤ rI ν 66 19 ∧ rI ν 66 19 ≤ 1 := by
      by_cases z : rI ν 66 18 = -4
      · have := (hjn.1 z).1; simp only at this; omega
      · have := hjn.2 z; simp only at this; omega
    clear hjn
    have e67 : rI ν 67 = rI μ 67 := funext (fun j => hF.1 67 (by omega) (by omega) (by omega) (by omega) (by omega) j)
    have hW2 : WF (upF (rI μ 67) (7 * i) n) := hW.set (t := 0) hi (by omega) (v := n) ⟨fun _ => by omega, fun z => by omega, fun z => by omega, fun z => by omega, fun z => by omega⟩
    have hE : Eq39 (rI (wI (stM ν) 68 (7 * i) n) 68) (upF (rI μ 67) (7 * i) n) := by
      intro x hx
      rw [rI_wI]
      unfold upF
      by_cases ex : x = 7 * i
      · rw [if_pos ⟨rfl, ex⟩, if_pos ex]
      · rw [if_neg (fun z => ex z.2), if_neg ex, st_68 ν (by omega), e67]
    have g38 : rI (wI (stM ν) 68 (7 * i) n) 68 38 = rI μ 67 38 := by rw [rI_wI, if_neg (by omega), st_68 ν (by omega), e67]
    have g39 : rI (wI (stM ν) 68 (7 * i) n) 68 39 = rI μ 67 39 := by rw [rI_wI, if_neg (by omega), st_68 ν (by omega), e67]
    have g40 : rI (wI (stM ν) 68 (7 * i) n) 68 40 = rI μ 67 40 := by rw [rI_wI, if_neg (by omega), st_68 ν (by omega), e67]
    have g66 : ∀ j, rI (wI (stM ν) 68 (7 * i) n) 66 j = rI (stM ν) 66 j := fun j => by rw [rI_wI, if_neg (by omega)]
    have g13 : rI (wI (stM ν) 68 (7 * i) n) 66 13 = -4 := by rw [g66, st_66]; simp
    have hW3 : WF (rI (wI (stM ν) 68 (7 * i) n) 68) := hW2.of hE.sy
    have fin : ∀ ρ, MGR (psd (-4)) (wI (stM ν) 68 (7 * i) n) ρ e → rI ρ 66 14 = -kindU (rI μ 67) i e n ∧ rI ρ 66 19 = rI ν 66 19 ∧ (kindU (rI μ 67) i e n < rI ν 66 19 → V 32 [some (.inr (.inr 66)), some (.inl (i : Int)), some (.inl (e : Int)), some (.inl w), some (.inl ((n : Int) + 1))] [] (wI (wI ρ 66 18 n) 66 19 (kindU (rI μ 67) i e n))) ∧ (¬ kindU (rI μ 67) i e n < rI ν 66 19 → V 32 [some (.inr (.inr 66)), some (.inl (i : Int)), some (.inl (e : Int)), some (.inl w), some (.inl ((n : Int) + 1))] [] ρ) := by
      intro ρ hρ
      obtain ⟨m1, m2, m3, m4, m5⟩ := mrun hE hW2 (by rw [g66, st_66]; simp) (by rw [g66, st_66]; simp) (by rw [g66, st_66]; simp) hρ
      obtain ⟨p1, p2, p3⟩ := nx_psd4 hW2 e
      rw [p2] at m1
      have hMF : MF μ ρ := by
        have h1 : MF ν (wI (stM ν) 68 (7 * i) n) := by
          obtain ⟨q1, q2, q3⟩ := st_MF ν
          exact ⟨fun k a b c d f j => by rw [rI_wI, if_neg (fun z => b z.1)]; exact q1 k a b c d f j, fun j hj => by rw [rI_wI, if_neg (by omega)]; exact q2 j hj, q3⟩
        exact hF.tr (h1.tr hρ.mf)
      have e18 : rI ρ 66 18 = rI ν 66 18 := by rw [m5 18 (by omega) (by omega) (by omega), g66, st_66]; simp
      have e19 : rI ρ 66 19 = rI ν 66 19 := by rw [m5 19 (by omega) (by omega) (by omega), g66, st_66]; simp
      refine ⟨by rw [m1]; unfold kindU; omega, e19, fun z => ?_, fun z => ?_⟩
      · refine key _ ?_ ?_
        · obtain ⟨q1, q2, q3⟩ := hMF
          exact ⟨fun k a b c d f j => by rw [rI_wI, rI_wI, if_neg (fun z => a z.1), if_neg (fun z => a z.1)]; exact q1 k a b c d f j, fun j hj => by rw [rI_wI, rI_wI, if_neg (by omega), if_neg (by omega)]; exact q2 j hj, q3⟩
        · rw [if_pos z]; simp [rI_wI]
      · refine key _ hMF ?_
        rw [if_neg z, e18, e19]
    apply hV [32] 40
    simp only [InR, InL, inb, Int.toNat_natCast, wp1, wpc_z, wpc_s, stp_iconst, stp_bipush, stp_sipush, stp_lconst, stp_iload_n, stp_iload, stp_lload_n, stp_lload, stp_aload_n, stp_aload, stp_istore_n, stp_istore, stp_lstore_n, stp_lstore, stp_astore_n, stp_astore, stp_iinc, stp_iadd, stp_isub, stp_imul, stp_ineg, stp_idiv, stp_irem, stp_ladd, stp_lmul, stp_ldiv, stp_lrem, stp_ishl, stp_ishr, stp_iushr, stp_iand, stp_ior, stp_i2l, stp_i2b, stp_i2s, stp_lcmp, stp_dup, stp_dup2, stp_pop, stp_ifCond, stp_if_icmp, stp_goto, stp_tableswitch, stp_lookupswitch, stp_ldc, stp_ldc_w, stp_ldc2_w, stp_getstatic, stp_getfield, stp_putfield, stp_iaload, stp_baload, stp_iastore, stp_bastore, stp_aaload, stp_aastore, stp_invokevirtual, stp_invokestatic, stp_ireturn, stp_lreturn, stp_return_, lg, lset, okl, spl, wd, c1, cnd, tg, swT, swL, f4_0, f4_1, f4_2, f4_3, f2_0, f2_1, List.mem_cons, List.not_mem_nil, List.length_cons, List.length_nil, List.cons_append, List.nil_append, Nat.reduceAdd, Nat.reduceMul, Nat.reduceLT, Nat.reduceEqDiff, Nat.reduceLeDiff, Int.reduceAdd, Int.reduceNeg, Int.reduceToNat, Int.cast_ofNat_Int, Int.reduceNatCast, Int.toNat_zero, Int.toNat_one, Int.reduceLE, Int.reduceLT, Int.reduceEq, Int.zero_add, Int.add_zero, or_false, false_or, or_true, true_or, and_true, true_and, and_false, false_and, reduceIte, not_true_eq_false, not_false_eq_true, forall_const, false_implies, true_implies, implies_true, ne_eq, reduceCtorEq, List.all_cons, List.all_nil, Bool.and_true, Bool.and_self, decide_eq_true_eq, decide_true, dX6_kind_0, dX6_kind_1, dX6_kind_2, dX6_kind_5, dX6_kind_8, dX6_kind_9, dX6_kind_12, dX6_kind_15, dX6_kind_16, dX6_kind_19, dX6_kind_22, dX6_kind_23, dX6_kind_24, dX6_kind_25, dX6_kind_26, dX6_kind_29, dX6_kind_30, dX6_kind_32, dX6_kind_34, dX6_kind_35, dX6_kind_38, dX6_kind_39, dX6_kind_42, dX6_kind_43, dX6_kind_44, dX6_kind_45, dX6_kind_47, dX6_kind_50, dX6_kind_51, dX6_kind_52, dX6_kind_55, dX6_kind_56, dX6_kind_58, dX6_kind_59, dX6_kind_62, dX6_kind_63, dX6_kind_66, dX6_kind_69, dX6_kind_72, dX6_kind_73, dX6_kind_74, dX6_kind_77, FX6_132, G_X6_kind_180, G_X6_kind_205, G_X6_kind_218, G_X6_kind_221, G_X6_kind_174, G_X6_kind_152, G_X6_kind_200, G_X6_kind_224, G_X6_kind_227, kd_66, T6_starts, T6_becomesOf, T6_visitsGo, T6_judges, tn7_0, tn7_00, g13, g38, g39, g40]
    repeat' (first | exact trivial | omega | (with_reducible assumption) | exact absurd trivial (by with_reducible assumption) | contradiction | apply And.intro | intro _)
    all_goals first | (have h9 := fin _ (by assumption); rw [h9.1, Int.neg_neg]; exact h9.2.2.1 (by omega)) | (have h9 := fin _ (by assumption); exact h9.2.2.2 (by omega)) | (have h9 := fin _ (by assumption); omega)
def T6_kind : TT := fun a μ K => match a with
  | [.inr (.inr o), .inl i, .inl n, .inl w] => o = 66 ∧ (InR i ∧ InR n ∧ InR w ∧ MOK μ ∧ ∀ ν, MF μ ν → K [.inl (kindR (rI μ 67) i n w)] ν)
  | _ => False
theorem rec_X6_kind : ∀ a μ K, T6_kind a μ K → ∃ k r, a = .inr (.inr k) :: r ∧ kd k = 6 := by
  intro a μ K h
  unfold T6_kind at h
  split at h
  · exact ⟨_, _, rfl, by rw [h.1]; rfl⟩
  · exact h.elim
theorem gk_X6_kind (l : Launch) : ∀ i n b T, G_X6_kind i = some (n, b, T) → CallOK l 5 RX6 i n b T := by
  intro i n b T h
  have hm : (i, n, b, T) ∈ GL_X6_kind := lk_mem h
  simp only [GL_X6_kind, List.mem_cons, List.not_mem_nil, or_false, Prod.mk.injEq] at hm
  rcases hm with ⟨rfl, rfl, rfl, rfl⟩ | ⟨rfl, rfl, rfl, rfl⟩ | ⟨rfl, rfl, rfl, rfl⟩ | ⟨rfl, rfl, rfl, rfl⟩ | ⟨rfl, rfl, rfl, rfl⟩ | ⟨rfl, rfl, rfl, rfl⟩ | ⟨rfl, rfl, rfl, rfl⟩ | ⟨rfl, rfl, rfl, rfl⟩ | ⟨rfl, rfl, rfl, rfl⟩
  · exact CallOK.V (d := 5) (own := RX6) (i := 180) (n := 1) (ci := 6) (good_X6_isStation l) (by decide) (by decide) rfl (by decide) rec_X6_isStation (mg 796 (by decide +kernel) (by decide +kernel)) (mg 798 (by decide +kernel) (by decide +kernel)) (mgs 38 (by decide +kernel) (by decide +kernel)) (mg 7 (by decide +kernel) (by decide +kernel)) (mg 799 (by decide +kernel) (by decide +kernel)) (by decide +kernel)
  · exact CallOK.S (d := 5) (own := RX6) (i := 205) (n := 1) (good_X6_isFar l) (by decide) (by decide) (mg 864 (by decide +kernel) (by decide +kernel)) (mg 865 (by decide +kernel) (by decide +kernel)) (mg 7 (by decide +kernel) (by decide +kernel)) (mg 866 (by decide +kernel) (by decide +kernel)) (by decide +kernel)
  · exact CallOK.S (d := 5) (own := RX6) (i := 218) (n := 1) (good_X6_isPart l) (by decide) (by decide) (mg 882 (by decide +kernel) (by decide +kernel)) (mg 883 (by decide +kernel) (by decide +kernel)) (mg 7 (by decide +kernel) (by decide +kernel)) (mg 884 (by decide +kernel) (by decide +kernel)) (by decide +kernel)
  · exact CallOK.V (d := 5) (own := RX6) (i := 221) (n := 1) (ci := 6) (good_X6_startsJudging l) (by decide) (by decide) rfl (by decide) rec_X6_startsJudging (mg 885 (by decide +kernel) (by decide +kernel)) (mg 887 (by decide +kernel) (by decide +kernel)) (mgs 47 (by decide +kernel) (by decide +kernel)) (mg 7 (by decide +kernel) (by decide +kernel)) (mg 888 (by decide +kernel) (by decide +kernel)) (by decide +kernel)
  · exact CallOK.V (d := 5) (own := RX6) (i := 174) (n := 0) (ci := 6) (good_X6_starts l) (by decide) (by decide) rfl (by decide) rec_X6_starts (mg 769 (by decide +kernel) (by decide +kernel)) (mg 771 (by decide +kernel) (by decide +kernel)) (mgs 33 (by decide +kernel) (by decide +kernel)) (mg 7 (by decide +kernel) (by decide +kernel)) (mg 772 (by decide +kernel) (by decide +kernel)) (by decide +kernel)
  · exact CallOK.V (d := 5) (own := RX6) (i := 152) (n := 3) (ci := 6) (good_X6_becomesOf l) (by decide) (by decide) rfl (by decide) rec_X6_becomesOf (mg 823 (by decide +kernel) (by decide +kernel)) (mg 825 (by decide +kernel) (by decide +kernel)) (mgs 41 (by decide +kernel) (by decide +kernel)) (mg 7 (by decide +kernel) (by decide +kernel)) (mg 826 (by decide +kernel) (by decide +kernel)) (by decide +kernel)
  · exact CallOK.V (d := 5) (own := RX6) (i := 200) (n := 1) (ci := 6) (good_X6_visitsGo l) (by decide) (by decide) rfl (by decide) rec_X6_visitsGo (mg 849 (by decide +kernel) (by decide +kernel)) (mg 851 (by decide +kernel) (by decide +kernel)) (mgs 45 (by decide +kernel) (by decide +kernel)) (mg 7 (by decide +kernel) (by decide +kernel)) (mg 852 (by decide +kernel) (by decide +kernel)) (by decide +kernel)
  · exact CallOK.V (d := 5) (own := RX6) (i := 224) (n := 2) (ci := 6) (good_X6_judges l) (by decide) (by decide) rfl (by decide) rec_X6_judges (mg 889 (by decide +kernel) (by decide +kernel)) (mg 891 (by decide +kernel) (by decide +kernel)) (mgs 48 (by decide +kernel) (by decide +kernel)) (mg 7 (by decide +kernel) (by decide +kernel)) (mg 892 (by decide +kernel) (by decide +kernel)) (by decide +kernel)
  · exact CallOK.V (d := 5) (own := RX6) (i := 227) (n := 1) (ci := 6) (good_X6_judgedMore l) (by decide) (by decide) rfl (by decide) rec_X6_judgedMore (mg 893 (by decide +kernel) (by decide +kernel)) (mg 895 (by decide +kernel) (by decide +kernel)) (mgs 49 (by decide +kernel) (by decide +kernel)) (mg 7 (by decide +kernel) (by decide +kernel)) (mg 896 (by decide +kernel) (by decide +kernel)) (by decide +kernel)
set_option maxRecDepth 20000 in
set_option maxHeartbeats 4000000 in
theorem body_X6_kind (o : Nat) (i : Int) (n : Int) (w : Int) (μ : Mem) (K : List AV → Mem → Prop) (V : Nat → List (Option AV) → List AV → Mem → Prop) (hV : Clos FX6 CX6 G_X6_kind 1 K cX6_kind V) (hT : o = 66 ∧ (InR i ∧ InR n ∧ InR w ∧ MOK μ ∧ ∀ ν, MF μ ν → K [.inl (kindR (rI μ 67) i n w)] ν)) : V 0 [some (.inr (.inr o)), some (.inl i), some (.inl n), some (.inl w), none] [] μ := by
  simp only [InR] at hT
  obtain ⟨rfl, hi, hn, hw, hQ, hK⟩ := hT
  have h35 := hQ.1.1
  by_cases hc : (0 ≤ i ∧ i < rI μ 67 35) ∧ (0 ≤ n ∧ n ≤ 200) ∧ 0 ≤ w ∧ w ≤ 1
  · obtain ⟨i', rfl⟩ := Int.eq_ofNat_of_zero_le hc.1.1
    obtain ⟨n', rfl⟩ := Int.eq_ofNat_of_zero_le hc.2.1.1
    have h := lp_mkind V K hV μ hQ i' (by omega) n' (by omega) w (by omega) (fun ν hν => by
      have hk := hK ν hν
      unfold kindR at hk
      rw [if_pos hc, Int.toNat_natCast, Int.toNat_natCast] at hk
      exact hk) 4 0 (by omega) (wI (wI μ 66 18 (-4)) 66 19 1) ⟨fun k a b c d f j => by rw [rI_wI, rI_wI, if_neg (fun z => a z.1), if_neg (fun z => a z.1)], fun j hj => by rw [rI_wI, rI_wI, if_neg (by omega), if_neg (by omega)], fun _ _ => rfl⟩ (by simp [jd, rI_wI])
    apply hV [32] 40
    simp only [InR, InL, inb, Int.toNat_natCast, wp1, wpc_z, wpc_s, stp_iconst, stp_bipush, stp_sipush, stp_lconst, stp_iload_n, stp_iload, stp_lload_n, stp_lload, stp_aload_n, stp_aload, stp_istore_n, stp_istore, stp_lstore_n, stp_lstore, stp_astore_n, stp_astore, stp_iinc, stp_iadd, stp_isub, stp_imul, stp_ineg, stp_idiv, stp_irem, stp_ladd, stp_lmul, stp_ldiv, stp_lrem, stp_ishl, stp_ishr, stp_iushr, stp_iand, stp_ior, stp_i2l, stp_i2b, stp_i2s, stp_lcmp, stp_dup, stp_dup2, stp_pop, stp_ifCond, stp_if_icmp, stp_goto, stp_tableswitch, stp_lookupswitch, stp_ldc, stp_ldc_w, stp_ldc2_w, stp_getstatic, stp_getfield, stp_putfield, stp_iaload, stp_baload, stp_iastore, stp_bastore, stp_aaload, stp_aastore, stp_invokevirtual, stp_invokestatic, stp_ireturn, stp_lreturn, stp_return_, lg, lset, okl, spl, wd, c1, cnd, tg, swT, swL, f4_0, f4_1, f4_2, f4_3, f2_0, f2_1, List.mem_cons, List.not_mem_nil, List.length_cons, List.length_nil, List.cons_append, List.nil_append, Nat.reduceAdd, Nat.reduceMul, Nat.reduceLT, Nat.reduceEqDiff, Nat.reduceLeDiff, Int.reduceAdd, Int.reduceNeg, Int.reduceToNat, Int.cast_ofNat_Int, Int.reduceNatCast, Int.toNat_zero, Int.toNat_one, Int.reduceLE, Int.reduceLT, Int.reduceEq, Int.zero_add, Int.add_zero, or_false, false_or, or_true, true_or, and_true, true_and, and_false, false_and, reduceIte, not_true_eq_false, not_false_eq_true, forall_const, false_implies, true_implies, implies_true, ne_eq, reduceCtorEq, List.all_cons, List.all_nil, Bool.and_true, Bool.and_self, decide_eq_true_eq, decide_true, dX6_kind_0, dX6_kind_1, dX6_kind_2, dX6_kind_5, dX6_kind_8, dX6_kind_9, dX6_kind_12, dX6_kind_15, dX6_kind_16, dX6_kind_19, dX6_kind_22, dX6_kind_23, dX6_kind_24, dX6_kind_25, dX6_kind_26, dX6_kind_29, dX6_kind_30, dX6_kind_32, dX6_kind_34, dX6_kind_35, dX6_kind_38, dX6_kind_39, dX6_kind_42, dX6_kind_43, dX6_kind_44, dX6_kind_45, dX6_kind_47, dX6_kind_50, dX6_kind_51, dX6_kind_52, dX6_kind_55, dX6_kind_56, dX6_kind_58, dX6_kind_59, dX6_kind_62, dX6_kind_63, dX6_kind_66, dX6_kind_69, dX6_kind_72, dX6_kind_73, dX6_kind_74, dX6_kind_77, FX6_132, G_X6_kind_180, G_X6_kind_205, G_X6_kind_218, G_X6_kind_221, G_X6_kind_174, G_X6_kind_152, G_X6_kind_200, G_X6_kind_224, G_X6_kind_227, kd_66, T6_isStation, T6_isFar, T6_isPart, T6_startsJudging]
    repeat' (first | exact trivial | omega | (with_reducible assumption) | exact absurd trivial (by with_reducible assumption) | contradiction | apply And.intro | intro _)
  · have hk := hK μ MF.rf
    unfold kindR at hk
    rw [if_neg hc] at hk
    apply hV [24] 40
    simp only [InR, InL, inb, Int.toNat_natCast, wp1, wpc_z, wpc_s, stp_iconst, stp_bipush, stp_sipush, stp_lconst, stp_iload_n, stp_iload, stp_lload_n, stp_lload, stp_aload_n, stp_aload, stp_istore_n, stp_istore, stp_lstore_n, stp_lstore, stp_astore_n, stp_astore, stp_iinc, stp_iadd, stp_isub, stp_imul, stp_ineg, stp_idiv, stp_irem, stp_ladd, stp_lmul, stp_ldiv, stp_lrem, stp_ishl, stp_ishr, stp_iushr, stp_iand, stp_ior, stp_i2l, stp_i2b, stp_i2s, stp_lcmp, stp_dup, stp_dup2, stp_pop, stp_ifCond, stp_if_icmp, stp_goto, stp_tableswitch, stp_lookupswitch, stp_ldc, stp_ldc_w, stp_ldc2_w, stp_getstatic, stp_getfield, stp_putfield, stp_iaload, stp_baload, stp_iastore, stp_bastore, stp_aaload, stp_aastore, stp_invokevirtual, stp_invokestatic, stp_ireturn, stp_lreturn, stp_return_, lg, lset, okl, spl, wd, c1, cnd, tg, swT, swL, f4_0, f4_1, f4_2, f4_3, f2_0, f2_1, List.mem_cons, List.not_mem_nil, List.length_cons, List.length_nil, List.cons_append, List.nil_append, Nat.reduceAdd, Nat.reduceMul, Nat.reduceLT, Nat.reduceEqDiff, Nat.reduceLeDiff, Int.reduceAdd, Int.reduceNeg, Int.reduceToNat, Int.cast_ofNat_Int, Int.reduceNatCast, Int.toNat_zero, Int.toNat_one, Int.reduceLE, Int.reduceLT, Int.reduceEq, Int.zero_add, Int.add_zero, or_false, false_or, or_true, true_or, and_true, true_and, and_false, false_and, reduceIte, not_true_eq_false, not_false_eq_true, forall_const, false_implies, true_implies, implies_true, ne_eq, reduceCtorEq, List.all_cons, List.all_nil, Bool.and_true, Bool.and_self, decide_eq_true_eq, decide_true, dX6_kind_0, dX6_kind_1, dX6_kind_2, dX6_kind_5, dX6_kind_8, dX6_kind_9, dX6_kind_12, dX6_kind_15, dX6_kind_16, dX6_kind_19, dX6_kind_22, dX6_kind_23, dX6_kind_24, dX6_kind_25, dX6_kind_26, dX6_kind_29, dX6_kind_30, dX6_kind_32, dX6_kind_34, dX6_kind_35, dX6_kind_38, dX6_kind_39, dX6_kind_42, dX6_kind_43, dX6_kind_44, dX6_kind_45, dX6_kind_47, dX6_kind_50, dX6_kind_51, dX6_kind_52, dX6_kind_55, dX6_kind_56, dX6_kind_58, dX6_kind_59, dX6_kind_62, dX6_kind_63, dX6_kind_66, dX6_kind_69, dX6_kind_72, dX6_kind_73, dX6_kind_74, dX6_kind_77, FX6_132, G_X6_kind_180, G_X6_kind_205, G_X6_kind_218, G_X6_kind_221, G_X6_kind_174, G_X6_kind_152, G_X6_kind_200, G_X6_kind_224, G_X6_kind_227, kd_66, T6_isStation, T6_isFar, T6_isPart]
    repeat' (first | exact trivial | omega | (with_reducible assumption) | exact absurd trivial (by with_reducible assumption) | contradiction | apply And.intro | intro _)
theorem good_X6_kind (l : Launch) : Good l 5 yX6_kind cX6_kind 5 (some .int) T6_kind := by
  refine Good.mk 1 (by decide) rfl (by simp [retOK]) FOK6 COK6 (gk_X6_kind l) ?_ ?_
  · intro a μ K h
    unfold T6_kind at h
    split at h
    · simp [entl]
    · exact h.elim
  · intro a μ K V hV h
    unfold T6_kind at h
    split at h
    · exact body_X6_kind _ _ _ _ μ K V hV h
    · exact h.elim

