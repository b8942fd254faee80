/-! the class: the TAPE read -/
def TP (μ : Mem) (b : Nat → Int) (len : Nat) : Prop := rI μ 19 1 = len ∧ len ≤ 160 ∧ (∀ j, rI μ 20 j = b j) ∧ ∀ j, j < 160 → 0 ≤ b j ∧ b j ≤ 127
/-- nothing but the TAPE's own numbers has changed -/
def TFr (μ ν : Mem) : Prop := rI ν 19 1 = rI μ 19 1 ∧ (∀ k, k ≠ 19 → ∀ j, rI ν k j = rI μ k j) ∧ ∀ k j, rR ν k j = rR μ k j
theorem TFr.rf {μ : Mem} : TFr μ μ := ⟨rfl, fun _ _ _ => rfl, fun _ _ => rfl⟩
theorem TFr.tr {μ ν ρ : Mem} (h : TFr μ ν) (h2 : TFr ν ρ) : TFr μ ρ := ⟨h2.1.trans h.1, fun k hk j => (h2.2.1 k hk j).trans (h.2.1 k hk j), fun k j => (h2.2.2 k j).trans (h.2.2 k j)⟩
theorem TFr.w (μ : Mem) {j : Nat} (hj : j ≠ 1) (v : Int) : TFr μ (wI μ 19 j v) := ⟨by rw [rI_wI, if_neg (by omega)], fun k hk y => by rw [rI_wI, if_neg (fun z => hk z.1)], fun _ _ => rfl⟩
theorem TFr.tp {μ ν : Mem} {b : Nat → Int} {len : Nat} (h : TFr μ ν) (ht : TP μ b len) : TP ν b len := ⟨by rw [h.1]; exact ht.1, ht.2.1, fun j => by rw [h.2.1 20 (by omega)]; exact ht.2.2.1 j, ht.2.2.2⟩
/-- a TOKEN has been read, and it has that FAULT -/
def TA (μ ν : Mem) (b : Nat → Int) (len p : Nat) (c : Int) : Prop := rI ν 19 4 = tkN b len p ∧ rI ν 19 6 = tkF b len p ∧ rI ν 19 5 = tkS b len p ∧ rI ν 19 2 = c ∧ (c ≠ 0 → rI ν 19 3 = tkF b len p) ∧ TFr μ ν
def T4_blame : TT := fun a μ K => match a with
  | [.inr (.inr o), .inl w, .inl q] => o = 19 ∧ (K [] (wI (wI μ 19 2 w) 19 3 q))
  | _ => False
theorem rec_X4_blame : ∀ a μ K, T4_blame a μ K → ∃ k r, a = .inr (.inr k) :: r ∧ kd k = 4 := by
  intro a μ K h
  unfold T4_blame at h
  split at h
  · exact ⟨_, _, rfl, by rw [h.1]; rfl⟩
  · exact h.elim
def GL_X4_blame : List (Nat × Nat × Bool × TT) := []
def G_X4_blame : Nat → Option (Nat × Bool × TT) := fun i => GL_X4_blame.lookup i
theorem gk_X4_blame (l : Launch) : ∀ i n b T, G_X4_blame i = some (n, b, T) → CallOK l 0 RX4 i n b T := by
  intro i n b T h
  have hm : (i, n, b, T) ∈ GL_X4_blame := lk_mem h
  simp [GL_X4_blame] at hm
set_option maxRecDepth 20000 in
set_option maxHeartbeats 4000000 in
theorem body_X4_blame (o : Nat) (w : Int) (q : Int) (μ : Mem) (K : List AV → Mem → Prop) (V : Nat → List (Option AV) → List AV → Mem → Prop) (hV : Clos FX4 CX4 G_X4_blame 0 K cX4_blame V) (hT : o = 19 ∧ (K [] (wI (wI μ 19 2 w) 19 3 q))) : V 0 [some (.inr (.inr o)), some (.inl w), some (.inl q)] [] μ := by
  obtain ⟨rfl, hK⟩ := hT
  apply hV [] 20
  simp only [InR, InL, inb, Int.toNat_natCast, wp1, wpc_z, wpc_s, stp_iconst, stp_bipush, stp_sipush, stp_lconst, stp_iload_n, stp_iload, stp_lload_n, stp_lload, stp_aload_n, stp_aload, stp_istore_n, stp_istore, stp_lstore_n, stp_lstore, stp_astore_n, stp_astore, stp_iinc, stp_iadd, stp_isub, stp_imul, stp_ineg, stp_idiv, stp_irem, stp_ladd, stp_lmul, stp_ldiv, stp_lrem, stp_ishl, stp_ishr, stp_iushr, stp_iand, stp_ior, stp_i2l, stp_i2b, stp_i2s, stp_lcmp, stp_dup, stp_dup2, stp_pop, stp_ifCond, stp_if_icmp, stp_goto, stp_tableswitch, stp_lookupswitch, stp_ldc, stp_ldc_w, stp_ldc2_w, stp_getstatic, stp_getfield, stp_putfield, stp_iaload, stp_baload, stp_iastore, stp_bastore, stp_aaload, stp_aastore, stp_invokevirtual, stp_invokestatic, stp_ireturn, stp_lreturn, stp_return_, lg, lset, okl, spl, wd, c1, cnd, tg, swT, swL, f4_0, f4_1, f4_2, f4_3, f2_0, f2_1, List.mem_cons, List.not_mem_nil, List.length_cons, List.length_nil, List.cons_append, List.nil_append, Nat.reduceAdd, Nat.reduceMul, Nat.reduceLT, Nat.reduceEqDiff, Nat.reduceLeDiff, Int.reduceAdd, Int.reduceNeg, Int.reduceToNat, Int.cast_ofNat_Int, Int.reduceNatCast, Int.toNat_zero, Int.toNat_one, Int.reduceLE, Int.reduceLT, Int.reduceEq, Int.zero_add, Int.add_zero, or_false, false_or, or_true, true_or, and_true, true_and, and_false, false_and, reduceIte, not_true_eq_false, not_false_eq_true, forall_const, false_implies, true_implies, implies_true, ne_eq, reduceCtorEq, List.all_cons, List.all_nil, Bool.and_true, Bool.and_self, decide_eq_true_eq, decide_true, dX4_blame_0, dX4_blame_1, dX4_blame_2, dX4_blame_5, dX4_blame_6, dX4_blame_7, dX4_blame_10, FX4_20, FX4_119, kd_19]
  exact hK
theorem good_X4_blame (l : Launch) : Good l 0 yX4_blame cX4_blame 3 none T4_blame := by
  refine Good.mk 0 (by decide) rfl (by simp [retOK]) FOK4 COK4 (gk_X4_blame l) ?_ ?_
  · intro a μ K h
    unfold T4_blame at h
    split at h
    · simp [entl]
    · exact h.elim
  · intro a μ K V hV h
    unfold T4_blame at h
    split at h
    · exact body_X4_blame _ _ _ μ K V hV h
    · exact h.elim

def T4_sortAt : TT := fun a μ K => match a with
  | [.inr (.inr o), .inl i] => o = 19 ∧ (∃ (b : Nat → Int) (len p : Nat), TP μ b len ∧ i = p ∧ p ≤ 1000 ∧ K [.inl (cL (bY b len p))] μ)
  | _ => False
theorem rec_X4_sortAt : ∀ a μ K, T4_sortAt a μ K → ∃ k r, a = .inr (.inr k) :: r ∧ kd k = 4 := by
  intro a μ K h
  unfold T4_sortAt at h
  split at h
  · exact ⟨_, _, rfl, by rw [h.1]; rfl⟩
  · exact h.elim
def GL_X4_sortAt : List (Nat × Nat × Bool × TT) := []
def G_X4_sortAt : Nat → Option (Nat × Bool × TT) := fun i => GL_X4_sortAt.lookup i
theorem gk_X4_sortAt (l : Launch) : ∀ i n b T, G_X4_sortAt i = some (n, b, T) → CallOK l 0 RX4 i n b T := by
  intro i n b T h
  have hm : (i, n, b, T) ∈ GL_X4_sortAt := lk_mem h
  simp [GL_X4_sortAt] at hm
set_option maxRecDepth 20000 in
set_option maxHeartbeats 4000000 in
theorem body_X4_sortAt (o : Nat) (i : Int) (μ : Mem) (K : List AV → Mem → Prop) (V : Nat → List (Option AV) → List AV → Mem → Prop) (hV : Clos FX4 CX4 G_X4_sortAt 1 K cX4_sortAt V) (hT : o = 19 ∧ (∃ (b : Nat → Int) (len p : Nat), TP μ b len ∧ i = p ∧ p ≤ 1000 ∧ K [.inl (cL (bY b len p))] μ)) : V 0 [some (.inr (.inr o)), some (.inl i), none] [] μ := by
  obtain ⟨rfl, b, len, p, ⟨t1, t2, t3, t4⟩, rfl, hp, hK⟩ := hT
  unfold bY at hK
  apply hV [] 40
  simp only [InR, InL, inb, Int.toNat_natCast, wp1, wpc_z, wpc_s, stp_iconst, stp_bipush, stp_sipush, stp_lconst, stp_iload_n, stp_iload, stp_lload_n, stp_lload, stp_aload_n, stp_aload, stp_istore_n, stp_istore, stp_lstore_n, stp_lstore, stp_astore_n, stp_astore, stp_iinc, stp_iadd, stp_isub, stp_imul, stp_ineg, stp_idiv, stp_irem, stp_ladd, stp_lmul, stp_ldiv, stp_lrem, stp_ishl, stp_ishr, stp_iushr, stp_iand, stp_ior, stp_i2l, stp_i2b, stp_i2s, stp_lcmp, stp_dup, stp_dup2, stp_pop, stp_ifCond, stp_if_icmp, stp_goto, stp_tableswitch, stp_lookupswitch, stp_ldc, stp_ldc_w, stp_ldc2_w, stp_getstatic, stp_getfield, stp_putfield, stp_iaload, stp_baload, stp_iastore, stp_bastore, stp_aaload, stp_aastore, stp_invokevirtual, stp_invokestatic, stp_ireturn, stp_lreturn, stp_return_, lg, lset, okl, spl, wd, c1, cnd, tg, swT, swL, f4_0, f4_1, f4_2, f4_3, f2_0, f2_1, List.mem_cons, List.not_mem_nil, List.length_cons, List.length_nil, List.cons_append, List.nil_append, Nat.reduceAdd, Nat.reduceMul, Nat.reduceLT, Nat.reduceEqDiff, Nat.reduceLeDiff, Int.reduceAdd, Int.reduceNeg, Int.reduceToNat, Int.cast_ofNat_Int, Int.reduceNatCast, Int.toNat_zero, Int.toNat_one, Int.reduceLE, Int.reduceLT, Int.reduceEq, Int.zero_add, Int.add_zero, or_false, false_or, or_true, true_or, and_true, true_and, and_false, false_and, reduceIte, not_true_eq_false, not_false_eq_true, forall_const, false_implies, true_implies, implies_true, ne_eq, reduceCtorEq, List.all_cons, List.all_nil, Bool.and_true, Bool.and_self, decide_eq_true_eq, decide_true, dX4_sortAt_0, dX4_sortAt_1, dX4_sortAt_2, dX4_sortAt_5, dX4_sortAt_8, dX4_sortAt_9, dX4_sortAt_10, dX4_sortAt_11, dX4_sortAt_14, dX4_sortAt_15, dX4_sortAt_16, dX4_sortAt_17, dX4_sortAt_18, dX4_sortAt_20, dX4_sortAt_23, dX4_sortAt_24, dX4_sortAt_26, dX4_sortAt_29, dX4_sortAt_30, dX4_sortAt_31, dX4_sortAt_32, dX4_sortAt_34, dX4_sortAt_37, dX4_sortAt_38, dX4_sortAt_40, dX4_sortAt_43, dX4_sortAt_44, dX4_sortAt_45, dX4_sortAt_46, dX4_sortAt_48, dX4_sortAt_51, dX4_sortAt_52, dX4_sortAt_55, dX4_sortAt_56, FX4_50, FX4_9, kd_19, kd_20, ln_20, t1, t3]
  by_cases z : p < len
  · rw [if_pos z] at hK
    have hb := t4 p (by omega)
    unfold cL at hK
    rw [if_neg (by omega)] at hK
    by_cases z1 : 97 ≤ b p ∧ b p ≤ 122
    · rw [if_pos z1] at hK
      repeat' (first | exact trivial | omega | (with_reducible assumption) | exact absurd trivial (by with_reducible assumption) | contradiction | apply And.intro | intro _)
    · rw [if_neg z1] at hK
      by_cases z2 : 48 ≤ b p ∧ b p ≤ 57
      · rw [if_pos z2] at hK
        repeat' (first | exact trivial | omega | (with_reducible assumption) | exact absurd trivial (by with_reducible assumption) | contradiction | apply And.intro | intro _)
      · rw [if_neg z2] at hK
        by_cases z3 : b p = 59
        · rw [if_pos z3] at hK
          repeat' (first | exact trivial | omega | (with_reducible assumption) | exact absurd trivial (by with_reducible assumption) | contradiction | apply And.intro | intro _)
        · rw [if_neg z3] at hK
          repeat' (first | exact trivial | omega | (with_reducible assumption) | exact absurd trivial (by with_reducible assumption) | contradiction | apply And.intro | intro _)
  · rw [if_neg z] at hK
    have e : cL (-1) = 0 := rfl
    rw [e] at hK
    repeat' (first | exact trivial | omega | (with_reducible assumption) | exact absurd trivial (by with_reducible assumption) | contradiction | apply And.intro | intro _)
theorem good_X4_sortAt (l : Launch) : Good l 0 yX4_sortAt cX4_sortAt 3 (some .int) T4_sortAt := by
  refine Good.mk 1 (by decide) rfl (by simp [retOK]) FOK4 COK4 (gk_X4_sortAt l) ?_ ?_
  · intro a μ K h
    unfold T4_sortAt at h
    split at h
    · simp [entl]
    · exact h.elim
  · intro a μ K V hV h
    unfold T4_sortAt at h
    split at h
    · exact body_X4_sortAt _ _ μ K V hV h
    · exact h.elim

def A2 (μ ν : Mem) (q : Nat) : Prop := rI ν 19 4 = q ∧ rI ν 19 2 = rI μ 19 2 ∧ TFr μ ν
theorem A2.w {μ ν : Mem} {q : Nat} (h : A2 μ ν q) {j : Nat} (h1 : j ≠ 1) (h2 : j ≠ 2) (h4 : j ≠ 4) (v : Int) : A2 μ (wI ν 19 j v) q := ⟨by rw [rI_wI, if_neg (by omega)]; exact h.1, by rw [rI_wI, if_neg (by omega)]; exact h.2.1, h.2.2.tr (TFr.w ν h1 v)⟩
theorem A2.n {μ ν : Mem} {q : Nat} (h : A2 μ ν q) (q' : Nat) {v : Int} (hv : v = q') : A2 μ (wI ν 19 4 v) q' := ⟨by rw [rI_wI, if_pos ⟨rfl, rfl⟩]; exact hv, by rw [rI_wI, if_neg (by omega)]; exact h.2.1, h.2.2.tr (TFr.w ν (by omega) v)⟩
def GL_X4_advance : List (Nat × Nat × Bool × TT) := [(115, 2, false, T4_sortAt), (53, 3, false, T4_blame)]
def G_X4_advance : Nat → Option (Nat × Bool × TT) := fun i => GL_X4_advance.lookup i
theorem G_X4_advance_115 : G_X4_advance 115 = some (2, false, T4_sortAt) := rfl
theorem G_X4_advance_53 : G_X4_advance 53 = some (3, false, T4_blame) := rfl

set_option maxRecDepth 20000 in
set_option maxHeartbeats 4000000 in
theorem lp_adv1 (V : Nat → List (Option AV) → List AV → Mem → Prop) (K : List AV → Mem → Prop) (hV : Clos FX4 CX4 G_X4_advance 0 K cX4_advance V) (μ : Mem) (b : Nat → Int) (len F : Nat) (ht : TP μ b len) (hK : ∀ ν, A2 μ ν F → V 38 [some (.inr (.inr 19)), none] [] ν) : ∀ m q : Nat, q + m = len → skF b len m q = F → ∀ ν, A2 μ ν q → V 0 [some (.inr (.inr 19)), none] [] ν := by
  intro m
  induction m with
  | zero =>
    intro q hq hF ν hA
    obtain ⟨t1, t2, t3, t4⟩ := hA.2.2.tp ht
    have e4 := hA.1
    simp only [skF] at hF
    subst hF
    have hk := hK ν hA
    apply hV [0, 38] 30
    simp only [InR, InL, inb, Int.toNat_natCast, wp1, wpc_z, wpc_s, stp_iconst, stp_bipush, stp_sipush, stp_lconst, stp_iload_n, stp_iload, stp_lload_n, stp_lload, stp_aload_n, stp_aload, stp_istore_n, stp_istore, stp_lstore_n, stp_lstore, stp_astore_n, stp_astore, stp_iinc, stp_iadd, stp_isub, stp_imul, stp_ineg, stp_idiv, stp_irem, stp_ladd, stp_lmul, stp_ldiv, stp_lrem, stp_ishl, stp_ishr, stp_iushr, stp_iand, stp_ior, stp_i2l, stp_i2b, stp_i2s, stp_lcmp, stp_dup, stp_dup2, stp_pop, stp_ifCond, stp_if_icmp, stp_goto, stp_tableswitch, stp_lookupswitch, stp_ldc, stp_ldc_w, stp_ldc2_w, stp_getstatic, stp_getfield, stp_putfield, stp_iaload, stp_baload, stp_iastore, stp_bastore, stp_aaload, stp_aastore, stp_invokevirtual, stp_invokestatic, stp_ireturn, stp_lreturn, stp_return_, lg, lset, okl, spl, wd, c1, cnd, tg, swT, swL, f4_0, f4_1, f4_2, f4_3, f2_0, f2_1, List.mem_cons, List.not_mem_nil, List.length_cons, List.length_nil, List.cons_append, List.nil_append, Nat.reduceAdd, Nat.reduceMul, Nat.reduceLT, Nat.reduceEqDiff, Nat.reduceLeDiff, Int.reduceAdd, Int.reduceNeg, Int.reduceToNat, Int.cast_ofNat_Int, Int.reduceNatCast, Int.toNat_zero, Int.toNat_one, Int.reduceLE, Int.reduceLT, Int.reduceEq, Int.zero_add, Int.add_zero, or_false, false_or, or_true, true_or, and_true, true_and, and_false, false_and, reduceIte, not_true_eq_false, not_false_eq_true, forall_const, false_implies, true_implies, implies_true, ne_eq, reduceCtorEq, List.all_cons, List.all_nil, Bool.and_true, Bool.and_self, decide_eq_true_eq, decide_true, dX4_advance_0, dX4_advance_1, dX4_advance_4, dX4_advance_5, dX4_advance_8, dX4_advance_11, dX4_advance_12, dX4_advance_15, dX4_advance_16, dX4_advance_19, dX4_advance_20, dX4_advance_22, dX4_advance_25, dX4_advance_26, dX4_advance_27, dX4_advance_30, dX4_advance_31, dX4_advance_32, dX4_advance_35, dX4_advance_38, dX4_advance_39, dX4_advance_40, dX4_advance_43, dX4_advance_46, dX4_advance_47, dX4_advance_48, dX4_advance_49, dX4_advance_52, dX4_advance_55, dX4_advance_58, dX4_advance_59, dX4_advance_62, dX4_advance_65, dX4_advance_66, dX4_advance_67, dX4_advance_70, dX4_advance_71, dX4_advance_72, dX4_advance_75, dX4_advance_76, dX4_advance_79, dX4_advance_80, dX4_advance_83, dX4_advance_84, dX4_advance_87, dX4_advance_88, dX4_advance_91, dX4_advance_92, dX4_advance_95, dX4_advance_96, dX4_advance_97, dX4_advance_98, dX4_advance_101, dX4_advance_102, dX4_advance_105, dX4_advance_106, dX4_advance_109, dX4_advance_112, dX4_advance_113, dX4_advance_114, dX4_advance_117, dX4_advance_120, dX4_advance_121, dX4_advance_124, dX4_advance_127, dX4_advance_128, dX4_advance_129, dX4_advance_132, dX4_advance_133, dX4_advance_134, dX4_advance_137, dX4_advance_140, dX4_advance_141, dX4_advance_144, dX4_advance_145, dX4_advance_148, dX4_advance_149, dX4_advance_152, dX4_advance_153, dX4_advance_156, dX4_advance_157, dX4_advance_160, dX4_advance_161, dX4_advance_164, dX4_advance_165, dX4_advance_166, dX4_advance_169, dX4_advance_170, dX4_advance_171, dX4_advance_172, dX4_advance_175, dX4_advance_178, FX4_24, FX4_50, FX4_9, FX4_61, FX4_30, G_X4_advance_115, G_X4_advance_53, kd_19, t1, e4]
    repeat' (first | exact trivial | omega | (with_reducible assumption) | exact absurd trivial (by with_reducible assumption) | contradiction | apply And.intro | intro _)
  | succ m ih =>
    intro q hq hF ν hA
    obtain ⟨t1, t2, t3, t4⟩ := hA.2.2.tp ht
    have e4 := hA.1
    have hb := t4 q (by omega)
    have eb : bY b len q = b q := if_pos (by omega)
    simp only [skF, eb] at hF
    by_cases z : b q = 32
    · rw [if_pos z] at hF
      have h := ih (q + 1) (by omega) hF _ (hA.n (q + 1) (v := (q : Int) + 1) (by omega))
      apply hV [0, 38] 30
      simp only [InR, InL, inb, Int.toNat_natCast, wp1, wpc_z, wpc_s, stp_iconst, stp_bipush, stp_sipush, stp_lconst, stp_iload_n, stp_iload, stp_lload_n, stp_lload, stp_aload_n, stp_aload, stp_istore_n, stp_istore, stp_lstore_n, stp_lstore, stp_astore_n, stp_astore, stp_iinc, stp_iadd, stp_isub, stp_imul, stp_ineg, stp_idiv, stp_irem, stp_ladd, stp_lmul, stp_ldiv, stp_lrem, stp_ishl, stp_ishr, stp_iushr, stp_iand, stp_ior, stp_i2l, stp_i2b, stp_i2s, stp_lcmp, stp_dup, stp_dup2, stp_pop, stp_ifCond, stp_if_icmp, stp_goto, stp_tableswitch, stp_lookupswitch, stp_ldc, stp_ldc_w, stp_ldc2_w, stp_getstatic, stp_getfield, stp_putfield, stp_iaload, stp_baload, stp_iastore, stp_bastore, stp_aaload, stp_aastore, stp_invokevirtual, stp_invokestatic, stp_ireturn, stp_lreturn, stp_return_, lg, lset, okl, spl, wd, c1, cnd, tg, swT, swL, f4_0, f4_1, f4_2, f4_3, f2_0, f2_1, List.mem_cons, List.not_mem_nil, List.length_cons, List.length_nil, List.cons_append, List.nil_append, Nat.reduceAdd, Nat.reduceMul, Nat.reduceLT, Nat.reduceEqDiff, Nat.reduceLeDiff, Int.reduceAdd, Int.reduceNeg, Int.reduceToNat, Int.cast_ofNat_Int, Int.reduceNatCast, Int.toNat_zero, Int.toNat_one, Int.reduceLE, Int.reduceLT, Int.reduceEq, Int.zero_add, Int.add_zero, or_false, false_or, or_true, true_or, and_true, true_and, and_false, false_and, reduceIte, not_true_eq_false, not_false_eq_true, forall_const, false_implies, true_implies, implies_true, ne_eq, reduceCtorEq, List.all_cons, List.all_nil, Bool.and_true, Bool.and_self, decide_eq_true_eq, decide_true, dX4_advance_0, dX4_advance_1, dX4_advance_4, dX4_advance_5, dX4_advance_8, dX4_advance_11, dX4_advance_12, dX4_advance_15, dX4_advance_16, dX4_advance_19, dX4_advance_20, dX4_advance_22, dX4_advance_25, dX4_advance_26, dX4_advance_27, dX4_advance_30, dX4_advance_31, dX4_advance_32, dX4_advance_35, dX4_advance_38, dX4_advance_39, dX4_advance_40, dX4_advance_43, dX4_advance_46, dX4_advance_47, dX4_advance_48, dX4_advance_49, dX4_advance_52, dX4_advance_55, dX4_advance_58, dX4_advance_59, dX4_advance_62, dX4_advance_65, dX4_advance_66, dX4_advance_67, dX4_advance_70, dX4_advance_71, dX4_advance_72, dX4_advance_75, dX4_advance_76, dX4_advance_79, dX4_advance_80, dX4_advance_83, dX4_advance_84, dX4_advance_87, dX4_advance_88, dX4_advance_91, dX4_advance_92, dX4_advance_95, dX4_advance_96, dX4_advance_97, dX4_advance_98, dX4_advance_101, dX4_advance_102, dX4_advance_105, dX4_advance_106, dX4_advance_109, dX4_advance_112, dX4_advance_113, dX4_advance_114, dX4_advance_117, dX4_advance_120, dX4_advance_121, dX4_advance_124, dX4_advance_127, dX4_advance_128, dX4_advance_129, dX4_advance_132, dX4_advance_133, dX4_advance_134, dX4_advance_137, dX4_advance_140, dX4_advance_141, dX4_advance_144, dX4_advance_145, dX4_advance_148, dX4_advance_149, dX4_advance_152, dX4_advance_153, dX4_advance_156, dX4_advance_157, dX4_advance_160, dX4_advance_161, dX4_advance_164, dX4_advance_165, dX4_advance_166, dX4_advance_169, dX4_advance_170, dX4_advance_171, dX4_advance_172, dX4_advance_175, dX4_advance_178, FX4_24, FX4_50, FX4_9, FX4_61, FX4_30, G_X4_advance_115, G_X4_advance_53, kd_19, kd_20, ln_20, t1, t3, e4]
      repeat' (first | exact trivial | omega | (with_reducible assumption) | exact absurd trivial (by with_reducible assumption) | contradiction | apply And.intro | intro _)
    · rw [if_neg z] at hF
      subst hF
      have hk := hK ν hA
      apply hV [0, 38] 30
      simp only [InR, InL, inb, Int.toNat_natCast, wp1, wpc_z, wpc_s, stp_iconst, stp_bipush, stp_sipush, stp_lconst, stp_iload_n, stp_iload, stp_lload_n, stp_lload, stp_aload_n, stp_aload, stp_istore_n, stp_istore, stp_lstore_n, stp_lstore, stp_astore_n, stp_astore, stp_iinc, stp_iadd, stp_isub, stp_imul, stp_ineg, stp_idiv, stp_irem, stp_ladd, stp_lmul, stp_ldiv, stp_lrem, stp_ishl, stp_ishr, stp_iushr, stp_iand, stp_ior, stp_i2l, stp_i2b, stp_i2s, stp_lcmp, stp_dup, stp_dup2, stp_pop, stp_ifCond, stp_if_icmp, stp_goto, stp_tableswitch, stp_lookupswitch, stp_ldc, stp_ldc_w, stp_ldc2_w, stp_getstatic, stp_getfield, stp_putfield, stp_iaload, stp_baload, stp_iastore, stp_bastore, stp_aaload, stp_aastore, stp_invokevirtual, stp_invokestatic, stp_ireturn, stp_lreturn, stp_return_, lg, lset, okl, spl, wd, c1, cnd, tg, swT, swL, f4_0, f4_1, f4_2, f4_3, f2_0, f2_1, List.mem_cons, List.not_mem_nil, List.length_cons, List.length_nil, List.cons_append, List.nil_append, Nat.reduceAdd, Nat.reduceMul, Nat.reduceLT, Nat.reduceEqDiff, Nat.reduceLeDiff, Int.reduceAdd, Int.reduceNeg, Int.reduceToNat, Int.cast_ofNat_Int, Int.reduceNatCast, Int.toNat_zero, Int.toNat_one, Int.reduceLE, Int.reduceLT, Int.reduceEq, Int.zero_add, Int.add_zero, or_false, false_or, or_true, true_or, and_true, true_and, and_false, false_and, reduceIte, not_true_eq_false, not_false_eq_true, forall_const, false_implies, true_implies, implies_true, ne_eq, reduceCtorEq, List.all_cons, List.all_nil, Bool.and_true, Bool.and_self, decide_eq_true_eq, decide_true, dX4_advance_0, dX4_advance_1, dX4_advance_4, dX4_advance_5, dX4_advance_8, dX4_advance_11, dX4_advance_12, dX4_advance_15, dX4_advance_16, dX4_advance_19, dX4_advance_20, dX4_advance_22, dX4_advance_25, dX4_advance_26, dX4_advance_27, dX4_advance_30, dX4_advance_31, dX4_advance_32, dX4_advance_35, dX4_advance_38, dX4_advance_39, dX4_advance_40, dX4_advance_43, dX4_advance_46, dX4_advance_47, dX4_advance_48, dX4_advance_49, dX4_advance_52, dX4_advance_55, dX4_advance_58, dX4_advance_59, dX4_advance_62, dX4_advance_65, dX4_advance_66, dX4_advance_67, dX4_advance_70, dX4_advance_71, dX4_advance_72, dX4_advance_75, dX4_advance_76, dX4_advance_79, dX4_advance_80, dX4_advance_83, dX4_advance_84, dX4_advance_87, dX4_advance_88, dX4_advance_91, dX4_advance_92, dX4_advance_95, dX4_advance_96, dX4_advance_97, dX4_advance_98, dX4_advance_101, dX4_advance_102, dX4_advance_105, dX4_advance_106, dX4_advance_109, dX4_advance_112, dX4_advance_113, dX4_advance_114, dX4_advance_117, dX4_advance_120, dX4_advance_121, dX4_advance_124, dX4_advance_127, dX4_advance_128, dX4_advance_129, dX4_advance_132, dX4_advance_133, dX4_advance_134, dX4_advance_137, dX4_advance_140, dX4_advance_141, dX4_advance_144, dX4_advance_145, dX4_advance_148, dX4_advance_149, dX4_advance_152, dX4_advance_153, dX4_advance_156, dX4_advance_157, dX4_advance_160, dX4_advance_161, dX4_advance_164, dX4_advance_165, dX4_advance_166, dX4_advance_169, dX4_advance_170, dX4_advance_171, dX4_advance_172, dX4_advance_175, dX4_advance_178, FX4_24, FX4_50, FX4_9, FX4_61, FX4_30, G_X4_advance_115, G_X4_advance_53, kd_19, kd_20, ln_20, t1, t3, e4]
      repeat' (first | exact trivial | omega | (with_reducible assumption) | exact absurd trivial (by with_reducible assumption) | contradiction | apply And.intro | intro _)
set_option maxRecDepth 20000 in
set_option maxHeartbeats 4000000 in
theorem lp_adv2 (V : Nat → List (Option AV) → List AV → Mem → Prop) (K : List AV → Mem → Prop) (hV : Clos FX4 CX4 G_X4_advance 0 K cX4_advance V) (μ : Mem) (b : Nat → Int) (len F N : Nat) (s : Int) (hs : s = 1 ∨ s = 2) (ht : TP μ b len) (hK : ∀ ν, A2 μ ν N → rI ν 19 6 = F → rI ν 19 5 = s → V 140 [some (.inr (.inr 19)), some (.inl 1)] [] ν) : ∀ m q : Nat, q + m = len → rnF b len s m q = N → ∀ ν, A2 μ ν q → rI ν 19 6 = F → rI ν 19 5 = s → V 97 [some (.inr (.inr 19)), some (.inl 1)] [] ν := by
  intro m
  induction m with
  | zero =>
    intro q hq hF ν hA h6 h5
    obtain ⟨t1, t2, t3, t4⟩ := hA.2.2.tp ht
    have e4 := hA.1
    simp only [rnF] at hF
    subst hF
    have hk := hK ν hA h6 h5
    apply hV [97, 140] 30
    simp only [InR, InL, inb, Int.toNat_natCast, wp1, wpc_z, wpc_s, stp_iconst, stp_bipush, stp_sipush, stp_lconst, stp_iload_n, stp_iload, stp_lload_n, stp_lload, stp_aload_n, stp_aload, stp_istore_n, stp_istore, stp_lstore_n, stp_lstore, stp_astore_n, stp_astore, stp_iinc, stp_iadd, stp_isub, stp_imul, stp_ineg, stp_idiv, stp_irem, stp_ladd, stp_lmul, stp_ldiv, stp_lrem, stp_ishl, stp_ishr, stp_iushr, stp_iand, stp_ior, stp_i2l, stp_i2b, stp_i2s, stp_lcmp, stp_dup, stp_dup2, stp_pop, stp_ifCond, stp_if_icmp, stp_goto, stp_tableswitch, stp_lookupswitch, stp_ldc, stp_ldc_w, stp_ldc2_w, stp_getstatic, stp_getfield, stp_putfield, stp_iaload, stp_baload, stp_iastore, stp_bastore, stp_aaload, stp_aastore, stp_invokevirtual, stp_invokestatic, stp_ireturn, stp_lreturn, stp_return_, lg, lset, okl, spl, wd, c1, cnd, tg, swT, swL, f4_0, f4_1, f4_2, f4_3, f2_0, f2_1, List.mem_cons, List.not_mem_nil, List.length_cons, List.length_nil, List.cons_append, List.nil_append, Nat.reduceAdd, Nat.reduceMul, Nat.reduceLT, Nat.reduceEqDiff, Nat.reduceLeDiff, Int.reduceAdd, Int.reduceNeg, Int.reduceToNat, Int.cast_ofNat_Int, Int.reduceNatCast, Int.toNat_zero, Int.toNat_one, Int.reduceLE, Int.reduceLT, Int.reduceEq, Int.zero_add, Int.add_zero, or_false, false_or, or_true, true_or, and_true, true_and, and_false, false_and, reduceIte, not_true_eq_false, not_false_eq_true, forall_const, false_implies, true_implies, implies_true, ne_eq, reduceCtorEq, List.all_cons, List.all_nil, Bool.and_true, Bool.and_self, decide_eq_true_eq, decide_true, dX4_advance_0, dX4_advance_1, dX4_advance_4, dX4_advance_5, dX4_advance_8, dX4_advance_11, dX4_advance_12, dX4_advance_15, dX4_advance_16, dX4_advance_19, dX4_advance_20, dX4_advance_22, dX4_advance_25, dX4_advance_26, dX4_advance_27, dX4_advance_30, dX4_advance_31, dX4_advance_32, dX4_advance_35, dX4_advance_38, dX4_advance_39, dX4_advance_40, dX4_advance_43, dX4_advance_46, dX4_advance_47, dX4_advance_48, dX4_advance_49, dX4_advance_52, dX4_advance_55, dX4_advance_58, dX4_advance_59, dX4_advance_62, dX4_advance_65, dX4_advance_66, dX4_advance_67, dX4_advance_70, dX4_advance_71, dX4_advance_72, dX4_advance_75, dX4_advance_76, dX4_advance_79, dX4_advance_80, dX4_advance_83, dX4_advance_84, dX4_advance_87, dX4_advance_88, dX4_advance_91, dX4_advance_92, dX4_advance_95, dX4_advance_96, dX4_advance_97, dX4_advance_98, dX4_advance_101, dX4_advance_102, dX4_advance_105, dX4_advance_106, dX4_advance_109, dX4_advance_112, dX4_advance_113, dX4_advance_114, dX4_advance_117, dX4_advance_120, dX4_advance_121, dX4_advance_124, dX4_advance_127, dX4_advance_128, dX4_advance_129, dX4_advance_132, dX4_advance_133, dX4_advance_134, dX4_advance_137, dX4_advance_140, dX4_advance_141, dX4_advance_144, dX4_advance_145, dX4_advance_148, dX4_advance_149, dX4_advance_152, dX4_advance_153, dX4_advance_156, dX4_advance_157, dX4_advance_160, dX4_advance_161, dX4_advance_164, dX4_advance_165, dX4_advance_166, dX4_advance_169, dX4_advance_170, dX4_advance_171, dX4_advance_172, dX4_advance_175, dX4_advance_178, FX4_24, FX4_50, FX4_9, FX4_61, FX4_30, G_X4_advance_115, G_X4_advance_53, kd_19, t1, e4]
    repeat' (first | exact trivial | omega | (with_reducible assumption) | exact absurd trivial (by with_reducible assumption) | contradiction | apply And.intro | intro _)
  | succ m ih =>
    intro q hq hF ν hA h6 h5
    have htp := hA.2.2.tp ht
    obtain ⟨t1, t2, t3, t4⟩ := hA.2.2.tp ht
    have e4 := hA.1
    have hcl := cL_in (bY b len q)
    simp only [rnF] at hF
    have main : ∃ (b_1 : Nat → Int) (len_1 p : Nat), TP ν b_1 len_1 ∧ (q : Int) = p ∧ p ≤ 1000 ∧ ((-2147483648 ≤ cL (bY b_1 len_1 p) ∧ cL (bY b_1 len_1 p) < 2147483648) ∧ (-2147483648 ≤ s ∧ s < 2147483648) ∧ (¬ cL (bY b_1 len_1 p) = s → V 140 [some (.inr (.inr 19)), some (.inl 1)] [] ν) ∧ (¬ ¬ cL (bY b_1 len_1 p) = s → V 97 [some (.inr (.inr 19)), some (.inl 1)] [] (wI ν 19 4 ((q : Int) + 1)))) := by
      refine ⟨b, len, q, htp, rfl, by omega, by omega, by omega, fun z => ?_, fun z => ?_⟩
      · rw [if_neg z] at hF
        subst hF
        exact hK ν hA h6 h5
      · rw [if_pos (Classical.not_not.mp z)] at hF
        exact ih (q + 1) (by omega) hF _ (hA.n (q + 1) (v := (q : Int) + 1) (by omega)) (by rw [rI_wI, if_neg (by omega)]; exact h6) (by rw [rI_wI, if_neg (by omega)]; exact h5)
    clear ih hK
    apply hV [97, 140] 30
    simp only [InR, InL, inb, Int.toNat_natCast, wp1, wpc_z, wpc_s, stp_iconst, stp_bipush, stp_sipush, stp_lconst, stp_iload_n, stp_iload, stp_lload_n, stp_lload, stp_aload_n, stp_aload, stp_istore_n, stp_istore, stp_lstore_n, stp_lstore, stp_astore_n, stp_astore, stp_iinc, stp_iadd, stp_isub, stp_imul, stp_ineg, stp_idiv, stp_irem, stp_ladd, stp_lmul, stp_ldiv, stp_lrem, stp_ishl, stp_ishr, stp_iushr, stp_iand, stp_ior, stp_i2l, stp_i2b, stp_i2s, stp_lcmp, stp_dup, stp_dup2, stp_pop, stp_ifCond, stp_if_icmp, stp_goto, stp_tableswitch, stp_lookupswitch, stp_ldc, stp_ldc_w, stp_ldc2_w, stp_getstatic, stp_getfield, stp_putfield, stp_iaload, stp_baload, stp_iastore, stp_bastore, stp_aaload, stp_aastore, stp_invokevirtual, stp_invokestatic, stp_ireturn, stp_lreturn, stp_return_, lg, lset, okl, spl, wd, c1, cnd, tg, swT, swL, f4_0, f4_1, f4_2, f4_3, f2_0, f2_1, List.mem_cons, List.not_mem_nil, List.length_cons, List.length_nil, List.cons_append, List.nil_append, Nat.reduceAdd, Nat.reduceMul, Nat.reduceLT, Nat.reduceEqDiff, Nat.reduceLeDiff, Int.reduceAdd, Int.reduceNeg, Int.reduceToNat, Int.cast_ofNat_Int, Int.reduceNatCast, Int.toNat_zero, Int.toNat_one, Int.reduceLE, Int.reduceLT, Int.reduceEq, Int.zero_add, Int.add_zero, or_false, false_or, or_true, true_or, and_true, true_and, and_false, false_and, reduceIte, not_true_eq_false, not_false_eq_true, forall_const, false_implies, true_implies, implies_true, ne_eq, reduceCtorEq, List.all_cons, List.all_nil, Bool.and_true, Bool.and_self, decide_eq_true_eq, decide_true, dX4_advance_0, dX4_advance_1, dX4_advance_4, dX4_advance_5, dX4_advance_8, dX4_advance_11, dX4_advance_12, dX4_advance_15, dX4_advance_16, dX4_advance_19, dX4_advance_20, dX4_advance_22, dX4_advance_25, dX4_advance_26, dX4_advance_27, dX4_advance_30, dX4_advance_31, dX4_advance_32, dX4_advance_35, dX4_advance_38, dX4_advance_39, dX4_advance_40, dX4_advance_43, dX4_advance_46, dX4_advance_47, dX4_advance_48, dX4_advance_49, dX4_advance_52, dX4_advance_55, dX4_advance_58, dX4_advance_59, dX4_advance_62, dX4_advance_65, dX4_advance_66, dX4_advance_67, dX4_advance_70, dX4_advance_71, dX4_advance_72, dX4_advance_75, dX4_advance_76, dX4_advance_79, dX4_advance_80, dX4_advance_83, dX4_advance_84, dX4_advance_87, dX4_advance_88, dX4_advance_91, dX4_advance_92, dX4_advance_95, dX4_advance_96, dX4_advance_97, dX4_advance_98, dX4_advance_101, dX4_advance_102, dX4_advance_105, dX4_advance_106, dX4_advance_109, dX4_advance_112, dX4_advance_113, dX4_advance_114, dX4_advance_117, dX4_advance_120, dX4_advance_121, dX4_advance_124, dX4_advance_127, dX4_advance_128, dX4_advance_129, dX4_advance_132, dX4_advance_133, dX4_advance_134, dX4_advance_137, dX4_advance_140, dX4_advance_141, dX4_advance_144, dX4_advance_145, dX4_advance_148, dX4_advance_149, dX4_advance_152, dX4_advance_153, dX4_advance_156, dX4_advance_157, dX4_advance_160, dX4_advance_161, dX4_advance_164, dX4_advance_165, dX4_advance_166, dX4_advance_169, dX4_advance_170, dX4_advance_171, dX4_advance_172, dX4_advance_175, dX4_advance_178, FX4_24, FX4_50, FX4_9, FX4_61, FX4_30, G_X4_advance_115, G_X4_advance_53, kd_19, t1, e4, h5, T4_sortAt]
    repeat' (first | exact trivial | omega | (with_reducible assumption) | exact absurd trivial (by with_reducible assumption) | contradiction | apply And.intro | intro _)
theorem TA.of {μ ν : Mem} {b : Nat → Int} {len p : Nat} (h0 : rI μ 19 2 = 0) (hA : A2 μ ν (tkN b len p)) (h6 : rI ν 19 6 = tkF b len p) (h5 : rI ν 19 5 = tkS b len p) : TA μ ν b len p 0 := ⟨hA.1, h6, h5, by rw [hA.2.1, h0], fun z => absurd rfl z, hA.2.2⟩
theorem TA.bl {μ ν : Mem} {b : Nat → Int} {len p : Nat} {c : Int} (h : TA μ ν b len p c) (w : Int) : TA μ (wI (wI ν 19 2 w) 19 3 (tkF b len p)) b len p w := by
  obtain ⟨h1, h2, h3, h4, h5, h6⟩ := h
  refine ⟨by simp [rI_wI, h1], by simp [rI_wI, h2], by simp [rI_wI, h3], by simp [rI_wI], fun _ => by simp [rI_wI], (h6.tr (TFr.w ν (by omega) w)).tr (TFr.w _ (by omega) _)⟩
set_option maxRecDepth 20000 in
set_option maxHeartbeats 4000000 in
theorem b_adv140 (V : Nat → List (Option AV) → List AV → Mem → Prop) (K : List AV → Mem → Prop) (hV : Clos FX4 CX4 G_X4_advance 0 K cX4_advance V) (μ : Mem) (b : Nat → Int) (len p : Nat) (x : Int) (ht : TP μ b len) (hp : p ≤ len) (h0 : rI μ 19 2 = 0) (hK : ∀ ν, TA μ ν b len p (if tkE b len p = true then 1 else 0) → K [] ν) (ν : Mem) (hA : A2 μ ν (tkN b len p)) (h6 : rI ν 19 6 = tkF b len p) (h5 : rI ν 19 5 = tkS b len p) : V 140 [some (.inr (.inr 19)), some (.inl x)] [] ν := by
  have hT := TA.of h0 hA h6 h5
  have hB := hT.bl 1
  have hf := tkF_in (b := b) hp
  have hn := tkN_in ht.2.2.2 ht.2.1 hp
  have hs := tkS_in (b := b) (len := len) p
  have ht2 := ht.2.1
  have e4 := hA.1
  have k0 : ¬ (tkS b len p = 4 ∨ (tkS b len p = 2 ∧ tkF b len p + 2 < tkN b len p)) → K [] ν := fun z => by
    have := hK ν (by rw [if_neg (by unfold tkE; rw [decide_eq_true_iff]; exact z)]; exact hT)
    exact this
  have k1 : (tkS b len p = 4 ∨ (tkS b len p = 2 ∧ tkF b len p + 2 < tkN b len p)) → K [] (wI (wI ν 19 2 1) 19 3 (tkF b len p)) := fun z => by
    have := hK _ (by rw [if_pos (by unfold tkE; rw [decide_eq_true_iff]; exact z)]; exact hB)
    exact this
  apply hV [] 30
  simp only [InR, InL, inb, Int.toNat_natCast, wp1, wpc_z, wpc_s, stp_iconst, stp_bipush, stp_sipush, stp_lconst, stp_iload_n, stp_iload, stp_lload_n, stp_lload, stp_aload_n, stp_aload, stp_istore_n, stp_istore, stp_lstore_n, stp_lstore, stp_astore_n, stp_astore, stp_iinc, stp_iadd, stp_isub, stp_imul, stp_ineg, stp_idiv, stp_irem, stp_ladd, stp_lmul, stp_ldiv, stp_lrem, stp_ishl, stp_ishr, stp_iushr, stp_iand, stp_ior, stp_i2l, stp_i2b, stp_i2s, stp_lcmp, stp_dup, stp_dup2, stp_pop, stp_ifCond, stp_if_icmp, stp_goto, stp_tableswitch, stp_lookupswitch, stp_ldc, stp_ldc_w, stp_ldc2_w, stp_getstatic, stp_getfield, stp_putfield, stp_iaload, stp_baload, stp_iastore, stp_bastore, stp_aaload, stp_aastore, stp_invokevirtual, stp_invokestatic, stp_ireturn, stp_lreturn, stp_return_, lg, lset, okl, spl, wd, c1, cnd, tg, swT, swL, f4_0, f4_1, f4_2, f4_3, f2_0, f2_1, List.mem_cons, List.not_mem_nil, List.length_cons, List.length_nil, List.cons_append, List.nil_append, Nat.reduceAdd, Nat.reduceMul, Nat.reduceLT, Nat.reduceEqDiff, Nat.reduceLeDiff, Int.reduceAdd, Int.reduceNeg, Int.reduceToNat, Int.cast_ofNat_Int, Int.reduceNatCast, Int.toNat_zero, Int.toNat_one, Int.reduceLE, Int.reduceLT, Int.reduceEq, Int.zero_add, Int.add_zero, or_false, false_or, or_true, true_or, and_true, true_and, and_false, false_and, reduceIte, not_true_eq_false, not_false_eq_true, forall_const, false_implies, true_implies, implies_true, ne_eq, reduceCtorEq, List.all_cons, List.all_nil, Bool.and_true, Bool.and_self, decide_eq_true_eq, decide_true, dX4_advance_0, dX4_advance_1, dX4_advance_4, dX4_advance_5, dX4_advance_8, dX4_advance_11, dX4_advance_12, dX4_advance_15, dX4_advance_16, dX4_advance_19, dX4_advance_20, dX4_advance_22, dX4_advance_25, dX4_advance_26, dX4_advance_27, dX4_advance_30, dX4_advance_31, dX4_advance_32, dX4_advance_35, dX4_advance_38, dX4_advance_39, dX4_advance_40, dX4_advance_43, dX4_advance_46, dX4_advance_47, dX4_advance_48, dX4_advance_49, dX4_advance_52, dX4_advance_55, dX4_advance_58, dX4_advance_59, dX4_advance_62, dX4_advance_65, dX4_advance_66, dX4_advance_67, dX4_advance_70, dX4_advance_71, dX4_advance_72, dX4_advance_75, dX4_advance_76, dX4_advance_79, dX4_advance_80, dX4_advance_83, dX4_advance_84, dX4_advance_87, dX4_advance_88, dX4_advance_91, dX4_advance_92, dX4_advance_95, dX4_advance_96, dX4_advance_97, dX4_advance_98, dX4_advance_101, dX4_advance_102, dX4_advance_105, dX4_advance_106, dX4_advance_109, dX4_advance_112, dX4_advance_113, dX4_advance_114, dX4_advance_117, dX4_advance_120, dX4_advance_121, dX4_advance_124, dX4_advance_127, dX4_advance_128, dX4_advance_129, dX4_advance_132, dX4_advance_133, dX4_advance_134, dX4_advance_137, dX4_advance_140, dX4_advance_141, dX4_advance_144, dX4_advance_145, dX4_advance_148, dX4_advance_149, dX4_advance_152, dX4_advance_153, dX4_advance_156, dX4_advance_157, dX4_advance_160, dX4_advance_161, dX4_advance_164, dX4_advance_165, dX4_advance_166, dX4_advance_169, dX4_advance_170, dX4_advance_171, dX4_advance_172, dX4_advance_175, dX4_advance_178, FX4_24, FX4_50, FX4_9, FX4_61, FX4_30, G_X4_advance_115, G_X4_advance_53, kd_19, e4, h5, h6, T4_blame]
  by_cases z : tkS b len p = 4 ∨ (tkS b len p = 2 ∧ tkF b len p + 2 < tkN b len p)
  · have k1 := k1 z
    clear k0
    repeat' (first | exact trivial | omega | (with_reducible assumption) | exact absurd trivial (by with_reducible assumption) | contradiction | apply And.intro | intro _)
  · have k0 := k0 z
    clear k1
    repeat' (first | exact trivial | omega | (with_reducible assumption) | exact absurd trivial (by with_reducible assumption) | contradiction | apply And.intro | intro _)
def T4_advance : TT := fun a μ K => match a with
  | [.inr (.inr o)] => o = 19 ∧ (∃ (b : Nat → Int) (len p : Nat), TP μ b len ∧ rI μ 19 4 = p ∧ p ≤ len ∧ rI μ 19 2 = 0 ∧ ∀ ν, TA μ ν b len p (if tkE b len p = true then 1 else 0) → K [] ν)
  | _ => False
theorem rec_X4_advance : ∀ a μ K, T4_advance a μ K → ∃ k r, a = .inr (.inr k) :: r ∧ kd k = 4 := by
  intro a μ K h
  unfold T4_advance at h
  split at h
  · exact ⟨_, _, rfl, by rw [h.1]; rfl⟩
  · exact h.elim
theorem gk_X4_advance (l : Launch) : ∀ i n b T, G_X4_advance i = some (n, b, T) → CallOK l 1 RX4 i n b T := by
  intro i n b T h
  have hm : (i, n, b, T) ∈ GL_X4_advance := lk_mem h
  simp only [GL_X4_advance, List.mem_cons, List.not_mem_nil, or_false, Prod.mk.injEq] at hm
  rcases hm with ⟨rfl, rfl, rfl, rfl⟩ | ⟨rfl, rfl, rfl, rfl⟩
  · exact CallOK.V (d := 1) (own := RX4) (i := 115) (n := 1) (ci := 4) (good_X4_sortAt l) (by decide) (by decide) rfl (by decide) rec_X4_sortAt (mg 214 (by decide +kernel) (by decide +kernel)) (mg 216 (by decide +kernel) (by decide +kernel)) (mgs 1 (by decide +kernel) (by decide +kernel)) (mg 4 (by decide +kernel) (by decide +kernel)) (mg 217 (by decide +kernel) (by decide +kernel)) (by decide +kernel)
  · exact CallOK.V (d := 1) (own := RX4) (i := 53) (n := 2) (ci := 4) (good_X4_blame l) (by decide) (by decide) rfl (by decide) rec_X4_blame (mg 218 (by decide +kernel) (by decide +kernel)) (mg 220 (by decide +kernel) (by decide +kernel)) (mgs 2 (by decide +kernel) (by decide +kernel)) (mg 4 (by decide +kernel) (by decide +kernel)) (mg 221 (by decide +kernel) (by decide +kernel)) (by decide +kernel)
set_option maxRecDepth 20000 in
set_option maxHeartbeats 4000000 in
theorem body_X4_advance (o : Nat) (μ : Mem) (K : List AV → Mem → Prop) (V : Nat → List (Option AV) → List AV → Mem → Prop) (hV : Clos FX4 CX4 G_X4_advance 0 K cX4_advance V) (hT : o = 19 ∧ (∃ (b : Nat → Int) (len p : Nat), TP μ b len ∧ rI μ 19 4 = p ∧ p ≤ len ∧ rI μ 19 2 = 0 ∧ ∀ ν, TA μ ν b len p (if tkE b len p = true then 1 else 0) → K [] ν)) : V 0 [some (.inr (.inr o)), none] [] μ := by
  obtain ⟨rfl, b, len, p, ht, hp4, hp, h0, hK⟩ := hT
  have hf := tkF_in (b := b) hp
  have hs0 := tkS_0 ht.2.2.2 ht.2.1 hp
  have ht2 := ht.2.1
  refine lp_adv1 V K hV μ b len (tkF b len p) ht (fun ν hA => ?_) (len - p) p (by omega) rfl μ ⟨hp4, rfl, TFr.rf⟩
  obtain ⟨t1, t2, t3, t4⟩ := hA.2.2.tp ht
  have e4 := hA.1
  have hA6 := hA.w (j := 6) (by omega) (by omega) (by omega) (tkF b len p)
  have hA5 := hA6.w (j := 5) (by omega) (by omega) (by omega) (tkS b len p)
  have k97 : (tkS b len p = 0 → V 97 [some (.inr (.inr 19)), some (.inl 0)] [] (wI (wI ν 19 6 (tkF b len p)) 19 5 (tkS b len p))) ∧ ((tkS b len p = 3 ∨ tkS b len p = 4) → V 97 [some (.inr (.inr 19)), some (.inl 0)] [] (wI (wI (wI ν 19 6 (tkF b len p)) 19 5 (tkS b len p)) 19 4 ((tkF b len p : Int) + 1))) ∧ ((tkS b len p = 1 ∨ tkS b len p = 2) → V 97 [some (.inr (.inr 19)), some (.inl 1)] [] (wI (wI (wI ν 19 6 (tkF b len p)) 19 5 (tkS b len p)) 19 4 ((tkF b len p : Int) + 1))) := by
    have g0 : ∀ ρ, A2 μ ρ (tkN b len p) → rI ρ 19 6 = tkF b len p → rI ρ 19 5 = tkS b len p → V 97 [some (.inr (.inr 19)), some (.inl 0)] [] ρ := by
      intro ρ h1 h2 h3
      have kk := b_adv140 V K hV μ b len p 0 ht hp h0 hK ρ h1 h2 h3
      apply hV [140] 10
      simp only [InR, InL, inb, Int.toNat_natCast, wp1, wpc_z, wpc_s, stp_iconst, stp_bipush, stp_sipush, stp_lconst, stp_iload_n, stp_iload, stp_lload_n, stp_lload, stp_aload_n, stp_aload, stp_istore_n, stp_istore, stp_lstore_n, stp_lstore, stp_astore_n, stp_astore, stp_iinc, stp_iadd, stp_isub, stp_imul, stp_ineg, stp_idiv, stp_irem, stp_ladd, stp_lmul, stp_ldiv, stp_lrem, stp_ishl, stp_ishr, stp_iushr, stp_iand, stp_ior, stp_i2l, stp_i2b, stp_i2s, stp_lcmp, stp_dup, stp_dup2, stp_pop, stp_ifCond, stp_if_icmp, stp_goto, stp_tableswitch, stp_lookupswitch, stp_ldc, stp_ldc_w, stp_ldc2_w, stp_getstatic, stp_getfield, stp_putfield, stp_iaload, stp_baload, stp_iastore, stp_bastore, stp_aaload, stp_aastore, stp_invokevirtual, stp_invokestatic, stp_ireturn, stp_lreturn, stp_return_, lg, lset, okl, spl, wd, c1, cnd, tg, swT, swL, f4_0, f4_1, f4_2, f4_3, f2_0, f2_1, List.mem_cons, List.not_mem_nil, List.length_cons, List.length_nil, List.cons_append, List.nil_append, Nat.reduceAdd, Nat.reduceMul, Nat.reduceLT, Nat.reduceEqDiff, Nat.reduceLeDiff, Int.reduceAdd, Int.reduceNeg, Int.reduceToNat, Int.cast_ofNat_Int, Int.reduceNatCast, Int.toNat_zero, Int.toNat_one, Int.reduceLE, Int.reduceLT, Int.reduceEq, Int.zero_add, Int.add_zero, or_false, false_or, or_true, true_or, and_true, true_and, and_false, false_and, reduceIte, not_true_eq_false, not_false_eq_true, forall_const, false_implies, true_implies, implies_true, ne_eq, reduceCtorEq, List.all_cons, List.all_nil, Bool.and_true, Bool.and_self, decide_eq_true_eq, decide_true, dX4_advance_0, dX4_advance_1, dX4_advance_4, dX4_advance_5, dX4_advance_8, dX4_advance_11, dX4_advance_12, dX4_advance_15, dX4_advance_16, dX4_advance_19, dX4_advance_20, dX4_advance_22, dX4_advance_25, dX4_advance_26, dX4_advance_27, dX4_advance_30, dX4_advance_31, dX4_advance_32, dX4_advance_35, dX4_advance_38, dX4_advance_39, dX4_advance_40, dX4_advance_43, dX4_advance_46, dX4_advance_47, dX4_advance_48, dX4_advance_49, dX4_advance_52, dX4_advance_55, dX4_advance_58, dX4_advance_59, dX4_advance_62, dX4_advance_65, dX4_advance_66, dX4_advance_67, dX4_advance_70, dX4_advance_71, dX4_advance_72, dX4_advance_75, dX4_advance_76, dX4_advance_79, dX4_advance_80, dX4_advance_83, dX4_advance_84, dX4_advance_87, dX4_advance_88, dX4_advance_91, dX4_advance_92, dX4_advance_95, dX4_advance_96, dX4_advance_97, dX4_advance_98, dX4_advance_101, dX4_advance_102, dX4_advance_105, dX4_advance_106, dX4_advance_109, dX4_advance_112, dX4_advance_113, dX4_advance_114, dX4_advance_117, dX4_advance_120, dX4_advance_121, dX4_advance_124, dX4_advance_127, dX4_advance_128, dX4_advance_129, dX4_advance_132, dX4_advance_133, dX4_advance_134, dX4_advance_137, dX4_advance_140, dX4_advance_141, dX4_advance_144, dX4_advance_145, dX4_advance_148, dX4_advance_149, dX4_advance_152, dX4_advance_153, dX4_advance_156, dX4_advance_157, dX4_advance_160, dX4_advance_161, dX4_advance_164, dX4_advance_165, dX4_advance_166, dX4_advance_169, dX4_advance_170, dX4_advance_171, dX4_advance_172, dX4_advance_175, dX4_advance_178, FX4_24, FX4_50, FX4_9, FX4_61, FX4_30, G_X4_advance_115, G_X4_advance_53]
      repeat' (first | exact trivial | omega | (with_reducible assumption) | exact absurd trivial (by with_reducible assumption) | contradiction | apply And.intro | intro _)
    refine ⟨fun z => ?_, fun z => ?_, fun z => ?_⟩
    · have en : tkN b len p = tkF b len p := by unfold tkN; rw [if_pos z]
      exact g0 _ (by rw [en]; exact hA5) (by simp [rI_wI]) (by simp [rI_wI])
    · have en : tkN b len p = tkF b len p + 1 := by unfold tkN; rw [if_neg (by omega), if_neg (by omega)]
      exact g0 _ (by rw [en]; exact hA5.n _ (by omega)) (by simp [rI_wI]) (by simp [rI_wI])
    · have hlt : tkF b len p < len := by
        have : tkF b len p ≠ len := fun y => by have := hs0.mpr y; omega
        omega
      refine lp_adv2 V K hV μ b len (tkF b len p) (tkN b len p) (tkS b len p) z ht (fun ρ h1 h2 h3 => b_adv140 V K hV μ b len p 1 ht hp h0 hK ρ h1 h2 h3) (len - (tkF b len p + 1)) (tkF b len p + 1) (by omega) ?_ _ (hA5.n _ (by omega)) (by simp [rI_wI]) (by simp [rI_wI])
      unfold tkN
      rw [if_neg (by omega), if_pos z]
  obtain ⟨k1, k2, k3⟩ := k97
  have hs := tkS_in (b := b) (len := len) p
  have htp6 := hA6.2.2.tp ht
  have hsd : cL (bY b len (tkF b len p)) = tkS b len p := rfl
  apply hV [97] 60
  simp only [InR, InL, inb, Int.toNat_natCast, wp1, wpc_z, wpc_s, stp_iconst, stp_bipush, stp_sipush, stp_lconst, stp_iload_n, stp_iload, stp_lload_n, stp_lload, stp_aload_n, stp_aload, stp_istore_n, stp_istore, stp_lstore_n, stp_lstore, stp_astore_n, stp_astore, stp_iinc, stp_iadd, stp_isub, stp_imul, stp_ineg, stp_idiv, stp_irem, stp_ladd, stp_lmul, stp_ldiv, stp_lrem, stp_ishl, stp_ishr, stp_iushr, stp_iand, stp_ior, stp_i2l, stp_i2b, stp_i2s, stp_lcmp, stp_dup, stp_dup2, stp_pop, stp_ifCond, stp_if_icmp, stp_goto, stp_tableswitch, stp_lookupswitch, stp_ldc, stp_ldc_w, stp_ldc2_w, stp_getstatic, stp_getfield, stp_putfield, stp_iaload, stp_baload, stp_iastore, stp_bastore, stp_aaload, stp_aastore, stp_invokevirtual, stp_invokestatic, stp_ireturn, stp_lreturn, stp_return_, lg, lset, okl, spl, wd, c1, cnd, tg, swT, swL, f4_0, f4_1, f4_2, f4_3, f2_0, f2_1, List.mem_cons, List.not_mem_nil, List.length_cons, List.length_nil, List.cons_append, List.nil_append, Nat.reduceAdd, Nat.reduceMul, Nat.reduceLT, Nat.reduceEqDiff, Nat.reduceLeDiff, Int.reduceAdd, Int.reduceNeg, Int.reduceToNat, Int.cast_ofNat_Int, Int.reduceNatCast, Int.toNat_zero, Int.toNat_one, Int.reduceLE, Int.reduceLT, Int.reduceEq, Int.zero_add, Int.add_zero, or_false, false_or, or_true, true_or, and_true, true_and, and_false, false_and, reduceIte, not_true_eq_false, not_false_eq_true, forall_const, false_implies, true_implies, implies_true, ne_eq, reduceCtorEq, List.all_cons, List.all_nil, Bool.and_true, Bool.and_self, decide_eq_true_eq, decide_true, dX4_advance_0, dX4_advance_1, dX4_advance_4, dX4_advance_5, dX4_advance_8, dX4_advance_11, dX4_advance_12, dX4_advance_15, dX4_advance_16, dX4_advance_19, dX4_advance_20, dX4_advance_22, dX4_advance_25, dX4_advance_26, dX4_advance_27, dX4_advance_30, dX4_advance_31, dX4_advance_32, dX4_advance_35, dX4_advance_38, dX4_advance_39, dX4_advance_40, dX4_advance_43, dX4_advance_46, dX4_advance_47, dX4_advance_48, dX4_advance_49, dX4_advance_52, dX4_advance_55, dX4_advance_58, dX4_advance_59, dX4_advance_62, dX4_advance_65, dX4_advance_66, dX4_advance_67, dX4_advance_70, dX4_advance_71, dX4_advance_72, dX4_advance_75, dX4_advance_76, dX4_advance_79, dX4_advance_80, dX4_advance_83, dX4_advance_84, dX4_advance_87, dX4_advance_88, dX4_advance_91, dX4_advance_92, dX4_advance_95, dX4_advance_96, dX4_advance_97, dX4_advance_98, dX4_advance_101, dX4_advance_102, dX4_advance_105, dX4_advance_106, dX4_advance_109, dX4_advance_112, dX4_advance_113, dX4_advance_114, dX4_advance_117, dX4_advance_120, dX4_advance_121, dX4_advance_124, dX4_advance_127, dX4_advance_128, dX4_advance_129, dX4_advance_132, dX4_advance_133, dX4_advance_134, dX4_advance_137, dX4_advance_140, dX4_advance_141, dX4_advance_144, dX4_advance_145, dX4_advance_148, dX4_advance_149, dX4_advance_152, dX4_advance_153, dX4_advance_156, dX4_advance_157, dX4_advance_160, dX4_advance_161, dX4_advance_164, dX4_advance_165, dX4_advance_166, dX4_advance_169, dX4_advance_170, dX4_advance_171, dX4_advance_172, dX4_advance_175, dX4_advance_178, FX4_24, FX4_50, FX4_9, FX4_61, FX4_30, G_X4_advance_115, G_X4_advance_53, kd_19, e4, rI_wI, T4_sortAt]
  refine ⟨b, len, tkF b len p, htp6, rfl, by omega, ?_⟩
  rw [hsd]
  clear hK
  generalize tkS b len p = s at k1 k2 k3 hs
  rcases (show s = 0 ∨ s = 1 ∨ s = 2 ∨ s = 3 ∨ s = 4 by omega) with rfl | rfl | rfl | rfl | rfl
  · have k1 := k1 rfl
    clear k2 k3
    repeat' (first | exact trivial | omega | (with_reducible assumption) | exact absurd trivial (by with_reducible assumption) | contradiction | apply And.intro | intro _)
  · have k3 := k3 (by omega)
    clear k1 k2
    repeat' (first | exact trivial | omega | (with_reducible assumption) | exact absurd trivial (by with_reducible assumption) | contradiction | apply And.intro | intro _)
  · have k3 := k3 (by omega)
    clear k1 k2
    repeat' (first | exact trivial | omega | (with_reducible assumption) | exact absurd trivial (by with_reducible assumption) | contradiction | apply And.intro | intro _)
  · have k2 := k2 (by omega)
    clear k1 k3
    repeat' (first | exact trivial | omega | (with_reducible assumption) | exact absurd trivial (by with_reducible assumption) | contradiction | apply And.intro | intro _)
  · have k2 := k2 (by omega)
    clear k1 k3
    repeat' (first | exact trivial | omega | (with_reducible assumption) | exact absurd trivial (by with_reducible assumption) | contradiction | apply And.intro | intro _)
theorem good_X4_advance (l : Launch) : Good l 1 yX4_advance cX4_advance 2 none T4_advance := by
  refine Good.mk 0 (by decide) rfl (by simp [retOK]) FOK4 COK4 (gk_X4_advance l) ?_ ?_
  · intro a μ K h
    unfold T4_advance at h
    split at h
    · simp [entl]
    · exact h.elim
  · intro a μ K V hV h
    unfold T4_advance at h
    split at h
    · exact body_X4_advance _ μ K V hV h
    · exact h.elim

def T4_require : TT := fun a μ K => match a with
  | [.inr (.inr o), .inl w] => o = 19 ∧ (InR w ∧ InR (rI μ 19 2) ∧ InR (rI μ 19 5) ∧ (rI μ 19 2 = 0 → rI μ 19 5 ≠ w → K [] (wI (wI μ 19 2 2) 19 3 (rI μ 19 6))) ∧ (¬ (rI μ 19 2 = 0 ∧ rI μ 19 5 ≠ w) → K [] μ))
  | _ => False
theorem rec_X4_require : ∀ a μ K, T4_require a μ K → ∃ k r, a = .inr (.inr k) :: r ∧ kd k = 4 := by
  intro a μ K h
  unfold T4_require at h
  split at h
  · exact ⟨_, _, rfl, by rw [h.1]; rfl⟩
  · exact h.elim
def GL_X4_require : List (Nat × Nat × Bool × TT) := [(53, 3, false, T4_blame)]
def G_X4_require : Nat → Option (Nat × Bool × TT) := fun i => GL_X4_require.lookup i
theorem G_X4_require_53 : G_X4_require 53 = some (3, false, T4_blame) := rfl
theorem gk_X4_require (l : Launch) : ∀ i n b T, G_X4_require i = some (n, b, T) → CallOK l 1 RX4 i n b T := by
  intro i n b T h
  have hm : (i, n, b, T) ∈ GL_X4_require := lk_mem h
  simp only [GL_X4_require, List.mem_cons, List.not_mem_nil, or_false, Prod.mk.injEq] at hm
  rcases hm with ⟨rfl, rfl, rfl, rfl⟩
  · exact CallOK.V (d := 1) (own := RX4) (i := 53) (n := 2) (ci := 4) (good_X4_blame l) (by decide) (by decide) rfl (by decide) rec_X4_blame (mg 218 (by decide +kernel) (by decide +kernel)) (mg 220 (by decide +kernel) (by decide +kernel)) (mgs 2 (by decide +kernel) (by decide +kernel)) (mg 4 (by decide +kernel) (by decide +kernel)) (mg 221 (by decide +kernel) (by decide +kernel)) (by decide +kernel)
set_option maxRecDepth 20000 in
set_option maxHeartbeats 4000000 in
theorem body_X4_require (o : Nat) (w : Int) (μ : Mem) (K : List AV → Mem → Prop) (V : Nat → List (Option AV) → List AV → Mem → Prop) (hV : Clos FX4 CX4 G_X4_require 0 K cX4_require V) (hT : o = 19 ∧ (InR w ∧ InR (rI μ 19 2) ∧ InR (rI μ 19 5) ∧ (rI μ 19 2 = 0 → rI μ 19 5 ≠ w → K [] (wI (wI μ 19 2 2) 19 3 (rI μ 19 6))) ∧ (¬ (rI μ 19 2 = 0 ∧ rI μ 19 5 ≠ w) → K [] μ))) : V 0 [some (.inr (.inr o)), some (.inl w)] [] μ := by
  simp only [InR] at hT
  obtain ⟨rfl, h1, h2, h3, h4, h5⟩ := hT
  apply hV [] 20
  simp only [InR, InL, inb, Int.toNat_natCast, wp1, wpc_z, wpc_s, stp_iconst, stp_bipush, stp_sipush, stp_lconst, stp_iload_n, stp_iload, stp_lload_n, stp_lload, stp_aload_n, stp_aload, stp_istore_n, stp_istore, stp_lstore_n, stp_lstore, stp_astore_n, stp_astore, stp_iinc, stp_iadd, stp_isub, stp_imul, stp_ineg, stp_idiv, stp_irem, stp_ladd, stp_lmul, stp_ldiv, stp_lrem, stp_ishl, stp_ishr, stp_iushr, stp_iand, stp_ior, stp_i2l, stp_i2b, stp_i2s, stp_lcmp, stp_dup, stp_dup2, stp_pop, stp_ifCond, stp_if_icmp, stp_goto, stp_tableswitch, stp_lookupswitch, stp_ldc, stp_ldc_w, stp_ldc2_w, stp_getstatic, stp_getfield, stp_putfield, stp_iaload, stp_baload, stp_iastore, stp_bastore, stp_aaload, stp_aastore, stp_invokevirtual, stp_invokestatic, stp_ireturn, stp_lreturn, stp_return_, lg, lset, okl, spl, wd, c1, cnd, tg, swT, swL, f4_0, f4_1, f4_2, f4_3, f2_0, f2_1, List.mem_cons, List.not_mem_nil, List.length_cons, List.length_nil, List.cons_append, List.nil_append, Nat.reduceAdd, Nat.reduceMul, Nat.reduceLT, Nat.reduceEqDiff, Nat.reduceLeDiff, Int.reduceAdd, Int.reduceNeg, Int.reduceToNat, Int.cast_ofNat_Int, Int.reduceNatCast, Int.toNat_zero, Int.toNat_one, Int.reduceLE, Int.reduceLT, Int.reduceEq, Int.zero_add, Int.add_zero, or_false, false_or, or_true, true_or, and_true, true_and, and_false, false_and, reduceIte, not_true_eq_false, not_false_eq_true, forall_const, false_implies, true_implies, implies_true, ne_eq, reduceCtorEq, List.all_cons, List.all_nil, Bool.and_true, Bool.and_self, decide_eq_true_eq, decide_true, dX4_require_0, dX4_require_1, dX4_require_4, dX4_require_7, dX4_require_8, dX4_require_11, dX4_require_12, dX4_require_15, dX4_require_16, dX4_require_17, dX4_require_18, dX4_require_21, dX4_require_24, FX4_20, FX4_30, FX4_61, G_X4_require_53, kd_19, T4_blame]
  repeat' (first | exact trivial | omega | (with_reducible assumption) | exact absurd trivial (by with_reducible assumption) | contradiction | apply And.intro | intro _)
  all_goals first | exact h4 (by omega) (by omega) | exact h5 (by omega)
theorem good_X4_require (l : Launch) : Good l 1 yX4_require cX4_require 2 none T4_require := by
  refine Good.mk 0 (by decide) rfl (by simp [retOK]) FOK4 COK4 (gk_X4_require l) ?_ ?_
  · intro a μ K h
    unfold T4_require at h
    split at h
    · simp [entl]
    · exact h.elim
  · intro a μ K V hV h
    unfold T4_require at h
    split at h
    · exact body_X4_require _ _ μ K V hV h
    · exact h.elim

def GL_X4_takeNumber : List (Nat × Nat × Bool × TT) := [(27, 1, false, T4_advance), (71, 2, false, T4_require), (111, 3, true, T5_isOutside), (53, 3, false, T4_blame)]
def G_X4_takeNumber : Nat → Option (Nat × Bool × TT) := fun i => GL_X4_takeNumber.lookup i
theorem G_X4_takeNumber_27 : G_X4_takeNumber 27 = some (1, false, T4_advance) := rfl
theorem G_X4_takeNumber_71 : G_X4_takeNumber 71 = some (2, false, T4_require) := rfl
theorem G_X4_takeNumber_111 : G_X4_takeNumber 111 = some (3, true, T5_isOutside) := rfl
theorem G_X4_takeNumber_53 : G_X4_takeNumber 53 = some (3, false, T4_blame) := rfl

def T4_takeNumber : TT := fun a μ K => match a with
  | [.inr (.inr o), .inl lo, .inl hi] => o = 19 ∧ (InR lo ∧ InR hi ∧ ∃ (b : Nat → Int) (len p : Nat), TP μ b len ∧ rI μ 19 4 = p ∧ p ≤ len ∧ rI μ 19 2 = 0 ∧ ∀ ν, TA μ ν b len p (nfC b len p lo hi) → (nfC b len p lo hi = 0 → K [.inl (tkV b len p)] ν) ∧ (nfC b len p lo hi ≠ 0 → ∀ r : Int, 0 ≤ r → r ≤ 99 → K [.inl r] ν))
  | _ => False
theorem rec_X4_takeNumber : ∀ a μ K, T4_takeNumber a μ K → ∃ k r, a = .inr (.inr k) :: r ∧ kd k = 4 := by
  intro a μ K h
  unfold T4_takeNumber at h
  split at h
  · exact ⟨_, _, rfl, by rw [h.1]; rfl⟩
  · exact h.elim
theorem gk_X4_takeNumber (l : Launch) : ∀ i n b T, G_X4_takeNumber i = some (n, b, T) → CallOK l 2 RX4 i n b T := by
  intro i n b T h
  have hm : (i, n, b, T) ∈ GL_X4_takeNumber := lk_mem h
  simp only [GL_X4_takeNumber, List.mem_cons, List.not_mem_nil, or_false, Prod.mk.injEq] at hm
  rcases hm with ⟨rfl, rfl, rfl, rfl⟩ | ⟨rfl, rfl, rfl, rfl⟩ | ⟨rfl, rfl, rfl, rfl⟩ | ⟨rfl, rfl, rfl, rfl⟩
  · exact CallOK.V (d := 2) (own := RX4) (i := 27) (n := 0) (ci := 4) (good_X4_advance l) (by decide) (by decide) rfl (by decide) rec_X4_advance (mg 210 (by decide +kernel) (by decide +kernel)) (mg 212 (by decide +kernel) (by decide +kernel)) (mgs 0 (by decide +kernel) (by decide +kernel)) (mg 4 (by decide +kernel) (by decide +kernel)) (mg 213 (by decide +kernel) (by decide +kernel)) (by decide +kernel)
  · exact CallOK.V (d := 2) (own := RX4) (i := 71) (n := 1) (ci := 4) (good_X4_require l) (by decide) (by decide) rfl (by decide) rec_X4_require (mg 295 (by decide +kernel) (by decide +kernel)) (mg 297 (by decide +kernel) (by decide +kernel)) (mgs 8 (by decide +kernel) (by decide +kernel)) (mg 4 (by decide +kernel) (by decide +kernel)) (mg 298 (by decide +kernel) (by decide +kernel)) (by decide +kernel)
  · exact CallOK.N (d := 2) (own := RX4) (i := 111) (n := 3) (good_X5_isOutside l) (by decide) (by decide) (by decide +kernel) (mg 192 (by decide +kernel) (by decide +kernel)) (mg 1 (by decide +kernel) (by decide +kernel)) (mg 193 (by decide +kernel) (by decide +kernel)) (by decide +kernel)
  · exact CallOK.V (d := 2) (own := RX4) (i := 53) (n := 2) (ci := 4) (good_X4_blame l) (by decide) (by decide) rfl (by decide) rec_X4_blame (mg 218 (by decide +kernel) (by decide +kernel)) (mg 220 (by decide +kernel) (by decide +kernel)) (mgs 2 (by decide +kernel) (by decide +kernel)) (mg 4 (by decide +kernel) (by decide +kernel)) (mg 221 (by decide +kernel) (by decide +kernel)) (by decide +kernel)
set_option maxRecDepth 20000 in
set_option maxHeartbeats 4000000 in
theorem body_X4_takeNumber (o : Nat) (lo : Int) (hi : Int) (μ : Mem) (K : List AV → Mem → Prop) (V : Nat → List (Option AV) → List AV → Mem → Prop) (hV : Clos FX4 CX4 G_X4_takeNumber 1 K cX4_takeNumber V) (hT : o = 19 ∧ (InR lo ∧ InR hi ∧ ∃ (b : Nat → Int) (len p : Nat), TP μ b len ∧ rI μ 19 4 = p ∧ p ≤ len ∧ rI μ 19 2 = 0 ∧ ∀ ν, TA μ ν b len p (nfC b len p lo hi) → (nfC b len p lo hi = 0 → K [.inl (tkV b len p)] ν) ∧ (nfC b len p lo hi ≠ 0 → ∀ r : Int, 0 ≤ r → r ≤ 99 → K [.inl r] ν))) : V 0 [some (.inr (.inr o)), some (.inl lo), some (.inl hi), none, none] [] μ := by
  simp only [InR] at hT
  obtain ⟨rfl, hlo, hhi, b, len, p, ht, hp4, hp, h0, hK⟩ := hT
  have hf := tkF_in (b := b) hp
  have hn := tkN_in ht.2.2.2 ht.2.1 hp
  have hs := tkS_in (b := b) (len := len) p
  have ht2 := ht.2.1
  have k4 : ∀ ν, TA μ ν b len p (if tkE b len p = true then 1 else 0) → V 4 [some (.inr (.inr 19)), some (.inl lo), some (.inl hi), none, none] [] ν := by
    intro ν hν
    have hν' := hν
    obtain ⟨a4, a6, a5, a2, a3, aF⟩ := hν
    obtain ⟨t1, -, t3, t4⟩ := aF.tp ht
    by_cases z : tkE b len p = true
    · rw [if_pos z] at a2 hν'
      have en : nfC b len p lo hi = 1 := by unfold nfC; rw [if_pos z]
      have kk := (hK ν (by rw [en]; exact hν')).2 (by omega) 0 (by omega) (by omega)
      apply hV [] 30
      simp only [InR, InL, inb, Int.toNat_natCast, wp1, wpc_z, wpc_s, stp_iconst, stp_bipush, stp_sipush, stp_lconst, stp_iload_n, stp_iload, stp_lload_n, stp_lload, stp_aload_n, stp_aload, stp_istore_n, stp_istore, stp_lstore_n, stp_lstore, stp_astore_n, stp_astore, stp_iinc, stp_iadd, stp_isub, stp_imul, stp_ineg, stp_idiv, stp_irem, stp_ladd, stp_lmul, stp_ldiv, stp_lrem, stp_ishl, stp_ishr, stp_iushr, stp_iand, stp_ior, stp_i2l, stp_i2b, stp_i2s, stp_lcmp, stp_dup, stp_dup2, stp_pop, stp_ifCond, stp_if_icmp, stp_goto, stp_tableswitch, stp_lookupswitch, stp_ldc, stp_ldc_w, stp_ldc2_w, stp_getstatic, stp_getfield, stp_putfield, stp_iaload, stp_baload, stp_iastore, stp_bastore, stp_aaload, stp_aastore, stp_invokevirtual, stp_invokestatic, stp_ireturn, stp_lreturn, stp_return_, lg, lset, okl, spl, wd, c1, cnd, tg, swT, swL, f4_0, f4_1, f4_2, f4_3, f2_0, f2_1, List.mem_cons, List.not_mem_nil, List.length_cons, List.length_nil, List.cons_append, List.nil_append, Nat.reduceAdd, Nat.reduceMul, Nat.reduceLT, Nat.reduceEqDiff, Nat.reduceLeDiff, Int.reduceAdd, Int.reduceNeg, Int.reduceToNat, Int.cast_ofNat_Int, Int.reduceNatCast, Int.toNat_zero, Int.toNat_one, Int.reduceLE, Int.reduceLT, Int.reduceEq, Int.zero_add, Int.add_zero, or_false, false_or, or_true, true_or, and_true, true_and, and_false, false_and, reduceIte, not_true_eq_false, not_false_eq_true, forall_const, false_implies, true_implies, implies_true, ne_eq, reduceCtorEq, List.all_cons, List.all_nil, Bool.and_true, Bool.and_self, decide_eq_true_eq, decide_true, dX4_takeNumber_0, dX4_takeNumber_1, dX4_takeNumber_4, dX4_takeNumber_5, dX4_takeNumber_6, dX4_takeNumber_9, dX4_takeNumber_10, dX4_takeNumber_13, dX4_takeNumber_16, dX4_takeNumber_17, dX4_takeNumber_18, dX4_takeNumber_19, dX4_takeNumber_20, dX4_takeNumber_21, dX4_takeNumber_24, dX4_takeNumber_26, dX4_takeNumber_28, dX4_takeNumber_29, dX4_takeNumber_32, dX4_takeNumber_35, dX4_takeNumber_37, dX4_takeNumber_38, dX4_takeNumber_39, dX4_takeNumber_40, dX4_takeNumber_43, dX4_takeNumber_45, dX4_takeNumber_46, dX4_takeNumber_47, dX4_takeNumber_49, dX4_takeNumber_50, dX4_takeNumber_51, dX4_takeNumber_54, dX4_takeNumber_57, dX4_takeNumber_58, dX4_takeNumber_59, dX4_takeNumber_60, dX4_takeNumber_63, dX4_takeNumber_66, dX4_takeNumber_67, dX4_takeNumber_68, dX4_takeNumber_69, dX4_takeNumber_72, dX4_takeNumber_75, dX4_takeNumber_76, FX4_20, FX4_61, FX4_24, FX4_9, G_X4_takeNumber_27, G_X4_takeNumber_71, G_X4_takeNumber_111, G_X4_takeNumber_53, kd_19, T4_require, a2, a5, a6]
      repeat' (first | exact trivial | omega | (with_reducible assumption) | exact absurd trivial (by with_reducible assumption) | contradiction | apply And.intro | intro _)
    · rw [if_neg z] at a2 hν'
      by_cases y : tkS b len p = 2
      · have hv := tkV_in ht.2.2.2 ht.2.1 hp y (by simpa using z)
        have hB3 := hν'.bl 3
        have hv99 : 0 ≤ tkV b len p ∧ tkV b len p ≤ 99 := by
          have d1 := hv.2 (tkF b len p) (by omega) (by omega)
          unfold tkV
          rcases hv.1 with e | e
          · rw [if_pos e]; omega
          · rw [if_neg (by omega)]
            have d2 := hv.2 (tkF b len p + 1) (by omega) (by omega)
            omega
        have k3 : ¬ (lo ≤ tkV b len p ∧ tkV b len p ≤ hi) → K [.inl (tkV b len p)] (wI (wI ν 19 2 3) 19 3 (tkF b len p)) := fun x => by
          have en : nfC b len p lo hi = 3 := by unfold nfC; rw [if_neg z, if_neg (by simp [y]), if_neg x]
          exact (hK _ (by rw [en]; exact hB3)).2 (by omega) _ hv99.1 hv99.2
        have k0 : (lo ≤ tkV b len p ∧ tkV b len p ≤ hi) → K [.inl (tkV b len p)] ν := fun x => by
          have en : nfC b len p lo hi = 0 := by unfold nfC; rw [if_neg z, if_neg (by simp [y]), if_pos x]
          exact (hK _ (by rw [en]; exact hν')).1 en
        have d1 := hv.2 (tkF b len p) (by omega) (by omega)
        clear hK hB3
        rcases hv.1 with e | e
        · have ev : tkV b len p = b (tkF b len p) - 48 := by unfold tkV; rw [if_pos e]
          rw [ev] at k3 k0
          rw [e] at a4
          rw [Int.natCast_add] at a4
          apply hV [] 60
          simp only [InR, InL, inb, Int.toNat_natCast, wp1, wpc_z, wpc_s, stp_iconst, stp_bipush, stp_sipush, stp_lconst, stp_iload_n, stp_iload, stp_lload_n, stp_lload, stp_aload_n, stp_aload, stp_istore_n, stp_istore, stp_lstore_n, stp_lstore, stp_astore_n, stp_astore, stp_iinc, stp_iadd, stp_isub, stp_imul, stp_ineg, stp_idiv, stp_irem, stp_ladd, stp_lmul, stp_ldiv, stp_lrem, stp_ishl, stp_ishr, stp_iushr, stp_iand, stp_ior, stp_i2l, stp_i2b, stp_i2s, stp_lcmp, stp_dup, stp_dup2, stp_pop, stp_ifCond, stp_if_icmp, stp_goto, stp_tableswitch, stp_lookupswitch, stp_ldc, stp_ldc_w, stp_ldc2_w, stp_getstatic, stp_getfield, stp_putfield, stp_iaload, stp_baload, stp_iastore, stp_bastore, stp_aaload, stp_aastore, stp_invokevirtual, stp_invokestatic, stp_ireturn, stp_lreturn, stp_return_, lg, lset, okl, spl, wd, c1, cnd, tg, swT, swL, f4_0, f4_1, f4_2, f4_3, f2_0, f2_1, List.mem_cons, List.not_mem_nil, List.length_cons, List.length_nil, List.cons_append, List.nil_append, Nat.reduceAdd, Nat.reduceMul, Nat.reduceLT, Nat.reduceEqDiff, Nat.reduceLeDiff, Int.reduceAdd, Int.reduceNeg, Int.reduceToNat, Int.cast_ofNat_Int, Int.reduceNatCast, Int.toNat_zero, Int.toNat_one, Int.reduceLE, Int.reduceLT, Int.reduceEq, Int.zero_add, Int.add_zero, or_false, false_or, or_true, true_or, and_true, true_and, and_false, false_and, reduceIte, not_true_eq_false, not_false_eq_true, forall_const, false_implies, true_implies, implies_true, ne_eq, reduceCtorEq, List.all_cons, List.all_nil, Bool.and_true, Bool.and_self, decide_eq_true_eq, decide_true, dX4_takeNumber_0, dX4_takeNumber_1, dX4_takeNumber_4, dX4_takeNumber_5, dX4_takeNumber_6, dX4_takeNumber_9, dX4_takeNumber_10, dX4_takeNumber_13, dX4_takeNumber_16, dX4_takeNumber_17, dX4_takeNumber_18, dX4_takeNumber_19, dX4_takeNumber_20, dX4_takeNumber_21, dX4_takeNumber_24, dX4_takeNumber_26, dX4_takeNumber_28, dX4_takeNumber_29, dX4_takeNumber_32, dX4_takeNumber_35, dX4_takeNumber_37, dX4_takeNumber_38, dX4_takeNumber_39, dX4_takeNumber_40, dX4_takeNumber_43, dX4_takeNumber_45, dX4_takeNumber_46, dX4_takeNumber_47, dX4_takeNumber_49, dX4_takeNumber_50, dX4_takeNumber_51, dX4_takeNumber_54, dX4_takeNumber_57, dX4_takeNumber_58, dX4_takeNumber_59, dX4_takeNumber_60, dX4_takeNumber_63, dX4_takeNumber_66, dX4_takeNumber_67, dX4_takeNumber_68, dX4_takeNumber_69, dX4_takeNumber_72, dX4_takeNumber_75, dX4_takeNumber_76, FX4_20, FX4_61, FX4_24, FX4_9, G_X4_takeNumber_27, G_X4_takeNumber_71, G_X4_takeNumber_111, G_X4_takeNumber_53, kd_19, kd_20, ln_20, T4_require, T5_isOutside, T4_blame, a2, a5, a6, a4, y, t3, Int.mul_zero]
          repeat' (first | exact trivial | omega | (with_reducible assumption) | exact absurd trivial (by with_reducible assumption) | contradiction | apply And.intro | intro _)
          all_goals first | exact k3 (by omega) | exact k0 (by omega)
        · have ev : tkV b len p = 10 * (b (tkF b len p) - 48) + b (tkF b len p + 1) - 48 := by unfold tkV; rw [if_neg (by omega)]
          have d2 := hv.2 (tkF b len p + 1) (by omega) (by omega)
          rw [ev] at k3 k0
          rw [e] at a4
          rw [Int.natCast_add] at a4
          have e1 : ((tkF b len p : Int) + 1).toNat = tkF b len p + 1 := by omega
          apply hV [] 60
          simp only [InR, InL, inb, Int.toNat_natCast, wp1, wpc_z, wpc_s, stp_iconst, stp_bipush, stp_sipush, stp_lconst, stp_iload_n, stp_iload, stp_lload_n, stp_lload, stp_aload_n, stp_aload, stp_istore_n, stp_istore, stp_lstore_n, stp_lstore, stp_astore_n, stp_astore, stp_iinc, stp_iadd, stp_isub, stp_imul, stp_ineg, stp_idiv, stp_irem, stp_ladd, stp_lmul, stp_ldiv, stp_lrem, stp_ishl, stp_ishr, stp_iushr, stp_iand, stp_ior, stp_i2l, stp_i2b, stp_i2s, stp_lcmp, stp_dup, stp_dup2, stp_pop, stp_ifCond, stp_if_icmp, stp_goto, stp_tableswitch, stp_lookupswitch, stp_ldc, stp_ldc_w, stp_ldc2_w, stp_getstatic, stp_getfield, stp_putfield, stp_iaload, stp_baload, stp_iastore, stp_bastore, stp_aaload, stp_aastore, stp_invokevirtual, stp_invokestatic, stp_ireturn, stp_lreturn, stp_return_, lg, lset, okl, spl, wd, c1, cnd, tg, swT, swL, f4_0, f4_1, f4_2, f4_3, f2_0, f2_1, List.mem_cons, List.not_mem_nil, List.length_cons, List.length_nil, List.cons_append, List.nil_append, Nat.reduceAdd, Nat.reduceMul, Nat.reduceLT, Nat.reduceEqDiff, Nat.reduceLeDiff, Int.reduceAdd, Int.reduceNeg, Int.reduceToNat, Int.cast_ofNat_Int, Int.reduceNatCast, Int.toNat_zero, Int.toNat_one, Int.reduceLE, Int.reduceLT, Int.reduceEq, Int.zero_add, Int.add_zero, or_false, false_or, or_true, true_or, and_true, true_and, and_false, false_and, reduceIte, not_true_eq_false, not_false_eq_true, forall_const, false_implies, true_implies, implies_true, ne_eq, reduceCtorEq, List.all_cons, List.all_nil, Bool.and_true, Bool.and_self, decide_eq_true_eq, decide_true, dX4_takeNumber_0, dX4_takeNumber_1, dX4_takeNumber_4, dX4_takeNumber_5, dX4_takeNumber_6, dX4_takeNumber_9, dX4_takeNumber_10, dX4_takeNumber_13, dX4_takeNumber_16, dX4_takeNumber_17, dX4_takeNumber_18, dX4_takeNumber_19, dX4_takeNumber_20, dX4_takeNumber_21, dX4_takeNumber_24, dX4_takeNumber_26, dX4_takeNumber_28, dX4_takeNumber_29, dX4_takeNumber_32, dX4_takeNumber_35, dX4_takeNumber_37, dX4_takeNumber_38, dX4_takeNumber_39, dX4_takeNumber_40, dX4_takeNumber_43, dX4_takeNumber_45, dX4_takeNumber_46, dX4_takeNumber_47, dX4_takeNumber_49, dX4_takeNumber_50, dX4_takeNumber_51, dX4_takeNumber_54, dX4_takeNumber_57, dX4_takeNumber_58, dX4_takeNumber_59, dX4_takeNumber_60, dX4_takeNumber_63, dX4_takeNumber_66, dX4_takeNumber_67, dX4_takeNumber_68, dX4_takeNumber_69, dX4_takeNumber_72, dX4_takeNumber_75, dX4_takeNumber_76, FX4_20, FX4_61, FX4_24, FX4_9, G_X4_takeNumber_27, G_X4_takeNumber_71, G_X4_takeNumber_111, G_X4_takeNumber_53, kd_19, kd_20, ln_20, T4_require, T5_isOutside, T4_blame, a2, a5, a6, a4, y, t3, e1, Int.mul_zero]
          repeat' (first | exact trivial | omega | (with_reducible assumption) | exact absurd trivial (by with_reducible assumption) | contradiction | apply And.intro | intro _)
          all_goals first | exact k3 (by omega) | exact k0 (by omega)
      · have hB2 := hν'.bl 2
        have en : nfC b len p lo hi = 2 := by unfold nfC; rw [if_neg z, if_pos y]
        have kk := (hK _ (by rw [en]; exact hB2)).2 (by omega) 0 (by omega) (by omega)
        apply hV [] 30
        simp only [InR, InL, inb, Int.toNat_natCast, wp1, wpc_z, wpc_s, stp_iconst, stp_bipush, stp_sipush, stp_lconst, stp_iload_n, stp_iload, stp_lload_n, stp_lload, stp_aload_n, stp_aload, stp_istore_n, stp_istore, stp_lstore_n, stp_lstore, stp_astore_n, stp_astore, stp_iinc, stp_iadd, stp_isub, stp_imul, stp_ineg, stp_idiv, stp_irem, stp_ladd, stp_lmul, stp_ldiv, stp_lrem, stp_ishl, stp_ishr, stp_iushr, stp_iand, stp_ior, stp_i2l, stp_i2b, stp_i2s, stp_lcmp, stp_dup, stp_dup2, stp_pop, stp_ifCond, stp_if_icmp, stp_goto, stp_tableswitch, stp_lookupswitch, stp_ldc, stp_ldc_w, stp_ldc2_w, stp_getstatic, stp_getfield, stp_putfield, stp_iaload, stp_baload, stp_iastore, stp_bastore, stp_aaload, stp_aastore, stp_invokevirtual, stp_invokestatic, stp_ireturn, stp_lreturn, stp_return_, lg, lset, okl, spl, wd, c1, cnd, tg, swT, swL, f4_0, f4_1, f4_2, f4_3, f2_0, f2_1, List.mem_cons, List.not_mem_nil, List.length_cons, List.length_nil, List.cons_append, List.nil_append, Nat.reduceAdd, Nat.reduceMul, Nat.reduceLT, Nat.reduceEqDiff, Nat.reduceLeDiff, Int.reduceAdd, Int.reduceNeg, Int.reduceToNat, Int.cast_ofNat_Int, Int.reduceNatCast, Int.toNat_zero, Int.toNat_one, Int.reduceLE, Int.reduceLT, Int.reduceEq, Int.zero_add, Int.add_zero, or_false, false_or, or_true, true_or, and_true, true_and, and_false, false_and, reduceIte, not_true_eq_false, not_false_eq_true, forall_const, false_implies, true_implies, implies_true, ne_eq, reduceCtorEq, List.all_cons, List.all_nil, Bool.and_true, Bool.and_self, decide_eq_true_eq, decide_true, dX4_takeNumber_0, dX4_takeNumber_1, dX4_takeNumber_4, dX4_takeNumber_5, dX4_takeNumber_6, dX4_takeNumber_9, dX4_takeNumber_10, dX4_takeNumber_13, dX4_takeNumber_16, dX4_takeNumber_17, dX4_takeNumber_18, dX4_takeNumber_19, dX4_takeNumber_20, dX4_takeNumber_21, dX4_takeNumber_24, dX4_takeNumber_26, dX4_takeNumber_28, dX4_takeNumber_29, dX4_takeNumber_32, dX4_takeNumber_35, dX4_takeNumber_37, dX4_takeNumber_38, dX4_takeNumber_39, dX4_takeNumber_40, dX4_takeNumber_43, dX4_takeNumber_45, dX4_takeNumber_46, dX4_takeNumber_47, dX4_takeNumber_49, dX4_takeNumber_50, dX4_takeNumber_51, dX4_takeNumber_54, dX4_takeNumber_57, dX4_takeNumber_58, dX4_takeNumber_59, dX4_takeNumber_60, dX4_takeNumber_63, dX4_takeNumber_66, dX4_takeNumber_67, dX4_takeNumber_68, dX4_takeNumber_69, dX4_takeNumber_72, dX4_takeNumber_75, dX4_takeNumber_76, FX4_20, FX4_61, FX4_24, FX4_9, G_X4_takeNumber_27, G_X4_takeNumber_71, G_X4_takeNumber_111, G_X4_takeNumber_53, kd_19, T4_require, a2, a5, a6, rI_wI]
        repeat' (first | exact trivial | omega | (with_reducible assumption) | exact absurd trivial (by with_reducible assumption) | contradiction | apply And.intro | intro _)
  apply hV [4] 10
  simp only [InR, InL, inb, Int.toNat_natCast, wp1, wpc_z, wpc_s, stp_iconst, stp_bipush, stp_sipush, stp_lconst, stp_iload_n, stp_iload, stp_lload_n, stp_lload, stp_aload_n, stp_aload, stp_istore_n, stp_istore, stp_lstore_n, stp_lstore, stp_astore_n, stp_astore, stp_iinc, stp_iadd, stp_isub, stp_imul, stp_ineg, stp_idiv, stp_irem, stp_ladd, stp_lmul, stp_ldiv, stp_lrem, stp_ishl, stp_ishr, stp_iushr, stp_iand, stp_ior, stp_i2l, stp_i2b, stp_i2s, stp_lcmp, stp_dup, stp_dup2, stp_pop, stp_ifCond, stp_if_icmp, stp_goto, stp_tableswitch, stp_lookupswitch, stp_ldc, stp_ldc_w, stp_ldc2_w, stp_getstatic, stp_getfield, stp_putfield, stp_iaload, stp_baload, stp_iastore, stp_bastore, stp_aaload, stp_aastore, stp_invokevirtual, stp_invokestatic, stp_ireturn, stp_lreturn, stp_return_, lg, lset, okl, spl, wd, c1, cnd, tg, swT, swL, f4_0, f4_1, f4_2, f4_3, f2_0, f2_1, List.mem_cons, List.not_mem_nil, List.length_cons, List.length_nil, List.cons_append, List.nil_append, Nat.reduceAdd, Nat.reduceMul, Nat.reduceLT, Nat.reduceEqDiff, Nat.reduceLeDiff, Int.reduceAdd, Int.reduceNeg, Int.reduceToNat, Int.cast_ofNat_Int, Int.reduceNatCast, Int.toNat_zero, Int.toNat_one, Int.reduceLE, Int.reduceLT, Int.reduceEq, Int.zero_add, Int.add_zero, or_false, false_or, or_true, true_or, and_true, true_and, and_false, false_and, reduceIte, not_true_eq_false, not_false_eq_true, forall_const, false_implies, true_implies, implies_true, ne_eq, reduceCtorEq, List.all_cons, List.all_nil, Bool.and_true, Bool.and_self, decide_eq_true_eq, decide_true, dX4_takeNumber_0, dX4_takeNumber_1, dX4_takeNumber_4, dX4_takeNumber_5, dX4_takeNumber_6, dX4_takeNumber_9, dX4_takeNumber_10, dX4_takeNumber_13, dX4_takeNumber_16, dX4_takeNumber_17, dX4_takeNumber_18, dX4_takeNumber_19, dX4_takeNumber_20, dX4_takeNumber_21, dX4_takeNumber_24, dX4_takeNumber_26, dX4_takeNumber_28, dX4_takeNumber_29, dX4_takeNumber_32, dX4_takeNumber_35, dX4_takeNumber_37, dX4_takeNumber_38, dX4_takeNumber_39, dX4_takeNumber_40, dX4_takeNumber_43, dX4_takeNumber_45, dX4_takeNumber_46, dX4_takeNumber_47, dX4_takeNumber_49, dX4_takeNumber_50, dX4_takeNumber_51, dX4_takeNumber_54, dX4_takeNumber_57, dX4_takeNumber_58, dX4_takeNumber_59, dX4_takeNumber_60, dX4_takeNumber_63, dX4_takeNumber_66, dX4_takeNumber_67, dX4_takeNumber_68, dX4_takeNumber_69, dX4_takeNumber_72, dX4_takeNumber_75, dX4_takeNumber_76, FX4_20, FX4_61, FX4_24, FX4_9, G_X4_takeNumber_27, G_X4_takeNumber_71, G_X4_takeNumber_111, G_X4_takeNumber_53, kd_19, T4_advance]
  exact ⟨b, len, p, ht, hp4, hp, h0, k4⟩
theorem good_X4_takeNumber (l : Launch) : Good l 2 yX4_takeNumber cX4_takeNumber 5 (some .int) T4_takeNumber := by
  refine Good.mk 1 (by decide) rfl (by simp [retOK]) FOK4 COK4 (gk_X4_takeNumber l) ?_ ?_
  · intro a μ K h
    unfold T4_takeNumber at h
    split at h
    · simp [entl]
    · exact h.elim
  · intro a μ K V hV h
    unfold T4_takeNumber at h
    split at h
    · exact body_X4_takeNumber _ _ _ μ K V hV h
    · exact h.elim

