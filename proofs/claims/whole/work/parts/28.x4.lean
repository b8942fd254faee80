/-! the class: what was seen, sheets -/
theorem seenk0 : ∀ B, B < 79 → kd B = 2 → (kd (B + 1) = 7 ∧ ln (B + 1) = 6) ∧ (kd (B + 2) = 7 ∧ ln (B + 2) = 6) ∧ (kd (B + 3) = 7 ∧ ln (B + 3) = 6) := by decide +kernel
theorem seenk {B : Nat} (h : kd B = 2) : (kd (B + 1) = 7 ∧ ln (B + 1) = 6) ∧ (kd (B + 2) = 7 ∧ ln (B + 2) = 6) ∧ (kd (B + 3) = 7 ∧ ln (B + 3) = 6) := seenk0 B (kd_lt h (by omega) (by omega)) h
theorem sheetk0 : ∀ B, B < 79 → kd B = 3 → kd (B + 1) = 7 ∧ ln (B + 1) = 40 := by decide +kernel
theorem sheetk {B : Nat} (h : kd B = 3) : kd (B + 1) = 7 ∧ ln (B + 1) = 40 := sheetk0 B (kd_lt h (by omega) (by omega)) h
def T2_add : TT := fun a μ K => match a with
  | [.inr (.inr B), .inl n, .inl i, .inl v] => kd B = 2 ∧ ((0 ≤ rI μ B 3 ∧ rI μ B 3 < 6) ∧ K [] (wI (wI (wI (wI μ (B + 1) (rI μ B 3).toNat n) (B + 2) (rI μ B 3).toNat i) (B + 3) (rI μ B 3).toNat v) B 3 (rI μ B 3 + 1)))
  | _ => False
theorem rec_X2_add : ∀ a μ K, T2_add a μ K → ∃ k r, a = .inr (.inr k) :: r ∧ kd k = 2 := by
  intro a μ K h
  unfold T2_add at h
  split at h
  · exact ⟨_, _, rfl, h.1⟩
  · exact h.elim
def GL_X2_add : List (Nat × Nat × Bool × TT) := []
def G_X2_add : Nat → Option (Nat × Bool × TT) := fun i => GL_X2_add.lookup i
theorem gk_X2_add (l : Launch) : ∀ i n b T, G_X2_add i = some (n, b, T) → CallOK l 0 RX2 i n b T := by
  intro i n b T h
  have hm : (i, n, b, T) ∈ GL_X2_add := lk_mem h
  simp [GL_X2_add] at hm
set_option maxRecDepth 20000 in
set_option maxHeartbeats 4000000 in
theorem body_X2_add (B : Nat) (n : Int) (i : Int) (v : Int) (μ : Mem) (K : List AV → Mem → Prop) (V : Nat → List (Option AV) → List AV → Mem → Prop) (hV : Clos FX2 CX2 G_X2_add 0 K cX2_add V) (hT : kd B = 2 ∧ ((0 ≤ rI μ B 3 ∧ rI μ B 3 < 6) ∧ K [] (wI (wI (wI (wI μ (B + 1) (rI μ B 3).toNat n) (B + 2) (rI μ B 3).toNat i) (B + 3) (rI μ B 3).toNat v) B 3 (rI μ B 3 + 1)))) : V 0 [some (.inr (.inr B)), some (.inl n), some (.inl i), some (.inl v)] [] μ := by
  obtain ⟨hB, h1, hK⟩ := hT
  obtain ⟨⟨a1, a2⟩, ⟨b1, b2⟩, ⟨d1, d2⟩⟩ := seenk hB
  have n1 : ¬ B = B + 1 := by omega
  have n2 : ¬ B = B + 2 := by omega
  have n3 : ¬ B = B + 3 := by omega
  apply hV [] 60
  simp only [InR, InL, inb, Int.toNat_natCast, wp1, wpc_z, wpc_s, stp_iconst, stp_bipush, stp_sipush, stp_lconst, stp_iload_n, stp_iload, stp_lload_n, stp_lload, stp_aload_n, stp_aload, stp_istore_n, stp_istore, stp_lstore_n, stp_lstore, stp_astore_n, stp_astore, stp_iinc, stp_iadd, stp_isub, stp_imul, stp_ineg, stp_idiv, stp_irem, stp_ladd, stp_lmul, stp_ldiv, stp_lrem, stp_ishl, stp_ishr, stp_iushr, stp_iand, stp_ior, stp_i2l, stp_i2b, stp_i2s, stp_lcmp, stp_dup, stp_dup2, stp_pop, stp_ifCond, stp_if_icmp, stp_goto, stp_tableswitch, stp_lookupswitch, stp_ldc, stp_ldc_w, stp_ldc2_w, stp_getstatic, stp_getfield, stp_putfield, stp_iaload, stp_baload, stp_iastore, stp_bastore, stp_aaload, stp_aastore, stp_invokevirtual, stp_invokestatic, stp_ireturn, stp_lreturn, stp_return_, lg, lset, okl, spl, wd, c1, cnd, tg, swT, swL, f4_0, f4_1, f4_2, f4_3, f2_0, f2_1, List.mem_cons, List.not_mem_nil, List.length_cons, List.length_nil, List.cons_append, List.nil_append, Nat.reduceAdd, Nat.reduceMul, Nat.reduceLT, Nat.reduceEqDiff, Nat.reduceLeDiff, Int.reduceAdd, Int.reduceNeg, Int.reduceToNat, Int.cast_ofNat_Int, Int.reduceNatCast, Int.toNat_zero, Int.toNat_one, Int.reduceLE, Int.reduceLT, Int.reduceEq, Int.zero_add, Int.add_zero, or_false, false_or, or_true, true_or, and_true, true_and, and_false, false_and, reduceIte, not_true_eq_false, not_false_eq_true, forall_const, false_implies, true_implies, implies_true, ne_eq, reduceCtorEq, List.all_cons, List.all_nil, Bool.and_true, Bool.and_self, decide_eq_true_eq, decide_true, dX2_add_0, dX2_add_1, dX2_add_4, dX2_add_5, dX2_add_8, dX2_add_9, dX2_add_10, dX2_add_11, dX2_add_14, dX2_add_15, dX2_add_18, dX2_add_19, dX2_add_20, dX2_add_21, dX2_add_24, dX2_add_25, dX2_add_28, dX2_add_29, dX2_add_30, dX2_add_31, dX2_add_32, dX2_add_35, dX2_add_36, dX2_add_37, dX2_add_40, FX2_9, FX2_21, FX2_15, FX2_18, hB, a1, a2, b1, b2, d1, d2, rI_wI, n1, n2, n3]
  repeat' (first | exact trivial | omega | (with_reducible assumption) | exact absurd trivial (by with_reducible assumption) | contradiction | apply And.intro | intro _)
theorem good_X2_add (l : Launch) : Good l 0 yX2_add cX2_add 4 none T2_add := by
  refine Good.mk 0 (by decide) rfl (by simp [retOK]) FOK2 COK2 (gk_X2_add l) ?_ ?_
  · intro a μ K h
    unfold T2_add at h
    split at h
    · simp [entl]
    · exact h.elim
  · intro a μ K V hV h
    unfold T2_add at h
    split at h
    · exact body_X2_add _ _ _ _ μ K V hV h
    · exact h.elim

def T2_copyFrom : TT := fun a μ K => match a with
  | [.inr (.inr B), .inr (.inr O)] => kd B = 2 ∧ (kd O = 2 ∧ K [] (wI (wC (wC (wC μ (O + 1) 0 (B + 1) 0 6) (O + 2) 0 (B + 2) 0 6) (O + 3) 0 (B + 3) 0 6) B 3 (rI (wC (wC (wC μ (O + 1) 0 (B + 1) 0 6) (O + 2) 0 (B + 2) 0 6) (O + 3) 0 (B + 3) 0 6) O 3)))
  | _ => False
theorem rec_X2_copyFrom : ∀ a μ K, T2_copyFrom a μ K → ∃ k r, a = .inr (.inr k) :: r ∧ kd k = 2 := by
  intro a μ K h
  unfold T2_copyFrom at h
  split at h
  · exact ⟨_, _, rfl, h.1⟩
  · exact h.elim
def GL_X2_copyFrom : List (Nat × Nat × Bool × TT) := [(25, 5, true, T_copy)]
def G_X2_copyFrom : Nat → Option (Nat × Bool × TT) := fun i => GL_X2_copyFrom.lookup i
theorem G_X2_copyFrom_25 : G_X2_copyFrom 25 = some (5, true, T_copy) := rfl
theorem gk_X2_copyFrom (l : Launch) : ∀ i n b T, G_X2_copyFrom i = some (n, b, T) → CallOK l 1 RX2 i n b T := by
  intro i n b T h
  have hm : (i, n, b, T) ∈ GL_X2_copyFrom := lk_mem h
  simp only [GL_X2_copyFrom, List.mem_cons, List.not_mem_nil, or_false, Prod.mk.injEq] at hm
  rcases hm with ⟨rfl, rfl, rfl, rfl⟩
  · exact CallOK.copy (d := 1) (own := RX2) (i := 25) (by decide) (mg 550 (by decide +kernel) (by decide +kernel)) (mg 322 (by decide +kernel) (by decide +kernel)) (mg 321 (by decide +kernel) (by decide +kernel)) (mg 12 (by decide +kernel) (by decide +kernel))
set_option maxRecDepth 20000 in
set_option maxHeartbeats 4000000 in
theorem body_X2_copyFrom (B : Nat) (O : Nat) (μ : Mem) (K : List AV → Mem → Prop) (V : Nat → List (Option AV) → List AV → Mem → Prop) (hV : Clos FX2 CX2 G_X2_copyFrom 0 K cX2_copyFrom V) (hT : kd B = 2 ∧ (kd O = 2 ∧ K [] (wI (wC (wC (wC μ (O + 1) 0 (B + 1) 0 6) (O + 2) 0 (B + 2) 0 6) (O + 3) 0 (B + 3) 0 6) B 3 (rI (wC (wC (wC μ (O + 1) 0 (B + 1) 0 6) (O + 2) 0 (B + 2) 0 6) (O + 3) 0 (B + 3) 0 6) O 3)))) : V 0 [some (.inr (.inr B)), some (.inr (.inr O))] [] μ := by
  obtain ⟨hB, hO, hK⟩ := hT
  obtain ⟨⟨a1, a2⟩, ⟨b1, b2⟩, ⟨d1, d2⟩⟩ := seenk hB
  obtain ⟨⟨e1, e2⟩, ⟨g1, g2⟩, ⟨i1, i2⟩⟩ := seenk hO
  apply hV [] 60
  simp only [InR, InL, inb, Int.toNat_natCast, wp1, wpc_z, wpc_s, stp_iconst, stp_bipush, stp_sipush, stp_lconst, stp_iload_n, stp_iload, stp_lload_n, stp_lload, stp_aload_n, stp_aload, stp_istore_n, stp_istore, stp_lstore_n, stp_lstore, stp_astore_n, stp_astore, stp_iinc, stp_iadd, stp_isub, stp_imul, stp_ineg, stp_idiv, stp_irem, stp_ladd, stp_lmul, stp_ldiv, stp_lrem, stp_ishl, stp_ishr, stp_iushr, stp_iand, stp_ior, stp_i2l, stp_i2b, stp_i2s, stp_lcmp, stp_dup, stp_dup2, stp_pop, stp_ifCond, stp_if_icmp, stp_goto, stp_tableswitch, stp_lookupswitch, stp_ldc, stp_ldc_w, stp_ldc2_w, stp_getstatic, stp_getfield, stp_putfield, stp_iaload, stp_baload, stp_iastore, stp_bastore, stp_aaload, stp_aastore, stp_invokevirtual, stp_invokestatic, stp_ireturn, stp_lreturn, stp_return_, lg, lset, okl, spl, wd, c1, cnd, tg, swT, swL, f4_0, f4_1, f4_2, f4_3, f2_0, f2_1, List.mem_cons, List.not_mem_nil, List.length_cons, List.length_nil, List.cons_append, List.nil_append, Nat.reduceAdd, Nat.reduceMul, Nat.reduceLT, Nat.reduceEqDiff, Nat.reduceLeDiff, Int.reduceAdd, Int.reduceNeg, Int.reduceToNat, Int.cast_ofNat_Int, Int.reduceNatCast, Int.toNat_zero, Int.toNat_one, Int.reduceLE, Int.reduceLT, Int.reduceEq, Int.zero_add, Int.add_zero, or_false, false_or, or_true, true_or, and_true, true_and, and_false, false_and, reduceIte, not_true_eq_false, not_false_eq_true, forall_const, false_implies, true_implies, implies_true, ne_eq, reduceCtorEq, List.all_cons, List.all_nil, Bool.and_true, Bool.and_self, decide_eq_true_eq, decide_true, dX2_copyFrom_0, dX2_copyFrom_1, dX2_copyFrom_4, dX2_copyFrom_5, dX2_copyFrom_6, dX2_copyFrom_9, dX2_copyFrom_10, dX2_copyFrom_12, dX2_copyFrom_15, dX2_copyFrom_16, dX2_copyFrom_19, dX2_copyFrom_20, dX2_copyFrom_21, dX2_copyFrom_24, dX2_copyFrom_25, dX2_copyFrom_27, dX2_copyFrom_30, dX2_copyFrom_31, dX2_copyFrom_34, dX2_copyFrom_35, dX2_copyFrom_36, dX2_copyFrom_39, dX2_copyFrom_40, dX2_copyFrom_42, dX2_copyFrom_45, dX2_copyFrom_46, dX2_copyFrom_47, dX2_copyFrom_50, dX2_copyFrom_53, FX2_9, FX2_15, FX2_18, FX2_21, G_X2_copyFrom_25, hB, hO, a1, a2, b1, b2, d1, d2, e1, e2, g1, g2, i1, i2, T_copy]
  repeat' (first | exact trivial | omega | (with_reducible assumption) | exact absurd trivial (by with_reducible assumption) | contradiction | apply And.intro | intro _)
theorem good_X2_copyFrom (l : Launch) : Good l 1 yX2_copyFrom cX2_copyFrom 2 none T2_copyFrom := by
  refine Good.mk 0 (by decide) rfl (by simp [retOK]) FOK2 COK2 (gk_X2_copyFrom l) ?_ ?_
  · intro a μ K h
    unfold T2_copyFrom at h
    split at h
    · simp [entl]
    · exact h.elim
  · intro a μ K V hV h
    unfold T2_copyFrom at h
    split at h
    · exact body_X2_copyFrom _ _ μ K V hV h
    · exact h.elim

/-- what was seen, in a flat state -/
def SG (μ : Mem) (B : Nat) (g : Nat → Int) : Prop := rI μ B 3 = g 41 ∧ ∀ j : Nat, (j : Int) < g 41 → rI μ (B + 1) j = g (42 + 3 * j) ∧ rI μ (B + 2) j = g (43 + 3 * j) ∧ rI μ (B + 3) j = g (44 + 3 * j)
def SW (g : Nat → Int) : Prop := (0 ≤ g 41 ∧ g 41 ≤ 6) ∧ ∀ j : Nat, (j : Int) < g 41 → (0 ≤ g (42 + 3 * j) ∧ g (42 + 3 * j) ≤ 40) ∧ (0 ≤ g (43 + 3 * j) ∧ g (43 + 3 * j) < g 35) ∧ (0 ≤ g (44 + 3 * j) ∧ g (44 + 3 * j) ≤ 99)
def latF (g : Nat → Int) : Nat → Int
  | 0 => 0
  | n + 1 => max (latF g n) (g (42 + 3 * n))
theorem latF_in {g : Nat → Int} (h : SW g) : ∀ n : Nat, (n : Int) ≤ g 41 → 0 ≤ latF g n ∧ latF g n ≤ 40 ∧ ∀ j, j < n → g (42 + 3 * j) ≤ latF g n
  | 0, _ => ⟨by simp [latF], by simp [latF], fun j hj => by omega⟩
  | n + 1, hn => by
    obtain ⟨h1, h2, h3⟩ := latF_in h n (by omega)
    have := (h.2 n (by omega)).1
    simp only [latF]
    refine ⟨by omega, by omega, fun j hj => ?_⟩
    by_cases e : j = n
    · subst e; omega
    · have := h3 j (by omega); omega
def GL_X2_latest : List (Nat × Nat × Bool × TT) := [(45, 2, true, T_max)]
def G_X2_latest : Nat → Option (Nat × Bool × TT) := fun i => GL_X2_latest.lookup i
theorem G_X2_latest_45 : G_X2_latest 45 = some (2, true, T_max) := rfl

set_option maxRecDepth 20000 in
set_option maxHeartbeats 4000000 in
theorem lp_latest (V : Nat → List (Option AV) → List AV → Mem → Prop) (K : List AV → Mem → Prop) (hV : Clos FX2 CX2 G_X2_latest 1 K cX2_latest V) (μ : Mem) (B : Nat) (hB : kd B = 2) (g : Nat → Int) (hG : SG μ B g) (hS : SW g) (hK : K [.inl (latF g (g 41).toNat)] μ) : ∀ m n : Nat, n + m = (g 41).toNat → V 4 [some (.inr (.inr B)), some (.inl (latF g n)), some (.inl (n : Int))] [] μ := by
  obtain ⟨g1, g2⟩ := hG
  obtain ⟨⟨a1, a2⟩, -, -⟩ := seenk hB
  have h41 := hS.1
  intro m
  induction m with
  | zero =>
    intro n hn
    apply hV [4] 40
    simp only [InR, InL, inb, Int.toNat_natCast, wp1, wpc_z, wpc_s, stp_iconst, stp_bipush, stp_sipush, stp_lconst, stp_iload_n, stp_iload, stp_lload_n, stp_lload, stp_aload_n, stp_aload, stp_istore_n, stp_istore, stp_lstore_n, stp_lstore, stp_astore_n, stp_astore, stp_iinc, stp_iadd, stp_isub, stp_imul, stp_ineg, stp_idiv, stp_irem, stp_ladd, stp_lmul, stp_ldiv, stp_lrem, stp_ishl, stp_ishr, stp_iushr, stp_iand, stp_ior, stp_i2l, stp_i2b, stp_i2s, stp_lcmp, stp_dup, stp_dup2, stp_pop, stp_ifCond, stp_if_icmp, stp_goto, stp_tableswitch, stp_lookupswitch, stp_ldc, stp_ldc_w, stp_ldc2_w, stp_getstatic, stp_getfield, stp_putfield, stp_iaload, stp_baload, stp_iastore, stp_bastore, stp_aaload, stp_aastore, stp_invokevirtual, stp_invokestatic, stp_ireturn, stp_lreturn, stp_return_, lg, lset, okl, spl, wd, c1, cnd, tg, swT, swL, f4_0, f4_1, f4_2, f4_3, f2_0, f2_1, List.mem_cons, List.not_mem_nil, List.length_cons, List.length_nil, List.cons_append, List.nil_append, Nat.reduceAdd, Nat.reduceMul, Nat.reduceLT, Nat.reduceEqDiff, Nat.reduceLeDiff, Int.reduceAdd, Int.reduceNeg, Int.reduceToNat, Int.cast_ofNat_Int, Int.reduceNatCast, Int.toNat_zero, Int.toNat_one, Int.reduceLE, Int.reduceLT, Int.reduceEq, Int.zero_add, Int.add_zero, or_false, false_or, or_true, true_or, and_true, true_and, and_false, false_and, reduceIte, not_true_eq_false, not_false_eq_true, forall_const, false_implies, true_implies, implies_true, ne_eq, reduceCtorEq, List.all_cons, List.all_nil, Bool.and_true, Bool.and_self, decide_eq_true_eq, decide_true, dX2_latest_0, dX2_latest_1, dX2_latest_2, dX2_latest_3, dX2_latest_4, dX2_latest_5, dX2_latest_6, dX2_latest_9, dX2_latest_12, dX2_latest_13, dX2_latest_14, dX2_latest_17, dX2_latest_18, dX2_latest_19, dX2_latest_22, dX2_latest_23, dX2_latest_26, dX2_latest_29, dX2_latest_30, FX2_21, FX2_9, G_X2_latest_45, hB, g1]
    repeat' (first | exact trivial | omega | (with_reducible assumption) | exact absurd trivial (by with_reducible assumption) | contradiction | apply And.intro | intro _)
    rw [show n = (g 41).toNat by omega]
    exact hK
  | succ m ih =>
    intro n hn
    have h1 := (g2 n (by omega)).1
    have h2 := (hS.2 n (by omega)).1
    obtain ⟨h3, h4, -⟩ := latF_in hS n (by omega)
    have h := ih (n + 1) (by omega)
    rw [show ((n + 1 : Nat) : Int) = (n : Int) + 1 by omega] at h
    simp only [latF] at h
    apply hV [4] 40
    simp only [InR, InL, inb, Int.toNat_natCast, wp1, wpc_z, wpc_s, stp_iconst, stp_bipush, stp_sipush, stp_lconst, stp_iload_n, stp_iload, stp_lload_n, stp_lload, stp_aload_n, stp_aload, stp_istore_n, stp_istore, stp_lstore_n, stp_lstore, stp_astore_n, stp_astore, stp_iinc, stp_iadd, stp_isub, stp_imul, stp_ineg, stp_idiv, stp_irem, stp_ladd, stp_lmul, stp_ldiv, stp_lrem, stp_ishl, stp_ishr, stp_iushr, stp_iand, stp_ior, stp_i2l, stp_i2b, stp_i2s, stp_lcmp, stp_dup, stp_dup2, stp_pop, stp_ifCond, stp_if_icmp, stp_goto, stp_tableswitch, stp_lookupswitch, stp_ldc, stp_ldc_w, stp_ldc2_w, stp_getstatic, stp_getfield, stp_putfield, stp_iaload, stp_baload, stp_iastore, stp_bastore, stp_aaload, stp_aastore, stp_invokevirtual, stp_invokestatic, stp_ireturn, stp_lreturn, stp_return_, lg, lset, okl, spl, wd, c1, cnd, tg, swT, swL, f4_0, f4_1, f4_2, f4_3, f2_0, f2_1, List.mem_cons, List.not_mem_nil, List.length_cons, List.length_nil, List.cons_append, List.nil_append, Nat.reduceAdd, Nat.reduceMul, Nat.reduceLT, Nat.reduceEqDiff, Nat.reduceLeDiff, Int.reduceAdd, Int.reduceNeg, Int.reduceToNat, Int.cast_ofNat_Int, Int.reduceNatCast, Int.toNat_zero, Int.toNat_one, Int.reduceLE, Int.reduceLT, Int.reduceEq, Int.zero_add, Int.add_zero, or_false, false_or, or_true, true_or, and_true, true_and, and_false, false_and, reduceIte, not_true_eq_false, not_false_eq_true, forall_const, false_implies, true_implies, implies_true, ne_eq, reduceCtorEq, List.all_cons, List.all_nil, Bool.and_true, Bool.and_self, decide_eq_true_eq, decide_true, dX2_latest_0, dX2_latest_1, dX2_latest_2, dX2_latest_3, dX2_latest_4, dX2_latest_5, dX2_latest_6, dX2_latest_9, dX2_latest_12, dX2_latest_13, dX2_latest_14, dX2_latest_17, dX2_latest_18, dX2_latest_19, dX2_latest_22, dX2_latest_23, dX2_latest_26, dX2_latest_29, dX2_latest_30, FX2_21, FX2_9, G_X2_latest_45, hB, g1, a1, a2, h1, T_max]
    repeat' (first | exact trivial | omega | (with_reducible assumption) | exact absurd trivial (by with_reducible assumption) | contradiction | apply And.intro | intro _)
def T2_latest : TT := fun a μ K => match a with
  | [.inr (.inr B)] => kd B = 2 ∧ (∃ g, SG μ B g ∧ SW g ∧ K [.inl (latF g (g 41).toNat)] μ)
  | _ => False
theorem rec_X2_latest : ∀ a μ K, T2_latest a μ K → ∃ k r, a = .inr (.inr k) :: r ∧ kd k = 2 := by
  intro a μ K h
  unfold T2_latest at h
  split at h
  · exact ⟨_, _, rfl, h.1⟩
  · exact h.elim
theorem gk_X2_latest (l : Launch) : ∀ i n b T, G_X2_latest i = some (n, b, T) → CallOK l 1 RX2 i n b T := by
  intro i n b T h
  have hm : (i, n, b, T) ∈ GL_X2_latest := lk_mem h
  simp only [GL_X2_latest, List.mem_cons, List.not_mem_nil, or_false, Prod.mk.injEq] at hm
  rcases hm with ⟨rfl, rfl, rfl, rfl⟩
  · exact CallOK.max (d := 1) (own := RX2) (i := 45) (by decide) (mg 504 (by decide +kernel) (by decide +kernel)) (mg 420 (by decide +kernel) (by decide +kernel)) (mg 13 (by decide +kernel) (by decide +kernel)) (mg 421 (by decide +kernel) (by decide +kernel))
set_option maxRecDepth 20000 in
set_option maxHeartbeats 4000000 in
theorem body_X2_latest (B : Nat) (μ : Mem) (K : List AV → Mem → Prop) (V : Nat → List (Option AV) → List AV → Mem → Prop) (hV : Clos FX2 CX2 G_X2_latest 1 K cX2_latest V) (hT : kd B = 2 ∧ (∃ g, SG μ B g ∧ SW g ∧ K [.inl (latF g (g 41).toNat)] μ)) : V 0 [some (.inr (.inr B)), none, none] [] μ := by
  obtain ⟨hB, g, hG, hS, hK⟩ := hT
  have h41 := hS.1
  apply hV [4] 40
  simp only [InR, InL, inb, Int.toNat_natCast, wp1, wpc_z, wpc_s, stp_iconst, stp_bipush, stp_sipush, stp_lconst, stp_iload_n, stp_iload, stp_lload_n, stp_lload, stp_aload_n, stp_aload, stp_istore_n, stp_istore, stp_lstore_n, stp_lstore, stp_astore_n, stp_astore, stp_iinc, stp_iadd, stp_isub, stp_imul, stp_ineg, stp_idiv, stp_irem, stp_ladd, stp_lmul, stp_ldiv, stp_lrem, stp_ishl, stp_ishr, stp_iushr, stp_iand, stp_ior, stp_i2l, stp_i2b, stp_i2s, stp_lcmp, stp_dup, stp_dup2, stp_pop, stp_ifCond, stp_if_icmp, stp_goto, stp_tableswitch, stp_lookupswitch, stp_ldc, stp_ldc_w, stp_ldc2_w, stp_getstatic, stp_getfield, stp_putfield, stp_iaload, stp_baload, stp_iastore, stp_bastore, stp_aaload, stp_aastore, stp_invokevirtual, stp_invokestatic, stp_ireturn, stp_lreturn, stp_return_, lg, lset, okl, spl, wd, c1, cnd, tg, swT, swL, f4_0, f4_1, f4_2, f4_3, f2_0, f2_1, List.mem_cons, List.not_mem_nil, List.length_cons, List.length_nil, List.cons_append, List.nil_append, Nat.reduceAdd, Nat.reduceMul, Nat.reduceLT, Nat.reduceEqDiff, Nat.reduceLeDiff, Int.reduceAdd, Int.reduceNeg, Int.reduceToNat, Int.cast_ofNat_Int, Int.reduceNatCast, Int.toNat_zero, Int.toNat_one, Int.reduceLE, Int.reduceLT, Int.reduceEq, Int.zero_add, Int.add_zero, or_false, false_or, or_true, true_or, and_true, true_and, and_false, false_and, reduceIte, not_true_eq_false, not_false_eq_true, forall_const, false_implies, true_implies, implies_true, ne_eq, reduceCtorEq, List.all_cons, List.all_nil, Bool.and_true, Bool.and_self, decide_eq_true_eq, decide_true, dX2_latest_0, dX2_latest_1, dX2_latest_2, dX2_latest_3, dX2_latest_4, dX2_latest_5, dX2_latest_6, dX2_latest_9, dX2_latest_12, dX2_latest_13, dX2_latest_14, dX2_latest_17, dX2_latest_18, dX2_latest_19, dX2_latest_22, dX2_latest_23, dX2_latest_26, dX2_latest_29, dX2_latest_30, FX2_21, FX2_9, G_X2_latest_45, hB]
  exact lp_latest V K hV μ B hB g hG hS hK (g 41).toNat 0 (by omega)
theorem good_X2_latest (l : Launch) : Good l 1 yX2_latest cX2_latest 3 (some .int) T2_latest := by
  refine Good.mk 1 (by decide) rfl (by simp [retOK]) FOK2 COK2 (gk_X2_latest l) ?_ ?_
  · intro a μ K h
    unfold T2_latest at h
    split at h
    · simp [entl]
    · exact h.elim
  · intro a μ K V hV h
    unfold T2_latest at h
    split at h
    · exact body_X2_latest _ μ K V hV h
    · exact h.elim

/-- all that was seen behind n visits is so in f -/
def fb (f g : Nat → Int) (n : Int) : Nat → Bool
  | 0 => true
  | m + 1 => fb f g n m && !decide (g (42 + 3 * m) = n ∧ f (7 * (g (43 + 3 * m)).toNat + 1) ≠ g (44 + 3 * m))
theorem fb_iff {f g : Nat → Int} {n : Int} : ∀ m, fb f g n m = true ↔ ∀ j, j < m → g (42 + 3 * j) = n → f (7 * (g (43 + 3 * j)).toNat + 1) = g (44 + 3 * j)
  | 0 => by simp [fb]
  | m + 1 => by
    simp only [fb, Bool.and_eq_true, fb_iff m, Bool.not_eq_true', decide_eq_false_iff_not]
    constructor
    · rintro ⟨h1, h2⟩ j hj e
      by_cases q : j = m
      · subst q
        exact Classical.not_not.mp (fun z => h2 ⟨e, z⟩)
      · exact h1 j (by omega) e
    · intro h
      exact ⟨fun j hj e => h j (by omega) e, fun z => z.2 (h m (by omega) z.1)⟩
def GL_X2_fitsBehind : List (Nat × Nat × Bool × TT) := [(51, 2, false, T1_has)]
def G_X2_fitsBehind : Nat → Option (Nat × Bool × TT) := fun i => GL_X2_fitsBehind.lookup i
theorem G_X2_fitsBehind_51 : G_X2_fitsBehind 51 = some (2, false, T1_has) := rfl

set_option maxRecDepth 20000 in
set_option maxHeartbeats 4000000 in
theorem lp_fitsBehind (V : Nat → List (Option AV) → List AV → Mem → Prop) (K : List AV → Mem → Prop) (hV : Clos FX2 CX2 G_X2_fitsBehind 2 K cX2_fitsBehind V) (μ : Mem) (B R : Nat) (hB : kd B = 2) (hR : kd R = 1) (f g : Nat → Int) (hG : SG μ B g) (hS : SW g) (hF : RG μ R f) (hW : WF f) (h35 : f 35 = g 35) (N : Int) (hN : InR N) (h1 : fb f g N (g 41).toNat = true → K [.inl 1] μ) (h2 : ¬ fb f g N (g 41).toNat = true → K [.inl 0] μ) : ∀ m n : Nat, n + m = (g 41).toNat → fb f g N n = true → V 2 [some (.inr (.inr B)), some (.inr (.inr R)), some (.inl N), some (.inl (n : Int))] [] μ := by
  obtain ⟨g1, g2⟩ := hG
  obtain ⟨⟨a1, a2⟩, ⟨b1, b2⟩, ⟨d1, d2⟩⟩ := seenk hB
  obtain ⟨k12, l5, k7⟩ := ringk hR
  obtain ⟨r1, r2, r3, r4, r5, r6⟩ := hF
  obtain ⟨w1, w2, w3, w4⟩ := hW
  have h41 := hS.1
  simp only [InR] at hN
  intro m
  induction m with
  | zero =>
    intro n hn ho
    have := h1 (by rw [show (g 41).toNat = n by omega]; exact ho)
    apply hV [2] 40
    simp only [InR, InL, inb, Int.toNat_natCast, wp1, wpc_z, wpc_s, stp_iconst, stp_bipush, stp_sipush, stp_lconst, stp_iload_n, stp_iload, stp_lload_n, stp_lload, stp_aload_n, stp_aload, stp_istore_n, stp_istore, stp_lstore_n, stp_lstore, stp_astore_n, stp_astore, stp_iinc, stp_iadd, stp_isub, stp_imul, stp_ineg, stp_idiv, stp_irem, stp_ladd, stp_lmul, stp_ldiv, stp_lrem, stp_ishl, stp_ishr, stp_iushr, stp_iand, stp_ior, stp_i2l, stp_i2b, stp_i2s, stp_lcmp, stp_dup, stp_dup2, stp_pop, stp_ifCond, stp_if_icmp, stp_goto, stp_tableswitch, stp_lookupswitch, stp_ldc, stp_ldc_w, stp_ldc2_w, stp_getstatic, stp_getfield, stp_putfield, stp_iaload, stp_baload, stp_iastore, stp_bastore, stp_aaload, stp_aastore, stp_invokevirtual, stp_invokestatic, stp_ireturn, stp_lreturn, stp_return_, lg, lset, okl, spl, wd, c1, cnd, tg, swT, swL, f4_0, f4_1, f4_2, f4_3, f2_0, f2_1, List.mem_cons, List.not_mem_nil, List.length_cons, List.length_nil, List.cons_append, List.nil_append, Nat.reduceAdd, Nat.reduceMul, Nat.reduceLT, Nat.reduceEqDiff, Nat.reduceLeDiff, Int.reduceAdd, Int.reduceNeg, Int.reduceToNat, Int.cast_ofNat_Int, Int.reduceNatCast, Int.toNat_zero, Int.toNat_one, Int.reduceLE, Int.reduceLT, Int.reduceEq, Int.zero_add, Int.add_zero, or_false, false_or, or_true, true_or, and_true, true_and, and_false, false_and, reduceIte, not_true_eq_false, not_false_eq_true, forall_const, false_implies, true_implies, implies_true, ne_eq, reduceCtorEq, List.all_cons, List.all_nil, Bool.and_true, Bool.and_self, decide_eq_true_eq, decide_true, dX2_fitsBehind_0, dX2_fitsBehind_1, dX2_fitsBehind_2, dX2_fitsBehind_3, dX2_fitsBehind_4, dX2_fitsBehind_7, dX2_fitsBehind_10, dX2_fitsBehind_11, dX2_fitsBehind_14, dX2_fitsBehind_15, dX2_fitsBehind_16, dX2_fitsBehind_17, dX2_fitsBehind_20, dX2_fitsBehind_21, dX2_fitsBehind_22, dX2_fitsBehind_25, dX2_fitsBehind_26, dX2_fitsBehind_27, dX2_fitsBehind_30, dX2_fitsBehind_33, dX2_fitsBehind_34, dX2_fitsBehind_37, dX2_fitsBehind_38, dX2_fitsBehind_41, dX2_fitsBehind_42, dX2_fitsBehind_43, dX2_fitsBehind_44, dX2_fitsBehind_45, dX2_fitsBehind_46, dX2_fitsBehind_47, dX2_fitsBehind_50, dX2_fitsBehind_51, dX2_fitsBehind_52, dX2_fitsBehind_55, dX2_fitsBehind_56, dX2_fitsBehind_57, dX2_fitsBehind_60, dX2_fitsBehind_63, dX2_fitsBehind_64, FX2_21, FX2_9, FX2_15, FX2_55, FX2_18, G_X2_fitsBehind_51, hB, g1]
    repeat' (first | exact trivial | omega | (with_reducible assumption) | exact absurd trivial (by with_reducible assumption) | contradiction | apply And.intro | intro _)
  | succ m ih =>
    intro n hn ho
    obtain ⟨e1, e2, e3⟩ := g2 n (by omega)
    obtain ⟨s1, s2, s3⟩ := hS.2 n (by omega)
    obtain ⟨q, hq⟩ := Int.eq_ofNat_of_zero_le s2.1
    have hr := r1.1 q (by omega)
    obtain ⟨c1, c2⟩ := k7 _ hr.1 hr.2
    have hv := r6 q 1 (by omega) (by omega)
    have hs := (w4 q (by omega)).2.1
    have hmono : ∀ a b, fb f g N a = false → a ≤ b → fb f g N b = false := by
      intro a b h
      induction b with
      | zero => intro hab; rw [show a = 0 by omega] at h; exact h
      | succ b ihb =>
        intro hab
        by_cases hab' : a = b + 1
        · rw [← hab']; exact h
        · simp only [fb, ihb (by omega), Bool.false_and]
    have hok : ¬ (g (42 + 3 * n) = N ∧ f (7 * q + 1) ≠ g (44 + 3 * n)) → V 2 [some (.inr (.inr B)), some (.inr (.inr R)), some (.inl N), some (.inl ((n : Int) + 1))] [] μ := by
      intro z
      have := ih (n + 1) (by omega) (by simp only [fb, ho, Bool.true_and, Bool.not_eq_true', decide_eq_false_iff_not]; rw [hq, Int.toNat_natCast]; exact z)
      rw [show ((n + 1 : Nat) : Int) = (n : Int) + 1 by omega] at this
      exact this
    have hno : g (42 + 3 * n) = N → f (7 * q + 1) ≠ g (44 + 3 * n) → K [.inl 0] μ := by
      intro z1 z2
      apply h2
      rw [hmono (n + 1) _ (by simp only [fb, ho, Bool.true_and, Bool.not_eq_false', decide_eq_true_eq]; rw [hq, Int.toNat_natCast]; exact ⟨z1, z2⟩) (by omega)]
      simp
    apply hV [2] 40
    simp only [InR, InL, inb, Int.toNat_natCast, wp1, wpc_z, wpc_s, stp_iconst, stp_bipush, stp_sipush, stp_lconst, stp_iload_n, stp_iload, stp_lload_n, stp_lload, stp_aload_n, stp_aload, stp_istore_n, stp_istore, stp_lstore_n, stp_lstore, stp_astore_n, stp_astore, stp_iinc, stp_iadd, stp_isub, stp_imul, stp_ineg, stp_idiv, stp_irem, stp_ladd, stp_lmul, stp_ldiv, stp_lrem, stp_ishl, stp_ishr, stp_iushr, stp_iand, stp_ior, stp_i2l, stp_i2b, stp_i2s, stp_lcmp, stp_dup, stp_dup2, stp_pop, stp_ifCond, stp_if_icmp, stp_goto, stp_tableswitch, stp_lookupswitch, stp_ldc, stp_ldc_w, stp_ldc2_w, stp_getstatic, stp_getfield, stp_putfield, stp_iaload, stp_baload, stp_iastore, stp_bastore, stp_aaload, stp_aastore, stp_invokevirtual, stp_invokestatic, stp_ireturn, stp_lreturn, stp_return_, lg, lset, okl, spl, wd, c1, cnd, tg, swT, swL, f4_0, f4_1, f4_2, f4_3, f2_0, f2_1, List.mem_cons, List.not_mem_nil, List.length_cons, List.length_nil, List.cons_append, List.nil_append, Nat.reduceAdd, Nat.reduceMul, Nat.reduceLT, Nat.reduceEqDiff, Nat.reduceLeDiff, Int.reduceAdd, Int.reduceNeg, Int.reduceToNat, Int.cast_ofNat_Int, Int.reduceNatCast, Int.toNat_zero, Int.toNat_one, Int.reduceLE, Int.reduceLT, Int.reduceEq, Int.zero_add, Int.add_zero, or_false, false_or, or_true, true_or, and_true, true_and, and_false, false_and, reduceIte, not_true_eq_false, not_false_eq_true, forall_const, false_implies, true_implies, implies_true, ne_eq, reduceCtorEq, List.all_cons, List.all_nil, Bool.and_true, Bool.and_self, decide_eq_true_eq, decide_true, dX2_fitsBehind_0, dX2_fitsBehind_1, dX2_fitsBehind_2, dX2_fitsBehind_3, dX2_fitsBehind_4, dX2_fitsBehind_7, dX2_fitsBehind_10, dX2_fitsBehind_11, dX2_fitsBehind_14, dX2_fitsBehind_15, dX2_fitsBehind_16, dX2_fitsBehind_17, dX2_fitsBehind_20, dX2_fitsBehind_21, dX2_fitsBehind_22, dX2_fitsBehind_25, dX2_fitsBehind_26, dX2_fitsBehind_27, dX2_fitsBehind_30, dX2_fitsBehind_33, dX2_fitsBehind_34, dX2_fitsBehind_37, dX2_fitsBehind_38, dX2_fitsBehind_41, dX2_fitsBehind_42, dX2_fitsBehind_43, dX2_fitsBehind_44, dX2_fitsBehind_45, dX2_fitsBehind_46, dX2_fitsBehind_47, dX2_fitsBehind_50, dX2_fitsBehind_51, dX2_fitsBehind_52, dX2_fitsBehind_55, dX2_fitsBehind_56, dX2_fitsBehind_57, dX2_fitsBehind_60, dX2_fitsBehind_63, dX2_fitsBehind_64, FX2_21, FX2_9, FX2_15, FX2_55, FX2_18, G_X2_fitsBehind_51, hB, hR, g1, a1, a2, b1, b2, d1, d2, e1, e2, e3, T1_has, hq, r2, k12, l5, elr k12, c1, c2, hv]
    repeat' (first | exact trivial | omega | (with_reducible assumption) | exact absurd trivial (by with_reducible assumption) | contradiction | apply And.intro | intro _)
    all_goals first | exact hno (by omega) (by omega) | exact hok (by omega)
def T2_fitsBehind : TT := fun a μ K => match a with
  | [.inr (.inr B), .inr (.inr R), .inl n] => kd B = 2 ∧ (kd R = 1 ∧ InR n ∧ ∃ f g : Nat → Int, SG μ B g ∧ SW g ∧ RG μ R f ∧ WF f ∧ f 35 = g 35 ∧ (fb f g n (g 41).toNat = true → K [.inl 1] μ) ∧ (¬ fb f g n (g 41).toNat = true → K [.inl 0] μ))
  | _ => False
theorem rec_X2_fitsBehind : ∀ a μ K, T2_fitsBehind a μ K → ∃ k r, a = .inr (.inr k) :: r ∧ kd k = 2 := by
  intro a μ K h
  unfold T2_fitsBehind at h
  split at h
  · exact ⟨_, _, rfl, h.1⟩
  · exact h.elim
theorem gk_X2_fitsBehind (l : Launch) : ∀ i n b T, G_X2_fitsBehind i = some (n, b, T) → CallOK l 1 RX2 i n b T := by
  intro i n b T h
  have hm : (i, n, b, T) ∈ GL_X2_fitsBehind := lk_mem h
  simp only [GL_X2_fitsBehind, List.mem_cons, List.not_mem_nil, or_false, Prod.mk.injEq] at hm
  rcases hm with ⟨rfl, rfl, rfl, rfl⟩
  · exact CallOK.V (d := 1) (own := RX2) (i := 51) (n := 1) (ci := 1) (good_X1_has l) (by decide) (by decide) rfl (by decide) rec_X1_has (mg 509 (by decide +kernel) (by decide +kernel)) (mg 313 (by decide +kernel) (by decide +kernel)) (mg 314 (by decide +kernel) (by decide +kernel)) (mg 2 (by decide +kernel) (by decide +kernel)) (mg 315 (by decide +kernel) (by decide +kernel)) (by decide +kernel)
set_option maxRecDepth 20000 in
set_option maxHeartbeats 4000000 in
theorem body_X2_fitsBehind (B : Nat) (R : Nat) (n : Int) (μ : Mem) (K : List AV → Mem → Prop) (V : Nat → List (Option AV) → List AV → Mem → Prop) (hV : Clos FX2 CX2 G_X2_fitsBehind 2 K cX2_fitsBehind V) (hT : kd B = 2 ∧ (kd R = 1 ∧ InR n ∧ ∃ f g : Nat → Int, SG μ B g ∧ SW g ∧ RG μ R f ∧ WF f ∧ f 35 = g 35 ∧ (fb f g n (g 41).toNat = true → K [.inl 1] μ) ∧ (¬ fb f g n (g 41).toNat = true → K [.inl 0] μ))) : V 0 [some (.inr (.inr B)), some (.inr (.inr R)), some (.inl n), none] [] μ := by
  obtain ⟨hB, hR, hn, f, g, hG, hS, hF, hW, h35, h1, h2⟩ := hT
  have h41 := hS.1
  apply hV [2] 40
  simp only [InR, InL, inb, Int.toNat_natCast, wp1, wpc_z, wpc_s, stp_iconst, stp_bipush, stp_sipush, stp_lconst, stp_iload_n, stp_iload, stp_lload_n, stp_lload, stp_aload_n, stp_aload, stp_istore_n, stp_istore, stp_lstore_n, stp_lstore, stp_astore_n, stp_astore, stp_iinc, stp_iadd, stp_isub, stp_imul, stp_ineg, stp_idiv, stp_irem, stp_ladd, stp_lmul, stp_ldiv, stp_lrem, stp_ishl, stp_ishr, stp_iushr, stp_iand, stp_ior, stp_i2l, stp_i2b, stp_i2s, stp_lcmp, stp_dup, stp_dup2, stp_pop, stp_ifCond, stp_if_icmp, stp_goto, stp_tableswitch, stp_lookupswitch, stp_ldc, stp_ldc_w, stp_ldc2_w, stp_getstatic, stp_getfield, stp_putfield, stp_iaload, stp_baload, stp_iastore, stp_bastore, stp_aaload, stp_aastore, stp_invokevirtual, stp_invokestatic, stp_ireturn, stp_lreturn, stp_return_, lg, lset, okl, spl, wd, c1, cnd, tg, swT, swL, f4_0, f4_1, f4_2, f4_3, f2_0, f2_1, List.mem_cons, List.not_mem_nil, List.length_cons, List.length_nil, List.cons_append, List.nil_append, Nat.reduceAdd, Nat.reduceMul, Nat.reduceLT, Nat.reduceEqDiff, Nat.reduceLeDiff, Int.reduceAdd, Int.reduceNeg, Int.reduceToNat, Int.cast_ofNat_Int, Int.reduceNatCast, Int.toNat_zero, Int.toNat_one, Int.reduceLE, Int.reduceLT, Int.reduceEq, Int.zero_add, Int.add_zero, or_false, false_or, or_true, true_or, and_true, true_and, and_false, false_and, reduceIte, not_true_eq_false, not_false_eq_true, forall_const, false_implies, true_implies, implies_true, ne_eq, reduceCtorEq, List.all_cons, List.all_nil, Bool.and_true, Bool.and_self, decide_eq_true_eq, decide_true, dX2_fitsBehind_0, dX2_fitsBehind_1, dX2_fitsBehind_2, dX2_fitsBehind_3, dX2_fitsBehind_4, dX2_fitsBehind_7, dX2_fitsBehind_10, dX2_fitsBehind_11, dX2_fitsBehind_14, dX2_fitsBehind_15, dX2_fitsBehind_16, dX2_fitsBehind_17, dX2_fitsBehind_20, dX2_fitsBehind_21, dX2_fitsBehind_22, dX2_fitsBehind_25, dX2_fitsBehind_26, dX2_fitsBehind_27, dX2_fitsBehind_30, dX2_fitsBehind_33, dX2_fitsBehind_34, dX2_fitsBehind_37, dX2_fitsBehind_38, dX2_fitsBehind_41, dX2_fitsBehind_42, dX2_fitsBehind_43, dX2_fitsBehind_44, dX2_fitsBehind_45, dX2_fitsBehind_46, dX2_fitsBehind_47, dX2_fitsBehind_50, dX2_fitsBehind_51, dX2_fitsBehind_52, dX2_fitsBehind_55, dX2_fitsBehind_56, dX2_fitsBehind_57, dX2_fitsBehind_60, dX2_fitsBehind_63, dX2_fitsBehind_64, FX2_21, FX2_9, FX2_15, FX2_55, FX2_18, G_X2_fitsBehind_51, hB]
  exact lp_fitsBehind V K hV μ B R hB hR f g hG hS hF hW h35 n hn h1 h2 (g 41).toNat 0 (by omega) rfl
theorem good_X2_fitsBehind (l : Launch) : Good l 1 yX2_fitsBehind cX2_fitsBehind 4 (some .boolean) T2_fitsBehind := by
  refine Good.mk 2 (by decide) rfl (by simp [retOK]) FOK2 COK2 (gk_X2_fitsBehind l) ?_ ?_
  · intro a μ K h
    unfold T2_fitsBehind at h
    split at h
    · simp [entl]
    · exact h.elim
  · intro a μ K V hV h
    unfold T2_fitsBehind at h
    split at h
    · exact body_X2_fitsBehind _ _ _ μ K V hV h
    · exact h.elim

/-- all that was seen is so, from f on -/
def fitA (f g : Nat → Int) : Nat → Bool
  | 0 => true
  | m + 1 => fitA f g m && decide (nx yes f (g (42 + 3 * m)).toNat (7 * (g (43 + 3 * m)).toNat + 1) = g (44 + 3 * m))
theorem fitA_iff {f g : Nat → Int} : ∀ m, fitA f g m = true ↔ ∀ j, j < m → nx yes f (g (42 + 3 * j)).toNat (7 * (g (43 + 3 * j)).toNat + 1) = g (44 + 3 * j)
  | 0 => by simp [fitA]
  | m + 1 => by
    simp only [fitA, Bool.and_eq_true, fitA_iff m, decide_eq_true_eq]
    constructor
    · rintro ⟨h1, h2⟩ j hj
      by_cases q : j = m
      · subst q; exact h2
      · exact h1 j (by omega)
    · intro h
      exact ⟨fun j hj => h j (by omega), h m (by omega)⟩
theorem seenring : ∀ B, B < 79 → kd B = 2 → B = 15 ∨ B = 30 ∨ B = 42 := by decide +kernel
theorem SG.of {μ μ' : Mem} {B R : Nat} {g : Nat → Int} (hB : kd B = 2) (hR : kd R = 1) (h : SG μ B g) (hF : FR R μ μ') : SG μ' B g := by
  have a := seenring B (kd_lt hB (by omega) (by omega)) hB
  have b := rings4 R (kd_lt hR (by omega) (by omega)) hR
  refine ⟨by rw [hF.1 B (by omega)]; exact h.1, fun j hj => ?_⟩
  rw [hF.1 (B + 1) (by omega), hF.1 (B + 2) (by omega), hF.1 (B + 3) (by omega)]
  exact h.2 j hj
def GL_X2_fits : List (Nat × Nat × Bool × TT) := [(31, 1, false, T2_latest), (35, 3, false, T2_fitsBehind), (39, 2, false, T1_visit)]
def G_X2_fits : Nat → Option (Nat × Bool × TT) := fun i => GL_X2_fits.lookup i
theorem G_X2_fits_31 : G_X2_fits 31 = some (1, false, T2_latest) := rfl
theorem G_X2_fits_35 : G_X2_fits 35 = some (3, false, T2_fitsBehind) := rfl
theorem G_X2_fits_39 : G_X2_fits 39 = some (2, false, T1_visit) := rfl

set_option maxRecDepth 20000 in
set_option maxHeartbeats 4000000 in
theorem lp_fits (V : Nat → List (Option AV) → List AV → Mem → Prop) (K : List AV → Mem → Prop) (hV : Clos FX2 CX2 G_X2_fits 2 K cX2_fits V) (μ : Mem) (B R : Nat) (hB : kd B = 2) (hR : kd R = 1) (f g : Nat → Int) (hG : SG μ B g) (hS : SW g) (hW : WF f) (h35 : f 35 = g 35) (h38 : f 38 ≤ 15000) (hK : ∀ ν, FR R μ ν → (fitA f g (g 41).toNat = true → K [.inl 1] ν) ∧ (¬ fitA f g (g 41).toNat = true → K [.inl 0] ν)) : ∀ m n : Nat, n + m = (latF g (g 41).toNat).toNat → ∀ ν, GR yes μ ν R f n → ∀ b : Bool, (b = true ↔ ∀ k : Nat, k ≤ n → fb (nx yes f k) g k (g 41).toNat = true) → V 15 [some (.inr (.inr B)), some (.inr (.inr R)), some (.inl (latF g (g 41).toNat)), some (.inl (if b = true then 1 else 0)), some (.inl ((n : Int) + 1))] [] ν := by
  have h41 := hS.1
  obtain ⟨l1, l2, l3⟩ := latF_in hS (g 41).toNat (by omega)
  have fin : ∀ n : Nat, (n : Int) = latF g (g 41).toNat → (∀ k : Nat, k ≤ n → fb (nx yes f k) g k (g 41).toNat = true) → fitA f g (g 41).toNat = true := by
    intro n hn h
    rw [fitA_iff]
    intro j hj
    have hs := (hS.2 j (by omega)).1
    have := (fb_iff _).mp (h (g (42 + 3 * j)).toNat (by have := l3 j hj; omega)) j hj (by omega)
    exact this
  have nofin : ∀ n : Nat, ¬ (∀ k : Nat, k ≤ n → fb (nx yes f k) g k (g 41).toNat = true) → ¬ fitA f g (g 41).toNat = true := by
    intro n h z
    apply h
    intro k hk
    rw [fb_iff]
    intro j hj e
    have := (fitA_iff _).mp z j hj
    rw [e, Int.toNat_natCast] at this
    exact this
  intro m
  induction m with
  | zero =>
    intro n hn ν hν b hb
    have k := hK ν hν.2.2.2
    cases b with
    | true =>
      have k1 := k.1 (fin n (by omega) (hb.mp rfl))
      apply hV [15] 40
      simp only [InR, InL, inb, Int.toNat_natCast, wp1, wpc_z, wpc_s, stp_iconst, stp_bipush, stp_sipush, stp_lconst, stp_iload_n, stp_iload, stp_lload_n, stp_lload, stp_aload_n, stp_aload, stp_istore_n, stp_istore, stp_lstore_n, stp_lstore, stp_astore_n, stp_astore, stp_iinc, stp_iadd, stp_isub, stp_imul, stp_ineg, stp_idiv, stp_irem, stp_ladd, stp_lmul, stp_ldiv, stp_lrem, stp_ishl, stp_ishr, stp_iushr, stp_iand, stp_ior, stp_i2l, stp_i2b, stp_i2s, stp_lcmp, stp_dup, stp_dup2, stp_pop, stp_ifCond, stp_if_icmp, stp_goto, stp_tableswitch, stp_lookupswitch, stp_ldc, stp_ldc_w, stp_ldc2_w, stp_getstatic, stp_getfield, stp_putfield, stp_iaload, stp_baload, stp_iastore, stp_bastore, stp_aaload, stp_aastore, stp_invokevirtual, stp_invokestatic, stp_ireturn, stp_lreturn, stp_return_, lg, lset, okl, spl, wd, c1, cnd, tg, swT, swL, f4_0, f4_1, f4_2, f4_3, f2_0, f2_1, List.mem_cons, List.not_mem_nil, List.length_cons, List.length_nil, List.cons_append, List.nil_append, Nat.reduceAdd, Nat.reduceMul, Nat.reduceLT, Nat.reduceEqDiff, Nat.reduceLeDiff, Int.reduceAdd, Int.reduceNeg, Int.reduceToNat, Int.cast_ofNat_Int, Int.reduceNatCast, Int.toNat_zero, Int.toNat_one, Int.reduceLE, Int.reduceLT, Int.reduceEq, Int.zero_add, Int.add_zero, or_false, false_or, or_true, true_or, and_true, true_and, and_false, false_and, reduceIte, not_true_eq_false, not_false_eq_true, forall_const, false_implies, true_implies, implies_true, ne_eq, reduceCtorEq, List.all_cons, List.all_nil, Bool.and_true, Bool.and_self, decide_eq_true_eq, decide_true, dX2_fits_0, dX2_fits_1, dX2_fits_4, dX2_fits_5, dX2_fits_6, dX2_fits_7, dX2_fits_8, dX2_fits_11, dX2_fits_12, dX2_fits_13, dX2_fits_15, dX2_fits_17, dX2_fits_18, dX2_fits_21, dX2_fits_22, dX2_fits_25, dX2_fits_26, dX2_fits_27, dX2_fits_30, dX2_fits_31, dX2_fits_32, dX2_fits_33, dX2_fits_35, dX2_fits_38, dX2_fits_39, dX2_fits_42, dX2_fits_45, dX2_fits_46, G_X2_fits_31, G_X2_fits_35, G_X2_fits_39, if_true]
      repeat' (first | exact trivial | omega | (with_reducible assumption) | exact absurd trivial (by with_reducible assumption) | contradiction | apply And.intro | intro _)
    | false =>
      have k2 := k.2 (nofin n (fun z => by have := hb.mpr z; cases this))
      apply hV [15] 40
      simp only [InR, InL, inb, Int.toNat_natCast, wp1, wpc_z, wpc_s, stp_iconst, stp_bipush, stp_sipush, stp_lconst, stp_iload_n, stp_iload, stp_lload_n, stp_lload, stp_aload_n, stp_aload, stp_istore_n, stp_istore, stp_lstore_n, stp_lstore, stp_astore_n, stp_astore, stp_iinc, stp_iadd, stp_isub, stp_imul, stp_ineg, stp_idiv, stp_irem, stp_ladd, stp_lmul, stp_ldiv, stp_lrem, stp_ishl, stp_ishr, stp_iushr, stp_iand, stp_ior, stp_i2l, stp_i2b, stp_i2s, stp_lcmp, stp_dup, stp_dup2, stp_pop, stp_ifCond, stp_if_icmp, stp_goto, stp_tableswitch, stp_lookupswitch, stp_ldc, stp_ldc_w, stp_ldc2_w, stp_getstatic, stp_getfield, stp_putfield, stp_iaload, stp_baload, stp_iastore, stp_bastore, stp_aaload, stp_aastore, stp_invokevirtual, stp_invokestatic, stp_ireturn, stp_lreturn, stp_return_, lg, lset, okl, spl, wd, c1, cnd, tg, swT, swL, f4_0, f4_1, f4_2, f4_3, f2_0, f2_1, List.mem_cons, List.not_mem_nil, List.length_cons, List.length_nil, List.cons_append, List.nil_append, Nat.reduceAdd, Nat.reduceMul, Nat.reduceLT, Nat.reduceEqDiff, Nat.reduceLeDiff, Int.reduceAdd, Int.reduceNeg, Int.reduceToNat, Int.cast_ofNat_Int, Int.reduceNatCast, Int.toNat_zero, Int.toNat_one, Int.reduceLE, Int.reduceLT, Int.reduceEq, Int.zero_add, Int.add_zero, or_false, false_or, or_true, true_or, and_true, true_and, and_false, false_and, reduceIte, not_true_eq_false, not_false_eq_true, forall_const, false_implies, true_implies, implies_true, ne_eq, reduceCtorEq, List.all_cons, List.all_nil, Bool.and_true, Bool.and_self, decide_eq_true_eq, decide_true, dX2_fits_0, dX2_fits_1, dX2_fits_4, dX2_fits_5, dX2_fits_6, dX2_fits_7, dX2_fits_8, dX2_fits_11, dX2_fits_12, dX2_fits_13, dX2_fits_15, dX2_fits_17, dX2_fits_18, dX2_fits_21, dX2_fits_22, dX2_fits_25, dX2_fits_26, dX2_fits_27, dX2_fits_30, dX2_fits_31, dX2_fits_32, dX2_fits_33, dX2_fits_35, dX2_fits_38, dX2_fits_39, dX2_fits_42, dX2_fits_45, dX2_fits_46, G_X2_fits_31, G_X2_fits_35, G_X2_fits_39, Bool.false_eq_true, if_false]
      repeat' (first | exact trivial | omega | (with_reducible assumption) | exact absurd trivial (by with_reducible assumption) | contradiction | apply And.intro | intro _)
  | succ m ih =>
    intro n hn ν hν b hb
    have k := hK ν hν.2.2.2
    cases b with
    | false =>
      have k2 := k.2 (nofin n (fun z => by have := hb.mpr z; cases this))
      apply hV [15] 40
      simp only [InR, InL, inb, Int.toNat_natCast, wp1, wpc_z, wpc_s, stp_iconst, stp_bipush, stp_sipush, stp_lconst, stp_iload_n, stp_iload, stp_lload_n, stp_lload, stp_aload_n, stp_aload, stp_istore_n, stp_istore, stp_lstore_n, stp_lstore, stp_astore_n, stp_astore, stp_iinc, stp_iadd, stp_isub, stp_imul, stp_ineg, stp_idiv, stp_irem, stp_ladd, stp_lmul, stp_ldiv, stp_lrem, stp_ishl, stp_ishr, stp_iushr, stp_iand, stp_ior, stp_i2l, stp_i2b, stp_i2s, stp_lcmp, stp_dup, stp_dup2, stp_pop, stp_ifCond, stp_if_icmp, stp_goto, stp_tableswitch, stp_lookupswitch, stp_ldc, stp_ldc_w, stp_ldc2_w, stp_getstatic, stp_getfield, stp_putfield, stp_iaload, stp_baload, stp_iastore, stp_bastore, stp_aaload, stp_aastore, stp_invokevirtual, stp_invokestatic, stp_ireturn, stp_lreturn, stp_return_, lg, lset, okl, spl, wd, c1, cnd, tg, swT, swL, f4_0, f4_1, f4_2, f4_3, f2_0, f2_1, List.mem_cons, List.not_mem_nil, List.length_cons, List.length_nil, List.cons_append, List.nil_append, Nat.reduceAdd, Nat.reduceMul, Nat.reduceLT, Nat.reduceEqDiff, Nat.reduceLeDiff, Int.reduceAdd, Int.reduceNeg, Int.reduceToNat, Int.cast_ofNat_Int, Int.reduceNatCast, Int.toNat_zero, Int.toNat_one, Int.reduceLE, Int.reduceLT, Int.reduceEq, Int.zero_add, Int.add_zero, or_false, false_or, or_true, true_or, and_true, true_and, and_false, false_and, reduceIte, not_true_eq_false, not_false_eq_true, forall_const, false_implies, true_implies, implies_true, ne_eq, reduceCtorEq, List.all_cons, List.all_nil, Bool.and_true, Bool.and_self, decide_eq_true_eq, decide_true, dX2_fits_0, dX2_fits_1, dX2_fits_4, dX2_fits_5, dX2_fits_6, dX2_fits_7, dX2_fits_8, dX2_fits_11, dX2_fits_12, dX2_fits_13, dX2_fits_15, dX2_fits_17, dX2_fits_18, dX2_fits_21, dX2_fits_22, dX2_fits_25, dX2_fits_26, dX2_fits_27, dX2_fits_30, dX2_fits_31, dX2_fits_32, dX2_fits_33, dX2_fits_35, dX2_fits_38, dX2_fits_39, dX2_fits_42, dX2_fits_45, dX2_fits_46, G_X2_fits_31, G_X2_fits_35, G_X2_fits_39, Bool.false_eq_true, if_false]
      repeat' (first | exact trivial | omega | (with_reducible assumption) | exact absurd trivial (by with_reducible assumption) | contradiction | apply And.intro | intro _)
    | true =>
      obtain ⟨x1, x2, x3⟩ := nx_WF (p := yes) hW n
      obtain ⟨y1, y2, y3⟩ := nx_WF (p := yes) hW (n + 1)
      apply hV [15] 40
      simp only [InR, InL, inb, Int.toNat_natCast, wp1, wpc_z, wpc_s, stp_iconst, stp_bipush, stp_sipush, stp_lconst, stp_iload_n, stp_iload, stp_lload_n, stp_lload, stp_aload_n, stp_aload, stp_istore_n, stp_istore, stp_lstore_n, stp_lstore, stp_astore_n, stp_astore, stp_iinc, stp_iadd, stp_isub, stp_imul, stp_ineg, stp_idiv, stp_irem, stp_ladd, stp_lmul, stp_ldiv, stp_lrem, stp_ishl, stp_ishr, stp_iushr, stp_iand, stp_ior, stp_i2l, stp_i2b, stp_i2s, stp_lcmp, stp_dup, stp_dup2, stp_pop, stp_ifCond, stp_if_icmp, stp_goto, stp_tableswitch, stp_lookupswitch, stp_ldc, stp_ldc_w, stp_ldc2_w, stp_getstatic, stp_getfield, stp_putfield, stp_iaload, stp_baload, stp_iastore, stp_bastore, stp_aaload, stp_aastore, stp_invokevirtual, stp_invokestatic, stp_ireturn, stp_lreturn, stp_return_, lg, lset, okl, spl, wd, c1, cnd, tg, swT, swL, f4_0, f4_1, f4_2, f4_3, f2_0, f2_1, List.mem_cons, List.not_mem_nil, List.length_cons, List.length_nil, List.cons_append, List.nil_append, Nat.reduceAdd, Nat.reduceMul, Nat.reduceLT, Nat.reduceEqDiff, Nat.reduceLeDiff, Int.reduceAdd, Int.reduceNeg, Int.reduceToNat, Int.cast_ofNat_Int, Int.reduceNatCast, Int.toNat_zero, Int.toNat_one, Int.reduceLE, Int.reduceLT, Int.reduceEq, Int.zero_add, Int.add_zero, or_false, false_or, or_true, true_or, and_true, true_and, and_false, false_and, reduceIte, not_true_eq_false, not_false_eq_true, forall_const, false_implies, true_implies, implies_true, ne_eq, reduceCtorEq, List.all_cons, List.all_nil, Bool.and_true, Bool.and_self, decide_eq_true_eq, decide_true, dX2_fits_0, dX2_fits_1, dX2_fits_4, dX2_fits_5, dX2_fits_6, dX2_fits_7, dX2_fits_8, dX2_fits_11, dX2_fits_12, dX2_fits_13, dX2_fits_15, dX2_fits_17, dX2_fits_18, dX2_fits_21, dX2_fits_22, dX2_fits_25, dX2_fits_26, dX2_fits_27, dX2_fits_30, dX2_fits_31, dX2_fits_32, dX2_fits_33, dX2_fits_35, dX2_fits_38, dX2_fits_39, dX2_fits_42, dX2_fits_45, dX2_fits_46, G_X2_fits_31, G_X2_fits_35, G_X2_fits_39, if_true, hB, hR, T1_visit, T2_fitsBehind]
      repeat' (first | exact trivial | omega | (with_reducible assumption) | exact absurd trivial (by with_reducible assumption) | contradiction | apply And.intro | intro _)
      refine ⟨nx yes f n, true, hν.1, x1, by omega, by simp, fun ρ hρ => ?_⟩
      have hG2 := hν.st hρ
      have hSG := hG.of hB hR hG2.2.2.2
      refine ⟨by omega, nx yes f (n + 1), g, hSG, hS, hG2.1, y1, by rw [y3]; exact h35, fun z => ?_, fun z => ?_⟩
      · have h := ih (n + 1) (by omega) ρ hG2 true ⟨fun _ k hk => by
          by_cases e : k = n + 1
          · subst e
            rw [show ((n + 1 : Nat) : Int) = (n : Int) + 1 by omega]
            exact z
          · exact (hb.mp rfl) k (by omega), fun _ => rfl⟩
        simp only [if_true] at h
        rw [show ((n + 1 : Nat) : Int) = (n : Int) + 1 by omega] at h
        exact h
      · have h := ih (n + 1) (by omega) ρ hG2 false ⟨fun q => (by cases q), fun q => by
          have := q (n + 1) (by omega)
          rw [show ((n + 1 : Nat) : Int) = (n : Int) + 1 by omega] at this
          exact absurd this z⟩
        simp only [Bool.false_eq_true, if_false] at h
        rw [show ((n + 1 : Nat) : Int) = (n : Int) + 1 by omega] at h
        exact h
def T2_fits : TT := fun a μ K => match a with
  | [.inr (.inr B), .inr (.inr R)] => kd B = 2 ∧ (kd R = 1 ∧ ∃ f g : Nat → Int, SG μ B g ∧ SW g ∧ RG μ R f ∧ WF f ∧ f 35 = g 35 ∧ f 38 ≤ 15000 ∧ ∀ ν, FR R μ ν → (fitA f g (g 41).toNat = true → K [.inl 1] ν) ∧ (¬ fitA f g (g 41).toNat = true → K [.inl 0] ν))
  | _ => False
theorem rec_X2_fits : ∀ a μ K, T2_fits a μ K → ∃ k r, a = .inr (.inr k) :: r ∧ kd k = 2 := by
  intro a μ K h
  unfold T2_fits at h
  split at h
  · exact ⟨_, _, rfl, h.1⟩
  · exact h.elim
theorem gk_X2_fits (l : Launch) : ∀ i n b T, G_X2_fits i = some (n, b, T) → CallOK l 4 RX2 i n b T := by
  intro i n b T h
  have hm : (i, n, b, T) ∈ GL_X2_fits := lk_mem h
  simp only [GL_X2_fits, List.mem_cons, List.not_mem_nil, or_false, Prod.mk.injEq] at hm
  rcases hm with ⟨rfl, rfl, rfl, rfl⟩ | ⟨rfl, rfl, rfl, rfl⟩ | ⟨rfl, rfl, rfl, rfl⟩
  · exact CallOK.V (d := 4) (own := RX2) (i := 31) (n := 0) (ci := 2) (good_X2_latest l) (by decide) (by decide) rfl (by decide) rec_X2_latest (mg 500 (by decide +kernel) (by decide +kernel)) (mg 502 (by decide +kernel) (by decide +kernel)) (mgs 17 (by decide +kernel) (by decide +kernel)) (mg 3 (by decide +kernel) (by decide +kernel)) (mg 503 (by decide +kernel) (by decide +kernel)) (by decide +kernel)
  · exact CallOK.V (d := 4) (own := RX2) (i := 35) (n := 2) (ci := 2) (good_X2_fitsBehind l) (by decide) (by decide) rfl (by decide) rec_X2_fitsBehind (mg 505 (by decide +kernel) (by decide +kernel)) (mg 507 (by decide +kernel) (by decide +kernel)) (mgs 18 (by decide +kernel) (by decide +kernel)) (mg 3 (by decide +kernel) (by decide +kernel)) (mg 508 (by decide +kernel) (by decide +kernel)) (by decide +kernel)
  · exact CallOK.V (d := 4) (own := RX2) (i := 39) (n := 1) (ci := 1) (good_X1_visit l) (by decide) (by decide) rfl (by decide) rec_X1_visit (mg 510 (by decide +kernel) (by decide +kernel)) (mg 393 (by decide +kernel) (by decide +kernel)) (mg 394 (by decide +kernel) (by decide +kernel)) (mg 2 (by decide +kernel) (by decide +kernel)) (mg 395 (by decide +kernel) (by decide +kernel)) (by decide +kernel)
set_option maxRecDepth 20000 in
set_option maxHeartbeats 4000000 in
theorem body_X2_fits (B : Nat) (R : Nat) (μ : Mem) (K : List AV → Mem → Prop) (V : Nat → List (Option AV) → List AV → Mem → Prop) (hV : Clos FX2 CX2 G_X2_fits 2 K cX2_fits V) (hT : kd B = 2 ∧ (kd R = 1 ∧ ∃ f g : Nat → Int, SG μ B g ∧ SW g ∧ RG μ R f ∧ WF f ∧ f 35 = g 35 ∧ f 38 ≤ 15000 ∧ ∀ ν, FR R μ ν → (fitA f g (g 41).toNat = true → K [.inl 1] ν) ∧ (¬ fitA f g (g 41).toNat = true → K [.inl 0] ν))) : V 0 [some (.inr (.inr B)), some (.inr (.inr R)), none, none, none] [] μ := by
  obtain ⟨hB, hR, f, g, hG, hS, hF, hW, h35, h38, hK⟩ := hT
  have h41 := hS.1
  obtain ⟨l1, l2, l3⟩ := latF_in hS (g 41).toNat (by omega)
  have kk := lp_fits V K hV μ B R hB hR f g hG hS hW h35 h38 hK (latF g (g 41).toNat).toNat 0 (by omega) μ (GR.rf hF)
  apply hV [15] 60
  simp only [InR, InL, inb, Int.toNat_natCast, wp1, wpc_z, wpc_s, stp_iconst, stp_bipush, stp_sipush, stp_lconst, stp_iload_n, stp_iload, stp_lload_n, stp_lload, stp_aload_n, stp_aload, stp_istore_n, stp_istore, stp_lstore_n, stp_lstore, stp_astore_n, stp_astore, stp_iinc, stp_iadd, stp_isub, stp_imul, stp_ineg, stp_idiv, stp_irem, stp_ladd, stp_lmul, stp_ldiv, stp_lrem, stp_ishl, stp_ishr, stp_iushr, stp_iand, stp_ior, stp_i2l, stp_i2b, stp_i2s, stp_lcmp, stp_dup, stp_dup2, stp_pop, stp_ifCond, stp_if_icmp, stp_goto, stp_tableswitch, stp_lookupswitch, stp_ldc, stp_ldc_w, stp_ldc2_w, stp_getstatic, stp_getfield, stp_putfield, stp_iaload, stp_baload, stp_iastore, stp_bastore, stp_aaload, stp_aastore, stp_invokevirtual, stp_invokestatic, stp_ireturn, stp_lreturn, stp_return_, lg, lset, okl, spl, wd, c1, cnd, tg, swT, swL, f4_0, f4_1, f4_2, f4_3, f2_0, f2_1, List.mem_cons, List.not_mem_nil, List.length_cons, List.length_nil, List.cons_append, List.nil_append, Nat.reduceAdd, Nat.reduceMul, Nat.reduceLT, Nat.reduceEqDiff, Nat.reduceLeDiff, Int.reduceAdd, Int.reduceNeg, Int.reduceToNat, Int.cast_ofNat_Int, Int.reduceNatCast, Int.toNat_zero, Int.toNat_one, Int.reduceLE, Int.reduceLT, Int.reduceEq, Int.zero_add, Int.add_zero, or_false, false_or, or_true, true_or, and_true, true_and, and_false, false_and, reduceIte, not_true_eq_false, not_false_eq_true, forall_const, false_implies, true_implies, implies_true, ne_eq, reduceCtorEq, List.all_cons, List.all_nil, Bool.and_true, Bool.and_self, decide_eq_true_eq, decide_true, dX2_fits_0, dX2_fits_1, dX2_fits_4, dX2_fits_5, dX2_fits_6, dX2_fits_7, dX2_fits_8, dX2_fits_11, dX2_fits_12, dX2_fits_13, dX2_fits_15, dX2_fits_17, dX2_fits_18, dX2_fits_21, dX2_fits_22, dX2_fits_25, dX2_fits_26, dX2_fits_27, dX2_fits_30, dX2_fits_31, dX2_fits_32, dX2_fits_33, dX2_fits_35, dX2_fits_38, dX2_fits_39, dX2_fits_42, dX2_fits_45, dX2_fits_46, G_X2_fits_31, G_X2_fits_35, G_X2_fits_39, hB, hR, T2_latest, T2_fitsBehind]
  refine ⟨g, hG, hS, f, g, hG, hS, hF, hW, h35, fun z => ?_, fun z => ?_⟩
  · have := kk true ⟨fun _ k hk => by rw [show k = 0 by omega]; exact z, fun _ => rfl⟩
    simp only [if_true] at this
    exact this
  · have := kk false ⟨fun q => (by cases q), fun q => absurd (q 0 (by omega)) z⟩
    simp only [Bool.false_eq_true, if_false] at this
    exact this
theorem good_X2_fits (l : Launch) : Good l 4 yX2_fits cX2_fits 5 (some .boolean) T2_fits := by
  refine Good.mk 2 (by decide) rfl (by simp [retOK]) FOK2 COK2 (gk_X2_fits l) ?_ ?_
  · intro a μ K h
    unfold T2_fits at h
    split at h
    · simp [entl]
    · exact h.elim
  · intro a μ K V hV h
    unfold T2_fits at h
    split at h
    · exact body_X2_fits _ _ μ K V hV h
    · exact h.elim

def GL_X3_renew : List (Nat × Nat × Bool × TT) := []
def G_X3_renew : Nat → Option (Nat × Bool × TT) := fun i => GL_X3_renew.lookup i

set_option maxRecDepth 20000 in
set_option maxHeartbeats 4000000 in
theorem lp_renew (V : Nat → List (Option AV) → List AV → Mem → Prop) (K : List AV → Mem → Prop) (hV : Clos FX3 CX3 G_X3_renew 0 K cX3_renew V) (μ : Mem) (B : Nat) (hB : kd B = 3) (x y : Int) (hK : K [] (wB μ (B + 1) 40 (fun _ => 0))) : ∀ m n : Nat, n + m = 40 → V 12 [some (.inr (.inr B)), some (.inl x), some (.inl y), some (.inl (n : Int))] [] (wB μ (B + 1) n (fun _ => 0)) := by
  obtain ⟨a1, a2⟩ := sheetk hB
  intro m
  induction m with
  | zero =>
    intro n hn
    apply hV [12] 40
    simp only [InR, InL, inb, Int.toNat_natCast, wp1, wpc_z, wpc_s, stp_iconst, stp_bipush, stp_sipush, stp_lconst, stp_iload_n, stp_iload, stp_lload_n, stp_lload, stp_aload_n, stp_aload, stp_istore_n, stp_istore, stp_lstore_n, stp_lstore, stp_astore_n, stp_astore, stp_iinc, stp_iadd, stp_isub, stp_imul, stp_ineg, stp_idiv, stp_irem, stp_ladd, stp_lmul, stp_ldiv, stp_lrem, stp_ishl, stp_ishr, stp_iushr, stp_iand, stp_ior, stp_i2l, stp_i2b, stp_i2s, stp_lcmp, stp_dup, stp_dup2, stp_pop, stp_ifCond, stp_if_icmp, stp_goto, stp_tableswitch, stp_lookupswitch, stp_ldc, stp_ldc_w, stp_ldc2_w, stp_getstatic, stp_getfield, stp_putfield, stp_iaload, stp_baload, stp_iastore, stp_bastore, stp_aaload, stp_aastore, stp_invokevirtual, stp_invokestatic, stp_ireturn, stp_lreturn, stp_return_, lg, lset, okl, spl, wd, c1, cnd, tg, swT, swL, f4_0, f4_1, f4_2, f4_3, f2_0, f2_1, List.mem_cons, List.not_mem_nil, List.length_cons, List.length_nil, List.cons_append, List.nil_append, Nat.reduceAdd, Nat.reduceMul, Nat.reduceLT, Nat.reduceEqDiff, Nat.reduceLeDiff, Int.reduceAdd, Int.reduceNeg, Int.reduceToNat, Int.cast_ofNat_Int, Int.reduceNatCast, Int.toNat_zero, Int.toNat_one, Int.reduceLE, Int.reduceLT, Int.reduceEq, Int.zero_add, Int.add_zero, or_false, false_or, or_true, true_or, and_true, true_and, and_false, false_and, reduceIte, not_true_eq_false, not_false_eq_true, forall_const, false_implies, true_implies, implies_true, ne_eq, reduceCtorEq, List.all_cons, List.all_nil, Bool.and_true, Bool.and_self, decide_eq_true_eq, decide_true, dX3_renew_0, dX3_renew_1, dX3_renew_2, dX3_renew_5, dX3_renew_6, dX3_renew_7, dX3_renew_10, dX3_renew_11, dX3_renew_12, dX3_renew_13, dX3_renew_15, dX3_renew_18, dX3_renew_19, dX3_renew_22, dX3_renew_23, dX3_renew_24, dX3_renew_25, dX3_renew_28, dX3_renew_31, FX3_15, FX3_19, FX3_9, hB, a1, a2]
    repeat' (first | exact trivial | omega | (with_reducible assumption) | exact absurd trivial (by with_reducible assumption) | contradiction | apply And.intro | intro _)
    rw [show n = 40 by omega]
    exact hK
  | succ m ih =>
    intro n hn
    have h := ih (n + 1) (by omega)
    rw [← wI_wB (v := 0) _ (B + 1) n _ rfl, show ((n + 1 : Nat) : Int) = (n : Int) + 1 by omega] at h
    apply hV [12] 40
    simp only [InR, InL, inb, Int.toNat_natCast, wp1, wpc_z, wpc_s, stp_iconst, stp_bipush, stp_sipush, stp_lconst, stp_iload_n, stp_iload, stp_lload_n, stp_lload, stp_aload_n, stp_aload, stp_istore_n, stp_istore, stp_lstore_n, stp_lstore, stp_astore_n, stp_astore, stp_iinc, stp_iadd, stp_isub, stp_imul, stp_ineg, stp_idiv, stp_irem, stp_ladd, stp_lmul, stp_ldiv, stp_lrem, stp_ishl, stp_ishr, stp_iushr, stp_iand, stp_ior, stp_i2l, stp_i2b, stp_i2s, stp_lcmp, stp_dup, stp_dup2, stp_pop, stp_ifCond, stp_if_icmp, stp_goto, stp_tableswitch, stp_lookupswitch, stp_ldc, stp_ldc_w, stp_ldc2_w, stp_getstatic, stp_getfield, stp_putfield, stp_iaload, stp_baload, stp_iastore, stp_bastore, stp_aaload, stp_aastore, stp_invokevirtual, stp_invokestatic, stp_ireturn, stp_lreturn, stp_return_, lg, lset, okl, spl, wd, c1, cnd, tg, swT, swL, f4_0, f4_1, f4_2, f4_3, f2_0, f2_1, List.mem_cons, List.not_mem_nil, List.length_cons, List.length_nil, List.cons_append, List.nil_append, Nat.reduceAdd, Nat.reduceMul, Nat.reduceLT, Nat.reduceEqDiff, Nat.reduceLeDiff, Int.reduceAdd, Int.reduceNeg, Int.reduceToNat, Int.cast_ofNat_Int, Int.reduceNatCast, Int.toNat_zero, Int.toNat_one, Int.reduceLE, Int.reduceLT, Int.reduceEq, Int.zero_add, Int.add_zero, or_false, false_or, or_true, true_or, and_true, true_and, and_false, false_and, reduceIte, not_true_eq_false, not_false_eq_true, forall_const, false_implies, true_implies, implies_true, ne_eq, reduceCtorEq, List.all_cons, List.all_nil, Bool.and_true, Bool.and_self, decide_eq_true_eq, decide_true, dX3_renew_0, dX3_renew_1, dX3_renew_2, dX3_renew_5, dX3_renew_6, dX3_renew_7, dX3_renew_10, dX3_renew_11, dX3_renew_12, dX3_renew_13, dX3_renew_15, dX3_renew_18, dX3_renew_19, dX3_renew_22, dX3_renew_23, dX3_renew_24, dX3_renew_25, dX3_renew_28, dX3_renew_31, FX3_15, FX3_19, FX3_9, hB, a1, a2]
    repeat' (first | exact trivial | omega | (with_reducible assumption) | exact absurd trivial (by with_reducible assumption) | contradiction | apply And.intro | intro _)
def T3_renew : TT := fun a μ K => match a with
  | [.inr (.inr B), .inl l, .inl n] => kd B = 3 ∧ (K [] (wB (wI (wI μ B 1 l) B 2 n) (B + 1) 40 (fun _ => 0)))
  | _ => False
theorem rec_X3_renew : ∀ a μ K, T3_renew a μ K → ∃ k r, a = .inr (.inr k) :: r ∧ kd k = 3 := by
  intro a μ K h
  unfold T3_renew at h
  split at h
  · exact ⟨_, _, rfl, h.1⟩
  · exact h.elim
theorem gk_X3_renew (l : Launch) : ∀ i n b T, G_X3_renew i = some (n, b, T) → CallOK l 0 RX3 i n b T := by
  intro i n b T h
  have hm : (i, n, b, T) ∈ GL_X3_renew := lk_mem h
  simp [GL_X3_renew] at hm
set_option maxRecDepth 20000 in
set_option maxHeartbeats 4000000 in
theorem body_X3_renew (B : Nat) (l : Int) (n : Int) (μ : Mem) (K : List AV → Mem → Prop) (V : Nat → List (Option AV) → List AV → Mem → Prop) (hV : Clos FX3 CX3 G_X3_renew 0 K cX3_renew V) (hT : kd B = 3 ∧ (K [] (wB (wI (wI μ B 1 l) B 2 n) (B + 1) 40 (fun _ => 0)))) : V 0 [some (.inr (.inr B)), some (.inl l), some (.inl n), none] [] μ := by
  obtain ⟨hB, hK⟩ := hT
  have h := lp_renew V K hV (wI (wI μ B 1 l) B 2 n) B hB l n hK 40 0 (by omega)
  rw [wB_0] at h
  apply hV [12] 40
  simp only [InR, InL, inb, Int.toNat_natCast, wp1, wpc_z, wpc_s, stp_iconst, stp_bipush, stp_sipush, stp_lconst, stp_iload_n, stp_iload, stp_lload_n, stp_lload, stp_aload_n, stp_aload, stp_istore_n, stp_istore, stp_lstore_n, stp_lstore, stp_astore_n, stp_astore, stp_iinc, stp_iadd, stp_isub, stp_imul, stp_ineg, stp_idiv, stp_irem, stp_ladd, stp_lmul, stp_ldiv, stp_lrem, stp_ishl, stp_ishr, stp_iushr, stp_iand, stp_ior, stp_i2l, stp_i2b, stp_i2s, stp_lcmp, stp_dup, stp_dup2, stp_pop, stp_ifCond, stp_if_icmp, stp_goto, stp_tableswitch, stp_lookupswitch, stp_ldc, stp_ldc_w, stp_ldc2_w, stp_getstatic, stp_getfield, stp_putfield, stp_iaload, stp_baload, stp_iastore, stp_bastore, stp_aaload, stp_aastore, stp_invokevirtual, stp_invokestatic, stp_ireturn, stp_lreturn, stp_return_, lg, lset, okl, spl, wd, c1, cnd, tg, swT, swL, f4_0, f4_1, f4_2, f4_3, f2_0, f2_1, List.mem_cons, List.not_mem_nil, List.length_cons, List.length_nil, List.cons_append, List.nil_append, Nat.reduceAdd, Nat.reduceMul, Nat.reduceLT, Nat.reduceEqDiff, Nat.reduceLeDiff, Int.reduceAdd, Int.reduceNeg, Int.reduceToNat, Int.cast_ofNat_Int, Int.reduceNatCast, Int.toNat_zero, Int.toNat_one, Int.reduceLE, Int.reduceLT, Int.reduceEq, Int.zero_add, Int.add_zero, or_false, false_or, or_true, true_or, and_true, true_and, and_false, false_and, reduceIte, not_true_eq_false, not_false_eq_true, forall_const, false_implies, true_implies, implies_true, ne_eq, reduceCtorEq, List.all_cons, List.all_nil, Bool.and_true, Bool.and_self, decide_eq_true_eq, decide_true, dX3_renew_0, dX3_renew_1, dX3_renew_2, dX3_renew_5, dX3_renew_6, dX3_renew_7, dX3_renew_10, dX3_renew_11, dX3_renew_12, dX3_renew_13, dX3_renew_15, dX3_renew_18, dX3_renew_19, dX3_renew_22, dX3_renew_23, dX3_renew_24, dX3_renew_25, dX3_renew_28, dX3_renew_31, FX3_15, FX3_19, FX3_9, hB]
  exact h
theorem good_X3_renew (l : Launch) : Good l 0 yX3_renew cX3_renew 4 none T3_renew := by
  refine Good.mk 0 (by decide) rfl (by simp [retOK]) FOK3 COK3 (gk_X3_renew l) ?_ ?_
  · intro a μ K h
    unfold T3_renew at h
    split at h
    · simp [entl]
    · exact h.elim
  · intro a μ K V hV h
    unfold T3_renew at h
    split at h
    · exact body_X3_renew _ _ _ μ K V hV h
    · exact h.elim

def narrowTo (l v : Int) : Int := if l = 0 then Int.bmod v 256 else if l = 1 then Int.bmod v 65536 else v
def T3_write : TT := fun a μ K => match a with
  | [.inr (.inr B), .inl i, .inl v] => kd B = 3 ∧ ((0 ≤ i ∧ i < 40) ∧ InR (rI μ B 1) ∧ K [] (wI μ (B + 1) i.toNat (narrowTo (rI μ B 1) v)))
  | _ => False
theorem rec_X3_write : ∀ a μ K, T3_write a μ K → ∃ k r, a = .inr (.inr k) :: r ∧ kd k = 3 := by
  intro a μ K h
  unfold T3_write at h
  split at h
  · exact ⟨_, _, rfl, h.1⟩
  · exact h.elim
def GL_X3_write : List (Nat × Nat × Bool × TT) := []
def G_X3_write : Nat → Option (Nat × Bool × TT) := fun i => GL_X3_write.lookup i
theorem gk_X3_write (l : Launch) : ∀ i n b T, G_X3_write i = some (n, b, T) → CallOK l 0 RX3 i n b T := by
  intro i n b T h
  have hm : (i, n, b, T) ∈ GL_X3_write := lk_mem h
  simp [GL_X3_write] at hm
set_option maxRecDepth 20000 in
set_option maxHeartbeats 4000000 in
theorem body_X3_write (B : Nat) (i : Int) (v : Int) (μ : Mem) (K : List AV → Mem → Prop) (V : Nat → List (Option AV) → List AV → Mem → Prop) (hV : Clos FX3 CX3 G_X3_write 0 K cX3_write V) (hT : kd B = 3 ∧ ((0 ≤ i ∧ i < 40) ∧ InR (rI μ B 1) ∧ K [] (wI μ (B + 1) i.toNat (narrowTo (rI μ B 1) v)))) : V 0 [some (.inr (.inr B)), some (.inl i), some (.inl v)] [] μ := by
  simp only [InR] at hT
  obtain ⟨hB, h1, h2, hK⟩ := hT
  obtain ⟨a1, a2⟩ := sheetk hB
  apply hV [] 60
  simp only [InR, InL, inb, Int.toNat_natCast, wp1, wpc_z, wpc_s, stp_iconst, stp_bipush, stp_sipush, stp_lconst, stp_iload_n, stp_iload, stp_lload_n, stp_lload, stp_aload_n, stp_aload, stp_istore_n, stp_istore, stp_lstore_n, stp_lstore, stp_astore_n, stp_astore, stp_iinc, stp_iadd, stp_isub, stp_imul, stp_ineg, stp_idiv, stp_irem, stp_ladd, stp_lmul, stp_ldiv, stp_lrem, stp_ishl, stp_ishr, stp_iushr, stp_iand, stp_ior, stp_i2l, stp_i2b, stp_i2s, stp_lcmp, stp_dup, stp_dup2, stp_pop, stp_ifCond, stp_if_icmp, stp_goto, stp_tableswitch, stp_lookupswitch, stp_ldc, stp_ldc_w, stp_ldc2_w, stp_getstatic, stp_getfield, stp_putfield, stp_iaload, stp_baload, stp_iastore, stp_bastore, stp_aaload, stp_aastore, stp_invokevirtual, stp_invokestatic, stp_ireturn, stp_lreturn, stp_return_, lg, lset, okl, spl, wd, c1, cnd, tg, swT, swL, f4_0, f4_1, f4_2, f4_3, f2_0, f2_1, List.mem_cons, List.not_mem_nil, List.length_cons, List.length_nil, List.cons_append, List.nil_append, Nat.reduceAdd, Nat.reduceMul, Nat.reduceLT, Nat.reduceEqDiff, Nat.reduceLeDiff, Int.reduceAdd, Int.reduceNeg, Int.reduceToNat, Int.cast_ofNat_Int, Int.reduceNatCast, Int.toNat_zero, Int.toNat_one, Int.reduceLE, Int.reduceLT, Int.reduceEq, Int.zero_add, Int.add_zero, or_false, false_or, or_true, true_or, and_true, true_and, and_false, false_and, reduceIte, not_true_eq_false, not_false_eq_true, forall_const, false_implies, true_implies, implies_true, ne_eq, reduceCtorEq, List.all_cons, List.all_nil, Bool.and_true, Bool.and_self, decide_eq_true_eq, decide_true, dX3_write_0, dX3_write_1, dX3_write_4, dX3_write_32, dX3_write_33, dX3_write_36, dX3_write_37, dX3_write_38, dX3_write_39, dX3_write_40, dX3_write_43, dX3_write_44, dX3_write_47, dX3_write_48, dX3_write_49, dX3_write_50, dX3_write_51, dX3_write_54, dX3_write_55, dX3_write_58, dX3_write_59, dX3_write_60, dX3_write_61, FX3_15, FX3_9, hB, a1, a2, List.zip_cons_cons, List.zip_nil_right, List.drop_succ_cons, List.drop_zero]
  unfold narrowTo at hK
  by_cases e0 : rI μ B 1 = 0
  · rw [if_pos e0] at hK
    repeat' (first | exact trivial | omega | (with_reducible assumption) | exact absurd trivial (by with_reducible assumption) | contradiction | apply And.intro | intro _)
  · rw [if_neg e0] at hK
    by_cases e1 : rI μ B 1 = 1
    · rw [if_pos e1] at hK
      repeat' (first | exact trivial | omega | (with_reducible assumption) | exact absurd trivial (by with_reducible assumption) | contradiction | apply And.intro | intro _)
    · rw [if_neg e1] at hK
      repeat' (first | exact trivial | omega | (with_reducible assumption) | exact absurd trivial (by with_reducible assumption) | contradiction | apply And.intro | intro _)
theorem good_X3_write (l : Launch) : Good l 0 yX3_write cX3_write 3 none T3_write := by
  refine Good.mk 0 (by decide) rfl (by simp [retOK]) FOK3 COK3 (gk_X3_write l) ?_ ?_
  · intro a μ K h
    unfold T3_write at h
    split at h
    · simp [entl]
    · exact h.elim
  · intro a μ K V hV h
    unfold T3_write at h
    split at h
    · exact body_X3_write _ _ _ μ K V hV h
    · exact h.elim

def fAt (sz ln l i : Int) : Int := if sz = -4 then 1 else if l ≠ ln then 3 else if 0 ≤ i ∧ i ≤ sz - 1 then 0 else 2
def T3_faultAt : TT := fun a μ K => match a with
  | [.inr (.inr B), .inl l, .inl i] => kd B = 3 ∧ (InR l ∧ InR i ∧ InR (rI μ B 1) ∧ (-4 ≤ rI μ B 2 ∧ rI μ B 2 ≤ 40) ∧ K [.inl (fAt (rI μ B 2) (rI μ B 1) l i)] μ)
  | _ => False
theorem rec_X3_faultAt : ∀ a μ K, T3_faultAt a μ K → ∃ k r, a = .inr (.inr k) :: r ∧ kd k = 3 := by
  intro a μ K h
  unfold T3_faultAt at h
  split at h
  · exact ⟨_, _, rfl, h.1⟩
  · exact h.elim
def GL_X3_faultAt : List (Nat × Nat × Bool × TT) := [(22, 3, true, T5_isOutside)]
def G_X3_faultAt : Nat → Option (Nat × Bool × TT) := fun i => GL_X3_faultAt.lookup i
theorem G_X3_faultAt_22 : G_X3_faultAt 22 = some (3, true, T5_isOutside) := rfl
theorem gk_X3_faultAt (l : Launch) : ∀ i n b T, G_X3_faultAt i = some (n, b, T) → CallOK l 1 RX3 i n b T := by
  intro i n b T h
  have hm : (i, n, b, T) ∈ GL_X3_faultAt := lk_mem h
  simp only [GL_X3_faultAt, List.mem_cons, List.not_mem_nil, or_false, Prod.mk.injEq] at hm
  rcases hm with ⟨rfl, rfl, rfl, rfl⟩
  · exact CallOK.N (d := 1) (own := RX3) (i := 22) (n := 3) (good_X5_isOutside l) (by decide) (by decide) (by decide +kernel) (mg 192 (by decide +kernel) (by decide +kernel)) (mg 1 (by decide +kernel) (by decide +kernel)) (mg 193 (by decide +kernel) (by decide +kernel)) (by decide +kernel)
set_option maxRecDepth 20000 in
set_option maxHeartbeats 4000000 in
theorem body_X3_faultAt (B : Nat) (l : Int) (i : Int) (μ : Mem) (K : List AV → Mem → Prop) (V : Nat → List (Option AV) → List AV → Mem → Prop) (hV : Clos FX3 CX3 G_X3_faultAt 1 K cX3_faultAt V) (hT : kd B = 3 ∧ (InR l ∧ InR i ∧ InR (rI μ B 1) ∧ (-4 ≤ rI μ B 2 ∧ rI μ B 2 ≤ 40) ∧ K [.inl (fAt (rI μ B 2) (rI μ B 1) l i)] μ)) : V 0 [some (.inr (.inr B)), some (.inl l), some (.inl i)] [] μ := by
  simp only [InR] at hT
  obtain ⟨hB, h1, h2, h3, h4, hK⟩ := hT
  apply hV [] 60
  simp only [InR, InL, inb, Int.toNat_natCast, wp1, wpc_z, wpc_s, stp_iconst, stp_bipush, stp_sipush, stp_lconst, stp_iload_n, stp_iload, stp_lload_n, stp_lload, stp_aload_n, stp_aload, stp_istore_n, stp_istore, stp_lstore_n, stp_lstore, stp_astore_n, stp_astore, stp_iinc, stp_iadd, stp_isub, stp_imul, stp_ineg, stp_idiv, stp_irem, stp_ladd, stp_lmul, stp_ldiv, stp_lrem, stp_ishl, stp_ishr, stp_iushr, stp_iand, stp_ior, stp_i2l, stp_i2b, stp_i2s, stp_lcmp, stp_dup, stp_dup2, stp_pop, stp_ifCond, stp_if_icmp, stp_goto, stp_tableswitch, stp_lookupswitch, stp_ldc, stp_ldc_w, stp_ldc2_w, stp_getstatic, stp_getfield, stp_putfield, stp_iaload, stp_baload, stp_iastore, stp_bastore, stp_aaload, stp_aastore, stp_invokevirtual, stp_invokestatic, stp_ireturn, stp_lreturn, stp_return_, lg, lset, okl, spl, wd, c1, cnd, tg, swT, swL, f4_0, f4_1, f4_2, f4_3, f2_0, f2_1, List.mem_cons, List.not_mem_nil, List.length_cons, List.length_nil, List.cons_append, List.nil_append, Nat.reduceAdd, Nat.reduceMul, Nat.reduceLT, Nat.reduceEqDiff, Nat.reduceLeDiff, Int.reduceAdd, Int.reduceNeg, Int.reduceToNat, Int.cast_ofNat_Int, Int.reduceNatCast, Int.toNat_zero, Int.toNat_one, Int.reduceLE, Int.reduceLT, Int.reduceEq, Int.zero_add, Int.add_zero, or_false, false_or, or_true, true_or, and_true, true_and, and_false, false_and, reduceIte, not_true_eq_false, not_false_eq_true, forall_const, false_implies, true_implies, implies_true, ne_eq, reduceCtorEq, List.all_cons, List.all_nil, Bool.and_true, Bool.and_self, decide_eq_true_eq, decide_true, dX3_faultAt_0, dX3_faultAt_1, dX3_faultAt_4, dX3_faultAt_6, dX3_faultAt_9, dX3_faultAt_10, dX3_faultAt_11, dX3_faultAt_12, dX3_faultAt_13, dX3_faultAt_16, dX3_faultAt_19, dX3_faultAt_20, dX3_faultAt_21, dX3_faultAt_22, dX3_faultAt_23, dX3_faultAt_24, dX3_faultAt_27, dX3_faultAt_28, dX3_faultAt_29, dX3_faultAt_32, dX3_faultAt_35, dX3_faultAt_36, dX3_faultAt_39, dX3_faultAt_40, FX3_19, FX3_15, G_X3_faultAt_22, hB, T5_isOutside]
  unfold fAt at hK
  by_cases e0 : rI μ B 2 = -4
  · rw [if_pos e0] at hK
    repeat' (first | exact trivial | omega | (with_reducible assumption) | exact absurd trivial (by with_reducible assumption) | contradiction | apply And.intro | intro _)
  · rw [if_neg e0] at hK
    by_cases e1 : l ≠ rI μ B 1
    · rw [if_pos e1] at hK
      repeat' (first | exact trivial | omega | (with_reducible assumption) | exact absurd trivial (by with_reducible assumption) | contradiction | apply And.intro | intro _)
    · rw [if_neg e1] at hK
      by_cases e2 : 0 ≤ i ∧ i ≤ rI μ B 2 - 1
      · rw [if_pos e2] at hK
        repeat' (first | exact trivial | omega | (with_reducible assumption) | exact absurd trivial (by with_reducible assumption) | contradiction | apply And.intro | intro _)
      · rw [if_neg e2] at hK
        repeat' (first | exact trivial | omega | (with_reducible assumption) | exact absurd trivial (by with_reducible assumption) | contradiction | apply And.intro | intro _)
theorem good_X3_faultAt (l : Launch) : Good l 1 yX3_faultAt cX3_faultAt 3 (some .int) T3_faultAt := by
  refine Good.mk 1 (by decide) rfl (by simp [retOK]) FOK3 COK3 (gk_X3_faultAt l) ?_ ?_
  · intro a μ K h
    unfold T3_faultAt at h
    split at h
    · simp [entl]
    · exact h.elim
  · intro a μ K V hV h
    unfold T3_faultAt at h
    split at h
    · exact body_X3_faultAt _ _ _ μ K V hV h
    · exact h.elim

def T3_faultOfPair : TT := fun a μ K => match a with
  | [.inr (.inr B), .inl l, .inl i] => kd B = 3 ∧ (InR l ∧ InR i ∧ InR (rI μ B 1) ∧ (-4 ≤ rI μ B 2 ∧ rI μ B 2 ≤ 40) ∧ (fAt (rI μ B 2) (rI μ B 1) l i ≠ 0 → K [.inl (fAt (rI μ B 2) (rI μ B 1) l i)] μ) ∧ (fAt (rI μ B 2) (rI μ B 1) l i = 0 → K [.inl (fAt (rI μ B 2) (rI μ B 1) l (i + 1))] μ))
  | _ => False
theorem rec_X3_faultOfPair : ∀ a μ K, T3_faultOfPair a μ K → ∃ k r, a = .inr (.inr k) :: r ∧ kd k = 3 := by
  intro a μ K h
  unfold T3_faultOfPair at h
  split at h
  · exact ⟨_, _, rfl, h.1⟩
  · exact h.elim
def GL_X3_faultOfPair : List (Nat × Nat × Bool × TT) := [(26, 3, false, T3_faultAt)]
def G_X3_faultOfPair : Nat → Option (Nat × Bool × TT) := fun i => GL_X3_faultOfPair.lookup i
theorem G_X3_faultOfPair_26 : G_X3_faultOfPair 26 = some (3, false, T3_faultAt) := rfl
theorem gk_X3_faultOfPair (l : Launch) : ∀ i n b T, G_X3_faultOfPair i = some (n, b, T) → CallOK l 2 RX3 i n b T := by
  intro i n b T h
  have hm : (i, n, b, T) ∈ GL_X3_faultOfPair := lk_mem h
  simp only [GL_X3_faultOfPair, List.mem_cons, List.not_mem_nil, or_false, Prod.mk.injEq] at hm
  rcases hm with ⟨rfl, rfl, rfl, rfl⟩
  · exact CallOK.V (d := 2) (own := RX3) (i := 26) (n := 2) (ci := 3) (good_X3_faultAt l) (by decide) (by decide) rfl (by decide) rec_X3_faultAt (mg 584 (by decide +kernel) (by decide +kernel)) (mg 568 (by decide +kernel) (by decide +kernel)) (mg 569 (by decide +kernel) (by decide +kernel)) (mg 6 (by decide +kernel) (by decide +kernel)) (mg 570 (by decide +kernel) (by decide +kernel)) (by decide +kernel)
set_option maxRecDepth 20000 in
set_option maxHeartbeats 4000000 in
theorem body_X3_faultOfPair (B : Nat) (l : Int) (i : Int) (μ : Mem) (K : List AV → Mem → Prop) (V : Nat → List (Option AV) → List AV → Mem → Prop) (hV : Clos FX3 CX3 G_X3_faultOfPair 1 K cX3_faultOfPair V) (hT : kd B = 3 ∧ (InR l ∧ InR i ∧ InR (rI μ B 1) ∧ (-4 ≤ rI μ B 2 ∧ rI μ B 2 ≤ 40) ∧ (fAt (rI μ B 2) (rI μ B 1) l i ≠ 0 → K [.inl (fAt (rI μ B 2) (rI μ B 1) l i)] μ) ∧ (fAt (rI μ B 2) (rI μ B 1) l i = 0 → K [.inl (fAt (rI μ B 2) (rI μ B 1) l (i + 1))] μ))) : V 0 [some (.inr (.inr B)), some (.inl l), some (.inl i), none] [] μ := by
  simp only [InR] at hT
  obtain ⟨hB, h1, h2, h3, h4, h5, h6⟩ := hT
  have hf : 0 ≤ fAt (rI μ B 2) (rI μ B 1) l i ∧ fAt (rI μ B 2) (rI μ B 1) l i ≤ 3 := by
    unfold fAt
    split
    · omega
    · split
      · omega
      · split <;> omega
  apply hV [] 60
  simp only [InR, InL, inb, Int.toNat_natCast, wp1, wpc_z, wpc_s, stp_iconst, stp_bipush, stp_sipush, stp_lconst, stp_iload_n, stp_iload, stp_lload_n, stp_lload, stp_aload_n, stp_aload, stp_istore_n, stp_istore, stp_lstore_n, stp_lstore, stp_astore_n, stp_astore, stp_iinc, stp_iadd, stp_isub, stp_imul, stp_ineg, stp_idiv, stp_irem, stp_ladd, stp_lmul, stp_ldiv, stp_lrem, stp_ishl, stp_ishr, stp_iushr, stp_iand, stp_ior, stp_i2l, stp_i2b, stp_i2s, stp_lcmp, stp_dup, stp_dup2, stp_pop, stp_ifCond, stp_if_icmp, stp_goto, stp_tableswitch, stp_lookupswitch, stp_ldc, stp_ldc_w, stp_ldc2_w, stp_getstatic, stp_getfield, stp_putfield, stp_iaload, stp_baload, stp_iastore, stp_bastore, stp_aaload, stp_aastore, stp_invokevirtual, stp_invokestatic, stp_ireturn, stp_lreturn, stp_return_, lg, lset, okl, spl, wd, c1, cnd, tg, swT, swL, f4_0, f4_1, f4_2, f4_3, f2_0, f2_1, List.mem_cons, List.not_mem_nil, List.length_cons, List.length_nil, List.cons_append, List.nil_append, Nat.reduceAdd, Nat.reduceMul, Nat.reduceLT, Nat.reduceEqDiff, Nat.reduceLeDiff, Int.reduceAdd, Int.reduceNeg, Int.reduceToNat, Int.cast_ofNat_Int, Int.reduceNatCast, Int.toNat_zero, Int.toNat_one, Int.reduceLE, Int.reduceLT, Int.reduceEq, Int.zero_add, Int.add_zero, or_false, false_or, or_true, true_or, and_true, true_and, and_false, false_and, reduceIte, not_true_eq_false, not_false_eq_true, forall_const, false_implies, true_implies, implies_true, ne_eq, reduceCtorEq, List.all_cons, List.all_nil, Bool.and_true, Bool.and_self, decide_eq_true_eq, decide_true, dX3_faultOfPair_0, dX3_faultOfPair_1, dX3_faultOfPair_2, dX3_faultOfPair_3, dX3_faultOfPair_6, dX3_faultOfPair_7, dX3_faultOfPair_8, dX3_faultOfPair_11, dX3_faultOfPair_12, dX3_faultOfPair_15, dX3_faultOfPair_16, dX3_faultOfPair_17, dX3_faultOfPair_18, dX3_faultOfPair_19, dX3_faultOfPair_20, dX3_faultOfPair_23, G_X3_faultOfPair_26, hB, T3_faultAt]
  by_cases e : fAt (rI μ B 2) (rI μ B 1) l i = 0
  · have h6 := h6 e
    have hi : i ≤ 39 := by
      unfold fAt at e
      split at e
      · cases e
      · split at e
        · cases e
        · split at e
          · omega
          · cases e
    repeat' (first | exact trivial | omega | (with_reducible assumption) | exact absurd trivial (by with_reducible assumption) | contradiction | apply And.intro | intro _)
  · have h5 := h5 e
    repeat' (first | exact trivial | omega | (with_reducible assumption) | exact absurd trivial (by with_reducible assumption) | contradiction | apply And.intro | intro _)
theorem good_X3_faultOfPair (l : Launch) : Good l 2 yX3_faultOfPair cX3_faultOfPair 4 (some .int) T3_faultOfPair := by
  refine Good.mk 1 (by decide) rfl (by simp [retOK]) FOK3 COK3 (gk_X3_faultOfPair l) ?_ ?_
  · intro a μ K h
    unfold T3_faultOfPair at h
    split at h
    · simp [entl]
    · exact h.elim
  · intro a μ K V hV h
    unfold T3_faultOfPair at h
    split at h
    · exact body_X3_faultOfPair _ _ _ μ K V hV h
    · exact h.elim

