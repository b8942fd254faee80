/-! the class: rings. A ring at B stands for a flat state f -/
theorem ringk0 : ∀ B, B < 79 → kd B = 1 → kd (B + 1) = 12 ∧ ln (B + 1) = 5 ∧ ∀ t, t < 5 → kd (B + 2 + t) = 7 ∧ ln (B + 2 + t) = 7 := by decide +kernel
theorem ringk {B : Nat} (h : kd B = 1) : kd (B + 1) = 12 ∧ ln (B + 1) = 5 ∧ ∀ k, B + 2 ≤ k → k ≤ B + 6 → kd k = 7 ∧ ln k = 7 := by
  obtain ⟨h1, h2, h3⟩ := ringk0 B (kd_lt h (by omega) (by omega)) h
  refine ⟨h1, h2, fun k a b => ?_⟩
  have := h3 (k - (B + 2)) (by omega)
  rw [show B + 2 + (k - (B + 2)) = k by omega] at this
  exact this
def RP (μ : Mem) (B : Nat) : Prop := (∀ i, i < 5 → B + 2 ≤ rR μ (B + 1) i ∧ rR μ (B + 1) i ≤ B + 6) ∧ ∀ i j, i < 5 → j < 5 → rR μ (B + 1) i = rR μ (B + 1) j → i = j
def RG (μ : Mem) (B : Nat) (f : Nat → Int) : Prop := RP μ B ∧ rI μ B 1 = f 35 ∧ rI μ B 2 = (if f 35 = 0 then -4 else f 36) ∧ rI μ B 3 = f 37 ∧ rI μ B 4 = f 38 ∧ ∀ i t : Nat, (i : Int) < f 35 → t < 7 → rI μ (rR μ (B + 1) i) t = f (7 * i + t)
/-- nothing but the ring at B has changed, its rows' order neither -/
def FR (B : Nat) (μ μ' : Mem) : Prop := (∀ k, (k < B ∨ B + 6 < k) → ∀ j, rI μ' k j = rI μ k j) ∧ ∀ k j, rR μ' k j = rR μ k j
theorem FR.rf {B : Nat} {μ : Mem} : FR B μ μ := ⟨fun _ _ _ => rfl, fun _ _ => rfl⟩
theorem FR.tr {B : Nat} {μ ν ρ : Mem} (h : FR B μ ν) (h2 : FR B ν ρ) : FR B μ ρ := ⟨fun k hk j => (h2.1 k hk j).trans (h.1 k hk j), fun k j => (h2.2 k j).trans (h.2 k j)⟩
theorem RP.of {μ μ' : Mem} {B : Nat} (h : RP μ B) (e : ∀ j, rR μ' (B + 1) j = rR μ (B + 1) j) : RP μ' B := by
  refine ⟨fun i hi => ?_, fun i j hi hj => ?_⟩
  · rw [e]; exact h.1 i hi
  · rw [e, e]; exact h.2 i j hi hj
theorem elr {μ : Mem} {B : Nat} (h : kd (B + 1) = 12) (j : Nat) : el μ (B + 1) j = rR μ (B + 1) j := if_pos h
def T5_isOutside : TT := fun a μ K => match a with
  | [.inl v, .inl lo, .inl hi] => InR v ∧ InR lo ∧ InR hi ∧ (¬ (lo ≤ v ∧ v ≤ hi) → K [.inl 1] μ) ∧ (lo ≤ v ∧ v ≤ hi → K [.inl 0] μ)
  | _ => False
def GL_X5_isOutside : List (Nat × Nat × Bool × TT) := []
def G_X5_isOutside : Nat → Option (Nat × Bool × TT) := fun i => GL_X5_isOutside.lookup i
theorem gk_X5_isOutside (l : Launch) : ∀ i n b T, G_X5_isOutside i = some (n, b, T) → CallOK l 0 RX5 i n b T := by
  intro i n b T h
  have hm : (i, n, b, T) ∈ GL_X5_isOutside := lk_mem h
  simp [GL_X5_isOutside] at hm
set_option maxRecDepth 20000 in
set_option maxHeartbeats 4000000 in
theorem body_X5_isOutside (v : Int) (lo : Int) (hi : Int) (μ : Mem) (K : List AV → Mem → Prop) (V : Nat → List (Option AV) → List AV → Mem → Prop) (hV : Clos FX5 CX5 G_X5_isOutside 2 K cX5_isOutside V) (hT : InR v ∧ InR lo ∧ InR hi ∧ (¬ (lo ≤ v ∧ v ≤ hi) → K [.inl 1] μ) ∧ (lo ≤ v ∧ v ≤ hi → K [.inl 0] μ)) : V 0 [some (.inl v), some (.inl lo), some (.inl hi)] [] μ := by
  simp only [InR] at hT
  obtain ⟨h1, h2, h3, h4, h5⟩ := hT
  apply hV [] 60
  simp only [InR, InL, inb, Int.toNat_natCast, wp1, wpc_z, wpc_s, stp_iconst, stp_bipush, stp_sipush, stp_lconst, stp_iload_n, stp_iload, stp_lload_n, stp_lload, stp_aload_n, stp_aload, stp_istore_n, stp_istore, stp_lstore_n, stp_lstore, stp_astore_n, stp_astore, stp_iinc, stp_iadd, stp_isub, stp_imul, stp_ineg, stp_idiv, stp_irem, stp_ladd, stp_lmul, stp_ldiv, stp_lrem, stp_ishl, stp_ishr, stp_iushr, stp_iand, stp_ior, stp_i2l, stp_i2b, stp_i2s, stp_lcmp, stp_dup, stp_dup2, stp_pop, stp_ifCond, stp_if_icmp, stp_goto, stp_tableswitch, stp_lookupswitch, stp_ldc, stp_ldc_w, stp_ldc2_w, stp_getstatic, stp_getfield, stp_putfield, stp_iaload, stp_baload, stp_iastore, stp_bastore, stp_aaload, stp_aastore, stp_invokevirtual, stp_invokestatic, stp_ireturn, stp_lreturn, stp_return_, lg, lset, okl, spl, wd, c1, cnd, tg, swT, swL, f4_0, f4_1, f4_2, f4_3, f2_0, f2_1, List.mem_cons, List.not_mem_nil, List.length_cons, List.length_nil, List.cons_append, List.nil_append, Nat.reduceAdd, Nat.reduceMul, Nat.reduceLT, Nat.reduceEqDiff, Nat.reduceLeDiff, Int.reduceAdd, Int.reduceNeg, Int.reduceToNat, Int.cast_ofNat_Int, Int.reduceNatCast, Int.toNat_zero, Int.toNat_one, Int.reduceLE, Int.reduceLT, Int.reduceEq, Int.zero_add, Int.add_zero, or_false, false_or, or_true, true_or, and_true, true_and, and_false, false_and, reduceIte, not_true_eq_false, not_false_eq_true, forall_const, false_implies, true_implies, implies_true, ne_eq, reduceCtorEq, List.all_cons, List.all_nil, Bool.and_true, Bool.and_self, decide_eq_true_eq, decide_true, dX5_isOutside_0, dX5_isOutside_1, dX5_isOutside_2, dX5_isOutside_5, dX5_isOutside_6, dX5_isOutside_7, dX5_isOutside_10, dX5_isOutside_11, dX5_isOutside_14, dX5_isOutside_15]
  repeat' (first | exact trivial | omega | (with_reducible assumption) | exact absurd trivial (by with_reducible assumption) | contradiction | apply And.intro | intro _)
  all_goals first | exact h4 (by omega) | exact h5 ⟨by omega, by omega⟩
theorem good_X5_isOutside (l : Launch) : Good l 0 yX5_isOutside cX5_isOutside 3 (some .boolean) T5_isOutside := by
  refine Good.mk 2 (by decide) rfl (by simp [retOK]) FOK5 COK5 (gk_X5_isOutside l) ?_ ?_
  · intro a μ K h
    unfold T5_isOutside at h
    split at h
    · simp [entl]
    · exact h.elim
  · intro a μ K V hV h
    unfold T5_isOutside at h
    split at h
    · exact body_X5_isOutside _ _ _ μ K V hV h
    · exact h.elim

def T1_has : TT := fun a μ K => match a with
  | [.inr (.inr B), .inl i] => kd B = 1 ∧ (InR i ∧ (0 ≤ rI μ B 1 ∧ rI μ B 1 ≤ 5) ∧ (0 ≤ i ∧ i < rI μ B 1 → K [.inl 1] μ) ∧ (¬ (0 ≤ i ∧ i < rI μ B 1) → K [.inl 0] μ))
  | _ => False
theorem rec_X1_has : ∀ a μ K, T1_has a μ K → ∃ k r, a = .inr (.inr k) :: r ∧ kd k = 1 := by
  intro a μ K h
  unfold T1_has at h
  split at h
  · exact ⟨_, _, rfl, h.1⟩
  · exact h.elim
def GL_X1_has : List (Nat × Nat × Bool × TT) := []
def G_X1_has : Nat → Option (Nat × Bool × TT) := fun i => GL_X1_has.lookup i
theorem gk_X1_has (l : Launch) : ∀ i n b T, G_X1_has i = some (n, b, T) → CallOK l 0 RX1 i n b T := by
  intro i n b T h
  have hm : (i, n, b, T) ∈ GL_X1_has := lk_mem h
  simp [GL_X1_has] at hm
set_option maxRecDepth 20000 in
set_option maxHeartbeats 4000000 in
theorem body_X1_has (B : Nat) (i : Int) (μ : Mem) (K : List AV → Mem → Prop) (V : Nat → List (Option AV) → List AV → Mem → Prop) (hV : Clos FX1 CX1 G_X1_has 2 K cX1_has V) (hT : kd B = 1 ∧ (InR i ∧ (0 ≤ rI μ B 1 ∧ rI μ B 1 ≤ 5) ∧ (0 ≤ i ∧ i < rI μ B 1 → K [.inl 1] μ) ∧ (¬ (0 ≤ i ∧ i < rI μ B 1) → K [.inl 0] μ))) : V 0 [some (.inr (.inr B)), some (.inl i)] [] μ := by
  simp only [InR] at hT
  obtain ⟨hB, h1, h2, h3, h4⟩ := hT
  apply hV [] 60
  simp only [InR, InL, inb, Int.toNat_natCast, wp1, wpc_z, wpc_s, stp_iconst, stp_bipush, stp_sipush, stp_lconst, stp_iload_n, stp_iload, stp_lload_n, stp_lload, stp_aload_n, stp_aload, stp_istore_n, stp_istore, stp_lstore_n, stp_lstore, stp_astore_n, stp_astore, stp_iinc, stp_iadd, stp_isub, stp_imul, stp_ineg, stp_idiv, stp_irem, stp_ladd, stp_lmul, stp_ldiv, stp_lrem, stp_ishl, stp_ishr, stp_iushr, stp_iand, stp_ior, stp_i2l, stp_i2b, stp_i2s, stp_lcmp, stp_dup, stp_dup2, stp_pop, stp_ifCond, stp_if_icmp, stp_goto, stp_tableswitch, stp_lookupswitch, stp_ldc, stp_ldc_w, stp_ldc2_w, stp_getstatic, stp_getfield, stp_putfield, stp_iaload, stp_baload, stp_iastore, stp_bastore, stp_aaload, stp_aastore, stp_invokevirtual, stp_invokestatic, stp_ireturn, stp_lreturn, stp_return_, lg, lset, okl, spl, wd, c1, cnd, tg, swT, swL, f4_0, f4_1, f4_2, f4_3, f2_0, f2_1, List.mem_cons, List.not_mem_nil, List.length_cons, List.length_nil, List.cons_append, List.nil_append, Nat.reduceAdd, Nat.reduceMul, Nat.reduceLT, Nat.reduceEqDiff, Nat.reduceLeDiff, Int.reduceAdd, Int.reduceNeg, Int.reduceToNat, Int.cast_ofNat_Int, Int.reduceNatCast, Int.toNat_zero, Int.toNat_one, Int.reduceLE, Int.reduceLT, Int.reduceEq, Int.zero_add, Int.add_zero, or_false, false_or, or_true, true_or, and_true, true_and, and_false, false_and, reduceIte, not_true_eq_false, not_false_eq_true, forall_const, false_implies, true_implies, implies_true, ne_eq, reduceCtorEq, List.all_cons, List.all_nil, Bool.and_true, Bool.and_self, decide_eq_true_eq, decide_true, dX1_has_0, dX1_has_1, dX1_has_4, dX1_has_5, dX1_has_6, dX1_has_9, dX1_has_12, dX1_has_13, dX1_has_16, dX1_has_17, FX1_20, hB]
  repeat' (first | exact trivial | omega | (with_reducible assumption) | exact absurd trivial (by with_reducible assumption) | contradiction | apply And.intro | intro _)
  all_goals first | exact h3 ⟨by omega, by omega⟩ | exact h4 (by omega)
theorem good_X1_has (l : Launch) : Good l 0 yX1_has cX1_has 2 (some .boolean) T1_has := by
  refine Good.mk 2 (by decide) rfl (by simp [retOK]) FOK1 COK1 (gk_X1_has l) ?_ ?_
  · intro a μ K h
    unfold T1_has at h
    split at h
    · simp [entl]
    · exact h.elim
  · intro a μ K V hV h
    unfold T1_has at h
    split at h
    · exact body_X1_has _ _ μ K V hV h
    · exact h.elim

def T1_takes : TT := fun a μ K => match a with
  | [.inr (.inr B), .inl i, .inl n] => kd B = 1 ∧ (InR i ∧ InR n ∧ (0 ≤ rI μ B 1 ∧ rI μ B 1 ≤ 5) ∧ ((0 ≤ i ∧ i < rI μ B 1) ∧ 0 ≤ n ∧ n ≤ 99 → K [.inl 1] μ) ∧ (¬ ((0 ≤ i ∧ i < rI μ B 1) ∧ 0 ≤ n ∧ n ≤ 99) → K [.inl 0] μ))
  | _ => False
theorem rec_X1_takes : ∀ a μ K, T1_takes a μ K → ∃ k r, a = .inr (.inr k) :: r ∧ kd k = 1 := by
  intro a μ K h
  unfold T1_takes at h
  split at h
  · exact ⟨_, _, rfl, h.1⟩
  · exact h.elim
def GL_X1_takes : List (Nat × Nat × Bool × TT) := [(41, 2, false, T1_has), (45, 3, true, T5_isOutside)]
def G_X1_takes : Nat → Option (Nat × Bool × TT) := fun i => GL_X1_takes.lookup i
theorem G_X1_takes_41 : G_X1_takes 41 = some (2, false, T1_has) := rfl
theorem G_X1_takes_45 : G_X1_takes 45 = some (3, true, T5_isOutside) := rfl
theorem gk_X1_takes (l : Launch) : ∀ i n b T, G_X1_takes i = some (n, b, T) → CallOK l 1 RX1 i n b T := by
  intro i n b T h
  have hm : (i, n, b, T) ∈ GL_X1_takes := lk_mem h
  simp only [GL_X1_takes, List.mem_cons, List.not_mem_nil, or_false, Prod.mk.injEq] at hm
  rcases hm with ⟨rfl, rfl, rfl, rfl⟩ | ⟨rfl, rfl, rfl, rfl⟩
  · exact CallOK.V (d := 1) (own := RX1) (i := 41) (n := 1) (ci := 1) (good_X1_has l) (by decide) (by decide) rfl (by decide) rec_X1_has (mg 339 (by decide +kernel) (by decide +kernel)) (mg 313 (by decide +kernel) (by decide +kernel)) (mg 314 (by decide +kernel) (by decide +kernel)) (mg 2 (by decide +kernel) (by decide +kernel)) (mg 315 (by decide +kernel) (by decide +kernel)) (by decide +kernel)
  · exact CallOK.N (d := 1) (own := RX1) (i := 45) (n := 3) (good_X5_isOutside l) (by decide) (by decide) (by decide +kernel) (mg 192 (by decide +kernel) (by decide +kernel)) (mg 1 (by decide +kernel) (by decide +kernel)) (mg 193 (by decide +kernel) (by decide +kernel)) (by decide +kernel)
set_option maxRecDepth 20000 in
set_option maxHeartbeats 4000000 in
theorem body_X1_takes (B : Nat) (i : Int) (n : Int) (μ : Mem) (K : List AV → Mem → Prop) (V : Nat → List (Option AV) → List AV → Mem → Prop) (hV : Clos FX1 CX1 G_X1_takes 2 K cX1_takes V) (hT : kd B = 1 ∧ (InR i ∧ InR n ∧ (0 ≤ rI μ B 1 ∧ rI μ B 1 ≤ 5) ∧ ((0 ≤ i ∧ i < rI μ B 1) ∧ 0 ≤ n ∧ n ≤ 99 → K [.inl 1] μ) ∧ (¬ ((0 ≤ i ∧ i < rI μ B 1) ∧ 0 ≤ n ∧ n ≤ 99) → K [.inl 0] μ))) : V 0 [some (.inr (.inr B)), some (.inl i), some (.inl n)] [] μ := by
  simp only [InR] at hT
  obtain ⟨hB, h1, h0, h2, h3, h4⟩ := hT
  apply hV [] 60
  simp only [InR, InL, inb, Int.toNat_natCast, wp1, wpc_z, wpc_s, stp_iconst, stp_bipush, stp_sipush, stp_lconst, stp_iload_n, stp_iload, stp_lload_n, stp_lload, stp_aload_n, stp_aload, stp_istore_n, stp_istore, stp_lstore_n, stp_lstore, stp_astore_n, stp_astore, stp_iinc, stp_iadd, stp_isub, stp_imul, stp_ineg, stp_idiv, stp_irem, stp_ladd, stp_lmul, stp_ldiv, stp_lrem, stp_ishl, stp_ishr, stp_iushr, stp_iand, stp_ior, stp_i2l, stp_i2b, stp_i2s, stp_lcmp, stp_dup, stp_dup2, stp_pop, stp_ifCond, stp_if_icmp, stp_goto, stp_tableswitch, stp_lookupswitch, stp_ldc, stp_ldc_w, stp_ldc2_w, stp_getstatic, stp_getfield, stp_putfield, stp_iaload, stp_baload, stp_iastore, stp_bastore, stp_aaload, stp_aastore, stp_invokevirtual, stp_invokestatic, stp_ireturn, stp_lreturn, stp_return_, lg, lset, okl, spl, wd, c1, cnd, tg, swT, swL, f4_0, f4_1, f4_2, f4_3, f2_0, f2_1, List.mem_cons, List.not_mem_nil, List.length_cons, List.length_nil, List.cons_append, List.nil_append, Nat.reduceAdd, Nat.reduceMul, Nat.reduceLT, Nat.reduceEqDiff, Nat.reduceLeDiff, Int.reduceAdd, Int.reduceNeg, Int.reduceToNat, Int.cast_ofNat_Int, Int.reduceNatCast, Int.toNat_zero, Int.toNat_one, Int.reduceLE, Int.reduceLT, Int.reduceEq, Int.zero_add, Int.add_zero, or_false, false_or, or_true, true_or, and_true, true_and, and_false, false_and, reduceIte, not_true_eq_false, not_false_eq_true, forall_const, false_implies, true_implies, implies_true, ne_eq, reduceCtorEq, List.all_cons, List.all_nil, Bool.and_true, Bool.and_self, decide_eq_true_eq, decide_true, dX1_takes_0, dX1_takes_1, dX1_takes_2, dX1_takes_5, dX1_takes_8, dX1_takes_9, dX1_takes_10, dX1_takes_12, dX1_takes_15, dX1_takes_18, dX1_takes_19, dX1_takes_22, dX1_takes_23, G_X1_takes_41, G_X1_takes_45, hB, T1_has, T5_isOutside]
  repeat' (first | exact trivial | omega | (with_reducible assumption) | exact absurd trivial (by with_reducible assumption) | contradiction | apply And.intro | intro _)
  all_goals first | exact h3 ⟨⟨by omega, by omega⟩, by omega, by omega⟩ | exact h4 (by omega)
theorem good_X1_takes (l : Launch) : Good l 1 yX1_takes cX1_takes 3 (some .boolean) T1_takes := by
  refine Good.mk 2 (by decide) rfl (by simp [retOK]) FOK1 COK1 (gk_X1_takes l) ?_ ?_
  · intro a μ K h
    unfold T1_takes at h
    split at h
    · simp [entl]
    · exact h.elim
  · intro a μ K V hV h
    unfold T1_takes at h
    split at h
    · exact body_X1_takes _ _ _ μ K V hV h
    · exact h.elim

def GL_X1_total : List (Nat × Nat × Bool × TT) := []
def G_X1_total : Nat → Option (Nat × Bool × TT) := fun i => GL_X1_total.lookup i

set_option maxRecDepth 20000 in
set_option maxHeartbeats 4000000 in
theorem lp_total (V : Nat → List (Option AV) → List AV → Mem → Prop) (K : List AV → Mem → Prop) (hV : Clos FX1 CX1 G_X1_total 1 K cX1_total V) (μ : Mem) (B : Nat) (hB : kd B = 1) (f : Nat → Int) (hR : RG μ B f) (w : Nat) (hw : w < 7) (hm : 0 ≤ f 35 ∧ f 35 ≤ 5) (hK : K [.inl (sumF f w (f 35).toNat)] μ) : ∀ m n : Nat, n + m = (f 35).toNat → V 4 [some (.inr (.inr B)), some (.inl (w : Int)), some (.inl (sumF f w n)), some (.inl (n : Int))] [] μ := by
  obtain ⟨r1, r2, r3, r4, r5, r6⟩ := hR
  obtain ⟨k12, l5, k7⟩ := ringk hB
  intro m
  induction m with
  | zero =>
    intro n hn
    apply hV [4] 40
    simp only [InR, InL, inb, Int.toNat_natCast, wp1, wpc_z, wpc_s, stp_iconst, stp_bipush, stp_sipush, stp_lconst, stp_iload_n, stp_iload, stp_lload_n, stp_lload, stp_aload_n, stp_aload, stp_istore_n, stp_istore, stp_lstore_n, stp_lstore, stp_astore_n, stp_astore, stp_iinc, stp_iadd, stp_isub, stp_imul, stp_ineg, stp_idiv, stp_irem, stp_ladd, stp_lmul, stp_ldiv, stp_lrem, stp_ishl, stp_ishr, stp_iushr, stp_iand, stp_ior, stp_i2l, stp_i2b, stp_i2s, stp_lcmp, stp_dup, stp_dup2, stp_pop, stp_ifCond, stp_if_icmp, stp_goto, stp_tableswitch, stp_lookupswitch, stp_ldc, stp_ldc_w, stp_ldc2_w, stp_getstatic, stp_getfield, stp_putfield, stp_iaload, stp_baload, stp_iastore, stp_bastore, stp_aaload, stp_aastore, stp_invokevirtual, stp_invokestatic, stp_ireturn, stp_lreturn, stp_return_, lg, lset, okl, spl, wd, c1, cnd, tg, swT, swL, f4_0, f4_1, f4_2, f4_3, f2_0, f2_1, List.mem_cons, List.not_mem_nil, List.length_cons, List.length_nil, List.cons_append, List.nil_append, Nat.reduceAdd, Nat.reduceMul, Nat.reduceLT, Nat.reduceEqDiff, Nat.reduceLeDiff, Int.reduceAdd, Int.reduceNeg, Int.reduceToNat, Int.cast_ofNat_Int, Int.reduceNatCast, Int.toNat_zero, Int.toNat_one, Int.reduceLE, Int.reduceLT, Int.reduceEq, Int.zero_add, Int.add_zero, or_false, false_or, or_true, true_or, and_true, true_and, and_false, false_and, reduceIte, not_true_eq_false, not_false_eq_true, forall_const, false_implies, true_implies, implies_true, ne_eq, reduceCtorEq, List.all_cons, List.all_nil, Bool.and_true, Bool.and_self, decide_eq_true_eq, decide_true, dX1_total_0, dX1_total_1, dX1_total_2, dX1_total_3, dX1_total_4, dX1_total_5, dX1_total_6, dX1_total_9, dX1_total_12, dX1_total_13, dX1_total_14, dX1_total_17, dX1_total_18, dX1_total_19, dX1_total_20, dX1_total_21, dX1_total_22, dX1_total_23, dX1_total_26, dX1_total_29, dX1_total_30, FX1_20, FX1_11, hB, r2]
    repeat' (first | exact trivial | omega | (with_reducible assumption) | exact absurd trivial (by with_reducible assumption) | contradiction | apply And.intro | intro _)
    rw [show n = (f 35).toNat by omega]
    exact hK
  | succ m ih =>
    intro n hn
    have hr := r1.1 n (by omega)
    obtain ⟨k1, k2⟩ := k7 _ hr.1 hr.2
    have hv := r6 n w (by omega) hw
    apply hV [4] 40
    simp only [InR, InL, inb, Int.toNat_natCast, wp1, wpc_z, wpc_s, stp_iconst, stp_bipush, stp_sipush, stp_lconst, stp_iload_n, stp_iload, stp_lload_n, stp_lload, stp_aload_n, stp_aload, stp_istore_n, stp_istore, stp_lstore_n, stp_lstore, stp_astore_n, stp_astore, stp_iinc, stp_iadd, stp_isub, stp_imul, stp_ineg, stp_idiv, stp_irem, stp_ladd, stp_lmul, stp_ldiv, stp_lrem, stp_ishl, stp_ishr, stp_iushr, stp_iand, stp_ior, stp_i2l, stp_i2b, stp_i2s, stp_lcmp, stp_dup, stp_dup2, stp_pop, stp_ifCond, stp_if_icmp, stp_goto, stp_tableswitch, stp_lookupswitch, stp_ldc, stp_ldc_w, stp_ldc2_w, stp_getstatic, stp_getfield, stp_putfield, stp_iaload, stp_baload, stp_iastore, stp_bastore, stp_aaload, stp_aastore, stp_invokevirtual, stp_invokestatic, stp_ireturn, stp_lreturn, stp_return_, lg, lset, okl, spl, wd, c1, cnd, tg, swT, swL, f4_0, f4_1, f4_2, f4_3, f2_0, f2_1, List.mem_cons, List.not_mem_nil, List.length_cons, List.length_nil, List.cons_append, List.nil_append, Nat.reduceAdd, Nat.reduceMul, Nat.reduceLT, Nat.reduceEqDiff, Nat.reduceLeDiff, Int.reduceAdd, Int.reduceNeg, Int.reduceToNat, Int.cast_ofNat_Int, Int.reduceNatCast, Int.toNat_zero, Int.toNat_one, Int.reduceLE, Int.reduceLT, Int.reduceEq, Int.zero_add, Int.add_zero, or_false, false_or, or_true, true_or, and_true, true_and, and_false, false_and, reduceIte, not_true_eq_false, not_false_eq_true, forall_const, false_implies, true_implies, implies_true, ne_eq, reduceCtorEq, List.all_cons, List.all_nil, Bool.and_true, Bool.and_self, decide_eq_true_eq, decide_true, dX1_total_0, dX1_total_1, dX1_total_2, dX1_total_3, dX1_total_4, dX1_total_5, dX1_total_6, dX1_total_9, dX1_total_12, dX1_total_13, dX1_total_14, dX1_total_17, dX1_total_18, dX1_total_19, dX1_total_20, dX1_total_21, dX1_total_22, dX1_total_23, dX1_total_26, dX1_total_29, dX1_total_30, FX1_20, FX1_11, hB, r2, k12, l5, elr k12, k1, k2, hv]
    repeat' (first | exact trivial | omega | (with_reducible assumption) | exact absurd trivial (by with_reducible assumption) | contradiction | apply And.intro | intro _)
    exact ih (n + 1) (by omega)
def T1_total : TT := fun a μ K => match a with
  | [.inr (.inr B), .inl w] => kd B = 1 ∧ ((0 ≤ w ∧ w < 7) ∧ ∃ f, RG μ B f ∧ (0 ≤ f 35 ∧ f 35 ≤ 5) ∧ K [.inl (sumF f w.toNat (f 35).toNat)] μ)
  | _ => False
theorem rec_X1_total : ∀ a μ K, T1_total a μ K → ∃ k r, a = .inr (.inr k) :: r ∧ kd k = 1 := by
  intro a μ K h
  unfold T1_total at h
  split at h
  · exact ⟨_, _, rfl, h.1⟩
  · exact h.elim
theorem gk_X1_total (l : Launch) : ∀ i n b T, G_X1_total i = some (n, b, T) → CallOK l 0 RX1 i n b T := by
  intro i n b T h
  have hm : (i, n, b, T) ∈ GL_X1_total := lk_mem h
  simp [GL_X1_total] at hm
set_option maxRecDepth 20000 in
set_option maxHeartbeats 4000000 in
theorem body_X1_total (B : Nat) (w : Int) (μ : Mem) (K : List AV → Mem → Prop) (V : Nat → List (Option AV) → List AV → Mem → Prop) (hV : Clos FX1 CX1 G_X1_total 1 K cX1_total V) (hT : kd B = 1 ∧ ((0 ≤ w ∧ w < 7) ∧ ∃ f, RG μ B f ∧ (0 ≤ f 35 ∧ f 35 ≤ 5) ∧ K [.inl (sumF f w.toNat (f 35).toNat)] μ)) : V 0 [some (.inr (.inr B)), some (.inl w), none, none] [] μ := by
  obtain ⟨hB, ⟨h1, h2⟩, f, hR, h3, hK⟩ := hT
  obtain ⟨w', rfl⟩ := Int.eq_ofNat_of_zero_le h1
  apply hV [4] 40
  simp only [InR, InL, inb, Int.toNat_natCast, wp1, wpc_z, wpc_s, stp_iconst, stp_bipush, stp_sipush, stp_lconst, stp_iload_n, stp_iload, stp_lload_n, stp_lload, stp_aload_n, stp_aload, stp_istore_n, stp_istore, stp_lstore_n, stp_lstore, stp_astore_n, stp_astore, stp_iinc, stp_iadd, stp_isub, stp_imul, stp_ineg, stp_idiv, stp_irem, stp_ladd, stp_lmul, stp_ldiv, stp_lrem, stp_ishl, stp_ishr, stp_iushr, stp_iand, stp_ior, stp_i2l, stp_i2b, stp_i2s, stp_lcmp, stp_dup, stp_dup2, stp_pop, stp_ifCond, stp_if_icmp, stp_goto, stp_tableswitch, stp_lookupswitch, stp_ldc, stp_ldc_w, stp_ldc2_w, stp_getstatic, stp_getfield, stp_putfield, stp_iaload, stp_baload, stp_iastore, stp_bastore, stp_aaload, stp_aastore, stp_invokevirtual, stp_invokestatic, stp_ireturn, stp_lreturn, stp_return_, lg, lset, okl, spl, wd, c1, cnd, tg, swT, swL, f4_0, f4_1, f4_2, f4_3, f2_0, f2_1, List.mem_cons, List.not_mem_nil, List.length_cons, List.length_nil, List.cons_append, List.nil_append, Nat.reduceAdd, Nat.reduceMul, Nat.reduceLT, Nat.reduceEqDiff, Nat.reduceLeDiff, Int.reduceAdd, Int.reduceNeg, Int.reduceToNat, Int.cast_ofNat_Int, Int.reduceNatCast, Int.toNat_zero, Int.toNat_one, Int.reduceLE, Int.reduceLT, Int.reduceEq, Int.zero_add, Int.add_zero, or_false, false_or, or_true, true_or, and_true, true_and, and_false, false_and, reduceIte, not_true_eq_false, not_false_eq_true, forall_const, false_implies, true_implies, implies_true, ne_eq, reduceCtorEq, List.all_cons, List.all_nil, Bool.and_true, Bool.and_self, decide_eq_true_eq, decide_true, dX1_total_0, dX1_total_1, dX1_total_2, dX1_total_3, dX1_total_4, dX1_total_5, dX1_total_6, dX1_total_9, dX1_total_12, dX1_total_13, dX1_total_14, dX1_total_17, dX1_total_18, dX1_total_19, dX1_total_20, dX1_total_21, dX1_total_22, dX1_total_23, dX1_total_26, dX1_total_29, dX1_total_30, FX1_20, FX1_11, hB]
  exact lp_total V K hV μ B hB f hR w' (by omega) h3 hK (f 35).toNat 0 (by omega)
theorem good_X1_total (l : Launch) : Good l 0 yX1_total cX1_total 4 (some .int) T1_total := by
  refine Good.mk 1 (by decide) rfl (by simp [retOK]) FOK1 COK1 (gk_X1_total l) ?_ ?_
  · intro a μ K h
    unfold T1_total at h
    split at h
    · simp [entl]
    · exact h.elim
  · intro a μ K V hV h
    unfold T1_total at h
    split at h
    · exact body_X1_total _ _ μ K V hV h
    · exact h.elim

def T1_exchange : TT := fun a μ K => match a with
  | [.inr (.inr B), .inl i, .inl k] => kd B = 1 ∧ ((0 ≤ i ∧ i < 5) ∧ (0 ≤ k ∧ k < 5) ∧ RP μ B ∧ K [] (wR (wR μ (B + 1) i.toNat (rR μ (B + 1) k.toNat)) (B + 1) k.toNat (rR μ (B + 1) i.toNat)))
  | _ => False
theorem rec_X1_exchange : ∀ a μ K, T1_exchange a μ K → ∃ k r, a = .inr (.inr k) :: r ∧ kd k = 1 := by
  intro a μ K h
  unfold T1_exchange at h
  split at h
  · exact ⟨_, _, rfl, h.1⟩
  · exact h.elim
def GL_X1_exchange : List (Nat × Nat × Bool × TT) := []
def G_X1_exchange : Nat → Option (Nat × Bool × TT) := fun i => GL_X1_exchange.lookup i
theorem gk_X1_exchange (l : Launch) : ∀ i n b T, G_X1_exchange i = some (n, b, T) → CallOK l 0 RX1 i n b T := by
  intro i n b T h
  have hm : (i, n, b, T) ∈ GL_X1_exchange := lk_mem h
  simp [GL_X1_exchange] at hm
set_option maxRecDepth 20000 in
set_option maxHeartbeats 4000000 in
theorem body_X1_exchange (B : Nat) (i : Int) (k : Int) (μ : Mem) (K : List AV → Mem → Prop) (V : Nat → List (Option AV) → List AV → Mem → Prop) (hV : Clos FX1 CX1 G_X1_exchange 0 K cX1_exchange V) (hT : kd B = 1 ∧ ((0 ≤ i ∧ i < 5) ∧ (0 ≤ k ∧ k < 5) ∧ RP μ B ∧ K [] (wR (wR μ (B + 1) i.toNat (rR μ (B + 1) k.toNat)) (B + 1) k.toNat (rR μ (B + 1) i.toNat)))) : V 0 [some (.inr (.inr B)), some (.inl i), some (.inl k), none] [] μ := by
  obtain ⟨hB, ⟨h1, h2⟩, ⟨h3, h4⟩, hR, hK⟩ := hT
  obtain ⟨i', rfl⟩ := Int.eq_ofNat_of_zero_le h1
  obtain ⟨k', rfl⟩ := Int.eq_ofNat_of_zero_le h3
  rw [Int.toNat_natCast, Int.toNat_natCast] at hK
  obtain ⟨k12, l5, k7⟩ := ringk hB
  have hr1 := hR.1 i' (by omega)
  have hr2 := hR.1 k' (by omega)
  obtain ⟨a1, a2⟩ := k7 _ hr1.1 hr1.2
  obtain ⟨b1, b2⟩ := k7 _ hr2.1 hr2.2
  apply hV [] 60
  simp only [InR, InL, inb, Int.toNat_natCast, wp1, wpc_z, wpc_s, stp_iconst, stp_bipush, stp_sipush, stp_lconst, stp_iload_n, stp_iload, stp_lload_n, stp_lload, stp_aload_n, stp_aload, stp_istore_n, stp_istore, stp_lstore_n, stp_lstore, stp_astore_n, stp_astore, stp_iinc, stp_iadd, stp_isub, stp_imul, stp_ineg, stp_idiv, stp_irem, stp_ladd, stp_lmul, stp_ldiv, stp_lrem, stp_ishl, stp_ishr, stp_iushr, stp_iand, stp_ior, stp_i2l, stp_i2b, stp_i2s, stp_lcmp, stp_dup, stp_dup2, stp_pop, stp_ifCond, stp_if_icmp, stp_goto, stp_tableswitch, stp_lookupswitch, stp_ldc, stp_ldc_w, stp_ldc2_w, stp_getstatic, stp_getfield, stp_putfield, stp_iaload, stp_baload, stp_iastore, stp_bastore, stp_aaload, stp_aastore, stp_invokevirtual, stp_invokestatic, stp_ireturn, stp_lreturn, stp_return_, lg, lset, okl, spl, wd, c1, cnd, tg, swT, swL, f4_0, f4_1, f4_2, f4_3, f2_0, f2_1, List.mem_cons, List.not_mem_nil, List.length_cons, List.length_nil, List.cons_append, List.nil_append, Nat.reduceAdd, Nat.reduceMul, Nat.reduceLT, Nat.reduceEqDiff, Nat.reduceLeDiff, Int.reduceAdd, Int.reduceNeg, Int.reduceToNat, Int.cast_ofNat_Int, Int.reduceNatCast, Int.toNat_zero, Int.toNat_one, Int.reduceLE, Int.reduceLT, Int.reduceEq, Int.zero_add, Int.add_zero, or_false, false_or, or_true, true_or, and_true, true_and, and_false, false_and, reduceIte, not_true_eq_false, not_false_eq_true, forall_const, false_implies, true_implies, implies_true, ne_eq, reduceCtorEq, List.all_cons, List.all_nil, Bool.and_true, Bool.and_self, decide_eq_true_eq, decide_true, dX1_exchange_0, dX1_exchange_1, dX1_exchange_4, dX1_exchange_5, dX1_exchange_6, dX1_exchange_7, dX1_exchange_8, dX1_exchange_11, dX1_exchange_12, dX1_exchange_13, dX1_exchange_16, dX1_exchange_17, dX1_exchange_18, dX1_exchange_19, dX1_exchange_20, dX1_exchange_23, dX1_exchange_24, dX1_exchange_25, dX1_exchange_26, FX1_11, hB, k12, l5, elr k12, a1, a2, b1, b2]
  repeat' (first | exact trivial | omega | (with_reducible assumption) | exact absurd trivial (by with_reducible assumption) | contradiction | apply And.intro | intro _)
theorem good_X1_exchange (l : Launch) : Good l 0 yX1_exchange cX1_exchange 4 none T1_exchange := by
  refine Good.mk 0 (by decide) rfl (by simp [retOK]) FOK1 COK1 (gk_X1_exchange l) ?_ ?_
  · intro a μ K h
    unfold T1_exchange at h
    split at h
    · simp [entl]
    · exact h.elim
  · intro a μ K V hV h
    unfold T1_exchange at h
    split at h
    · exact body_X1_exchange _ _ _ μ K V hV h
    · exact h.elim

def GL_X1_isLonger : List (Nat × Nat × Bool × TT) := []
def G_X1_isLonger : Nat → Option (Nat × Bool × TT) := fun i => GL_X1_isLonger.lookup i

set_option maxRecDepth 20000 in
set_option maxHeartbeats 4000000 in
theorem lp_isLonger (V : Nat → List (Option AV) → List AV → Mem → Prop) (K : List AV → Mem → Prop) (hV : Clos FX1 CX1 G_X1_isLonger 2 K cX1_isLonger V) (μ : Mem) (B : Nat) (hB : kd B = 1) (f : Nat → Int) (hR : RG μ B f) (q : Int) (hq : InR q) (hm : 0 ≤ f 35 ∧ f 35 ≤ 5) (hs : ∀ k : Nat, (k : Int) < f 35 → InR (f (7 * k + 1))) (h1 : outB f q (f 35).toNat = true → K [.inl 1] μ) (h2 : ¬ outB f q (f 35).toNat = true → K [.inl 0] μ) : ∀ m n : Nat, n + m = (f 35).toNat → outB f q n = false → V 2 [some (.inr (.inr B)), some (.inl q), some (.inl (n : Int))] [] μ := by
  obtain ⟨r1, r2, r3, r4, r5, r6⟩ := hR
  obtain ⟨k12, l5, k7⟩ := ringk hB
  simp only [InR] at hq hs
  intro m
  induction m with
  | zero =>
    intro n hn ho
    apply hV [2] 40
    simp only [InR, InL, inb, Int.toNat_natCast, wp1, wpc_z, wpc_s, stp_iconst, stp_bipush, stp_sipush, stp_lconst, stp_iload_n, stp_iload, stp_lload_n, stp_lload, stp_aload_n, stp_aload, stp_istore_n, stp_istore, stp_lstore_n, stp_lstore, stp_astore_n, stp_astore, stp_iinc, stp_iadd, stp_isub, stp_imul, stp_ineg, stp_idiv, stp_irem, stp_ladd, stp_lmul, stp_ldiv, stp_lrem, stp_ishl, stp_ishr, stp_iushr, stp_iand, stp_ior, stp_i2l, stp_i2b, stp_i2s, stp_lcmp, stp_dup, stp_dup2, stp_pop, stp_ifCond, stp_if_icmp, stp_goto, stp_tableswitch, stp_lookupswitch, stp_ldc, stp_ldc_w, stp_ldc2_w, stp_getstatic, stp_getfield, stp_putfield, stp_iaload, stp_baload, stp_iastore, stp_bastore, stp_aaload, stp_aastore, stp_invokevirtual, stp_invokestatic, stp_ireturn, stp_lreturn, stp_return_, lg, lset, okl, spl, wd, c1, cnd, tg, swT, swL, f4_0, f4_1, f4_2, f4_3, f2_0, f2_1, List.mem_cons, List.not_mem_nil, List.length_cons, List.length_nil, List.cons_append, List.nil_append, Nat.reduceAdd, Nat.reduceMul, Nat.reduceLT, Nat.reduceEqDiff, Nat.reduceLeDiff, Int.reduceAdd, Int.reduceNeg, Int.reduceToNat, Int.cast_ofNat_Int, Int.reduceNatCast, Int.toNat_zero, Int.toNat_one, Int.reduceLE, Int.reduceLT, Int.reduceEq, Int.zero_add, Int.add_zero, or_false, false_or, or_true, true_or, and_true, true_and, and_false, false_and, reduceIte, not_true_eq_false, not_false_eq_true, forall_const, false_implies, true_implies, implies_true, ne_eq, reduceCtorEq, List.all_cons, List.all_nil, Bool.and_true, Bool.and_self, decide_eq_true_eq, decide_true, dX1_isLonger_0, dX1_isLonger_1, dX1_isLonger_2, dX1_isLonger_3, dX1_isLonger_4, dX1_isLonger_7, dX1_isLonger_10, dX1_isLonger_11, dX1_isLonger_14, dX1_isLonger_15, dX1_isLonger_16, dX1_isLonger_17, dX1_isLonger_18, dX1_isLonger_19, dX1_isLonger_22, dX1_isLonger_23, dX1_isLonger_24, dX1_isLonger_27, dX1_isLonger_30, dX1_isLonger_31, FX1_20, FX1_11, hB, r2]
    have := h2 (by rw [show (f 35).toNat = n by omega, ho]; simp)
    repeat' (first | exact trivial | omega | (with_reducible assumption) | exact absurd trivial (by with_reducible assumption) | contradiction | apply And.intro | intro _)
  | succ m ih =>
    intro n hn ho
    have hr := r1.1 n (by omega)
    obtain ⟨k1, k2⟩ := k7 _ hr.1 hr.2
    have hv := r6 n 1 (by omega) (by omega)
    have hsn := hs n (by omega)
    apply hV [2] 40
    simp only [InR, InL, inb, Int.toNat_natCast, wp1, wpc_z, wpc_s, stp_iconst, stp_bipush, stp_sipush, stp_lconst, stp_iload_n, stp_iload, stp_lload_n, stp_lload, stp_aload_n, stp_aload, stp_istore_n, stp_istore, stp_lstore_n, stp_lstore, stp_astore_n, stp_astore, stp_iinc, stp_iadd, stp_isub, stp_imul, stp_ineg, stp_idiv, stp_irem, stp_ladd, stp_lmul, stp_ldiv, stp_lrem, stp_ishl, stp_ishr, stp_iushr, stp_iand, stp_ior, stp_i2l, stp_i2b, stp_i2s, stp_lcmp, stp_dup, stp_dup2, stp_pop, stp_ifCond, stp_if_icmp, stp_goto, stp_tableswitch, stp_lookupswitch, stp_ldc, stp_ldc_w, stp_ldc2_w, stp_getstatic, stp_getfield, stp_putfield, stp_iaload, stp_baload, stp_iastore, stp_bastore, stp_aaload, stp_aastore, stp_invokevirtual, stp_invokestatic, stp_ireturn, stp_lreturn, stp_return_, lg, lset, okl, spl, wd, c1, cnd, tg, swT, swL, f4_0, f4_1, f4_2, f4_3, f2_0, f2_1, List.mem_cons, List.not_mem_nil, List.length_cons, List.length_nil, List.cons_append, List.nil_append, Nat.reduceAdd, Nat.reduceMul, Nat.reduceLT, Nat.reduceEqDiff, Nat.reduceLeDiff, Int.reduceAdd, Int.reduceNeg, Int.reduceToNat, Int.cast_ofNat_Int, Int.reduceNatCast, Int.toNat_zero, Int.toNat_one, Int.reduceLE, Int.reduceLT, Int.reduceEq, Int.zero_add, Int.add_zero, or_false, false_or, or_true, true_or, and_true, true_and, and_false, false_and, reduceIte, not_true_eq_false, not_false_eq_true, forall_const, false_implies, true_implies, implies_true, ne_eq, reduceCtorEq, List.all_cons, List.all_nil, Bool.and_true, Bool.and_self, decide_eq_true_eq, decide_true, dX1_isLonger_0, dX1_isLonger_1, dX1_isLonger_2, dX1_isLonger_3, dX1_isLonger_4, dX1_isLonger_7, dX1_isLonger_10, dX1_isLonger_11, dX1_isLonger_14, dX1_isLonger_15, dX1_isLonger_16, dX1_isLonger_17, dX1_isLonger_18, dX1_isLonger_19, dX1_isLonger_22, dX1_isLonger_23, dX1_isLonger_24, dX1_isLonger_27, dX1_isLonger_30, dX1_isLonger_31, FX1_20, FX1_11, hB, r2, k12, l5, elr k12, k1, k2, hv]
    by_cases e : q < f (7 * n + 1)
    · have hmono : ∀ a b, outB f q a = true → a ≤ b → outB f q b = true := by
        intro a b h
        induction b with
        | zero => intro hab; rw [show a = 0 by omega] at h; exact h
        | succ b ihb =>
          intro hab
          by_cases hab' : a = b + 1
          · rw [← hab']; exact h
          · simp only [outB, ihb (by omega), Bool.true_or]
      have := h1 (hmono (n + 1) _ (by simp [outB, e]) (by omega))
      repeat' (first | exact trivial | omega | (with_reducible assumption) | exact absurd trivial (by with_reducible assumption) | contradiction | apply And.intro | intro _)
    · have := ih (n + 1) (by omega) (by simp [outB, ho, e])
      rw [show ((n + 1 : Nat) : Int) = (n : Int) + 1 by omega] at this
      repeat' (first | exact trivial | omega | (with_reducible assumption) | exact absurd trivial (by with_reducible assumption) | contradiction | apply And.intro | intro _)
def T1_isLonger : TT := fun a μ K => match a with
  | [.inr (.inr B), .inl q] => kd B = 1 ∧ (InR q ∧ ∃ f, RG μ B f ∧ (0 ≤ f 35 ∧ f 35 ≤ 5) ∧ (∀ k : Nat, (k : Int) < f 35 → InR (f (7 * k + 1))) ∧ (outB f q (f 35).toNat = true → K [.inl 1] μ) ∧ (¬ outB f q (f 35).toNat = true → K [.inl 0] μ))
  | _ => False
theorem rec_X1_isLonger : ∀ a μ K, T1_isLonger a μ K → ∃ k r, a = .inr (.inr k) :: r ∧ kd k = 1 := by
  intro a μ K h
  unfold T1_isLonger at h
  split at h
  · exact ⟨_, _, rfl, h.1⟩
  · exact h.elim
theorem gk_X1_isLonger (l : Launch) : ∀ i n b T, G_X1_isLonger i = some (n, b, T) → CallOK l 0 RX1 i n b T := by
  intro i n b T h
  have hm : (i, n, b, T) ∈ GL_X1_isLonger := lk_mem h
  simp [GL_X1_isLonger] at hm
set_option maxRecDepth 20000 in
set_option maxHeartbeats 4000000 in
theorem body_X1_isLonger (B : Nat) (q : Int) (μ : Mem) (K : List AV → Mem → Prop) (V : Nat → List (Option AV) → List AV → Mem → Prop) (hV : Clos FX1 CX1 G_X1_isLonger 2 K cX1_isLonger V) (hT : kd B = 1 ∧ (InR q ∧ ∃ f, RG μ B f ∧ (0 ≤ f 35 ∧ f 35 ≤ 5) ∧ (∀ k : Nat, (k : Int) < f 35 → InR (f (7 * k + 1))) ∧ (outB f q (f 35).toNat = true → K [.inl 1] μ) ∧ (¬ outB f q (f 35).toNat = true → K [.inl 0] μ))) : V 0 [some (.inr (.inr B)), some (.inl q), none] [] μ := by
  obtain ⟨hB, hq, f, hR, h3, h4, h5, h6⟩ := hT
  apply hV [2] 40
  simp only [InR, InL, inb, Int.toNat_natCast, wp1, wpc_z, wpc_s, stp_iconst, stp_bipush, stp_sipush, stp_lconst, stp_iload_n, stp_iload, stp_lload_n, stp_lload, stp_aload_n, stp_aload, stp_istore_n, stp_istore, stp_lstore_n, stp_lstore, stp_astore_n, stp_astore, stp_iinc, stp_iadd, stp_isub, stp_imul, stp_ineg, stp_idiv, stp_irem, stp_ladd, stp_lmul, stp_ldiv, stp_lrem, stp_ishl, stp_ishr, stp_iushr, stp_iand, stp_ior, stp_i2l, stp_i2b, stp_i2s, stp_lcmp, stp_dup, stp_dup2, stp_pop, stp_ifCond, stp_if_icmp, stp_goto, stp_tableswitch, stp_lookupswitch, stp_ldc, stp_ldc_w, stp_ldc2_w, stp_getstatic, stp_getfield, stp_putfield, stp_iaload, stp_baload, stp_iastore, stp_bastore, stp_aaload, stp_aastore, stp_invokevirtual, stp_invokestatic, stp_ireturn, stp_lreturn, stp_return_, lg, lset, okl, spl, wd, c1, cnd, tg, swT, swL, f4_0, f4_1, f4_2, f4_3, f2_0, f2_1, List.mem_cons, List.not_mem_nil, List.length_cons, List.length_nil, List.cons_append, List.nil_append, Nat.reduceAdd, Nat.reduceMul, Nat.reduceLT, Nat.reduceEqDiff, Nat.reduceLeDiff, Int.reduceAdd, Int.reduceNeg, Int.reduceToNat, Int.cast_ofNat_Int, Int.reduceNatCast, Int.toNat_zero, Int.toNat_one, Int.reduceLE, Int.reduceLT, Int.reduceEq, Int.zero_add, Int.add_zero, or_false, false_or, or_true, true_or, and_true, true_and, and_false, false_and, reduceIte, not_true_eq_false, not_false_eq_true, forall_const, false_implies, true_implies, implies_true, ne_eq, reduceCtorEq, List.all_cons, List.all_nil, Bool.and_true, Bool.and_self, decide_eq_true_eq, decide_true, dX1_isLonger_0, dX1_isLonger_1, dX1_isLonger_2, dX1_isLonger_3, dX1_isLonger_4, dX1_isLonger_7, dX1_isLonger_10, dX1_isLonger_11, dX1_isLonger_14, dX1_isLonger_15, dX1_isLonger_16, dX1_isLonger_17, dX1_isLonger_18, dX1_isLonger_19, dX1_isLonger_22, dX1_isLonger_23, dX1_isLonger_24, dX1_isLonger_27, dX1_isLonger_30, dX1_isLonger_31, FX1_20, FX1_11, hB]
  exact lp_isLonger V K hV μ B hB f hR q hq h3 h4 h5 h6 (f 35).toNat 0 (by omega) rfl
theorem good_X1_isLonger (l : Launch) : Good l 0 yX1_isLonger cX1_isLonger 3 (some .boolean) T1_isLonger := by
  refine Good.mk 2 (by decide) rfl (by simp [retOK]) FOK1 COK1 (gk_X1_isLonger l) ?_ ?_
  · intro a μ K h
    unfold T1_isLonger at h
    split at h
    · simp [entl]
    · exact h.elim
  · intro a μ K V hV h
    unfold T1_isLonger at h
    split at h
    · exact body_X1_isLonger _ _ μ K V hV h
    · exact h.elim

def T1_add : TT := fun a μ K => match a with
  | [.inr (.inr B), .inl i, .inl n] => kd B = 1 ∧ ((0 ≤ i ∧ i < 5) ∧ RP μ B ∧ (0 ≤ n ∧ n ≤ 1000) ∧ (0 ≤ rI μ (rR μ (B + 1) i.toNat) 1 ∧ rI μ (rR μ (B + 1) i.toNat) 1 ≤ 99) ∧ K [.inl (n - min n (99 - rI μ (rR μ (B + 1) i.toNat) 1))] (wI (wI μ (rR μ (B + 1) i.toNat) 1 (rI μ (rR μ (B + 1) i.toNat) 1 + min n (99 - rI μ (rR μ (B + 1) i.toNat) 1))) B 6 (rI μ B 6 + (n - min n (99 - rI μ (rR μ (B + 1) i.toNat) 1)))))
  | _ => False
theorem rec_X1_add : ∀ a μ K, T1_add a μ K → ∃ k r, a = .inr (.inr k) :: r ∧ kd k = 1 := by
  intro a μ K h
  unfold T1_add at h
  split at h
  · exact ⟨_, _, rfl, h.1⟩
  · exact h.elim
def GL_X1_add : List (Nat × Nat × Bool × TT) := [(49, 2, true, T_min)]
def G_X1_add : Nat → Option (Nat × Bool × TT) := fun i => GL_X1_add.lookup i
theorem G_X1_add_49 : G_X1_add 49 = some (2, true, T_min) := rfl
theorem gk_X1_add (l : Launch) : ∀ i n b T, G_X1_add i = some (n, b, T) → CallOK l 1 RX1 i n b T := by
  intro i n b T h
  have hm : (i, n, b, T) ∈ GL_X1_add := lk_mem h
  simp only [GL_X1_add, List.mem_cons, List.not_mem_nil, or_false, Prod.mk.injEq] at hm
  rcases hm with ⟨rfl, rfl, rfl, rfl⟩
  · exact CallOK.min (d := 1) (own := RX1) (i := 49) (by decide) (mg 340 (by decide +kernel) (by decide +kernel)) (mg 341 (by decide +kernel) (by decide +kernel)) (mg 13 (by decide +kernel) (by decide +kernel)) (mg 342 (by decide +kernel) (by decide +kernel))
set_option maxRecDepth 20000 in
set_option maxHeartbeats 4000000 in
theorem body_X1_add (B : Nat) (i : Int) (n : Int) (μ : Mem) (K : List AV → Mem → Prop) (V : Nat → List (Option AV) → List AV → Mem → Prop) (hV : Clos FX1 CX1 G_X1_add 1 K cX1_add V) (hT : kd B = 1 ∧ ((0 ≤ i ∧ i < 5) ∧ RP μ B ∧ (0 ≤ n ∧ n ≤ 1000) ∧ (0 ≤ rI μ (rR μ (B + 1) i.toNat) 1 ∧ rI μ (rR μ (B + 1) i.toNat) 1 ≤ 99) ∧ K [.inl (n - min n (99 - rI μ (rR μ (B + 1) i.toNat) 1))] (wI (wI μ (rR μ (B + 1) i.toNat) 1 (rI μ (rR μ (B + 1) i.toNat) 1 + min n (99 - rI μ (rR μ (B + 1) i.toNat) 1))) B 6 (rI μ B 6 + (n - min n (99 - rI μ (rR μ (B + 1) i.toNat) 1)))))) : V 0 [some (.inr (.inr B)), some (.inl i), some (.inl n), none, none] [] μ := by
  obtain ⟨hB, ⟨h1, h2⟩, hR, h4, h5, hK⟩ := hT
  obtain ⟨i', rfl⟩ := Int.eq_ofNat_of_zero_le h1
  rw [Int.toNat_natCast] at hK h5
  obtain ⟨k12, l5, k7⟩ := ringk hB
  have hr1 := hR.1 i' (by omega)
  obtain ⟨a1, a2⟩ := k7 _ hr1.1 hr1.2
  have ne : ¬ B = rR μ (B + 1) i' := by omega
  apply hV [] 60
  simp only [InR, InL, inb, Int.toNat_natCast, wp1, wpc_z, wpc_s, stp_iconst, stp_bipush, stp_sipush, stp_lconst, stp_iload_n, stp_iload, stp_lload_n, stp_lload, stp_aload_n, stp_aload, stp_istore_n, stp_istore, stp_lstore_n, stp_lstore, stp_astore_n, stp_astore, stp_iinc, stp_iadd, stp_isub, stp_imul, stp_ineg, stp_idiv, stp_irem, stp_ladd, stp_lmul, stp_ldiv, stp_lrem, stp_ishl, stp_ishr, stp_iushr, stp_iand, stp_ior, stp_i2l, stp_i2b, stp_i2s, stp_lcmp, stp_dup, stp_dup2, stp_pop, stp_ifCond, stp_if_icmp, stp_goto, stp_tableswitch, stp_lookupswitch, stp_ldc, stp_ldc_w, stp_ldc2_w, stp_getstatic, stp_getfield, stp_putfield, stp_iaload, stp_baload, stp_iastore, stp_bastore, stp_aaload, stp_aastore, stp_invokevirtual, stp_invokestatic, stp_ireturn, stp_lreturn, stp_return_, lg, lset, okl, spl, wd, c1, cnd, tg, swT, swL, f4_0, f4_1, f4_2, f4_3, f2_0, f2_1, List.mem_cons, List.not_mem_nil, List.length_cons, List.length_nil, List.cons_append, List.nil_append, Nat.reduceAdd, Nat.reduceMul, Nat.reduceLT, Nat.reduceEqDiff, Nat.reduceLeDiff, Int.reduceAdd, Int.reduceNeg, Int.reduceToNat, Int.cast_ofNat_Int, Int.reduceNatCast, Int.toNat_zero, Int.toNat_one, Int.reduceLE, Int.reduceLT, Int.reduceEq, Int.zero_add, Int.add_zero, or_false, false_or, or_true, true_or, and_true, true_and, and_false, false_and, reduceIte, not_true_eq_false, not_false_eq_true, forall_const, false_implies, true_implies, implies_true, ne_eq, reduceCtorEq, List.all_cons, List.all_nil, Bool.and_true, Bool.and_self, decide_eq_true_eq, decide_true, dX1_add_0, dX1_add_1, dX1_add_4, dX1_add_5, dX1_add_6, dX1_add_7, dX1_add_8, dX1_add_10, dX1_add_11, dX1_add_12, dX1_add_13, dX1_add_14, dX1_add_17, dX1_add_19, dX1_add_20, dX1_add_21, dX1_add_22, dX1_add_23, dX1_add_25, dX1_add_26, dX1_add_27, dX1_add_28, dX1_add_29, dX1_add_32, dX1_add_33, dX1_add_35, dX1_add_36, dX1_add_37, dX1_add_40, dX1_add_41, dX1_add_43, dX1_add_44, FX1_11, FX1_32, G_X1_add_49, hB, k12, l5, elr k12, a1, a2, T_min, rI_wI, ne]
  repeat' (first | exact trivial | omega | (with_reducible assumption) | exact absurd trivial (by with_reducible assumption) | contradiction | apply And.intro | intro _)
theorem good_X1_add (l : Launch) : Good l 1 yX1_add cX1_add 5 (some .int) T1_add := by
  refine Good.mk 1 (by decide) rfl (by simp [retOK]) FOK1 COK1 (gk_X1_add l) ?_ ?_
  · intro a μ K h
    unfold T1_add at h
    split at h
    · simp [entl]
    · exact h.elim
  · intro a μ K V hV h
    unfold T1_add at h
    split at h
    · exact body_X1_add _ _ _ μ K V hV h
    · exact h.elim

def T1_cut : TT := fun a μ K => match a with
  | [.inr (.inr B)] => kd B = 1 ∧ (InR (rI μ B 3) ∧ InR (rI μ B 5) ∧ InR (rI μ B 6) ∧ K [] (wI (wI (wI μ B 3 (min (rI μ B 3) 999999)) B 5 (min (rI μ B 5) 999999)) B 6 (min (rI μ B 6) 999999)))
  | _ => False
theorem rec_X1_cut : ∀ a μ K, T1_cut a μ K → ∃ k r, a = .inr (.inr k) :: r ∧ kd k = 1 := by
  intro a μ K h
  unfold T1_cut at h
  split at h
  · exact ⟨_, _, rfl, h.1⟩
  · exact h.elim
def GL_X1_cut : List (Nat × Nat × Bool × TT) := [(49, 2, true, T_min)]
def G_X1_cut : Nat → Option (Nat × Bool × TT) := fun i => GL_X1_cut.lookup i
theorem G_X1_cut_49 : G_X1_cut 49 = some (2, true, T_min) := rfl
theorem gk_X1_cut (l : Launch) : ∀ i n b T, G_X1_cut i = some (n, b, T) → CallOK l 1 RX1 i n b T := by
  intro i n b T h
  have hm : (i, n, b, T) ∈ GL_X1_cut := lk_mem h
  simp only [GL_X1_cut, List.mem_cons, List.not_mem_nil, or_false, Prod.mk.injEq] at hm
  rcases hm with ⟨rfl, rfl, rfl, rfl⟩
  · exact CallOK.min (d := 1) (own := RX1) (i := 49) (by decide) (mg 340 (by decide +kernel) (by decide +kernel)) (mg 341 (by decide +kernel) (by decide +kernel)) (mg 13 (by decide +kernel) (by decide +kernel)) (mg 342 (by decide +kernel) (by decide +kernel))
set_option maxRecDepth 20000 in
set_option maxHeartbeats 4000000 in
theorem body_X1_cut (B : Nat) (μ : Mem) (K : List AV → Mem → Prop) (V : Nat → List (Option AV) → List AV → Mem → Prop) (hV : Clos FX1 CX1 G_X1_cut 0 K cX1_cut V) (hT : kd B = 1 ∧ (InR (rI μ B 3) ∧ InR (rI μ B 5) ∧ InR (rI μ B 6) ∧ K [] (wI (wI (wI μ B 3 (min (rI μ B 3) 999999)) B 5 (min (rI μ B 5) 999999)) B 6 (min (rI μ B 6) 999999)))) : V 0 [some (.inr (.inr B))] [] μ := by
  simp only [InR] at hT
  obtain ⟨hB, h1, h2, h3, hK⟩ := hT
  apply hV [] 60
  simp only [InR, InL, inb, Int.toNat_natCast, wp1, wpc_z, wpc_s, stp_iconst, stp_bipush, stp_sipush, stp_lconst, stp_iload_n, stp_iload, stp_lload_n, stp_lload, stp_aload_n, stp_aload, stp_istore_n, stp_istore, stp_lstore_n, stp_lstore, stp_astore_n, stp_astore, stp_iinc, stp_iadd, stp_isub, stp_imul, stp_ineg, stp_idiv, stp_irem, stp_ladd, stp_lmul, stp_ldiv, stp_lrem, stp_ishl, stp_ishr, stp_iushr, stp_iand, stp_ior, stp_i2l, stp_i2b, stp_i2s, stp_lcmp, stp_dup, stp_dup2, stp_pop, stp_ifCond, stp_if_icmp, stp_goto, stp_tableswitch, stp_lookupswitch, stp_ldc, stp_ldc_w, stp_ldc2_w, stp_getstatic, stp_getfield, stp_putfield, stp_iaload, stp_baload, stp_iastore, stp_bastore, stp_aaload, stp_aastore, stp_invokevirtual, stp_invokestatic, stp_ireturn, stp_lreturn, stp_return_, lg, lset, okl, spl, wd, c1, cnd, tg, swT, swL, f4_0, f4_1, f4_2, f4_3, f2_0, f2_1, List.mem_cons, List.not_mem_nil, List.length_cons, List.length_nil, List.cons_append, List.nil_append, Nat.reduceAdd, Nat.reduceMul, Nat.reduceLT, Nat.reduceEqDiff, Nat.reduceLeDiff, Int.reduceAdd, Int.reduceNeg, Int.reduceToNat, Int.cast_ofNat_Int, Int.reduceNatCast, Int.toNat_zero, Int.toNat_one, Int.reduceLE, Int.reduceLT, Int.reduceEq, Int.zero_add, Int.add_zero, or_false, false_or, or_true, true_or, and_true, true_and, and_false, false_and, reduceIte, not_true_eq_false, not_false_eq_true, forall_const, false_implies, true_implies, implies_true, ne_eq, reduceCtorEq, List.all_cons, List.all_nil, Bool.and_true, Bool.and_self, decide_eq_true_eq, decide_true, dX1_cut_0, dX1_cut_1, dX1_cut_2, dX1_cut_5, dX1_cut_7, dX1_cut_10, dX1_cut_13, dX1_cut_14, dX1_cut_15, dX1_cut_18, dX1_cut_20, dX1_cut_23, dX1_cut_26, dX1_cut_27, dX1_cut_28, dX1_cut_31, dX1_cut_33, dX1_cut_36, dX1_cut_39, FX1_23, CX1_73, FX1_29, FX1_32, G_X1_cut_49, hB, T_min, rI_wI]
  repeat' (first | exact trivial | omega | (with_reducible assumption) | exact absurd trivial (by with_reducible assumption) | contradiction | apply And.intro | intro _)
theorem good_X1_cut (l : Launch) : Good l 1 yX1_cut cX1_cut 1 none T1_cut := by
  refine Good.mk 0 (by decide) rfl (by simp [retOK]) FOK1 COK1 (gk_X1_cut l) ?_ ?_
  · intro a μ K h
    unfold T1_cut at h
    split at h
    · simp [entl]
    · exact h.elim
  · intro a μ K V hV h
    unfold T1_cut at h
    split at h
    · exact body_X1_cut _ μ K V hV h
    · exact h.elim

def T1_clear : TT := fun a μ K => match a with
  | [.inr (.inr B)] => kd B = 1 ∧ (K [] (wI (wI (wI (wI (wI (wI μ B 1 0) B 2 (-4)) B 3 0) B 4 0) B 5 0) B 6 0))
  | _ => False
theorem rec_X1_clear : ∀ a μ K, T1_clear a μ K → ∃ k r, a = .inr (.inr k) :: r ∧ kd k = 1 := by
  intro a μ K h
  unfold T1_clear at h
  split at h
  · exact ⟨_, _, rfl, h.1⟩
  · exact h.elim
def GL_X1_clear : List (Nat × Nat × Bool × TT) := []
def G_X1_clear : Nat → Option (Nat × Bool × TT) := fun i => GL_X1_clear.lookup i
theorem gk_X1_clear (l : Launch) : ∀ i n b T, G_X1_clear i = some (n, b, T) → CallOK l 0 RX1 i n b T := by
  intro i n b T h
  have hm : (i, n, b, T) ∈ GL_X1_clear := lk_mem h
  simp [GL_X1_clear] at hm
set_option maxRecDepth 20000 in
set_option maxHeartbeats 4000000 in
theorem body_X1_clear (B : Nat) (μ : Mem) (K : List AV → Mem → Prop) (V : Nat → List (Option AV) → List AV → Mem → Prop) (hV : Clos FX1 CX1 G_X1_clear 0 K cX1_clear V) (hT : kd B = 1 ∧ (K [] (wI (wI (wI (wI (wI (wI μ B 1 0) B 2 (-4)) B 3 0) B 4 0) B 5 0) B 6 0))) : V 0 [some (.inr (.inr B))] [] μ := by
  obtain ⟨hB, hK⟩ := hT
  apply hV [] 60
  simp only [InR, InL, inb, Int.toNat_natCast, wp1, wpc_z, wpc_s, stp_iconst, stp_bipush, stp_sipush, stp_lconst, stp_iload_n, stp_iload, stp_lload_n, stp_lload, stp_aload_n, stp_aload, stp_istore_n, stp_istore, stp_lstore_n, stp_lstore, stp_astore_n, stp_astore, stp_iinc, stp_iadd, stp_isub, stp_imul, stp_ineg, stp_idiv, stp_irem, stp_ladd, stp_lmul, stp_ldiv, stp_lrem, stp_ishl, stp_ishr, stp_iushr, stp_iand, stp_ior, stp_i2l, stp_i2b, stp_i2s, stp_lcmp, stp_dup, stp_dup2, stp_pop, stp_ifCond, stp_if_icmp, stp_goto, stp_tableswitch, stp_lookupswitch, stp_ldc, stp_ldc_w, stp_ldc2_w, stp_getstatic, stp_getfield, stp_putfield, stp_iaload, stp_baload, stp_iastore, stp_bastore, stp_aaload, stp_aastore, stp_invokevirtual, stp_invokestatic, stp_ireturn, stp_lreturn, stp_return_, lg, lset, okl, spl, wd, c1, cnd, tg, swT, swL, f4_0, f4_1, f4_2, f4_3, f2_0, f2_1, List.mem_cons, List.not_mem_nil, List.length_cons, List.length_nil, List.cons_append, List.nil_append, Nat.reduceAdd, Nat.reduceMul, Nat.reduceLT, Nat.reduceEqDiff, Nat.reduceLeDiff, Int.reduceAdd, Int.reduceNeg, Int.reduceToNat, Int.cast_ofNat_Int, Int.reduceNatCast, Int.toNat_zero, Int.toNat_one, Int.reduceLE, Int.reduceLT, Int.reduceEq, Int.zero_add, Int.add_zero, or_false, false_or, or_true, true_or, and_true, true_and, and_false, false_and, reduceIte, not_true_eq_false, not_false_eq_true, forall_const, false_implies, true_implies, implies_true, ne_eq, reduceCtorEq, List.all_cons, List.all_nil, Bool.and_true, Bool.and_self, decide_eq_true_eq, decide_true, dX1_clear_0, dX1_clear_1, dX1_clear_2, dX1_clear_5, dX1_clear_6, dX1_clear_8, dX1_clear_11, dX1_clear_12, dX1_clear_13, dX1_clear_16, dX1_clear_17, dX1_clear_18, dX1_clear_21, dX1_clear_22, dX1_clear_23, dX1_clear_26, dX1_clear_27, dX1_clear_28, dX1_clear_31, FX1_20, FX1_16, FX1_23, FX1_26, FX1_29, FX1_32, hB]
  repeat' (first | exact trivial | omega | (with_reducible assumption) | exact absurd trivial (by with_reducible assumption) | contradiction | apply And.intro | intro _)
theorem good_X1_clear (l : Launch) : Good l 0 yX1_clear cX1_clear 1 none T1_clear := by
  refine Good.mk 0 (by decide) rfl (by simp [retOK]) FOK1 COK1 (gk_X1_clear l) ?_ ?_
  · intro a μ K h
    unfold T1_clear at h
    split at h
    · simp [entl]
    · exact h.elim
  · intro a μ K V hV h
    unfold T1_clear at h
    split at h
    · exact body_X1_clear _ μ K V hV h
    · exact h.elim

