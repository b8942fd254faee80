/-! both: visits that fail -/
def bF (F j : Nat) : Int := (F : Int) / 2 ^ j % 2
theorem bF_in (F j : Nat) : bF F j = 0 ∨ bF F j = 1 := Int.emod_two_eq _
def bt (F : Nat) : Nat → (Nat → Int) → Bool := fun j _ => decide (bF F j = 0)
theorem bt_congr (F : Nat) : ∀ n f f', Eq39 f f' → bt F n f = bt F n f' := fun _ _ _ _ => rfl
theorem bm_id {a : Int} (h : 0 ≤ a ∧ a < 2147483648) : Int.bmod a 4294967296 = a := by rw [Int.bmod_eq_of_le] <;> omega
def chW (v : Int) (F : Nat) : Nat → Int
  | 0 => 1
  | n + 1 => chW v F n * (if bF F n = 1 then v else 10 - v)
def pw : Nat → Int
  | 0 => 1
  | n + 1 => pw n * 10
theorem pw_in : ∀ n, n ≤ 8 → 1 ≤ pw n ∧ pw n ≤ 100000000 := by decide +kernel
theorem chW_in {v : Int} (hv : 0 ≤ v ∧ v ≤ 10) (F : Nat) : ∀ n, n ≤ 8 → 0 ≤ chW v F n ∧ chW v F n ≤ pw n
  | 0, _ => by simp [chW, pw]
  | n + 1, hn => by
    obtain ⟨h1, h2⟩ := chW_in hv F n (by omega)
    have hx : 0 ≤ (if bF F n = 1 then v else 10 - v) ∧ (if bF F n = 1 then v else 10 - v) ≤ 10 := by split <;> omega
    simp only [chW, pw]
    generalize (if bF F n = 1 then v else 10 - v) = x at hx
    exact ⟨Int.mul_nonneg h1 hx.1, Int.mul_le_mul h2 hx.2 hx.1 (by omega)⟩
def T5_isFailing : TT := fun a μ K => match a with
  | [.inl F, .inl j] => ∃ F' j' : Nat, F = F' ∧ j = j' ∧ F' < 1024 ∧ j' < 31 ∧ K [.inl (bF F' j')] μ
  | _ => False
def GL_X5_isFailing : List (Nat × Nat × Bool × TT) := []
def G_X5_isFailing : Nat → Option (Nat × Bool × TT) := fun i => GL_X5_isFailing.lookup i
theorem gk_X5_isFailing (l : Launch) : ∀ i n b T, G_X5_isFailing i = some (n, b, T) → CallOK l 0 RX5 i n b T := by
  intro i n b T h
  have hm : (i, n, b, T) ∈ GL_X5_isFailing := lk_mem h
  simp [GL_X5_isFailing] at hm
set_option maxRecDepth 20000 in
set_option maxHeartbeats 4000000 in
theorem body_X5_isFailing (F : Int) (j : Int) (μ : Mem) (K : List AV → Mem → Prop) (V : Nat → List (Option AV) → List AV → Mem → Prop) (hV : Clos FX5 CX5 G_X5_isFailing 2 K cX5_isFailing V) (hT : ∃ F' j' : Nat, F = F' ∧ j = j' ∧ F' < 1024 ∧ j' < 31 ∧ K [.inl (bF F' j')] μ) : V 0 [some (.inl F), some (.inl j)] [] μ := by
  obtain ⟨F', j', rfl, rfl, h1, h2, hK⟩ := hT
  have e := bm_id (a := (F' : Int)) ⟨by omega, by omega⟩
  have eb : (F' : Int) / 2 ^ j' % 2 = bF F' j' := rfl
  apply hV [] 30
  simp only [InR, InL, inb, Int.toNat_natCast, wp1, wpc_z, wpc_s, stp_iconst, stp_bipush, stp_sipush, stp_lconst, stp_iload_n, stp_iload, stp_lload_n, stp_lload, stp_aload_n, stp_aload, stp_istore_n, stp_istore, stp_lstore_n, stp_lstore, stp_astore_n, stp_astore, stp_iinc, stp_iadd, stp_isub, stp_imul, stp_ineg, stp_idiv, stp_irem, stp_ladd, stp_lmul, stp_ldiv, stp_lrem, stp_ishl, stp_ishr, stp_iushr, stp_iand, stp_ior, stp_i2l, stp_i2b, stp_i2s, stp_lcmp, stp_dup, stp_dup2, stp_pop, stp_ifCond, stp_if_icmp, stp_goto, stp_tableswitch, stp_lookupswitch, stp_ldc, stp_ldc_w, stp_ldc2_w, stp_getstatic, stp_getfield, stp_putfield, stp_iaload, stp_baload, stp_iastore, stp_bastore, stp_aaload, stp_aastore, stp_invokevirtual, stp_invokestatic, stp_ireturn, stp_lreturn, stp_return_, lg, lset, okl, spl, wd, c1, cnd, tg, swT, swL, f4_0, f4_1, f4_2, f4_3, f2_0, f2_1, List.mem_cons, List.not_mem_nil, List.length_cons, List.length_nil, List.cons_append, List.nil_append, Nat.reduceAdd, Nat.reduceMul, Nat.reduceLT, Nat.reduceEqDiff, Nat.reduceLeDiff, Int.reduceAdd, Int.reduceNeg, Int.reduceToNat, Int.cast_ofNat_Int, Int.reduceNatCast, Int.toNat_zero, Int.toNat_one, Int.reduceLE, Int.reduceLT, Int.reduceEq, Int.zero_add, Int.add_zero, or_false, false_or, or_true, true_or, and_true, true_and, and_false, false_and, reduceIte, not_true_eq_false, not_false_eq_true, forall_const, false_implies, true_implies, implies_true, ne_eq, reduceCtorEq, List.all_cons, List.all_nil, Bool.and_true, Bool.and_self, decide_eq_true_eq, decide_true, dX5_isFailing_0, dX5_isFailing_1, dX5_isFailing_2, dX5_isFailing_3, dX5_isFailing_4, dX5_isFailing_5, dX5_isFailing_6, dX5_isFailing_9, dX5_isFailing_10, dX5_isFailing_13, dX5_isFailing_14, e, eb]
  rcases bF_in F' j' with z | z
  · rw [z] at hK ⊢
    clear e eb z
    simp only [Int.reduceEq, Int.reduceLE, Int.reduceLT, Int.reduceNeg, Int.reduceSub, not_false_eq_true, not_true_eq_false, forall_const, true_implies, false_implies, implies_true, true_and, and_true, and_self, or_true, true_or, ne_eq]
    first | exact hK | exact ⟨by omega, hK⟩ | exact ⟨⟨by omega, by omega⟩, hK⟩
  · rw [z] at hK ⊢
    clear e eb z
    simp only [Int.reduceEq, Int.reduceLE, Int.reduceLT, Int.reduceNeg, Int.reduceSub, not_false_eq_true, not_true_eq_false, forall_const, true_implies, false_implies, implies_true, true_and, and_true, and_self, or_true, true_or, ne_eq]
    first | exact hK | exact ⟨by omega, hK⟩ | exact ⟨⟨by omega, by omega⟩, hK⟩
theorem good_X5_isFailing (l : Launch) : Good l 0 yX5_isFailing cX5_isFailing 2 (some .boolean) T5_isFailing := by
  refine Good.mk 2 (by decide) rfl (by simp [retOK]) FOK5 COK5 (gk_X5_isFailing l) ?_ ?_
  · intro a μ K h
    unfold T5_isFailing at h
    split at h
    · simp [entl]
    · exact h.elim
  · intro a μ K V hV h
    unfold T5_isFailing at h
    split at h
    · exact body_X5_isFailing _ _ μ K V hV h
    · exact h.elim

def GL_X5_chanceOf : List (Nat × Nat × Bool × TT) := [(222, 2, true, T5_isFailing)]
def G_X5_chanceOf : Nat → Option (Nat × Bool × TT) := fun i => GL_X5_chanceOf.lookup i
theorem G_X5_chanceOf_222 : G_X5_chanceOf 222 = some (2, true, T5_isFailing) := rfl

set_option maxRecDepth 20000 in
set_option maxHeartbeats 4000000 in
theorem lp_chanceOf (V : Nat → List (Option AV) → List AV → Mem → Prop) (K : List AV → Mem → Prop) (hV : Clos FX5 CX5 G_X5_chanceOf 3 K cX5_chanceOf V) (μ : Mem) (F : Nat) (hF : F < 1024) (e : Nat) (he : e ≤ 8) (v : Int) (hv : 0 ≤ v ∧ v ≤ 10) (hK : K [.inr (.inl (chW v F e))] μ) : ∀ m n : Nat, n + m = e → V 5 [some (.inl (F : Int)), some (.inl (e : Int)), some (.inl v), some (.inr (.inl (chW v F n))), none, some (.inl (n : Int))] [] μ := by
  intro m
  induction m with
  | zero =>
    intro n hn
    have en : n = e := by omega
    subst en
    apply hV [5] 40
    simp only [InR, InL, inb, Int.toNat_natCast, wp1, wpc_z, wpc_s, stp_iconst, stp_bipush, stp_sipush, stp_lconst, stp_iload_n, stp_iload, stp_lload_n, stp_lload, stp_aload_n, stp_aload, stp_istore_n, stp_istore, stp_lstore_n, stp_lstore, stp_astore_n, stp_astore, stp_iinc, stp_iadd, stp_isub, stp_imul, stp_ineg, stp_idiv, stp_irem, stp_ladd, stp_lmul, stp_ldiv, stp_lrem, stp_ishl, stp_ishr, stp_iushr, stp_iand, stp_ior, stp_i2l, stp_i2b, stp_i2s, stp_lcmp, stp_dup, stp_dup2, stp_pop, stp_ifCond, stp_if_icmp, stp_goto, stp_tableswitch, stp_lookupswitch, stp_ldc, stp_ldc_w, stp_ldc2_w, stp_getstatic, stp_getfield, stp_putfield, stp_iaload, stp_baload, stp_iastore, stp_bastore, stp_aaload, stp_aastore, stp_invokevirtual, stp_invokestatic, stp_ireturn, stp_lreturn, stp_return_, lg, lset, okl, spl, wd, c1, cnd, tg, swT, swL, f4_0, f4_1, f4_2, f4_3, f2_0, f2_1, List.mem_cons, List.not_mem_nil, List.length_cons, List.length_nil, List.cons_append, List.nil_append, Nat.reduceAdd, Nat.reduceMul, Nat.reduceLT, Nat.reduceEqDiff, Nat.reduceLeDiff, Int.reduceAdd, Int.reduceNeg, Int.reduceToNat, Int.cast_ofNat_Int, Int.reduceNatCast, Int.toNat_zero, Int.toNat_one, Int.reduceLE, Int.reduceLT, Int.reduceEq, Int.zero_add, Int.add_zero, or_false, false_or, or_true, true_or, and_true, true_and, and_false, false_and, reduceIte, not_true_eq_false, not_false_eq_true, forall_const, false_implies, true_implies, implies_true, ne_eq, reduceCtorEq, List.all_cons, List.all_nil, Bool.and_true, Bool.and_self, decide_eq_true_eq, decide_true, dX5_chanceOf_0, dX5_chanceOf_1, dX5_chanceOf_2, dX5_chanceOf_3, dX5_chanceOf_5, dX5_chanceOf_7, dX5_chanceOf_8, dX5_chanceOf_11, dX5_chanceOf_12, dX5_chanceOf_13, dX5_chanceOf_15, dX5_chanceOf_18, dX5_chanceOf_21, dX5_chanceOf_22, dX5_chanceOf_23, dX5_chanceOf_26, dX5_chanceOf_28, dX5_chanceOf_29, dX5_chanceOf_30, dX5_chanceOf_31, dX5_chanceOf_32, dX5_chanceOf_33, dX5_chanceOf_36, dX5_chanceOf_39, dX5_chanceOf_40, G_X5_chanceOf_222]
    repeat' (first | exact trivial | omega | (with_reducible assumption) | exact absurd trivial (by with_reducible assumption) | contradiction | apply And.intro | intro _)
  | succ m ih =>
    intro n hn
    have h := ih (n + 1) (by omega)
    rw [show ((n + 1 : Nat) : Int) = (n : Int) + 1 by omega] at h
    simp only [chW] at h
    apply hV [5] 40
    simp only [InR, InL, inb, Int.toNat_natCast, wp1, wpc_z, wpc_s, stp_iconst, stp_bipush, stp_sipush, stp_lconst, stp_iload_n, stp_iload, stp_lload_n, stp_lload, stp_aload_n, stp_aload, stp_istore_n, stp_istore, stp_lstore_n, stp_lstore, stp_astore_n, stp_astore, stp_iinc, stp_iadd, stp_isub, stp_imul, stp_ineg, stp_idiv, stp_irem, stp_ladd, stp_lmul, stp_ldiv, stp_lrem, stp_ishl, stp_ishr, stp_iushr, stp_iand, stp_ior, stp_i2l, stp_i2b, stp_i2s, stp_lcmp, stp_dup, stp_dup2, stp_pop, stp_ifCond, stp_if_icmp, stp_goto, stp_tableswitch, stp_lookupswitch, stp_ldc, stp_ldc_w, stp_ldc2_w, stp_getstatic, stp_getfield, stp_putfield, stp_iaload, stp_baload, stp_iastore, stp_bastore, stp_aaload, stp_aastore, stp_invokevirtual, stp_invokestatic, stp_ireturn, stp_lreturn, stp_return_, lg, lset, okl, spl, wd, c1, cnd, tg, swT, swL, f4_0, f4_1, f4_2, f4_3, f2_0, f2_1, List.mem_cons, List.not_mem_nil, List.length_cons, List.length_nil, List.cons_append, List.nil_append, Nat.reduceAdd, Nat.reduceMul, Nat.reduceLT, Nat.reduceEqDiff, Nat.reduceLeDiff, Int.reduceAdd, Int.reduceNeg, Int.reduceToNat, Int.cast_ofNat_Int, Int.reduceNatCast, Int.toNat_zero, Int.toNat_one, Int.reduceLE, Int.reduceLT, Int.reduceEq, Int.zero_add, Int.add_zero, or_false, false_or, or_true, true_or, and_true, true_and, and_false, false_and, reduceIte, not_true_eq_false, not_false_eq_true, forall_const, false_implies, true_implies, implies_true, ne_eq, reduceCtorEq, List.all_cons, List.all_nil, Bool.and_true, Bool.and_self, decide_eq_true_eq, decide_true, dX5_chanceOf_0, dX5_chanceOf_1, dX5_chanceOf_2, dX5_chanceOf_3, dX5_chanceOf_5, dX5_chanceOf_7, dX5_chanceOf_8, dX5_chanceOf_11, dX5_chanceOf_12, dX5_chanceOf_13, dX5_chanceOf_15, dX5_chanceOf_18, dX5_chanceOf_21, dX5_chanceOf_22, dX5_chanceOf_23, dX5_chanceOf_26, dX5_chanceOf_28, dX5_chanceOf_29, dX5_chanceOf_30, dX5_chanceOf_31, dX5_chanceOf_32, dX5_chanceOf_33, dX5_chanceOf_36, dX5_chanceOf_39, dX5_chanceOf_40, G_X5_chanceOf_222, T5_isFailing]
    refine ⟨by omega, by omega, fun z => absurd z (by omega), fun _ => ⟨F, n, rfl, rfl, hF, by omega, ?_⟩⟩
    rcases bF_in F n with z | z
    · rw [z] at h ⊢
      simp only [Int.reduceEq, if_false] at h
      repeat' (first | exact trivial | omega | (with_reducible assumption) | exact absurd trivial (by with_reducible assumption) | contradiction | apply And.intro | intro _)
    · rw [z] at h ⊢
      simp only [if_true] at h
      repeat' (first | exact trivial | omega | (with_reducible assumption) | exact absurd trivial (by with_reducible assumption) | contradiction | apply And.intro | intro _)
def T5_chanceOf : TT := fun a μ K => match a with
  | [.inl F, .inl n, .inl v] => ∃ F' n' : Nat, F = F' ∧ n = n' ∧ F' < 1024 ∧ n' ≤ 8 ∧ (0 ≤ v ∧ v ≤ 10) ∧ K [.inr (.inl (chW v F' n'))] μ
  | _ => False
theorem gk_X5_chanceOf (l : Launch) : ∀ i n b T, G_X5_chanceOf i = some (n, b, T) → CallOK l 1 RX5 i n b T := by
  intro i n b T h
  have hm : (i, n, b, T) ∈ GL_X5_chanceOf := lk_mem h
  simp only [GL_X5_chanceOf, List.mem_cons, List.not_mem_nil, or_false, Prod.mk.injEq] at hm
  rcases hm with ⟨rfl, rfl, rfl, rfl⟩
  · exact CallOK.S (d := 1) (own := RX5) (i := 222) (n := 2) (good_X5_isFailing l) (by decide) (by decide) (mg 458 (by decide +kernel) (by decide +kernel)) (mg 459 (by decide +kernel) (by decide +kernel)) (mg 1 (by decide +kernel) (by decide +kernel)) (mg 460 (by decide +kernel) (by decide +kernel)) (by decide +kernel)
set_option maxRecDepth 20000 in
set_option maxHeartbeats 4000000 in
theorem body_X5_chanceOf (F : Int) (n : Int) (v : Int) (μ : Mem) (K : List AV → Mem → Prop) (V : Nat → List (Option AV) → List AV → Mem → Prop) (hV : Clos FX5 CX5 G_X5_chanceOf 3 K cX5_chanceOf V) (hT : ∃ F' n' : Nat, F = F' ∧ n = n' ∧ F' < 1024 ∧ n' ≤ 8 ∧ (0 ≤ v ∧ v ≤ 10) ∧ K [.inr (.inl (chW v F' n'))] μ) : V 0 [some (.inl F), some (.inl n), some (.inl v), none, none, none] [] μ := by
  obtain ⟨F', n', rfl, rfl, h1, h2, hv, hK⟩ := hT
  have h := lp_chanceOf V K hV μ F' h1 n' h2 v hv hK n' 0 (by omega)
  simp only [chW] at h
  apply hV [5] 30
  simp only [InR, InL, inb, Int.toNat_natCast, wp1, wpc_z, wpc_s, stp_iconst, stp_bipush, stp_sipush, stp_lconst, stp_iload_n, stp_iload, stp_lload_n, stp_lload, stp_aload_n, stp_aload, stp_istore_n, stp_istore, stp_lstore_n, stp_lstore, stp_astore_n, stp_astore, stp_iinc, stp_iadd, stp_isub, stp_imul, stp_ineg, stp_idiv, stp_irem, stp_ladd, stp_lmul, stp_ldiv, stp_lrem, stp_ishl, stp_ishr, stp_iushr, stp_iand, stp_ior, stp_i2l, stp_i2b, stp_i2s, stp_lcmp, stp_dup, stp_dup2, stp_pop, stp_ifCond, stp_if_icmp, stp_goto, stp_tableswitch, stp_lookupswitch, stp_ldc, stp_ldc_w, stp_ldc2_w, stp_getstatic, stp_getfield, stp_putfield, stp_iaload, stp_baload, stp_iastore, stp_bastore, stp_aaload, stp_aastore, stp_invokevirtual, stp_invokestatic, stp_ireturn, stp_lreturn, stp_return_, lg, lset, okl, spl, wd, c1, cnd, tg, swT, swL, f4_0, f4_1, f4_2, f4_3, f2_0, f2_1, List.mem_cons, List.not_mem_nil, List.length_cons, List.length_nil, List.cons_append, List.nil_append, Nat.reduceAdd, Nat.reduceMul, Nat.reduceLT, Nat.reduceEqDiff, Nat.reduceLeDiff, Int.reduceAdd, Int.reduceNeg, Int.reduceToNat, Int.cast_ofNat_Int, Int.reduceNatCast, Int.toNat_zero, Int.toNat_one, Int.reduceLE, Int.reduceLT, Int.reduceEq, Int.zero_add, Int.add_zero, or_false, false_or, or_true, true_or, and_true, true_and, and_false, false_and, reduceIte, not_true_eq_false, not_false_eq_true, forall_const, false_implies, true_implies, implies_true, ne_eq, reduceCtorEq, List.all_cons, List.all_nil, Bool.and_true, Bool.and_self, decide_eq_true_eq, decide_true, dX5_chanceOf_0, dX5_chanceOf_1, dX5_chanceOf_2, dX5_chanceOf_3, dX5_chanceOf_5, dX5_chanceOf_7, dX5_chanceOf_8, dX5_chanceOf_11, dX5_chanceOf_12, dX5_chanceOf_13, dX5_chanceOf_15, dX5_chanceOf_18, dX5_chanceOf_21, dX5_chanceOf_22, dX5_chanceOf_23, dX5_chanceOf_26, dX5_chanceOf_28, dX5_chanceOf_29, dX5_chanceOf_30, dX5_chanceOf_31, dX5_chanceOf_32, dX5_chanceOf_33, dX5_chanceOf_36, dX5_chanceOf_39, dX5_chanceOf_40, G_X5_chanceOf_222]
  exact h
theorem good_X5_chanceOf (l : Launch) : Good l 1 yX5_chanceOf cX5_chanceOf 6 (some .long) T5_chanceOf := by
  refine Good.mk 3 (by decide) rfl (by simp [retOK]) FOK5 COK5 (gk_X5_chanceOf l) ?_ ?_
  · intro a μ K h
    unfold T5_chanceOf at h
    split at h
    · simp [entl]
    · exact h.elim
  · intro a μ K V hV h
    unfold T5_chanceOf at h
    split at h
    · exact body_X5_chanceOf _ _ _ μ K V hV h
    · exact h.elim

def GL_X5_tryFailing : List (Nat × Nat × Bool × TT) := [(144, 1, false, T5_startTrial), (222, 2, true, T5_isFailing), (140, 2, false, T1_visit)]
def G_X5_tryFailing : Nat → Option (Nat × Bool × TT) := fun i => GL_X5_tryFailing.lookup i
theorem G_X5_tryFailing_144 : G_X5_tryFailing 144 = some (1, false, T5_startTrial) := rfl
theorem G_X5_tryFailing_222 : G_X5_tryFailing 222 = some (2, true, T5_isFailing) := rfl
theorem G_X5_tryFailing_140 : G_X5_tryFailing 140 = some (2, false, T1_visit) := rfl

set_option maxRecDepth 20000 in
set_option maxHeartbeats 4000000 in
theorem lp_tryFailing (V : Nat → List (Option AV) → List AV → Mem → Prop) (K : List AV → Mem → Prop) (hV : Clos FX5 CX5 G_X5_tryFailing 0 K cX5_tryFailing V) (μ : Mem) (f : Nat → Int) (hW : WF f) (h38 : f 38 ≤ 9999) (F : Nat) (hF : F < 1024) (e : Nat) (he : e ≤ 8) (hK : ∀ ν, GR (bt F) μ ν 8 f e → K [] ν) : ∀ m n : Nat, n + m = e → ∀ ν, GR (bt F) μ ν 8 f n → V 6 [some (.inr (.inr 0)), some (.inl (F : Int)), some (.inl (e : Int)), some (.inl (n : Int))] [] ν := by
  intro m
  induction m with
  | zero =>
    intro n hn ν hG
    have en : n = e := by omega
    subst en
    have hk := hK ν hG
    apply hV [6, 11] 6
    simp only [InR, InL, inb, Int.toNat_natCast, wp1, wpc_z, wpc_s, stp_iconst, stp_bipush, stp_sipush, stp_lconst, stp_iload_n, stp_iload, stp_lload_n, stp_lload, stp_aload_n, stp_aload, stp_istore_n, stp_istore, stp_lstore_n, stp_lstore, stp_astore_n, stp_astore, stp_iinc, stp_iadd, stp_isub, stp_imul, stp_ineg, stp_idiv, stp_irem, stp_ladd, stp_lmul, stp_ldiv, stp_lrem, stp_ishl, stp_ishr, stp_iushr, stp_iand, stp_ior, stp_i2l, stp_i2b, stp_i2s, stp_lcmp, stp_dup, stp_dup2, stp_pop, stp_ifCond, stp_if_icmp, stp_goto, stp_tableswitch, stp_lookupswitch, stp_ldc, stp_ldc_w, stp_ldc2_w, stp_getstatic, stp_getfield, stp_putfield, stp_iaload, stp_baload, stp_iastore, stp_bastore, stp_aaload, stp_aastore, stp_invokevirtual, stp_invokestatic, stp_ireturn, stp_lreturn, stp_return_, lg, lset, okl, spl, wd, c1, cnd, tg, swT, swL, f4_0, f4_1, f4_2, f4_3, f2_0, f2_1, List.mem_cons, List.not_mem_nil, List.length_cons, List.length_nil, List.cons_append, List.nil_append, Nat.reduceAdd, Nat.reduceMul, Nat.reduceLT, Nat.reduceEqDiff, Nat.reduceLeDiff, Int.reduceAdd, Int.reduceNeg, Int.reduceToNat, Int.cast_ofNat_Int, Int.reduceNatCast, Int.toNat_zero, Int.toNat_one, Int.reduceLE, Int.reduceLT, Int.reduceEq, Int.zero_add, Int.add_zero, or_false, false_or, or_true, true_or, and_true, true_and, and_false, false_and, reduceIte, not_true_eq_false, not_false_eq_true, forall_const, false_implies, true_implies, implies_true, ne_eq, reduceCtorEq, List.all_cons, List.all_nil, Bool.and_true, Bool.and_self, decide_eq_true_eq, decide_true, dX5_tryFailing_0, dX5_tryFailing_1, dX5_tryFailing_4, dX5_tryFailing_5, dX5_tryFailing_6, dX5_tryFailing_7, dX5_tryFailing_8, dX5_tryFailing_11, dX5_tryFailing_12, dX5_tryFailing_15, dX5_tryFailing_16, dX5_tryFailing_17, dX5_tryFailing_20, dX5_tryFailing_23, dX5_tryFailing_24, dX5_tryFailing_27, dX5_tryFailing_28, dX5_tryFailing_31, dX5_tryFailing_32, dX5_tryFailing_35, dX5_tryFailing_38, FX5_16, G_X5_tryFailing_144, G_X5_tryFailing_222, G_X5_tryFailing_140, kd_0, kd_8]
    repeat' (first | exact trivial | omega | (with_reducible assumption) | exact absurd trivial (by with_reducible assumption) | contradiction | apply And.intro | intro _)
  | succ m ih =>
    intro n hn ν hG
    obtain ⟨x1, x2, x3⟩ := nx_WF (p := bt F) hW n
    have key := fun ρ hρ => ih (n + 1) (by omega) ρ (hG.st hρ)
    rw [show ((n + 1 : Nat) : Int) = (n : Int) + 1 by omega] at key
    apply hV [6] 40
    simp only [InR, InL, inb, Int.toNat_natCast, wp1, wpc_z, wpc_s, stp_iconst, stp_bipush, stp_sipush, stp_lconst, stp_iload_n, stp_iload, stp_lload_n, stp_lload, stp_aload_n, stp_aload, stp_istore_n, stp_istore, stp_lstore_n, stp_lstore, stp_astore_n, stp_astore, stp_iinc, stp_iadd, stp_isub, stp_imul, stp_ineg, stp_idiv, stp_irem, stp_ladd, stp_lmul, stp_ldiv, stp_lrem, stp_ishl, stp_ishr, stp_iushr, stp_iand, stp_ior, stp_i2l, stp_i2b, stp_i2s, stp_lcmp, stp_dup, stp_dup2, stp_pop, stp_ifCond, stp_if_icmp, stp_goto, stp_tableswitch, stp_lookupswitch, stp_ldc, stp_ldc_w, stp_ldc2_w, stp_getstatic, stp_getfield, stp_putfield, stp_iaload, stp_baload, stp_iastore, stp_bastore, stp_aaload, stp_aastore, stp_invokevirtual, stp_invokestatic, stp_ireturn, stp_lreturn, stp_return_, lg, lset, okl, spl, wd, c1, cnd, tg, swT, swL, f4_0, f4_1, f4_2, f4_3, f2_0, f2_1, List.mem_cons, List.not_mem_nil, List.length_cons, List.length_nil, List.cons_append, List.nil_append, Nat.reduceAdd, Nat.reduceMul, Nat.reduceLT, Nat.reduceEqDiff, Nat.reduceLeDiff, Int.reduceAdd, Int.reduceNeg, Int.reduceToNat, Int.cast_ofNat_Int, Int.reduceNatCast, Int.toNat_zero, Int.toNat_one, Int.reduceLE, Int.reduceLT, Int.reduceEq, Int.zero_add, Int.add_zero, or_false, false_or, or_true, true_or, and_true, true_and, and_false, false_and, reduceIte, not_true_eq_false, not_false_eq_true, forall_const, false_implies, true_implies, implies_true, ne_eq, reduceCtorEq, List.all_cons, List.all_nil, Bool.and_true, Bool.and_self, decide_eq_true_eq, decide_true, dX5_tryFailing_0, dX5_tryFailing_1, dX5_tryFailing_4, dX5_tryFailing_5, dX5_tryFailing_6, dX5_tryFailing_7, dX5_tryFailing_8, dX5_tryFailing_11, dX5_tryFailing_12, dX5_tryFailing_15, dX5_tryFailing_16, dX5_tryFailing_17, dX5_tryFailing_20, dX5_tryFailing_23, dX5_tryFailing_24, dX5_tryFailing_27, dX5_tryFailing_28, dX5_tryFailing_31, dX5_tryFailing_32, dX5_tryFailing_35, dX5_tryFailing_38, FX5_16, G_X5_tryFailing_144, G_X5_tryFailing_222, G_X5_tryFailing_140, kd_0, kd_8, T5_isFailing, T1_visit]
    refine ⟨by omega, by omega, fun z => absurd z (by omega), fun _ => ⟨F, n, rfl, rfl, hF, by omega, ?_⟩⟩
    rcases bF_in F n with z | z
    · have hb : bt F n (nx (bt F) f n) = true := decide_eq_true z
      rw [hb] at key
      rw [z]
      repeat' (first | exact trivial | omega | (with_reducible assumption) | exact absurd trivial (by with_reducible assumption) | contradiction | apply And.intro | intro _)
      all_goals exact ⟨nx (bt F) f n, true, hG.1, x1, by omega, by simp, key⟩
    · have hb : bt F n (nx (bt F) f n) = false := decide_eq_false (by omega)
      rw [hb] at key
      rw [z]
      repeat' (first | exact trivial | omega | (with_reducible assumption) | exact absurd trivial (by with_reducible assumption) | contradiction | apply And.intro | intro _)
      all_goals exact ⟨nx (bt F) f n, false, hG.1, x1, by omega, by simp, key⟩
def T5_tryFailing : TT := fun a μ K => match a with
  | [.inr (.inr o), .inl F, .inl n] => o = 0 ∧ (∃ F' n' : Nat, F = F' ∧ n = n' ∧ F' < 1024 ∧ n' ≤ 8 ∧ RP μ 8 ∧ ∃ f, RG μ 1 f ∧ WF f ∧ f 38 ≤ 9999 ∧ ∀ ν, RG ν 8 (nx (bt F') f n') ∧ rI ν 8 5 = sS (bt F') f n' ∧ FQ μ ν → K [] ν)
  | _ => False
theorem rec_X5_tryFailing : ∀ a μ K, T5_tryFailing a μ K → ∃ k r, a = .inr (.inr k) :: r ∧ kd k = 5 := by
  intro a μ K h
  unfold T5_tryFailing at h
  split at h
  · exact ⟨_, _, rfl, by rw [h.1]; rfl⟩
  · exact h.elim
theorem gk_X5_tryFailing (l : Launch) : ∀ i n b T, G_X5_tryFailing i = some (n, b, T) → CallOK l 4 RX5 i n b T := by
  intro i n b T h
  have hm : (i, n, b, T) ∈ GL_X5_tryFailing := lk_mem h
  simp only [GL_X5_tryFailing, List.mem_cons, List.not_mem_nil, or_false, Prod.mk.injEq] at hm
  rcases hm with ⟨rfl, rfl, rfl, rfl⟩ | ⟨rfl, rfl, rfl, rfl⟩ | ⟨rfl, rfl, rfl, rfl⟩
  · exact CallOK.V (d := 4) (own := RX5) (i := 144) (n := 0) (ci := 5) (good_X5_startTrial l) (by decide) (by decide) rfl (by decide) rec_X5_startTrial (mg 406 (by decide +kernel) (by decide +kernel)) (mg 408 (by decide +kernel) (by decide +kernel)) (mgs 13 (by decide +kernel) (by decide +kernel)) (mg 1 (by decide +kernel) (by decide +kernel)) (mg 409 (by decide +kernel) (by decide +kernel)) (by decide +kernel)
  · exact CallOK.S (d := 4) (own := RX5) (i := 222) (n := 2) (good_X5_isFailing l) (by decide) (by decide) (mg 458 (by decide +kernel) (by decide +kernel)) (mg 459 (by decide +kernel) (by decide +kernel)) (mg 1 (by decide +kernel) (by decide +kernel)) (mg 460 (by decide +kernel) (by decide +kernel)) (by decide +kernel)
  · exact CallOK.V (d := 4) (own := RX5) (i := 140) (n := 1) (ci := 1) (good_X1_visit l) (by decide) (by decide) rfl (by decide) rec_X1_visit (mg 392 (by decide +kernel) (by decide +kernel)) (mg 393 (by decide +kernel) (by decide +kernel)) (mg 394 (by decide +kernel) (by decide +kernel)) (mg 2 (by decide +kernel) (by decide +kernel)) (mg 395 (by decide +kernel) (by decide +kernel)) (by decide +kernel)
set_option maxRecDepth 20000 in
set_option maxHeartbeats 4000000 in
theorem body_X5_tryFailing (o : Nat) (F : Int) (n : Int) (μ : Mem) (K : List AV → Mem → Prop) (V : Nat → List (Option AV) → List AV → Mem → Prop) (hV : Clos FX5 CX5 G_X5_tryFailing 0 K cX5_tryFailing V) (hT : o = 0 ∧ (∃ F' n' : Nat, F = F' ∧ n = n' ∧ F' < 1024 ∧ n' ≤ 8 ∧ RP μ 8 ∧ ∃ f, RG μ 1 f ∧ WF f ∧ f 38 ≤ 9999 ∧ ∀ ν, RG ν 8 (nx (bt F') f n') ∧ rI ν 8 5 = sS (bt F') f n' ∧ FQ μ ν → K [] ν)) : V 0 [some (.inr (.inr o)), some (.inl F), some (.inl n), none] [] μ := by
  obtain ⟨rfl, F', n', rfl, rfl, h1, h2, hP, f, hR, hW, h38, hK⟩ := hT
  apply hV [6] 40
  simp only [InR, InL, inb, Int.toNat_natCast, wp1, wpc_z, wpc_s, stp_iconst, stp_bipush, stp_sipush, stp_lconst, stp_iload_n, stp_iload, stp_lload_n, stp_lload, stp_aload_n, stp_aload, stp_istore_n, stp_istore, stp_lstore_n, stp_lstore, stp_astore_n, stp_astore, stp_iinc, stp_iadd, stp_isub, stp_imul, stp_ineg, stp_idiv, stp_irem, stp_ladd, stp_lmul, stp_ldiv, stp_lrem, stp_ishl, stp_ishr, stp_iushr, stp_iand, stp_ior, stp_i2l, stp_i2b, stp_i2s, stp_lcmp, stp_dup, stp_dup2, stp_pop, stp_ifCond, stp_if_icmp, stp_goto, stp_tableswitch, stp_lookupswitch, stp_ldc, stp_ldc_w, stp_ldc2_w, stp_getstatic, stp_getfield, stp_putfield, stp_iaload, stp_baload, stp_iastore, stp_bastore, stp_aaload, stp_aastore, stp_invokevirtual, stp_invokestatic, stp_ireturn, stp_lreturn, stp_return_, lg, lset, okl, spl, wd, c1, cnd, tg, swT, swL, f4_0, f4_1, f4_2, f4_3, f2_0, f2_1, List.mem_cons, List.not_mem_nil, List.length_cons, List.length_nil, List.cons_append, List.nil_append, Nat.reduceAdd, Nat.reduceMul, Nat.reduceLT, Nat.reduceEqDiff, Nat.reduceLeDiff, Int.reduceAdd, Int.reduceNeg, Int.reduceToNat, Int.cast_ofNat_Int, Int.reduceNatCast, Int.toNat_zero, Int.toNat_one, Int.reduceLE, Int.reduceLT, Int.reduceEq, Int.zero_add, Int.add_zero, or_false, false_or, or_true, true_or, and_true, true_and, and_false, false_and, reduceIte, not_true_eq_false, not_false_eq_true, forall_const, false_implies, true_implies, implies_true, ne_eq, reduceCtorEq, List.all_cons, List.all_nil, Bool.and_true, Bool.and_self, decide_eq_true_eq, decide_true, dX5_tryFailing_0, dX5_tryFailing_1, dX5_tryFailing_4, dX5_tryFailing_5, dX5_tryFailing_6, dX5_tryFailing_7, dX5_tryFailing_8, dX5_tryFailing_11, dX5_tryFailing_12, dX5_tryFailing_15, dX5_tryFailing_16, dX5_tryFailing_17, dX5_tryFailing_20, dX5_tryFailing_23, dX5_tryFailing_24, dX5_tryFailing_27, dX5_tryFailing_28, dX5_tryFailing_31, dX5_tryFailing_32, dX5_tryFailing_35, dX5_tryFailing_38, FX5_16, G_X5_tryFailing_144, G_X5_tryFailing_222, G_X5_tryFailing_140, T5_startTrial]
  refine ⟨hP, f, hR, hW.1, fun ρ hρ => ?_⟩
  obtain ⟨a1, a2, a3, a4⟩ := hρ
  exact lp_tryFailing V K hV ρ f hW h38 F' h1 n' h2 (fun ν hν => hK ν ⟨hν.1, by rw [hν.2.1, a2]; omega, (a4.tr hν.2.2.2).q hP⟩) n' 0 (by omega) ρ (GR.rf a1)
theorem good_X5_tryFailing (l : Launch) : Good l 4 yX5_tryFailing cX5_tryFailing 4 none T5_tryFailing := by
  refine Good.mk 0 (by decide) rfl (by simp [retOK]) FOK5 COK5 (gk_X5_tryFailing l) ?_ ?_
  · intro a μ K h
    unfold T5_tryFailing at h
    split at h
    · simp [entl]
    · exact h.elim
  · intro a μ K V hV h
    unfold T5_tryFailing at h
    split at h
    · exact body_X5_tryFailing _ _ _ μ K V hV h
    · exact h.elim

/-- Euclid's way ends within k steps -/
def En : Nat → Nat → Nat → Prop
  | 0, y, _ => y = 0
  | k + 1, y, x => y = 0 ∨ En k (x % y) y
theorem En_0 : ∀ k x, En k 0 x
  | 0, _ => rfl
  | _ + 1, _ => Or.inl rfl
theorem En_ok : ∀ m y x : Nat, y < 2 ^ m → En (2 * m) y x
  | 0, y, x, h => by
    have : y = 0 := by simpa using h
    exact this
  | m + 1, y, x, h => by
    rw [show 2 * (m + 1) = 2 * m + 1 + 1 by omega]
    by_cases h0 : y = 0
    · exact Or.inl h0
    · refine Or.inr ?_
      by_cases h1 : x % y = 0
      · exact Or.inl h1
      · refine Or.inr (En_ok m _ _ ?_)
        have hlt : x % y < y := Nat.mod_lt _ (by omega)
        generalize x % y = z at h1 hlt
        have hs : y % z < z := Nat.mod_lt _ (by omega)
        have hd := Nat.div_add_mod y z
        have hq : 1 ≤ y / z := Nat.div_pos (by omega) (by omega)
        have hm : z ≤ z * (y / z) := Nat.le_mul_of_pos_right z hq
        rw [Nat.pow_succ] at h
        omega
def GL_X5_commonDivisor : List (Nat × Nat × Bool × TT) := []
def G_X5_commonDivisor : Nat → Option (Nat × Bool × TT) := fun i => GL_X5_commonDivisor.lookup i

set_option maxRecDepth 20000 in
set_option maxHeartbeats 4000000 in
theorem lp_gcd5 (V : Nat → List (Option AV) → List AV → Mem → Prop) (K : List AV → Mem → Prop) (hV : Clos FX5 CX5 G_X5_commonDivisor 3 K cX5_commonDivisor V) (μ : Mem) (a b : Int) (G : Nat) (hK : K [.inr (.inl (G : Int))] μ) : ∀ k n y x : Nat, n + k ≤ 199 → En k y x → y < 2 ^ 60 → 0 < x → x < 2 ^ 60 → Nat.gcd x y = G → ∀ z : Option AV, V 9 [some (.inr (.inl a)), none, some (.inr (.inl b)), none, some (.inr (.inl (y : Int))), none, some (.inr (.inl (x : Int))), none, some (.inl (n : Int)), z, none] [] μ := by
  intro k
  have fin : ∀ n y x : Nat, n ≤ 199 → y = 0 → 0 < x → x < 2 ^ 60 → Nat.gcd x y = G → ∀ z : Option AV, V 9 [some (.inr (.inl a)), none, some (.inr (.inl b)), none, some (.inr (.inl (y : Int))), none, some (.inr (.inl (x : Int))), none, some (.inl (n : Int)), z, none] [] μ := by
    intro n y x hn h0 hx hx2 hg z
    subst h0
    rw [Nat.gcd_zero_right] at hg
    subst hg
    apply hV [9] 40
    simp only [InR, InL, inb, Int.toNat_natCast, wp1, wpc_z, wpc_s, stp_iconst, stp_bipush, stp_sipush, stp_lconst, stp_iload_n, stp_iload, stp_lload_n, stp_lload, stp_aload_n, stp_aload, stp_istore_n, stp_istore, stp_lstore_n, stp_lstore, stp_astore_n, stp_astore, stp_iinc, stp_iadd, stp_isub, stp_imul, stp_ineg, stp_idiv, stp_irem, stp_ladd, stp_lmul, stp_ldiv, stp_lrem, stp_ishl, stp_ishr, stp_iushr, stp_iand, stp_ior, stp_i2l, stp_i2b, stp_i2s, stp_lcmp, stp_dup, stp_dup2, stp_pop, stp_ifCond, stp_if_icmp, stp_goto, stp_tableswitch, stp_lookupswitch, stp_ldc, stp_ldc_w, stp_ldc2_w, stp_getstatic, stp_getfield, stp_putfield, stp_iaload, stp_baload, stp_iastore, stp_bastore, stp_aaload, stp_aastore, stp_invokevirtual, stp_invokestatic, stp_ireturn, stp_lreturn, stp_return_, lg, lset, okl, spl, wd, c1, cnd, tg, swT, swL, f4_0, f4_1, f4_2, f4_3, f2_0, f2_1, List.mem_cons, List.not_mem_nil, List.length_cons, List.length_nil, List.cons_append, List.nil_append, Nat.reduceAdd, Nat.reduceMul, Nat.reduceLT, Nat.reduceEqDiff, Nat.reduceLeDiff, Int.reduceAdd, Int.reduceNeg, Int.reduceToNat, Int.cast_ofNat_Int, Int.reduceNatCast, Int.toNat_zero, Int.toNat_one, Int.reduceLE, Int.reduceLT, Int.reduceEq, Int.zero_add, Int.add_zero, or_false, false_or, or_true, true_or, and_true, true_and, and_false, false_and, reduceIte, not_true_eq_false, not_false_eq_true, forall_const, false_implies, true_implies, implies_true, ne_eq, reduceCtorEq, List.all_cons, List.all_nil, Bool.and_true, Bool.and_self, decide_eq_true_eq, decide_true, dX5_commonDivisor_0, dX5_commonDivisor_1, dX5_commonDivisor_3, dX5_commonDivisor_4, dX5_commonDivisor_6, dX5_commonDivisor_7, dX5_commonDivisor_9, dX5_commonDivisor_11, dX5_commonDivisor_14, dX5_commonDivisor_17, dX5_commonDivisor_19, dX5_commonDivisor_20, dX5_commonDivisor_21, dX5_commonDivisor_24, dX5_commonDivisor_26, dX5_commonDivisor_28, dX5_commonDivisor_29, dX5_commonDivisor_31, dX5_commonDivisor_33, dX5_commonDivisor_35, dX5_commonDivisor_37, dX5_commonDivisor_39, dX5_commonDivisor_42, dX5_commonDivisor_45, dX5_commonDivisor_47]
    repeat' (first | exact trivial | omega | (with_reducible assumption) | exact absurd trivial (by with_reducible assumption) | contradiction | apply And.intro | intro _)
  induction k with
  | zero =>
    intro n y x hn hE hy hx hx2 hg z
    exact fin n y x (by omega) hE hx hx2 hg z
  | succ k ih =>
    intro n y x hn hE hy hx hx2 hg z
    rcases hE with h0 | hE
    · exact fin n y x (by omega) h0 hx hx2 hg z
    · by_cases h0 : y = 0
      · exact fin n y x (by omega) h0 hx hx2 hg z
      · have hl := Nat.mod_lt x (show 0 < y by omega)
        have h := ih (n + 1) (x % y) y (by omega) hE (by omega) (by omega) hy (by rw [← hg, Nat.gcd_comm y, ← Nat.gcd_rec, Nat.gcd_comm]) (some (.inr (.inl ((x % y : Nat) : Int))))
        rw [Int.natCast_emod, show ((n + 1 : Nat) : Int) = (n : Int) + 1 by omega] at h
        apply hV [9] 40
        simp only [InR, InL, inb, Int.toNat_natCast, wp1, wpc_z, wpc_s, stp_iconst, stp_bipush, stp_sipush, stp_lconst, stp_iload_n, stp_iload, stp_lload_n, stp_lload, stp_aload_n, stp_aload, stp_istore_n, stp_istore, stp_lstore_n, stp_lstore, stp_astore_n, stp_astore, stp_iinc, stp_iadd, stp_isub, stp_imul, stp_ineg, stp_idiv, stp_irem, stp_ladd, stp_lmul, stp_ldiv, stp_lrem, stp_ishl, stp_ishr, stp_iushr, stp_iand, stp_ior, stp_i2l, stp_i2b, stp_i2s, stp_lcmp, stp_dup, stp_dup2, stp_pop, stp_ifCond, stp_if_icmp, stp_goto, stp_tableswitch, stp_lookupswitch, stp_ldc, stp_ldc_w, stp_ldc2_w, stp_getstatic, stp_getfield, stp_putfield, stp_iaload, stp_baload, stp_iastore, stp_bastore, stp_aaload, stp_aastore, stp_invokevirtual, stp_invokestatic, stp_ireturn, stp_lreturn, stp_return_, lg, lset, okl, spl, wd, c1, cnd, tg, swT, swL, f4_0, f4_1, f4_2, f4_3, f2_0, f2_1, List.mem_cons, List.not_mem_nil, List.length_cons, List.length_nil, List.cons_append, List.nil_append, Nat.reduceAdd, Nat.reduceMul, Nat.reduceLT, Nat.reduceEqDiff, Nat.reduceLeDiff, Int.reduceAdd, Int.reduceNeg, Int.reduceToNat, Int.cast_ofNat_Int, Int.reduceNatCast, Int.toNat_zero, Int.toNat_one, Int.reduceLE, Int.reduceLT, Int.reduceEq, Int.zero_add, Int.add_zero, or_false, false_or, or_true, true_or, and_true, true_and, and_false, false_and, reduceIte, not_true_eq_false, not_false_eq_true, forall_const, false_implies, true_implies, implies_true, ne_eq, reduceCtorEq, List.all_cons, List.all_nil, Bool.and_true, Bool.and_self, decide_eq_true_eq, decide_true, dX5_commonDivisor_0, dX5_commonDivisor_1, dX5_commonDivisor_3, dX5_commonDivisor_4, dX5_commonDivisor_6, dX5_commonDivisor_7, dX5_commonDivisor_9, dX5_commonDivisor_11, dX5_commonDivisor_14, dX5_commonDivisor_17, dX5_commonDivisor_19, dX5_commonDivisor_20, dX5_commonDivisor_21, dX5_commonDivisor_24, dX5_commonDivisor_26, dX5_commonDivisor_28, dX5_commonDivisor_29, dX5_commonDivisor_31, dX5_commonDivisor_33, dX5_commonDivisor_35, dX5_commonDivisor_37, dX5_commonDivisor_39, dX5_commonDivisor_42, dX5_commonDivisor_45, dX5_commonDivisor_47]
        repeat' (first | exact trivial | omega | (with_reducible assumption) | exact absurd trivial (by with_reducible assumption) | contradiction | apply And.intro | intro _)
def T5_commonDivisor : TT := fun a μ K => match a with
  | [.inr (.inl a), .inr (.inl b)] => ∃ y x : Nat, a = y ∧ b = x ∧ y < 2 ^ 60 ∧ 0 < x ∧ x < 2 ^ 60 ∧ K [.inr (.inl (Nat.gcd x y : Nat))] μ
  | _ => False
theorem gk_X5_commonDivisor (l : Launch) : ∀ i n b T, G_X5_commonDivisor i = some (n, b, T) → CallOK l 0 RX5 i n b T := by
  intro i n b T h
  have hm : (i, n, b, T) ∈ GL_X5_commonDivisor := lk_mem h
  simp [GL_X5_commonDivisor] at hm
set_option maxRecDepth 20000 in
set_option maxHeartbeats 4000000 in
theorem body_X5_commonDivisor (a : Int) (b : Int) (μ : Mem) (K : List AV → Mem → Prop) (V : Nat → List (Option AV) → List AV → Mem → Prop) (hV : Clos FX5 CX5 G_X5_commonDivisor 3 K cX5_commonDivisor V) (hT : ∃ y x : Nat, a = y ∧ b = x ∧ y < 2 ^ 60 ∧ 0 < x ∧ x < 2 ^ 60 ∧ K [.inr (.inl (Nat.gcd x y : Nat))] μ) : V 0 [some (.inr (.inl a)), none, some (.inr (.inl b)), none, none, none, none, none, none, none, none] [] μ := by
  obtain ⟨y, x, rfl, rfl, h1, h2, h3, hK⟩ := hT
  have h := lp_gcd5 V K hV μ y x (Nat.gcd x y) hK (2 * 60) 0 y x (by omega) (En_ok 60 y x h1) h1 h2 h3 rfl none
  apply hV [9] 30
  simp only [InR, InL, inb, Int.toNat_natCast, wp1, wpc_z, wpc_s, stp_iconst, stp_bipush, stp_sipush, stp_lconst, stp_iload_n, stp_iload, stp_lload_n, stp_lload, stp_aload_n, stp_aload, stp_istore_n, stp_istore, stp_lstore_n, stp_lstore, stp_astore_n, stp_astore, stp_iinc, stp_iadd, stp_isub, stp_imul, stp_ineg, stp_idiv, stp_irem, stp_ladd, stp_lmul, stp_ldiv, stp_lrem, stp_ishl, stp_ishr, stp_iushr, stp_iand, stp_ior, stp_i2l, stp_i2b, stp_i2s, stp_lcmp, stp_dup, stp_dup2, stp_pop, stp_ifCond, stp_if_icmp, stp_goto, stp_tableswitch, stp_lookupswitch, stp_ldc, stp_ldc_w, stp_ldc2_w, stp_getstatic, stp_getfield, stp_putfield, stp_iaload, stp_baload, stp_iastore, stp_bastore, stp_aaload, stp_aastore, stp_invokevirtual, stp_invokestatic, stp_ireturn, stp_lreturn, stp_return_, lg, lset, okl, spl, wd, c1, cnd, tg, swT, swL, f4_0, f4_1, f4_2, f4_3, f2_0, f2_1, List.mem_cons, List.not_mem_nil, List.length_cons, List.length_nil, List.cons_append, List.nil_append, Nat.reduceAdd, Nat.reduceMul, Nat.reduceLT, Nat.reduceEqDiff, Nat.reduceLeDiff, Int.reduceAdd, Int.reduceNeg, Int.reduceToNat, Int.cast_ofNat_Int, Int.reduceNatCast, Int.toNat_zero, Int.toNat_one, Int.reduceLE, Int.reduceLT, Int.reduceEq, Int.zero_add, Int.add_zero, or_false, false_or, or_true, true_or, and_true, true_and, and_false, false_and, reduceIte, not_true_eq_false, not_false_eq_true, forall_const, false_implies, true_implies, implies_true, ne_eq, reduceCtorEq, List.all_cons, List.all_nil, Bool.and_true, Bool.and_self, decide_eq_true_eq, decide_true, dX5_commonDivisor_0, dX5_commonDivisor_1, dX5_commonDivisor_3, dX5_commonDivisor_4, dX5_commonDivisor_6, dX5_commonDivisor_7, dX5_commonDivisor_9, dX5_commonDivisor_11, dX5_commonDivisor_14, dX5_commonDivisor_17, dX5_commonDivisor_19, dX5_commonDivisor_20, dX5_commonDivisor_21, dX5_commonDivisor_24, dX5_commonDivisor_26, dX5_commonDivisor_28, dX5_commonDivisor_29, dX5_commonDivisor_31, dX5_commonDivisor_33, dX5_commonDivisor_35, dX5_commonDivisor_37, dX5_commonDivisor_39, dX5_commonDivisor_42, dX5_commonDivisor_45, dX5_commonDivisor_47]
  exact h
theorem good_X5_commonDivisor (l : Launch) : Good l 0 yX5_commonDivisor cX5_commonDivisor 11 (some .long) T5_commonDivisor := by
  refine Good.mk 3 (by decide) rfl (by simp [retOK]) FOK5 COK5 (gk_X5_commonDivisor l) ?_ ?_
  · intro a μ K h
    unfold T5_commonDivisor at h
    split at h
    · simp [entl]
    · exact h.elim
  · intro a μ K V hV h
    unfold T5_commonDivisor at h
    split at h
    · exact body_X5_commonDivisor _ _ μ K V hV h
    · exact h.elim

def GL_X6_common : List (Nat × Nat × Bool × TT) := []
def G_X6_common : Nat → Option (Nat × Bool × TT) := fun i => GL_X6_common.lookup i

set_option maxRecDepth 20000 in
set_option maxHeartbeats 4000000 in
theorem lp_gcd6 (V : Nat → List (Option AV) → List AV → Mem → Prop) (K : List AV → Mem → Prop) (hV : Clos FX6 CX6 G_X6_common 3 K cX6_common V) (μ : Mem) (a b : Int) (G : Nat) (hK : K [.inr (.inl (G : Int))] μ) : ∀ k y x : Nat, En k y x → y < 2 ^ 60 → x < 2 ^ 60 → Nat.gcd x y = G → ∀ z : Option AV, V 6 [some (.inr (.inl a)), none, some (.inr (.inl b)), none, some (.inr (.inl (x : Int))), none, some (.inr (.inl (y : Int))), none, z, none] [] μ := by
  intro k
  have fin : ∀ y x : Nat, y = 0 → x < 2 ^ 60 → Nat.gcd x y = G → ∀ z : Option AV, V 6 [some (.inr (.inl a)), none, some (.inr (.inl b)), none, some (.inr (.inl (x : Int))), none, some (.inr (.inl (y : Int))), none, z, none] [] μ := by
    intro y x h0 hx2 hg z
    subst h0
    rw [Nat.gcd_zero_right] at hg
    subst hg
    apply hV [6] 40
    simp only [InR, InL, inb, Int.toNat_natCast, wp1, wpc_z, wpc_s, stp_iconst, stp_bipush, stp_sipush, stp_lconst, stp_iload_n, stp_iload, stp_lload_n, stp_lload, stp_aload_n, stp_aload, stp_istore_n, stp_istore, stp_lstore_n, stp_lstore, stp_astore_n, stp_astore, stp_iinc, stp_iadd, stp_isub, stp_imul, stp_ineg, stp_idiv, stp_irem, stp_ladd, stp_lmul, stp_ldiv, stp_lrem, stp_ishl, stp_ishr, stp_iushr, stp_iand, stp_ior, stp_i2l, stp_i2b, stp_i2s, stp_lcmp, stp_dup, stp_dup2, stp_pop, stp_ifCond, stp_if_icmp, stp_goto, stp_tableswitch, stp_lookupswitch, stp_ldc, stp_ldc_w, stp_ldc2_w, stp_getstatic, stp_getfield, stp_putfield, stp_iaload, stp_baload, stp_iastore, stp_bastore, stp_aaload, stp_aastore, stp_invokevirtual, stp_invokestatic, stp_ireturn, stp_lreturn, stp_return_, lg, lset, okl, spl, wd, c1, cnd, tg, swT, swL, f4_0, f4_1, f4_2, f4_3, f2_0, f2_1, List.mem_cons, List.not_mem_nil, List.length_cons, List.length_nil, List.cons_append, List.nil_append, Nat.reduceAdd, Nat.reduceMul, Nat.reduceLT, Nat.reduceEqDiff, Nat.reduceLeDiff, Int.reduceAdd, Int.reduceNeg, Int.reduceToNat, Int.cast_ofNat_Int, Int.reduceNatCast, Int.toNat_zero, Int.toNat_one, Int.reduceLE, Int.reduceLT, Int.reduceEq, Int.zero_add, Int.add_zero, or_false, false_or, or_true, true_or, and_true, true_and, and_false, false_and, reduceIte, not_true_eq_false, not_false_eq_true, forall_const, false_implies, true_implies, implies_true, ne_eq, reduceCtorEq, List.all_cons, List.all_nil, Bool.and_true, Bool.and_self, decide_eq_true_eq, decide_true, dX6_common_0, dX6_common_1, dX6_common_3, dX6_common_4, dX6_common_6, dX6_common_8, dX6_common_9, dX6_common_10, dX6_common_13, dX6_common_15, dX6_common_17, dX6_common_18, dX6_common_20, dX6_common_22, dX6_common_24, dX6_common_26, dX6_common_28, dX6_common_31, dX6_common_33]
    repeat' (first | exact trivial | omega | (with_reducible assumption) | exact absurd trivial (by with_reducible assumption) | contradiction | apply And.intro | intro _)
  induction k with
  | zero =>
    intro y x hE hy hx2 hg z
    exact fin y x hE hx2 hg z
  | succ k ih =>
    intro y x hE hy hx2 hg z
    rcases hE with h0 | hE
    · exact fin y x h0 hx2 hg z
    · by_cases h0 : y = 0
      · exact fin y x h0 hx2 hg z
      · have hl := Nat.mod_lt x (show 0 < y by omega)
        have h := ih (x % y) y hE (by omega) hy (by rw [← hg, Nat.gcd_comm y, ← Nat.gcd_rec, Nat.gcd_comm]) (some (.inr (.inl ((x % y : Nat) : Int))))
        rw [Int.natCast_emod] at h
        apply hV [6] 40
        simp only [InR, InL, inb, Int.toNat_natCast, wp1, wpc_z, wpc_s, stp_iconst, stp_bipush, stp_sipush, stp_lconst, stp_iload_n, stp_iload, stp_lload_n, stp_lload, stp_aload_n, stp_aload, stp_istore_n, stp_istore, stp_lstore_n, stp_lstore, stp_astore_n, stp_astore, stp_iinc, stp_iadd, stp_isub, stp_imul, stp_ineg, stp_idiv, stp_irem, stp_ladd, stp_lmul, stp_ldiv, stp_lrem, stp_ishl, stp_ishr, stp_iushr, stp_iand, stp_ior, stp_i2l, stp_i2b, stp_i2s, stp_lcmp, stp_dup, stp_dup2, stp_pop, stp_ifCond, stp_if_icmp, stp_goto, stp_tableswitch, stp_lookupswitch, stp_ldc, stp_ldc_w, stp_ldc2_w, stp_getstatic, stp_getfield, stp_putfield, stp_iaload, stp_baload, stp_iastore, stp_bastore, stp_aaload, stp_aastore, stp_invokevirtual, stp_invokestatic, stp_ireturn, stp_lreturn, stp_return_, lg, lset, okl, spl, wd, c1, cnd, tg, swT, swL, f4_0, f4_1, f4_2, f4_3, f2_0, f2_1, List.mem_cons, List.not_mem_nil, List.length_cons, List.length_nil, List.cons_append, List.nil_append, Nat.reduceAdd, Nat.reduceMul, Nat.reduceLT, Nat.reduceEqDiff, Nat.reduceLeDiff, Int.reduceAdd, Int.reduceNeg, Int.reduceToNat, Int.cast_ofNat_Int, Int.reduceNatCast, Int.toNat_zero, Int.toNat_one, Int.reduceLE, Int.reduceLT, Int.reduceEq, Int.zero_add, Int.add_zero, or_false, false_or, or_true, true_or, and_true, true_and, and_false, false_and, reduceIte, not_true_eq_false, not_false_eq_true, forall_const, false_implies, true_implies, implies_true, ne_eq, reduceCtorEq, List.all_cons, List.all_nil, Bool.and_true, Bool.and_self, decide_eq_true_eq, decide_true, dX6_common_0, dX6_common_1, dX6_common_3, dX6_common_4, dX6_common_6, dX6_common_8, dX6_common_9, dX6_common_10, dX6_common_13, dX6_common_15, dX6_common_17, dX6_common_18, dX6_common_20, dX6_common_22, dX6_common_24, dX6_common_26, dX6_common_28, dX6_common_31, dX6_common_33]
        repeat' (first | exact trivial | omega | (with_reducible assumption) | exact absurd trivial (by with_reducible assumption) | contradiction | apply And.intro | intro _)
def T6_common : TT := fun a μ K => match a with
  | [.inr (.inl a), .inr (.inl b)] => ∃ x y : Nat, a = x ∧ b = y ∧ y < 2 ^ 60 ∧ x < 2 ^ 60 ∧ K [.inr (.inl (Nat.gcd x y : Nat))] μ
  | _ => False
theorem gk_X6_common (l : Launch) : ∀ i n b T, G_X6_common i = some (n, b, T) → CallOK l 0 RX6 i n b T := by
  intro i n b T h
  have hm : (i, n, b, T) ∈ GL_X6_common := lk_mem h
  simp [GL_X6_common] at hm
set_option maxRecDepth 20000 in
set_option maxHeartbeats 4000000 in
theorem body_X6_common (a : Int) (b : Int) (μ : Mem) (K : List AV → Mem → Prop) (V : Nat → List (Option AV) → List AV → Mem → Prop) (hV : Clos FX6 CX6 G_X6_common 3 K cX6_common V) (hT : ∃ x y : Nat, a = x ∧ b = y ∧ y < 2 ^ 60 ∧ x < 2 ^ 60 ∧ K [.inr (.inl (Nat.gcd x y : Nat))] μ) : V 0 [some (.inr (.inl a)), none, some (.inr (.inl b)), none, none, none, none, none, none, none] [] μ := by
  obtain ⟨x, y, rfl, rfl, h1, h3, hK⟩ := hT
  have h := lp_gcd6 V K hV μ x y (Nat.gcd x y) hK (2 * 60) y x (En_ok 60 y x h1) h1 h3 rfl none
  apply hV [6] 30
  simp only [InR, InL, inb, Int.toNat_natCast, wp1, wpc_z, wpc_s, stp_iconst, stp_bipush, stp_sipush, stp_lconst, stp_iload_n, stp_iload, stp_lload_n, stp_lload, stp_aload_n, stp_aload, stp_istore_n, stp_istore, stp_lstore_n, stp_lstore, stp_astore_n, stp_astore, stp_iinc, stp_iadd, stp_isub, stp_imul, stp_ineg, stp_idiv, stp_irem, stp_ladd, stp_lmul, stp_ldiv, stp_lrem, stp_ishl, stp_ishr, stp_iushr, stp_iand, stp_ior, stp_i2l, stp_i2b, stp_i2s, stp_lcmp, stp_dup, stp_dup2, stp_pop, stp_ifCond, stp_if_icmp, stp_goto, stp_tableswitch, stp_lookupswitch, stp_ldc, stp_ldc_w, stp_ldc2_w, stp_getstatic, stp_getfield, stp_putfield, stp_iaload, stp_baload, stp_iastore, stp_bastore, stp_aaload, stp_aastore, stp_invokevirtual, stp_invokestatic, stp_ireturn, stp_lreturn, stp_return_, lg, lset, okl, spl, wd, c1, cnd, tg, swT, swL, f4_0, f4_1, f4_2, f4_3, f2_0, f2_1, List.mem_cons, List.not_mem_nil, List.length_cons, List.length_nil, List.cons_append, List.nil_append, Nat.reduceAdd, Nat.reduceMul, Nat.reduceLT, Nat.reduceEqDiff, Nat.reduceLeDiff, Int.reduceAdd, Int.reduceNeg, Int.reduceToNat, Int.cast_ofNat_Int, Int.reduceNatCast, Int.toNat_zero, Int.toNat_one, Int.reduceLE, Int.reduceLT, Int.reduceEq, Int.zero_add, Int.add_zero, or_false, false_or, or_true, true_or, and_true, true_and, and_false, false_and, reduceIte, not_true_eq_false, not_false_eq_true, forall_const, false_implies, true_implies, implies_true, ne_eq, reduceCtorEq, List.all_cons, List.all_nil, Bool.and_true, Bool.and_self, decide_eq_true_eq, decide_true, dX6_common_0, dX6_common_1, dX6_common_3, dX6_common_4, dX6_common_6, dX6_common_8, dX6_common_9, dX6_common_10, dX6_common_13, dX6_common_15, dX6_common_17, dX6_common_18, dX6_common_20, dX6_common_22, dX6_common_24, dX6_common_26, dX6_common_28, dX6_common_31, dX6_common_33]
  exact h
theorem good_X6_common (l : Launch) : Good l 0 yX6_common cX6_common 10 (some .long) T6_common := by
  refine Good.mk 3 (by decide) rfl (by simp [retOK]) FOK6 COK6 (gk_X6_common l) ?_ ?_
  · intro a μ K h
    unfold T6_common at h
    split at h
    · simp [entl]
    · exact h.elim
  · intro a μ K V hV h
    unfold T6_common at h
    split at h
    · exact body_X6_common _ _ μ K V hV h
    · exact h.elim

/-- in lowest terms -/
def frc (a b : Nat) (w : Int) : Int := if w = 0 then (a : Int) / (Nat.gcd b a : Nat) else (b : Int) / (Nat.gcd b a : Nat)
def T6_lowest : TT := fun a μ K => match a with
  | [.inr (.inl a), .inr (.inl b), .inl w] => InR w ∧ ∃ y x : Nat, a = y ∧ b = x ∧ y < 2 ^ 60 ∧ 0 < x ∧ x < 2 ^ 60 ∧ K [.inr (.inl (frc y x w))] μ
  | _ => False
def GL_X6_lowest : List (Nat × Nat × Bool × TT) := [(234, 2, true, T6_common)]
def G_X6_lowest : Nat → Option (Nat × Bool × TT) := fun i => GL_X6_lowest.lookup i
theorem G_X6_lowest_234 : G_X6_lowest 234 = some (2, true, T6_common) := rfl
theorem gk_X6_lowest (l : Launch) : ∀ i n b T, G_X6_lowest i = some (n, b, T) → CallOK l 1 RX6 i n b T := by
  intro i n b T h
  have hm : (i, n, b, T) ∈ GL_X6_lowest := lk_mem h
  simp only [GL_X6_lowest, List.mem_cons, List.not_mem_nil, or_false, Prod.mk.injEq] at hm
  rcases hm with ⟨rfl, rfl, rfl, rfl⟩
  · exact CallOK.S (d := 1) (own := RX6) (i := 234) (n := 2) (good_X6_common l) (by decide) (by decide) (mg 932 (by decide +kernel) (by decide +kernel)) (mg 933 (by decide +kernel) (by decide +kernel)) (mg 7 (by decide +kernel) (by decide +kernel)) (mg 934 (by decide +kernel) (by decide +kernel)) (by decide +kernel)
set_option maxRecDepth 20000 in
set_option maxHeartbeats 4000000 in
theorem body_X6_lowest (a : Int) (b : Int) (w : Int) (μ : Mem) (K : List AV → Mem → Prop) (V : Nat → List (Option AV) → List AV → Mem → Prop) (hV : Clos FX6 CX6 G_X6_lowest 3 K cX6_lowest V) (hT : InR w ∧ ∃ y x : Nat, a = y ∧ b = x ∧ y < 2 ^ 60 ∧ 0 < x ∧ x < 2 ^ 60 ∧ K [.inr (.inl (frc y x w))] μ) : V 0 [some (.inr (.inl a)), none, some (.inr (.inl b)), none, some (.inl w), none, none] [] μ := by
  simp only [InR] at hT
  obtain ⟨hw, y, x, rfl, rfl, h1, h2, h3, hK⟩ := hT
  have hg : 0 < Nat.gcd x y := Nat.gcd_pos_of_pos_left _ h2
  have hg2 : Nat.gcd x y ≤ x := Nat.gcd_le_left _ h2
  unfold frc at hK
  apply hV [] 30
  simp only [InR, InL, inb, Int.toNat_natCast, wp1, wpc_z, wpc_s, stp_iconst, stp_bipush, stp_sipush, stp_lconst, stp_iload_n, stp_iload, stp_lload_n, stp_lload, stp_aload_n, stp_aload, stp_istore_n, stp_istore, stp_lstore_n, stp_lstore, stp_astore_n, stp_astore, stp_iinc, stp_iadd, stp_isub, stp_imul, stp_ineg, stp_idiv, stp_irem, stp_ladd, stp_lmul, stp_ldiv, stp_lrem, stp_ishl, stp_ishr, stp_iushr, stp_iand, stp_ior, stp_i2l, stp_i2b, stp_i2s, stp_lcmp, stp_dup, stp_dup2, stp_pop, stp_ifCond, stp_if_icmp, stp_goto, stp_tableswitch, stp_lookupswitch, stp_ldc, stp_ldc_w, stp_ldc2_w, stp_getstatic, stp_getfield, stp_putfield, stp_iaload, stp_baload, stp_iastore, stp_bastore, stp_aaload, stp_aastore, stp_invokevirtual, stp_invokestatic, stp_ireturn, stp_lreturn, stp_return_, lg, lset, okl, spl, wd, c1, cnd, tg, swT, swL, f4_0, f4_1, f4_2, f4_3, f2_0, f2_1, List.mem_cons, List.not_mem_nil, List.length_cons, List.length_nil, List.cons_append, List.nil_append, Nat.reduceAdd, Nat.reduceMul, Nat.reduceLT, Nat.reduceEqDiff, Nat.reduceLeDiff, Int.reduceAdd, Int.reduceNeg, Int.reduceToNat, Int.cast_ofNat_Int, Int.reduceNatCast, Int.toNat_zero, Int.toNat_one, Int.reduceLE, Int.reduceLT, Int.reduceEq, Int.zero_add, Int.add_zero, or_false, false_or, or_true, true_or, and_true, true_and, and_false, false_and, reduceIte, not_true_eq_false, not_false_eq_true, forall_const, false_implies, true_implies, implies_true, ne_eq, reduceCtorEq, List.all_cons, List.all_nil, Bool.and_true, Bool.and_self, decide_eq_true_eq, decide_true, dX6_lowest_0, dX6_lowest_1, dX6_lowest_2, dX6_lowest_5, dX6_lowest_7, dX6_lowest_9, dX6_lowest_12, dX6_lowest_13, dX6_lowest_15, dX6_lowest_16, dX6_lowest_19, dX6_lowest_20, dX6_lowest_22, dX6_lowest_23, G_X6_lowest_234, T6_common]
  refine ⟨x, y, rfl, rfl, h1, h3, ?_⟩
  by_cases w0 : w = 0
  · rw [if_pos w0] at hK
    repeat' (first | exact trivial | omega | (with_reducible assumption) | exact absurd trivial (by with_reducible assumption) | contradiction | apply And.intro | intro _)
  · rw [if_neg w0] at hK
    repeat' (first | exact trivial | omega | (with_reducible assumption) | exact absurd trivial (by with_reducible assumption) | contradiction | apply And.intro | intro _)
theorem good_X6_lowest (l : Launch) : Good l 1 yX6_lowest cX6_lowest 7 (some .long) T6_lowest := by
  refine Good.mk 3 (by decide) rfl (by simp [retOK]) FOK6 COK6 (gk_X6_lowest l) ?_ ?_
  · intro a μ K h
    unfold T6_lowest at h
    split at h
    · simp [entl]
    · exact h.elim
  · intro a μ K V hV h
    unfold T6_lowest at h
    split at h
    · exact body_X6_lowest _ _ _ μ K V hV h
    · exact h.elim

def GL_X5_partOfFraction : List (Nat × Nat × Bool × TT) := [(227, 2, true, T5_commonDivisor)]
def G_X5_partOfFraction : Nat → Option (Nat × Bool × TT) := fun i => GL_X5_partOfFraction.lookup i
theorem G_X5_partOfFraction_227 : G_X5_partOfFraction 227 = some (2, true, T5_commonDivisor) := rfl

set_option maxRecDepth 20000 in
set_option maxHeartbeats 4000000 in
theorem lp_part (V : Nat → List (Option AV) → List AV → Mem → Prop) (K : List AV → Mem → Prop) (hV : Clos FX5 CX5 G_X5_partOfFraction 3 K cX5_partOfFraction V) (μ : Mem) (a : Int) (e : Nat) (he : e ≤ 8) (w : Int) (hK : V 26 [some (.inr (.inl a)), none, some (.inl (e : Int)), some (.inl w), some (.inr (.inl (pw e))), none, some (.inl (e : Int)), none, none, none] [] μ) : ∀ m n : Nat, n + m = e → V 6 [some (.inr (.inl a)), none, some (.inl (e : Int)), some (.inl w), some (.inr (.inl (pw n))), none, some (.inl (n : Int)), none, none, none] [] μ := by
  intro m
  induction m with
  | zero =>
    intro n hn
    have en : n = e := by omega
    subst en
    apply hV [6, 26] 40
    simp only [InR, InL, inb, Int.toNat_natCast, wp1, wpc_z, wpc_s, stp_iconst, stp_bipush, stp_sipush, stp_lconst, stp_iload_n, stp_iload, stp_lload_n, stp_lload, stp_aload_n, stp_aload, stp_istore_n, stp_istore, stp_lstore_n, stp_lstore, stp_astore_n, stp_astore, stp_iinc, stp_iadd, stp_isub, stp_imul, stp_ineg, stp_idiv, stp_irem, stp_ladd, stp_lmul, stp_ldiv, stp_lrem, stp_ishl, stp_ishr, stp_iushr, stp_iand, stp_ior, stp_i2l, stp_i2b, stp_i2s, stp_lcmp, stp_dup, stp_dup2, stp_pop, stp_ifCond, stp_if_icmp, stp_goto, stp_tableswitch, stp_lookupswitch, stp_ldc, stp_ldc_w, stp_ldc2_w, stp_getstatic, stp_getfield, stp_putfield, stp_iaload, stp_baload, stp_iastore, stp_bastore, stp_aaload, stp_aastore, stp_invokevirtual, stp_invokestatic, stp_ireturn, stp_lreturn, stp_return_, lg, lset, okl, spl, wd, c1, cnd, tg, swT, swL, f4_0, f4_1, f4_2, f4_3, f2_0, f2_1, List.mem_cons, List.not_mem_nil, List.length_cons, List.length_nil, List.cons_append, List.nil_append, Nat.reduceAdd, Nat.reduceMul, Nat.reduceLT, Nat.reduceEqDiff, Nat.reduceLeDiff, Int.reduceAdd, Int.reduceNeg, Int.reduceToNat, Int.cast_ofNat_Int, Int.reduceNatCast, Int.toNat_zero, Int.toNat_one, Int.reduceLE, Int.reduceLT, Int.reduceEq, Int.zero_add, Int.add_zero, or_false, false_or, or_true, true_or, and_true, true_and, and_false, false_and, reduceIte, not_true_eq_false, not_false_eq_true, forall_const, false_implies, true_implies, implies_true, ne_eq, reduceCtorEq, List.all_cons, List.all_nil, Bool.and_true, Bool.and_self, decide_eq_true_eq, decide_true, dX5_partOfFraction_0, dX5_partOfFraction_1, dX5_partOfFraction_3, dX5_partOfFraction_4, dX5_partOfFraction_6, dX5_partOfFraction_8, dX5_partOfFraction_9, dX5_partOfFraction_12, dX5_partOfFraction_14, dX5_partOfFraction_17, dX5_partOfFraction_18, dX5_partOfFraction_20, dX5_partOfFraction_23, dX5_partOfFraction_26, dX5_partOfFraction_27, dX5_partOfFraction_29, dX5_partOfFraction_32, dX5_partOfFraction_34, dX5_partOfFraction_35, dX5_partOfFraction_38, dX5_partOfFraction_39, dX5_partOfFraction_42, dX5_partOfFraction_44, dX5_partOfFraction_46, dX5_partOfFraction_48, dX5_partOfFraction_49, dX5_partOfFraction_50, dX5_partOfFraction_53, dX5_partOfFraction_55, dX5_partOfFraction_57, dX5_partOfFraction_58, dX5_partOfFraction_61, dX5_partOfFraction_63, CX5_225, G_X5_partOfFraction_227]
    repeat' (first | exact trivial | omega | (with_reducible assumption) | exact absurd trivial (by with_reducible assumption) | contradiction | apply And.intro | intro _)
  | succ m ih =>
    intro n hn
    have h := ih (n + 1) (by omega)
    rw [show ((n + 1 : Nat) : Int) = (n : Int) + 1 by omega] at h
    simp only [pw] at h
    apply hV [6, 26] 40
    simp only [InR, InL, inb, Int.toNat_natCast, wp1, wpc_z, wpc_s, stp_iconst, stp_bipush, stp_sipush, stp_lconst, stp_iload_n, stp_iload, stp_lload_n, stp_lload, stp_aload_n, stp_aload, stp_istore_n, stp_istore, stp_lstore_n, stp_lstore, stp_astore_n, stp_astore, stp_iinc, stp_iadd, stp_isub, stp_imul, stp_ineg, stp_idiv, stp_irem, stp_ladd, stp_lmul, stp_ldiv, stp_lrem, stp_ishl, stp_ishr, stp_iushr, stp_iand, stp_ior, stp_i2l, stp_i2b, stp_i2s, stp_lcmp, stp_dup, stp_dup2, stp_pop, stp_ifCond, stp_if_icmp, stp_goto, stp_tableswitch, stp_lookupswitch, stp_ldc, stp_ldc_w, stp_ldc2_w, stp_getstatic, stp_getfield, stp_putfield, stp_iaload, stp_baload, stp_iastore, stp_bastore, stp_aaload, stp_aastore, stp_invokevirtual, stp_invokestatic, stp_ireturn, stp_lreturn, stp_return_, lg, lset, okl, spl, wd, c1, cnd, tg, swT, swL, f4_0, f4_1, f4_2, f4_3, f2_0, f2_1, List.mem_cons, List.not_mem_nil, List.length_cons, List.length_nil, List.cons_append, List.nil_append, Nat.reduceAdd, Nat.reduceMul, Nat.reduceLT, Nat.reduceEqDiff, Nat.reduceLeDiff, Int.reduceAdd, Int.reduceNeg, Int.reduceToNat, Int.cast_ofNat_Int, Int.reduceNatCast, Int.toNat_zero, Int.toNat_one, Int.reduceLE, Int.reduceLT, Int.reduceEq, Int.zero_add, Int.add_zero, or_false, false_or, or_true, true_or, and_true, true_and, and_false, false_and, reduceIte, not_true_eq_false, not_false_eq_true, forall_const, false_implies, true_implies, implies_true, ne_eq, reduceCtorEq, List.all_cons, List.all_nil, Bool.and_true, Bool.and_self, decide_eq_true_eq, decide_true, dX5_partOfFraction_0, dX5_partOfFraction_1, dX5_partOfFraction_3, dX5_partOfFraction_4, dX5_partOfFraction_6, dX5_partOfFraction_8, dX5_partOfFraction_9, dX5_partOfFraction_12, dX5_partOfFraction_14, dX5_partOfFraction_17, dX5_partOfFraction_18, dX5_partOfFraction_20, dX5_partOfFraction_23, dX5_partOfFraction_26, dX5_partOfFraction_27, dX5_partOfFraction_29, dX5_partOfFraction_32, dX5_partOfFraction_34, dX5_partOfFraction_35, dX5_partOfFraction_38, dX5_partOfFraction_39, dX5_partOfFraction_42, dX5_partOfFraction_44, dX5_partOfFraction_46, dX5_partOfFraction_48, dX5_partOfFraction_49, dX5_partOfFraction_50, dX5_partOfFraction_53, dX5_partOfFraction_55, dX5_partOfFraction_57, dX5_partOfFraction_58, dX5_partOfFraction_61, dX5_partOfFraction_63, CX5_225, G_X5_partOfFraction_227]
    repeat' (first | exact trivial | omega | (with_reducible assumption) | exact absurd trivial (by with_reducible assumption) | contradiction | apply And.intro | intro _)
def T5_partOfFraction : TT := fun a μ K => match a with
  | [.inr (.inl a), .inl n, .inl w] => InR w ∧ ∃ y n' : Nat, a = y ∧ n = n' ∧ n' ≤ 8 ∧ y < 2 ^ 60 ∧ K [.inr (.inl (frc y (pw n').toNat w))] μ
  | _ => False
theorem gk_X5_partOfFraction (l : Launch) : ∀ i n b T, G_X5_partOfFraction i = some (n, b, T) → CallOK l 1 RX5 i n b T := by
  intro i n b T h
  have hm : (i, n, b, T) ∈ GL_X5_partOfFraction := lk_mem h
  simp only [GL_X5_partOfFraction, List.mem_cons, List.not_mem_nil, or_false, Prod.mk.injEq] at hm
  rcases hm with ⟨rfl, rfl, rfl, rfl⟩
  · exact CallOK.S (d := 1) (own := RX5) (i := 227) (n := 2) (good_X5_commonDivisor l) (by decide) (by decide) (mg 469 (by decide +kernel) (by decide +kernel)) (mg 470 (by decide +kernel) (by decide +kernel)) (mg 1 (by decide +kernel) (by decide +kernel)) (mg 471 (by decide +kernel) (by decide +kernel)) (by decide +kernel)
set_option maxRecDepth 20000 in
set_option maxHeartbeats 4000000 in
theorem body_X5_partOfFraction (a : Int) (n : Int) (w : Int) (μ : Mem) (K : List AV → Mem → Prop) (V : Nat → List (Option AV) → List AV → Mem → Prop) (hV : Clos FX5 CX5 G_X5_partOfFraction 3 K cX5_partOfFraction V) (hT : InR w ∧ ∃ y n' : Nat, a = y ∧ n = n' ∧ n' ≤ 8 ∧ y < 2 ^ 60 ∧ K [.inr (.inl (frc y (pw n').toNat w))] μ) : V 0 [some (.inr (.inl a)), none, some (.inl n), some (.inl w), none, none, none, none, none, none] [] μ := by
  simp only [InR] at hT
  obtain ⟨hw, y, n', rfl, rfl, h1, h2, hK⟩ := hT
  have hp := pw_in n' h1
  obtain ⟨x, hx⟩ := Int.eq_ofNat_of_zero_le (show 0 ≤ pw n' by omega)
  rw [hx, Int.toNat_natCast] at hK
  rw [hx] at hp
  have hg : 0 < Nat.gcd x y := Nat.gcd_pos_of_pos_left _ (by omega)
  have hg2 : Nat.gcd x y ≤ x := Nat.gcd_le_left _ (by omega)
  have h := lp_part V K hV μ y n' h1 w (by
    rw [hx]
    unfold frc at hK
    apply hV [] 40
    simp only [InR, InL, inb, Int.toNat_natCast, wp1, wpc_z, wpc_s, stp_iconst, stp_bipush, stp_sipush, stp_lconst, stp_iload_n, stp_iload, stp_lload_n, stp_lload, stp_aload_n, stp_aload, stp_istore_n, stp_istore, stp_lstore_n, stp_lstore, stp_astore_n, stp_astore, stp_iinc, stp_iadd, stp_isub, stp_imul, stp_ineg, stp_idiv, stp_irem, stp_ladd, stp_lmul, stp_ldiv, stp_lrem, stp_ishl, stp_ishr, stp_iushr, stp_iand, stp_ior, stp_i2l, stp_i2b, stp_i2s, stp_lcmp, stp_dup, stp_dup2, stp_pop, stp_ifCond, stp_if_icmp, stp_goto, stp_tableswitch, stp_lookupswitch, stp_ldc, stp_ldc_w, stp_ldc2_w, stp_getstatic, stp_getfield, stp_putfield, stp_iaload, stp_baload, stp_iastore, stp_bastore, stp_aaload, stp_aastore, stp_invokevirtual, stp_invokestatic, stp_ireturn, stp_lreturn, stp_return_, lg, lset, okl, spl, wd, c1, cnd, tg, swT, swL, f4_0, f4_1, f4_2, f4_3, f2_0, f2_1, List.mem_cons, List.not_mem_nil, List.length_cons, List.length_nil, List.cons_append, List.nil_append, Nat.reduceAdd, Nat.reduceMul, Nat.reduceLT, Nat.reduceEqDiff, Nat.reduceLeDiff, Int.reduceAdd, Int.reduceNeg, Int.reduceToNat, Int.cast_ofNat_Int, Int.reduceNatCast, Int.toNat_zero, Int.toNat_one, Int.reduceLE, Int.reduceLT, Int.reduceEq, Int.zero_add, Int.add_zero, or_false, false_or, or_true, true_or, and_true, true_and, and_false, false_and, reduceIte, not_true_eq_false, not_false_eq_true, forall_const, false_implies, true_implies, implies_true, ne_eq, reduceCtorEq, List.all_cons, List.all_nil, Bool.and_true, Bool.and_self, decide_eq_true_eq, decide_true, dX5_partOfFraction_0, dX5_partOfFraction_1, dX5_partOfFraction_3, dX5_partOfFraction_4, dX5_partOfFraction_6, dX5_partOfFraction_8, dX5_partOfFraction_9, dX5_partOfFraction_12, dX5_partOfFraction_14, dX5_partOfFraction_17, dX5_partOfFraction_18, dX5_partOfFraction_20, dX5_partOfFraction_23, dX5_partOfFraction_26, dX5_partOfFraction_27, dX5_partOfFraction_29, dX5_partOfFraction_32, dX5_partOfFraction_34, dX5_partOfFraction_35, dX5_partOfFraction_38, dX5_partOfFraction_39, dX5_partOfFraction_42, dX5_partOfFraction_44, dX5_partOfFraction_46, dX5_partOfFraction_48, dX5_partOfFraction_49, dX5_partOfFraction_50, dX5_partOfFraction_53, dX5_partOfFraction_55, dX5_partOfFraction_57, dX5_partOfFraction_58, dX5_partOfFraction_61, dX5_partOfFraction_63, CX5_225, G_X5_partOfFraction_227, T5_commonDivisor]
    refine ⟨y, x, rfl, rfl, h2, by omega, by omega, ?_⟩
    generalize Nat.gcd x y = g at hK hg hg2 ⊢
    by_cases g1 : g = 1
    · subst g1
      simp only [Int.cast_ofNat_Int, Int.ediv_one] at hK
      by_cases w0 : w = 0
      · rw [if_pos w0] at hK
        repeat' (first | exact trivial | omega | (with_reducible assumption) | exact absurd trivial (by with_reducible assumption) | contradiction | apply And.intro | intro _)
      · rw [if_neg w0] at hK
        repeat' (first | exact trivial | omega | (with_reducible assumption) | exact absurd trivial (by with_reducible assumption) | contradiction | apply And.intro | intro _)
    · by_cases w0 : w = 0
      · rw [if_pos w0] at hK
        repeat' (first | exact trivial | omega | (with_reducible assumption) | exact absurd trivial (by with_reducible assumption) | contradiction | apply And.intro | intro _)
      · rw [if_neg w0] at hK
        repeat' (first | exact trivial | omega | (with_reducible assumption) | exact absurd trivial (by with_reducible assumption) | contradiction | apply And.intro | intro _)) n' 0 (by omega)
  simp only [pw] at h
  apply hV [6] 30
  simp only [InR, InL, inb, Int.toNat_natCast, wp1, wpc_z, wpc_s, stp_iconst, stp_bipush, stp_sipush, stp_lconst, stp_iload_n, stp_iload, stp_lload_n, stp_lload, stp_aload_n, stp_aload, stp_istore_n, stp_istore, stp_lstore_n, stp_lstore, stp_astore_n, stp_astore, stp_iinc, stp_iadd, stp_isub, stp_imul, stp_ineg, stp_idiv, stp_irem, stp_ladd, stp_lmul, stp_ldiv, stp_lrem, stp_ishl, stp_ishr, stp_iushr, stp_iand, stp_ior, stp_i2l, stp_i2b, stp_i2s, stp_lcmp, stp_dup, stp_dup2, stp_pop, stp_ifCond, stp_if_icmp, stp_goto, stp_tableswitch, stp_lookupswitch, stp_ldc, stp_ldc_w, stp_ldc2_w, stp_getstatic, stp_getfield, stp_putfield, stp_iaload, stp_baload, stp_iastore, stp_bastore, stp_aaload, stp_aastore, stp_invokevirtual, stp_invokestatic, stp_ireturn, stp_lreturn, stp_return_, lg, lset, okl, spl, wd, c1, cnd, tg, swT, swL, f4_0, f4_1, f4_2, f4_3, f2_0, f2_1, List.mem_cons, List.not_mem_nil, List.length_cons, List.length_nil, List.cons_append, List.nil_append, Nat.reduceAdd, Nat.reduceMul, Nat.reduceLT, Nat.reduceEqDiff, Nat.reduceLeDiff, Int.reduceAdd, Int.reduceNeg, Int.reduceToNat, Int.cast_ofNat_Int, Int.reduceNatCast, Int.toNat_zero, Int.toNat_one, Int.reduceLE, Int.reduceLT, Int.reduceEq, Int.zero_add, Int.add_zero, or_false, false_or, or_true, true_or, and_true, true_and, and_false, false_and, reduceIte, not_true_eq_false, not_false_eq_true, forall_const, false_implies, true_implies, implies_true, ne_eq, reduceCtorEq, List.all_cons, List.all_nil, Bool.and_true, Bool.and_self, decide_eq_true_eq, decide_true, dX5_partOfFraction_0, dX5_partOfFraction_1, dX5_partOfFraction_3, dX5_partOfFraction_4, dX5_partOfFraction_6, dX5_partOfFraction_8, dX5_partOfFraction_9, dX5_partOfFraction_12, dX5_partOfFraction_14, dX5_partOfFraction_17, dX5_partOfFraction_18, dX5_partOfFraction_20, dX5_partOfFraction_23, dX5_partOfFraction_26, dX5_partOfFraction_27, dX5_partOfFraction_29, dX5_partOfFraction_32, dX5_partOfFraction_34, dX5_partOfFraction_35, dX5_partOfFraction_38, dX5_partOfFraction_39, dX5_partOfFraction_42, dX5_partOfFraction_44, dX5_partOfFraction_46, dX5_partOfFraction_48, dX5_partOfFraction_49, dX5_partOfFraction_50, dX5_partOfFraction_53, dX5_partOfFraction_55, dX5_partOfFraction_57, dX5_partOfFraction_58, dX5_partOfFraction_61, dX5_partOfFraction_63, CX5_225, G_X5_partOfFraction_227]
  exact h
theorem good_X5_partOfFraction (l : Launch) : Good l 1 yX5_partOfFraction cX5_partOfFraction 10 (some .long) T5_partOfFraction := by
  refine Good.mk 3 (by decide) rfl (by simp [retOK]) FOK5 COK5 (gk_X5_partOfFraction l) ?_ ?_
  · intro a μ K h
    unfold T5_partOfFraction at h
    split at h
    · simp [entl]
    · exact h.elim
  · intro a μ K V hV h
    unfold T5_partOfFraction at h
    split at h
    · exact body_X5_partOfFraction _ _ _ μ K V hV h
    · exact h.elim

