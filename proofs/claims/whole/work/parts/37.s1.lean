/-! both: the simple calls -/
theorem bmod_id {c : Int} (h : 0 ≤ c ∧ c ≤ 127) : Int.bmod c 256 = c := by rw [Int.bmod_eq_of_le] <;> omega
def T6_feed : TT := fun a μ K => match a with
  | [.inr (.inr o), .inl c] => o = 66 ∧ (InR c ∧ (0 ≤ rI μ 66 6 ∧ rI μ 66 6 ≤ 160) ∧ ((0 ≤ c ∧ c ≤ 127) ∧ rI μ 66 6 < 160 → K [.inl (rI μ 66 6 + 1)] (wI (wI μ 71 (rI μ 66 6).toNat c) 66 6 (rI μ 66 6 + 1))) ∧ ((0 ≤ c ∧ c ≤ 127) ∧ rI μ 66 6 = 160 → K [.inl (-3)] μ) ∧ (¬ (0 ≤ c ∧ c ≤ 127) → K [.inl (-1)] μ))
  | _ => False
theorem rec_X6_feed : ∀ a μ K, T6_feed a μ K → ∃ k r, a = .inr (.inr k) :: r ∧ kd k = 6 := by
  intro a μ K h
  unfold T6_feed at h
  split at h
  · exact ⟨_, _, rfl, by rw [h.1]; rfl⟩
  · exact h.elim
def GL_X6_feed : List (Nat × Nat × Bool × TT) := [(59, 3, true, T6_in)]
def G_X6_feed : Nat → Option (Nat × Bool × TT) := fun i => GL_X6_feed.lookup i
theorem G_X6_feed_59 : G_X6_feed 59 = some (3, true, T6_in) := rfl
theorem gk_X6_feed (l : Launch) : ∀ i n b T, G_X6_feed i = some (n, b, T) → CallOK l 1 RX6 i n b T := by
  intro i n b T h
  have hm : (i, n, b, T) ∈ GL_X6_feed := lk_mem h
  simp only [GL_X6_feed, List.mem_cons, List.not_mem_nil, or_false, Prod.mk.injEq] at hm
  rcases hm with ⟨rfl, rfl, rfl, rfl⟩
  · exact CallOK.S (d := 1) (own := RX6) (i := 59) (n := 3) (good_X6_in l) (by decide) (by decide) (mg 708 (by decide +kernel) (by decide +kernel)) (mg 709 (by decide +kernel) (by decide +kernel)) (mg 7 (by decide +kernel) (by decide +kernel)) (mg 710 (by decide +kernel) (by decide +kernel)) (by decide +kernel)
set_option maxRecDepth 20000 in
set_option maxHeartbeats 4000000 in
theorem body_X6_feed (o : Nat) (c : Int) (μ : Mem) (K : List AV → Mem → Prop) (V : Nat → List (Option AV) → List AV → Mem → Prop) (hV : Clos FX6 CX6 G_X6_feed 1 K cX6_feed V) (hT : o = 66 ∧ (InR c ∧ (0 ≤ rI μ 66 6 ∧ rI μ 66 6 ≤ 160) ∧ ((0 ≤ c ∧ c ≤ 127) ∧ rI μ 66 6 < 160 → K [.inl (rI μ 66 6 + 1)] (wI (wI μ 71 (rI μ 66 6).toNat c) 66 6 (rI μ 66 6 + 1))) ∧ ((0 ≤ c ∧ c ≤ 127) ∧ rI μ 66 6 = 160 → K [.inl (-3)] μ) ∧ (¬ (0 ≤ c ∧ c ≤ 127) → K [.inl (-1)] μ))) : V 0 [some (.inr (.inr o)), some (.inl c)] [] μ := by
  simp only [InR] at hT
  obtain ⟨rfl, h1, h2, h3, h4, h5⟩ := hT
  apply hV [] 60
  simp only [InR, InL, inb, Int.toNat_natCast, wp1, wpc_z, wpc_s, stp_iconst, stp_bipush, stp_sipush, stp_lconst, stp_iload_n, stp_iload, stp_lload_n, stp_lload, stp_aload_n, stp_aload, stp_istore_n, stp_istore, stp_lstore_n, stp_lstore, stp_astore_n, stp_astore, stp_iinc, stp_iadd, stp_isub, stp_imul, stp_ineg, stp_idiv, stp_irem, stp_ladd, stp_lmul, stp_ldiv, stp_lrem, stp_ishl, stp_ishr, stp_iushr, stp_iand, stp_ior, stp_i2l, stp_i2b, stp_i2s, stp_lcmp, stp_dup, stp_dup2, stp_pop, stp_ifCond, stp_if_icmp, stp_goto, stp_tableswitch, stp_lookupswitch, stp_ldc, stp_ldc_w, stp_ldc2_w, stp_getstatic, stp_getfield, stp_putfield, stp_iaload, stp_baload, stp_iastore, stp_bastore, stp_aaload, stp_aastore, stp_invokevirtual, stp_invokestatic, stp_ireturn, stp_lreturn, stp_return_, lg, lset, okl, spl, wd, c1, cnd, tg, swT, swL, f4_0, f4_1, f4_2, f4_3, f2_0, f2_1, List.mem_cons, List.not_mem_nil, List.length_cons, List.length_nil, List.cons_append, List.nil_append, Nat.reduceAdd, Nat.reduceMul, Nat.reduceLT, Nat.reduceEqDiff, Nat.reduceLeDiff, Int.reduceAdd, Int.reduceNeg, Int.reduceToNat, Int.cast_ofNat_Int, Int.reduceNatCast, Int.toNat_zero, Int.toNat_one, Int.reduceLE, Int.reduceLT, Int.reduceEq, Int.zero_add, Int.add_zero, or_false, false_or, or_true, true_or, and_true, true_and, and_false, false_and, reduceIte, not_true_eq_false, not_false_eq_true, forall_const, false_implies, true_implies, implies_true, ne_eq, reduceCtorEq, List.all_cons, List.all_nil, Bool.and_true, Bool.and_self, decide_eq_true_eq, decide_true, dX6_feed_0, dX6_feed_1, dX6_feed_2, dX6_feed_3, dX6_feed_6, dX6_feed_9, dX6_feed_12, dX6_feed_13, dX6_feed_14, dX6_feed_15, dX6_feed_18, dX6_feed_21, dX6_feed_24, dX6_feed_26, dX6_feed_27, dX6_feed_28, dX6_feed_31, dX6_feed_32, dX6_feed_35, dX6_feed_36, dX6_feed_37, dX6_feed_38, dX6_feed_39, dX6_feed_42, dX6_feed_43, dX6_feed_44, dX6_feed_47, dX6_feed_48, dX6_feed_51, CX6_57, FX6_63, FX6_23, G_X6_feed_59, kd_66, kd_71, ln_71, T6_in, rI_wI]
  repeat' (first | exact trivial | omega | (with_reducible assumption) | exact absurd trivial (by with_reducible assumption) | contradiction | apply And.intro | intro _)
  all_goals first | exact h3 ⟨⟨by omega, by omega⟩, by omega⟩ | exact h4 ⟨⟨by omega, by omega⟩, by omega⟩ | exact h5 (by omega)
theorem good_X6_feed (l : Launch) : Good l 1 yX6_feed cX6_feed 2 (some .int) T6_feed := by
  refine Good.mk 1 (by decide) rfl (by simp [retOK]) FOK6 COK6 (gk_X6_feed l) ?_ ?_
  · intro a μ K h
    unfold T6_feed at h
    split at h
    · simp [entl]
    · exact h.elim
  · intro a μ K V hV h
    unfold T6_feed at h
    split at h
    · exact body_X6_feed _ _ μ K V hV h
    · exact h.elim

def T5_feed : TT := fun a μ K => match a with
  | [.inr (.inr o), .inl c] => o = 0 ∧ (InR c ∧ (0 ≤ rI μ 19 1 ∧ rI μ 19 1 ≤ 160) ∧ ((0 ≤ c ∧ c ≤ 127) ∧ rI μ 19 1 < 160 → K [.inl (rI μ 19 1 + 1)] (wI (wI μ 20 (rI μ 19 1).toNat c) 19 1 (rI μ 19 1 + 1))) ∧ ((0 ≤ c ∧ c ≤ 127) ∧ rI μ 19 1 = 160 → K [.inl (-3)] μ) ∧ (¬ (0 ≤ c ∧ c ≤ 127) → K [.inl (-1)] μ))
  | _ => False
theorem rec_X5_feed : ∀ a μ K, T5_feed a μ K → ∃ k r, a = .inr (.inr k) :: r ∧ kd k = 5 := by
  intro a μ K h
  unfold T5_feed at h
  split at h
  · exact ⟨_, _, rfl, by rw [h.1]; rfl⟩
  · exact h.elim
def GL_X5_feed : List (Nat × Nat × Bool × TT) := [(52, 3, true, T5_isOutside)]
def G_X5_feed : Nat → Option (Nat × Bool × TT) := fun i => GL_X5_feed.lookup i
theorem G_X5_feed_52 : G_X5_feed 52 = some (3, true, T5_isOutside) := rfl
theorem gk_X5_feed (l : Launch) : ∀ i n b T, G_X5_feed i = some (n, b, T) → CallOK l 1 RX5 i n b T := by
  intro i n b T h
  have hm : (i, n, b, T) ∈ GL_X5_feed := lk_mem h
  simp only [GL_X5_feed, List.mem_cons, List.not_mem_nil, or_false, Prod.mk.injEq] at hm
  rcases hm with ⟨rfl, rfl, rfl, rfl⟩
  · exact CallOK.S (d := 1) (own := RX5) (i := 52) (n := 3) (good_X5_isOutside l) (by decide) (by decide) (mg 191 (by decide +kernel) (by decide +kernel)) (mg 192 (by decide +kernel) (by decide +kernel)) (mg 1 (by decide +kernel) (by decide +kernel)) (mg 193 (by decide +kernel) (by decide +kernel)) (by decide +kernel)
set_option maxRecDepth 20000 in
set_option maxHeartbeats 4000000 in
theorem body_X5_feed (o : Nat) (c : Int) (μ : Mem) (K : List AV → Mem → Prop) (V : Nat → List (Option AV) → List AV → Mem → Prop) (hV : Clos FX5 CX5 G_X5_feed 1 K cX5_feed V) (hT : o = 0 ∧ (InR c ∧ (0 ≤ rI μ 19 1 ∧ rI μ 19 1 ≤ 160) ∧ ((0 ≤ c ∧ c ≤ 127) ∧ rI μ 19 1 < 160 → K [.inl (rI μ 19 1 + 1)] (wI (wI μ 20 (rI μ 19 1).toNat c) 19 1 (rI μ 19 1 + 1))) ∧ ((0 ≤ c ∧ c ≤ 127) ∧ rI μ 19 1 = 160 → K [.inl (-3)] μ) ∧ (¬ (0 ≤ c ∧ c ≤ 127) → K [.inl (-1)] μ))) : V 0 [some (.inr (.inr o)), some (.inl c)] [] μ := by
  simp only [InR] at hT
  obtain ⟨rfl, h1, h2, h3, h4, h5⟩ := hT
  apply hV [] 60
  simp only [InR, InL, inb, Int.toNat_natCast, wp1, wpc_z, wpc_s, stp_iconst, stp_bipush, stp_sipush, stp_lconst, stp_iload_n, stp_iload, stp_lload_n, stp_lload, stp_aload_n, stp_aload, stp_istore_n, stp_istore, stp_lstore_n, stp_lstore, stp_astore_n, stp_astore, stp_iinc, stp_iadd, stp_isub, stp_imul, stp_ineg, stp_idiv, stp_irem, stp_ladd, stp_lmul, stp_ldiv, stp_lrem, stp_ishl, stp_ishr, stp_iushr, stp_iand, stp_ior, stp_i2l, stp_i2b, stp_i2s, stp_lcmp, stp_dup, stp_dup2, stp_pop, stp_ifCond, stp_if_icmp, stp_goto, stp_tableswitch, stp_lookupswitch, stp_ldc, stp_ldc_w, stp_ldc2_w, stp_getstatic, stp_getfield, stp_putfield, stp_iaload, stp_baload, stp_iastore, stp_bastore, stp_aaload, stp_aastore, stp_invokevirtual, stp_invokestatic, stp_ireturn, stp_lreturn, stp_return_, lg, lset, okl, spl, wd, c1, cnd, tg, swT, swL, f4_0, f4_1, f4_2, f4_3, f2_0, f2_1, List.mem_cons, List.not_mem_nil, List.length_cons, List.length_nil, List.cons_append, List.nil_append, Nat.reduceAdd, Nat.reduceMul, Nat.reduceLT, Nat.reduceEqDiff, Nat.reduceLeDiff, Int.reduceAdd, Int.reduceNeg, Int.reduceToNat, Int.cast_ofNat_Int, Int.reduceNatCast, Int.toNat_zero, Int.toNat_one, Int.reduceLE, Int.reduceLT, Int.reduceEq, Int.zero_add, Int.add_zero, or_false, false_or, or_true, true_or, and_true, true_and, and_false, false_and, reduceIte, not_true_eq_false, not_false_eq_true, forall_const, false_implies, true_implies, implies_true, ne_eq, reduceCtorEq, List.all_cons, List.all_nil, Bool.and_true, Bool.and_self, decide_eq_true_eq, decide_true, dX5_feed_0, dX5_feed_1, dX5_feed_2, dX5_feed_4, dX5_feed_7, dX5_feed_10, dX5_feed_11, dX5_feed_12, dX5_feed_13, dX5_feed_16, dX5_feed_19, dX5_feed_22, dX5_feed_25, dX5_feed_27, dX5_feed_28, dX5_feed_29, dX5_feed_32, dX5_feed_35, dX5_feed_36, dX5_feed_39, dX5_feed_42, dX5_feed_43, dX5_feed_44, dX5_feed_45, dX5_feed_46, dX5_feed_49, dX5_feed_50, dX5_feed_53, dX5_feed_54, dX5_feed_55, dX5_feed_58, dX5_feed_59, dX5_feed_62, dX5_feed_65, FX5_29, FX5_56, FX5_60, G_X5_feed_52, kd_0, kd_19, kd_20, ln_20, T5_isOutside, rI_wI]
  by_cases hc : 0 ≤ c ∧ c ≤ 127
  · rw [bmod_id hc]
    repeat' (first | exact trivial | omega | (with_reducible assumption) | exact absurd trivial (by with_reducible assumption) | contradiction | apply And.intro | intro _)
    all_goals first | exact h3 ⟨⟨by omega, by omega⟩, by omega⟩ | exact h4 ⟨⟨by omega, by omega⟩, by omega⟩ | exact Or.inl ⟨by omega, by omega⟩
  · have := h5 hc
    repeat' (first | exact trivial | omega | (with_reducible assumption) | exact absurd trivial (by with_reducible assumption) | contradiction | apply And.intro | intro _)
theorem good_X5_feed (l : Launch) : Good l 1 yX5_feed cX5_feed 2 (some .int) T5_feed := by
  refine Good.mk 1 (by decide) rfl (by simp [retOK]) FOK5 COK5 (gk_X5_feed l) ?_ ?_
  · intro a μ K h
    unfold T5_feed at h
    split at h
    · simp [entl]
    · exact h.elim
  · intro a μ K V hV h
    unfold T5_feed at h
    split at h
    · exact body_X5_feed _ _ μ K V hV h
    · exact h.elim

def T6_end : TT := fun a μ K => match a with
  | [.inr (.inr o), .inl n] => o = 66 ∧ (InR n ∧ (0 ≤ rI μ 66 6 ∧ rI μ 66 6 ≤ 160) ∧ (0 ≤ n ∧ n ≤ rI μ 66 6 → K [.inl (rI μ 66 6)] (wI μ 66 6 n)) ∧ (¬ (0 ≤ n ∧ n ≤ rI μ 66 6) → K [.inl (-1)] μ))
  | _ => False
theorem rec_X6_end : ∀ a μ K, T6_end a μ K → ∃ k r, a = .inr (.inr k) :: r ∧ kd k = 6 := by
  intro a μ K h
  unfold T6_end at h
  split at h
  · exact ⟨_, _, rfl, by rw [h.1]; rfl⟩
  · exact h.elim
def GL_X6_end : List (Nat × Nat × Bool × TT) := [(59, 3, true, T6_in)]
def G_X6_end : Nat → Option (Nat × Bool × TT) := fun i => GL_X6_end.lookup i
theorem G_X6_end_59 : G_X6_end 59 = some (3, true, T6_in) := rfl
theorem gk_X6_end (l : Launch) : ∀ i n b T, G_X6_end i = some (n, b, T) → CallOK l 1 RX6 i n b T := by
  intro i n b T h
  have hm : (i, n, b, T) ∈ GL_X6_end := lk_mem h
  simp only [GL_X6_end, List.mem_cons, List.not_mem_nil, or_false, Prod.mk.injEq] at hm
  rcases hm with ⟨rfl, rfl, rfl, rfl⟩
  · exact CallOK.S (d := 1) (own := RX6) (i := 59) (n := 3) (good_X6_in l) (by decide) (by decide) (mg 708 (by decide +kernel) (by decide +kernel)) (mg 709 (by decide +kernel) (by decide +kernel)) (mg 7 (by decide +kernel) (by decide +kernel)) (mg 710 (by decide +kernel) (by decide +kernel)) (by decide +kernel)
set_option maxRecDepth 20000 in
set_option maxHeartbeats 4000000 in
theorem body_X6_end (o : Nat) (n : Int) (μ : Mem) (K : List AV → Mem → Prop) (V : Nat → List (Option AV) → List AV → Mem → Prop) (hV : Clos FX6 CX6 G_X6_end 1 K cX6_end V) (hT : o = 66 ∧ (InR n ∧ (0 ≤ rI μ 66 6 ∧ rI μ 66 6 ≤ 160) ∧ (0 ≤ n ∧ n ≤ rI μ 66 6 → K [.inl (rI μ 66 6)] (wI μ 66 6 n)) ∧ (¬ (0 ≤ n ∧ n ≤ rI μ 66 6) → K [.inl (-1)] μ))) : V 0 [some (.inr (.inr o)), some (.inl n), none] [] μ := by
  simp only [InR] at hT
  obtain ⟨rfl, h1, h2, h3, h4⟩ := hT
  apply hV [] 60
  simp only [InR, InL, inb, Int.toNat_natCast, wp1, wpc_z, wpc_s, stp_iconst, stp_bipush, stp_sipush, stp_lconst, stp_iload_n, stp_iload, stp_lload_n, stp_lload, stp_aload_n, stp_aload, stp_istore_n, stp_istore, stp_lstore_n, stp_lstore, stp_astore_n, stp_astore, stp_iinc, stp_iadd, stp_isub, stp_imul, stp_ineg, stp_idiv, stp_irem, stp_ladd, stp_lmul, stp_ldiv, stp_lrem, stp_ishl, stp_ishr, stp_iushr, stp_iand, stp_ior, stp_i2l, stp_i2b, stp_i2s, stp_lcmp, stp_dup, stp_dup2, stp_pop, stp_ifCond, stp_if_icmp, stp_goto, stp_tableswitch, stp_lookupswitch, stp_ldc, stp_ldc_w, stp_ldc2_w, stp_getstatic, stp_getfield, stp_putfield, stp_iaload, stp_baload, stp_iastore, stp_bastore, stp_aaload, stp_aastore, stp_invokevirtual, stp_invokestatic, stp_ireturn, stp_lreturn, stp_return_, lg, lset, okl, spl, wd, c1, cnd, tg, swT, swL, f4_0, f4_1, f4_2, f4_3, f2_0, f2_1, List.mem_cons, List.not_mem_nil, List.length_cons, List.length_nil, List.cons_append, List.nil_append, Nat.reduceAdd, Nat.reduceMul, Nat.reduceLT, Nat.reduceEqDiff, Nat.reduceLeDiff, Int.reduceAdd, Int.reduceNeg, Int.reduceToNat, Int.cast_ofNat_Int, Int.reduceNatCast, Int.toNat_zero, Int.toNat_one, Int.reduceLE, Int.reduceLT, Int.reduceEq, Int.zero_add, Int.add_zero, or_false, false_or, or_true, true_or, and_true, true_and, and_false, false_and, reduceIte, not_true_eq_false, not_false_eq_true, forall_const, false_implies, true_implies, implies_true, ne_eq, reduceCtorEq, List.all_cons, List.all_nil, Bool.and_true, Bool.and_self, decide_eq_true_eq, decide_true, dX6_end_0, dX6_end_1, dX6_end_2, dX6_end_3, dX6_end_4, dX6_end_7, dX6_end_8, dX6_end_11, dX6_end_14, dX6_end_15, dX6_end_16, dX6_end_17, dX6_end_20, dX6_end_21, dX6_end_22, dX6_end_23, dX6_end_26, dX6_end_27, FX6_63, G_X6_end_59, kd_66, T6_in]
  repeat' (first | exact trivial | omega | (with_reducible assumption) | exact absurd trivial (by with_reducible assumption) | contradiction | apply And.intro | intro _)
  all_goals first | exact h3 ⟨by omega, by omega⟩ | exact h4 (by omega)
theorem good_X6_end (l : Launch) : Good l 1 yX6_end cX6_end 3 (some .int) T6_end := by
  refine Good.mk 1 (by decide) rfl (by simp [retOK]) FOK6 COK6 (gk_X6_end l) ?_ ?_
  · intro a μ K h
    unfold T6_end at h
    split at h
    · simp [entl]
    · exact h.elim
  · intro a μ K V hV h
    unfold T6_end at h
    split at h
    · exact body_X6_end _ _ μ K V hV h
    · exact h.elim

def T5_end : TT := fun a μ K => match a with
  | [.inr (.inr o), .inl n] => o = 0 ∧ (InR n ∧ (0 ≤ rI μ 19 1 ∧ rI μ 19 1 ≤ 160) ∧ (0 ≤ n ∧ n ≤ rI μ 19 1 → K [.inl (rI μ 19 1)] (wI μ 19 1 n)) ∧ (¬ (0 ≤ n ∧ n ≤ rI μ 19 1) → K [.inl (-1)] μ))
  | _ => False
theorem rec_X5_end : ∀ a μ K, T5_end a μ K → ∃ k r, a = .inr (.inr k) :: r ∧ kd k = 5 := by
  intro a μ K h
  unfold T5_end at h
  split at h
  · exact ⟨_, _, rfl, by rw [h.1]; rfl⟩
  · exact h.elim
def GL_X5_end : List (Nat × Nat × Bool × TT) := [(52, 3, true, T5_isOutside)]
def G_X5_end : Nat → Option (Nat × Bool × TT) := fun i => GL_X5_end.lookup i
theorem G_X5_end_52 : G_X5_end 52 = some (3, true, T5_isOutside) := rfl
theorem gk_X5_end (l : Launch) : ∀ i n b T, G_X5_end i = some (n, b, T) → CallOK l 1 RX5 i n b T := by
  intro i n b T h
  have hm : (i, n, b, T) ∈ GL_X5_end := lk_mem h
  simp only [GL_X5_end, List.mem_cons, List.not_mem_nil, or_false, Prod.mk.injEq] at hm
  rcases hm with ⟨rfl, rfl, rfl, rfl⟩
  · exact CallOK.S (d := 1) (own := RX5) (i := 52) (n := 3) (good_X5_isOutside l) (by decide) (by decide) (mg 191 (by decide +kernel) (by decide +kernel)) (mg 192 (by decide +kernel) (by decide +kernel)) (mg 1 (by decide +kernel) (by decide +kernel)) (mg 193 (by decide +kernel) (by decide +kernel)) (by decide +kernel)
set_option maxRecDepth 20000 in
set_option maxHeartbeats 4000000 in
theorem body_X5_end (o : Nat) (n : Int) (μ : Mem) (K : List AV → Mem → Prop) (V : Nat → List (Option AV) → List AV → Mem → Prop) (hV : Clos FX5 CX5 G_X5_end 1 K cX5_end V) (hT : o = 0 ∧ (InR n ∧ (0 ≤ rI μ 19 1 ∧ rI μ 19 1 ≤ 160) ∧ (0 ≤ n ∧ n ≤ rI μ 19 1 → K [.inl (rI μ 19 1)] (wI μ 19 1 n)) ∧ (¬ (0 ≤ n ∧ n ≤ rI μ 19 1) → K [.inl (-1)] μ))) : V 0 [some (.inr (.inr o)), some (.inl n), none] [] μ := by
  simp only [InR] at hT
  obtain ⟨rfl, h1, h2, h3, h4⟩ := hT
  apply hV [] 60
  simp only [InR, InL, inb, Int.toNat_natCast, wp1, wpc_z, wpc_s, stp_iconst, stp_bipush, stp_sipush, stp_lconst, stp_iload_n, stp_iload, stp_lload_n, stp_lload, stp_aload_n, stp_aload, stp_istore_n, stp_istore, stp_lstore_n, stp_lstore, stp_astore_n, stp_astore, stp_iinc, stp_iadd, stp_isub, stp_imul, stp_ineg, stp_idiv, stp_irem, stp_ladd, stp_lmul, stp_ldiv, stp_lrem, stp_ishl, stp_ishr, stp_iushr, stp_iand, stp_ior, stp_i2l, stp_i2b, stp_i2s, stp_lcmp, stp_dup, stp_dup2, stp_pop, stp_ifCond, stp_if_icmp, stp_goto, stp_tableswitch, stp_lookupswitch, stp_ldc, stp_ldc_w, stp_ldc2_w, stp_getstatic, stp_getfield, stp_putfield, stp_iaload, stp_baload, stp_iastore, stp_bastore, stp_aaload, stp_aastore, stp_invokevirtual, stp_invokestatic, stp_ireturn, stp_lreturn, stp_return_, lg, lset, okl, spl, wd, c1, cnd, tg, swT, swL, f4_0, f4_1, f4_2, f4_3, f2_0, f2_1, List.mem_cons, List.not_mem_nil, List.length_cons, List.length_nil, List.cons_append, List.nil_append, Nat.reduceAdd, Nat.reduceMul, Nat.reduceLT, Nat.reduceEqDiff, Nat.reduceLeDiff, Int.reduceAdd, Int.reduceNeg, Int.reduceToNat, Int.cast_ofNat_Int, Int.reduceNatCast, Int.toNat_zero, Int.toNat_one, Int.reduceLE, Int.reduceLT, Int.reduceEq, Int.zero_add, Int.add_zero, or_false, false_or, or_true, true_or, and_true, true_and, and_false, false_and, reduceIte, not_true_eq_false, not_false_eq_true, forall_const, false_implies, true_implies, implies_true, ne_eq, reduceCtorEq, List.all_cons, List.all_nil, Bool.and_true, Bool.and_self, decide_eq_true_eq, decide_true, dX5_end_0, dX5_end_1, dX5_end_2, dX5_end_3, dX5_end_6, dX5_end_9, dX5_end_12, dX5_end_15, dX5_end_16, dX5_end_17, dX5_end_18, dX5_end_21, dX5_end_24, dX5_end_25, dX5_end_26, dX5_end_29, dX5_end_30, dX5_end_33, dX5_end_34, FX5_29, FX5_56, G_X5_end_52, kd_0, kd_19, T5_isOutside]
  repeat' (first | exact trivial | omega | (with_reducible assumption) | exact absurd trivial (by with_reducible assumption) | contradiction | apply And.intro | intro _)
  all_goals first | exact h3 ⟨by omega, by omega⟩ | exact h4 (by omega)
theorem good_X5_end (l : Launch) : Good l 1 yX5_end cX5_end 3 (some .int) T5_end := by
  refine Good.mk 1 (by decide) rfl (by simp [retOK]) FOK5 COK5 (gk_X5_end l) ?_ ?_
  · intro a μ K h
    unfold T5_end at h
    split at h
    · simp [entl]
    · exact h.elim
  · intro a μ K V hV h
    unfold T5_end at h
    split at h
    · exact body_X5_end _ _ μ K V hV h
    · exact h.elim

def T6_fault : TT := fun a μ K => match a with
  | [.inr (.inr o)] => o = 66 ∧ (K [.inl (rI μ 66 11)] μ)
  | _ => False
theorem rec_X6_fault : ∀ a μ K, T6_fault a μ K → ∃ k r, a = .inr (.inr k) :: r ∧ kd k = 6 := by
  intro a μ K h
  unfold T6_fault at h
  split at h
  · exact ⟨_, _, rfl, by rw [h.1]; rfl⟩
  · exact h.elim
def GL_X6_fault : List (Nat × Nat × Bool × TT) := []
def G_X6_fault : Nat → Option (Nat × Bool × TT) := fun i => GL_X6_fault.lookup i
theorem gk_X6_fault (l : Launch) : ∀ i n b T, G_X6_fault i = some (n, b, T) → CallOK l 0 RX6 i n b T := by
  intro i n b T h
  have hm : (i, n, b, T) ∈ GL_X6_fault := lk_mem h
  simp [GL_X6_fault] at hm
set_option maxRecDepth 20000 in
set_option maxHeartbeats 4000000 in
theorem body_X6_fault (o : Nat) (μ : Mem) (K : List AV → Mem → Prop) (V : Nat → List (Option AV) → List AV → Mem → Prop) (hV : Clos FX6 CX6 G_X6_fault 1 K cX6_fault V) (hT : o = 66 ∧ (K [.inl (rI μ 66 11)] μ)) : V 0 [some (.inr (.inr o))] [] μ := by
  obtain ⟨rfl, hK⟩ := hT
  apply hV [] 20
  simp only [InR, InL, inb, Int.toNat_natCast, wp1, wpc_z, wpc_s, stp_iconst, stp_bipush, stp_sipush, stp_lconst, stp_iload_n, stp_iload, stp_lload_n, stp_lload, stp_aload_n, stp_aload, stp_istore_n, stp_istore, stp_lstore_n, stp_lstore, stp_astore_n, stp_astore, stp_iinc, stp_iadd, stp_isub, stp_imul, stp_ineg, stp_idiv, stp_irem, stp_ladd, stp_lmul, stp_ldiv, stp_lrem, stp_ishl, stp_ishr, stp_iushr, stp_iand, stp_ior, stp_i2l, stp_i2b, stp_i2s, stp_lcmp, stp_dup, stp_dup2, stp_pop, stp_ifCond, stp_if_icmp, stp_goto, stp_tableswitch, stp_lookupswitch, stp_ldc, stp_ldc_w, stp_ldc2_w, stp_getstatic, stp_getfield, stp_putfield, stp_iaload, stp_baload, stp_iastore, stp_bastore, stp_aaload, stp_aastore, stp_invokevirtual, stp_invokestatic, stp_ireturn, stp_lreturn, stp_return_, lg, lset, okl, spl, wd, c1, cnd, tg, swT, swL, f4_0, f4_1, f4_2, f4_3, f2_0, f2_1, List.mem_cons, List.not_mem_nil, List.length_cons, List.length_nil, List.cons_append, List.nil_append, Nat.reduceAdd, Nat.reduceMul, Nat.reduceLT, Nat.reduceEqDiff, Nat.reduceLeDiff, Int.reduceAdd, Int.reduceNeg, Int.reduceToNat, Int.cast_ofNat_Int, Int.reduceNatCast, Int.toNat_zero, Int.toNat_one, Int.reduceLE, Int.reduceLT, Int.reduceEq, Int.zero_add, Int.add_zero, or_false, false_or, or_true, true_or, and_true, true_and, and_false, false_and, reduceIte, not_true_eq_false, not_false_eq_true, forall_const, false_implies, true_implies, implies_true, ne_eq, reduceCtorEq, List.all_cons, List.all_nil, Bool.and_true, Bool.and_self, decide_eq_true_eq, decide_true, dX6_fault_0, dX6_fault_1, dX6_fault_4, FX6_67, kd_66]
  exact hK
theorem good_X6_fault (l : Launch) : Good l 0 yX6_fault cX6_fault 1 (some .int) T6_fault := by
  refine Good.mk 1 (by decide) rfl (by simp [retOK]) FOK6 COK6 (gk_X6_fault l) ?_ ?_
  · intro a μ K h
    unfold T6_fault at h
    split at h
    · simp [entl]
    · exact h.elim
  · intro a μ K V hV h
    unfold T6_fault at h
    split at h
    · exact body_X6_fault _ μ K V hV h
    · exact h.elim

def T5_fault : TT := fun a μ K => match a with
  | [.inr (.inr o)] => o = 0 ∧ (K [.inl (rI μ 19 2)] μ)
  | _ => False
theorem rec_X5_fault : ∀ a μ K, T5_fault a μ K → ∃ k r, a = .inr (.inr k) :: r ∧ kd k = 5 := by
  intro a μ K h
  unfold T5_fault at h
  split at h
  · exact ⟨_, _, rfl, by rw [h.1]; rfl⟩
  · exact h.elim
def GL_X5_fault : List (Nat × Nat × Bool × TT) := []
def G_X5_fault : Nat → Option (Nat × Bool × TT) := fun i => GL_X5_fault.lookup i
theorem gk_X5_fault (l : Launch) : ∀ i n b T, G_X5_fault i = some (n, b, T) → CallOK l 0 RX5 i n b T := by
  intro i n b T h
  have hm : (i, n, b, T) ∈ GL_X5_fault := lk_mem h
  simp [GL_X5_fault] at hm
set_option maxRecDepth 20000 in
set_option maxHeartbeats 4000000 in
theorem body_X5_fault (o : Nat) (μ : Mem) (K : List AV → Mem → Prop) (V : Nat → List (Option AV) → List AV → Mem → Prop) (hV : Clos FX5 CX5 G_X5_fault 1 K cX5_fault V) (hT : o = 0 ∧ (K [.inl (rI μ 19 2)] μ)) : V 0 [some (.inr (.inr o))] [] μ := by
  obtain ⟨rfl, hK⟩ := hT
  apply hV [] 20
  simp only [InR, InL, inb, Int.toNat_natCast, wp1, wpc_z, wpc_s, stp_iconst, stp_bipush, stp_sipush, stp_lconst, stp_iload_n, stp_iload, stp_lload_n, stp_lload, stp_aload_n, stp_aload, stp_istore_n, stp_istore, stp_lstore_n, stp_lstore, stp_astore_n, stp_astore, stp_iinc, stp_iadd, stp_isub, stp_imul, stp_ineg, stp_idiv, stp_irem, stp_ladd, stp_lmul, stp_ldiv, stp_lrem, stp_ishl, stp_ishr, stp_iushr, stp_iand, stp_ior, stp_i2l, stp_i2b, stp_i2s, stp_lcmp, stp_dup, stp_dup2, stp_pop, stp_ifCond, stp_if_icmp, stp_goto, stp_tableswitch, stp_lookupswitch, stp_ldc, stp_ldc_w, stp_ldc2_w, stp_getstatic, stp_getfield, stp_putfield, stp_iaload, stp_baload, stp_iastore, stp_bastore, stp_aaload, stp_aastore, stp_invokevirtual, stp_invokestatic, stp_ireturn, stp_lreturn, stp_return_, lg, lset, okl, spl, wd, c1, cnd, tg, swT, swL, f4_0, f4_1, f4_2, f4_3, f2_0, f2_1, List.mem_cons, List.not_mem_nil, List.length_cons, List.length_nil, List.cons_append, List.nil_append, Nat.reduceAdd, Nat.reduceMul, Nat.reduceLT, Nat.reduceEqDiff, Nat.reduceLeDiff, Int.reduceAdd, Int.reduceNeg, Int.reduceToNat, Int.cast_ofNat_Int, Int.reduceNatCast, Int.toNat_zero, Int.toNat_one, Int.reduceLE, Int.reduceLT, Int.reduceEq, Int.zero_add, Int.add_zero, or_false, false_or, or_true, true_or, and_true, true_and, and_false, false_and, reduceIte, not_true_eq_false, not_false_eq_true, forall_const, false_implies, true_implies, implies_true, ne_eq, reduceCtorEq, List.all_cons, List.all_nil, Bool.and_true, Bool.and_self, decide_eq_true_eq, decide_true, dX5_fault_0, dX5_fault_1, dX5_fault_4, dX5_fault_7, FX5_29, FX5_68, kd_0, kd_19]
  exact hK
theorem good_X5_fault (l : Launch) : Good l 0 yX5_fault cX5_fault 1 (some .int) T5_fault := by
  refine Good.mk 1 (by decide) rfl (by simp [retOK]) FOK5 COK5 (gk_X5_fault l) ?_ ?_
  · intro a μ K h
    unfold T5_fault at h
    split at h
    · simp [entl]
    · exact h.elim
  · intro a μ K V hV h
    unfold T5_fault at h
    split at h
    · exact body_X5_fault _ μ K V hV h
    · exact h.elim

def T6_torn : TT := fun a μ K => match a with
  | [.inr (.inr o)] => o = 66 ∧ (K [.inl (rI μ 66 28)] μ)
  | _ => False
theorem rec_X6_torn : ∀ a μ K, T6_torn a μ K → ∃ k r, a = .inr (.inr k) :: r ∧ kd k = 6 := by
  intro a μ K h
  unfold T6_torn at h
  split at h
  · exact ⟨_, _, rfl, by rw [h.1]; rfl⟩
  · exact h.elim
def GL_X6_torn : List (Nat × Nat × Bool × TT) := []
def G_X6_torn : Nat → Option (Nat × Bool × TT) := fun i => GL_X6_torn.lookup i
theorem gk_X6_torn (l : Launch) : ∀ i n b T, G_X6_torn i = some (n, b, T) → CallOK l 0 RX6 i n b T := by
  intro i n b T h
  have hm : (i, n, b, T) ∈ GL_X6_torn := lk_mem h
  simp [GL_X6_torn] at hm
set_option maxRecDepth 20000 in
set_option maxHeartbeats 4000000 in
theorem body_X6_torn (o : Nat) (μ : Mem) (K : List AV → Mem → Prop) (V : Nat → List (Option AV) → List AV → Mem → Prop) (hV : Clos FX6 CX6 G_X6_torn 1 K cX6_torn V) (hT : o = 66 ∧ (K [.inl (rI μ 66 28)] μ)) : V 0 [some (.inr (.inr o))] [] μ := by
  obtain ⟨rfl, hK⟩ := hT
  apply hV [] 20
  simp only [InR, InL, inb, Int.toNat_natCast, wp1, wpc_z, wpc_s, stp_iconst, stp_bipush, stp_sipush, stp_lconst, stp_iload_n, stp_iload, stp_lload_n, stp_lload, stp_aload_n, stp_aload, stp_istore_n, stp_istore, stp_lstore_n, stp_lstore, stp_astore_n, stp_astore, stp_iinc, stp_iadd, stp_isub, stp_imul, stp_ineg, stp_idiv, stp_irem, stp_ladd, stp_lmul, stp_ldiv, stp_lrem, stp_ishl, stp_ishr, stp_iushr, stp_iand, stp_ior, stp_i2l, stp_i2b, stp_i2s, stp_lcmp, stp_dup, stp_dup2, stp_pop, stp_ifCond, stp_if_icmp, stp_goto, stp_tableswitch, stp_lookupswitch, stp_ldc, stp_ldc_w, stp_ldc2_w, stp_getstatic, stp_getfield, stp_putfield, stp_iaload, stp_baload, stp_iastore, stp_bastore, stp_aaload, stp_aastore, stp_invokevirtual, stp_invokestatic, stp_ireturn, stp_lreturn, stp_return_, lg, lset, okl, spl, wd, c1, cnd, tg, swT, swL, f4_0, f4_1, f4_2, f4_3, f2_0, f2_1, List.mem_cons, List.not_mem_nil, List.length_cons, List.length_nil, List.cons_append, List.nil_append, Nat.reduceAdd, Nat.reduceMul, Nat.reduceLT, Nat.reduceEqDiff, Nat.reduceLeDiff, Int.reduceAdd, Int.reduceNeg, Int.reduceToNat, Int.cast_ofNat_Int, Int.reduceNatCast, Int.toNat_zero, Int.toNat_one, Int.reduceLE, Int.reduceLT, Int.reduceEq, Int.zero_add, Int.add_zero, or_false, false_or, or_true, true_or, and_true, true_and, and_false, false_and, reduceIte, not_true_eq_false, not_false_eq_true, forall_const, false_implies, true_implies, implies_true, ne_eq, reduceCtorEq, List.all_cons, List.all_nil, Bool.and_true, Bool.and_self, decide_eq_true_eq, decide_true, dX6_torn_0, dX6_torn_1, dX6_torn_4, FX6_283, kd_66]
  exact hK
theorem good_X6_torn (l : Launch) : Good l 0 yX6_torn cX6_torn 1 (some .int) T6_torn := by
  refine Good.mk 1 (by decide) rfl (by simp [retOK]) FOK6 COK6 (gk_X6_torn l) ?_ ?_
  · intro a μ K h
    unfold T6_torn at h
    split at h
    · simp [entl]
    · exact h.elim
  · intro a μ K V hV h
    unfold T6_torn at h
    split at h
    · exact body_X6_torn _ μ K V hV h
    · exact h.elim

def T5_torn : TT := fun a μ K => match a with
  | [.inr (.inr o)] => o = 0 ∧ (K [.inl (rI μ 0 7)] μ)
  | _ => False
theorem rec_X5_torn : ∀ a μ K, T5_torn a μ K → ∃ k r, a = .inr (.inr k) :: r ∧ kd k = 5 := by
  intro a μ K h
  unfold T5_torn at h
  split at h
  · exact ⟨_, _, rfl, by rw [h.1]; rfl⟩
  · exact h.elim
def GL_X5_torn : List (Nat × Nat × Bool × TT) := []
def G_X5_torn : Nat → Option (Nat × Bool × TT) := fun i => GL_X5_torn.lookup i
theorem gk_X5_torn (l : Launch) : ∀ i n b T, G_X5_torn i = some (n, b, T) → CallOK l 0 RX5 i n b T := by
  intro i n b T h
  have hm : (i, n, b, T) ∈ GL_X5_torn := lk_mem h
  simp [GL_X5_torn] at hm
set_option maxRecDepth 20000 in
set_option maxHeartbeats 4000000 in
theorem body_X5_torn (o : Nat) (μ : Mem) (K : List AV → Mem → Prop) (V : Nat → List (Option AV) → List AV → Mem → Prop) (hV : Clos FX5 CX5 G_X5_torn 1 K cX5_torn V) (hT : o = 0 ∧ (K [.inl (rI μ 0 7)] μ)) : V 0 [some (.inr (.inr o))] [] μ := by
  obtain ⟨rfl, hK⟩ := hT
  apply hV [] 20
  simp only [InR, InL, inb, Int.toNat_natCast, wp1, wpc_z, wpc_s, stp_iconst, stp_bipush, stp_sipush, stp_lconst, stp_iload_n, stp_iload, stp_lload_n, stp_lload, stp_aload_n, stp_aload, stp_istore_n, stp_istore, stp_lstore_n, stp_lstore, stp_astore_n, stp_astore, stp_iinc, stp_iadd, stp_isub, stp_imul, stp_ineg, stp_idiv, stp_irem, stp_ladd, stp_lmul, stp_ldiv, stp_lrem, stp_ishl, stp_ishr, stp_iushr, stp_iand, stp_ior, stp_i2l, stp_i2b, stp_i2s, stp_lcmp, stp_dup, stp_dup2, stp_pop, stp_ifCond, stp_if_icmp, stp_goto, stp_tableswitch, stp_lookupswitch, stp_ldc, stp_ldc_w, stp_ldc2_w, stp_getstatic, stp_getfield, stp_putfield, stp_iaload, stp_baload, stp_iastore, stp_bastore, stp_aaload, stp_aastore, stp_invokevirtual, stp_invokestatic, stp_ireturn, stp_lreturn, stp_return_, lg, lset, okl, spl, wd, c1, cnd, tg, swT, swL, f4_0, f4_1, f4_2, f4_3, f2_0, f2_1, List.mem_cons, List.not_mem_nil, List.length_cons, List.length_nil, List.cons_append, List.nil_append, Nat.reduceAdd, Nat.reduceMul, Nat.reduceLT, Nat.reduceEqDiff, Nat.reduceLeDiff, Int.reduceAdd, Int.reduceNeg, Int.reduceToNat, Int.cast_ofNat_Int, Int.reduceNatCast, Int.toNat_zero, Int.toNat_one, Int.reduceLE, Int.reduceLT, Int.reduceEq, Int.zero_add, Int.add_zero, or_false, false_or, or_true, true_or, and_true, true_and, and_false, false_and, reduceIte, not_true_eq_false, not_false_eq_true, forall_const, false_implies, true_implies, implies_true, ne_eq, reduceCtorEq, List.all_cons, List.all_nil, Bool.and_true, Bool.and_self, decide_eq_true_eq, decide_true, dX5_torn_0, dX5_torn_1, dX5_torn_4, FX5_213, kd_0]
  exact hK
theorem good_X5_torn (l : Launch) : Good l 0 yX5_torn cX5_torn 1 (some .int) T5_torn := by
  refine Good.mk 1 (by decide) rfl (by simp [retOK]) FOK5 COK5 (gk_X5_torn l) ?_ ?_
  · intro a μ K h
    unfold T5_torn at h
    split at h
    · simp [entl]
    · exact h.elim
  · intro a μ K V hV h
    unfold T5_torn at h
    split at h
    · exact body_X5_torn _ μ K V hV h
    · exact h.elim

def T6_station : TT := fun a μ K => match a with
  | [.inr (.inr o), .inl i, .inl w] => o = 66 ∧ (InR i ∧ InR w ∧ (0 ≤ rI μ 67 35 ∧ rI μ 67 35 ≤ 5) ∧ ((0 ≤ i ∧ i < rI μ 67 35) ∧ 0 ≤ w ∧ w ≤ 6 → K [.inl (rI μ 67 (7 * i.toNat + w.toNat))] μ) ∧ (¬ ((0 ≤ i ∧ i < rI μ 67 35) ∧ 0 ≤ w ∧ w ≤ 6) → K [.inl (-1)] μ))
  | _ => False
theorem rec_X6_station : ∀ a μ K, T6_station a μ K → ∃ k r, a = .inr (.inr k) :: r ∧ kd k = 6 := by
  intro a μ K h
  unfold T6_station at h
  split at h
  · exact ⟨_, _, rfl, by rw [h.1]; rfl⟩
  · exact h.elim
def GL_X6_station : List (Nat × Nat × Bool × TT) := [(180, 2, false, T6_isStation), (59, 3, true, T6_in)]
def G_X6_station : Nat → Option (Nat × Bool × TT) := fun i => GL_X6_station.lookup i
theorem G_X6_station_180 : G_X6_station 180 = some (2, false, T6_isStation) := rfl
theorem G_X6_station_59 : G_X6_station 59 = some (3, true, T6_in) := rfl
theorem gk_X6_station (l : Launch) : ∀ i n b T, G_X6_station i = some (n, b, T) → CallOK l 2 RX6 i n b T := by
  intro i n b T h
  have hm : (i, n, b, T) ∈ GL_X6_station := lk_mem h
  simp only [GL_X6_station, List.mem_cons, List.not_mem_nil, or_false, Prod.mk.injEq] at hm
  rcases hm with ⟨rfl, rfl, rfl, rfl⟩ | ⟨rfl, rfl, rfl, rfl⟩
  · exact CallOK.V (d := 2) (own := RX6) (i := 180) (n := 1) (ci := 6) (good_X6_isStation l) (by decide) (by decide) rfl (by decide) rec_X6_isStation (mg 796 (by decide +kernel) (by decide +kernel)) (mg 798 (by decide +kernel) (by decide +kernel)) (mgs 38 (by decide +kernel) (by decide +kernel)) (mg 7 (by decide +kernel) (by decide +kernel)) (mg 799 (by decide +kernel) (by decide +kernel)) (by decide +kernel)
  · exact CallOK.S (d := 2) (own := RX6) (i := 59) (n := 3) (good_X6_in l) (by decide) (by decide) (mg 708 (by decide +kernel) (by decide +kernel)) (mg 709 (by decide +kernel) (by decide +kernel)) (mg 7 (by decide +kernel) (by decide +kernel)) (mg 710 (by decide +kernel) (by decide +kernel)) (by decide +kernel)
set_option maxRecDepth 20000 in
set_option maxHeartbeats 4000000 in
theorem body_X6_station (o : Nat) (i : Int) (w : Int) (μ : Mem) (K : List AV → Mem → Prop) (V : Nat → List (Option AV) → List AV → Mem → Prop) (hV : Clos FX6 CX6 G_X6_station 1 K cX6_station V) (hT : o = 66 ∧ (InR i ∧ InR w ∧ (0 ≤ rI μ 67 35 ∧ rI μ 67 35 ≤ 5) ∧ ((0 ≤ i ∧ i < rI μ 67 35) ∧ 0 ≤ w ∧ w ≤ 6 → K [.inl (rI μ 67 (7 * i.toNat + w.toNat))] μ) ∧ (¬ ((0 ≤ i ∧ i < rI μ 67 35) ∧ 0 ≤ w ∧ w ≤ 6) → K [.inl (-1)] μ))) : V 0 [some (.inr (.inr o)), some (.inl i), some (.inl w)] [] μ := by
  simp only [InR] at hT
  obtain ⟨rfl, h1, h2, h3, h4, h5⟩ := hT
  apply hV [] 60
  simp only [InR, InL, inb, Int.toNat_natCast, wp1, wpc_z, wpc_s, stp_iconst, stp_bipush, stp_sipush, stp_lconst, stp_iload_n, stp_iload, stp_lload_n, stp_lload, stp_aload_n, stp_aload, stp_istore_n, stp_istore, stp_lstore_n, stp_lstore, stp_astore_n, stp_astore, stp_iinc, stp_iadd, stp_isub, stp_imul, stp_ineg, stp_idiv, stp_irem, stp_ladd, stp_lmul, stp_ldiv, stp_lrem, stp_ishl, stp_ishr, stp_iushr, stp_iand, stp_ior, stp_i2l, stp_i2b, stp_i2s, stp_lcmp, stp_dup, stp_dup2, stp_pop, stp_ifCond, stp_if_icmp, stp_goto, stp_tableswitch, stp_lookupswitch, stp_ldc, stp_ldc_w, stp_ldc2_w, stp_getstatic, stp_getfield, stp_putfield, stp_iaload, stp_baload, stp_iastore, stp_bastore, stp_aaload, stp_aastore, stp_invokevirtual, stp_invokestatic, stp_ireturn, stp_lreturn, stp_return_, lg, lset, okl, spl, wd, c1, cnd, tg, swT, swL, f4_0, f4_1, f4_2, f4_3, f2_0, f2_1, List.mem_cons, List.not_mem_nil, List.length_cons, List.length_nil, List.cons_append, List.nil_append, Nat.reduceAdd, Nat.reduceMul, Nat.reduceLT, Nat.reduceEqDiff, Nat.reduceLeDiff, Int.reduceAdd, Int.reduceNeg, Int.reduceToNat, Int.cast_ofNat_Int, Int.reduceNatCast, Int.toNat_zero, Int.toNat_one, Int.reduceLE, Int.reduceLT, Int.reduceEq, Int.zero_add, Int.add_zero, or_false, false_or, or_true, true_or, and_true, true_and, and_false, false_and, reduceIte, not_true_eq_false, not_false_eq_true, forall_const, false_implies, true_implies, implies_true, ne_eq, reduceCtorEq, List.all_cons, List.all_nil, Bool.and_true, Bool.and_self, decide_eq_true_eq, decide_true, dX6_station_0, dX6_station_1, dX6_station_2, dX6_station_5, dX6_station_8, dX6_station_9, dX6_station_10, dX6_station_11, dX6_station_14, dX6_station_17, dX6_station_20, dX6_station_21, dX6_station_24, dX6_station_26, dX6_station_27, dX6_station_28, dX6_station_29, dX6_station_30, dX6_station_31, dX6_station_34, dX6_station_35, CX6_183, FX6_7, G_X6_station_180, G_X6_station_59, kd_66, kd_67, ln_67, T6_isStation, T6_in]
  by_cases hc : (0 ≤ i ∧ i < rI μ 67 35) ∧ 0 ≤ w ∧ w ≤ 6
  · have h4 := h4 hc
    rw [show 7 * i.toNat + w.toNat = (7 * i + w).toNat by omega] at h4
    repeat' (first | exact trivial | omega | (with_reducible assumption) | exact absurd trivial (by with_reducible assumption) | contradiction | apply And.intro | intro _)
  · have h5 := h5 hc
    repeat' (first | exact trivial | omega | (with_reducible assumption) | exact absurd trivial (by with_reducible assumption) | contradiction | apply And.intro | intro _)
theorem good_X6_station (l : Launch) : Good l 2 yX6_station cX6_station 3 (some .int) T6_station := by
  refine Good.mk 1 (by decide) rfl (by simp [retOK]) FOK6 COK6 (gk_X6_station l) ?_ ?_
  · intro a μ K h
    unfold T6_station at h
    split at h
    · simp [entl]
    · exact h.elim
  · intro a μ K V hV h
    unfold T6_station at h
    split at h
    · exact body_X6_station _ _ _ μ K V hV h
    · exact h.elim

def T5_station : TT := fun a μ K => match a with
  | [.inr (.inr o), .inl i, .inl w] => o = 0 ∧ (InR i ∧ InR w ∧ ∃ f, RG μ 1 f ∧ (0 ≤ f 35 ∧ f 35 ≤ 5) ∧ ((0 ≤ i ∧ i < f 35) ∧ 0 ≤ w ∧ w ≤ 6 → K [.inl (f (7 * i.toNat + w.toNat))] μ) ∧ (¬ ((0 ≤ i ∧ i < f 35) ∧ 0 ≤ w ∧ w ≤ 6) → K [.inl (-1)] μ))
  | _ => False
theorem rec_X5_station : ∀ a μ K, T5_station a μ K → ∃ k r, a = .inr (.inr k) :: r ∧ kd k = 5 := by
  intro a μ K h
  unfold T5_station at h
  split at h
  · exact ⟨_, _, rfl, by rw [h.1]; rfl⟩
  · exact h.elim
def GL_X5_station : List (Nat × Nat × Bool × TT) := [(111, 2, false, T1_has), (52, 3, true, T5_isOutside)]
def G_X5_station : Nat → Option (Nat × Bool × TT) := fun i => GL_X5_station.lookup i
theorem G_X5_station_111 : G_X5_station 111 = some (2, false, T1_has) := rfl
theorem G_X5_station_52 : G_X5_station 52 = some (3, true, T5_isOutside) := rfl
theorem gk_X5_station (l : Launch) : ∀ i n b T, G_X5_station i = some (n, b, T) → CallOK l 1 RX5 i n b T := by
  intro i n b T h
  have hm : (i, n, b, T) ∈ GL_X5_station := lk_mem h
  simp only [GL_X5_station, List.mem_cons, List.not_mem_nil, or_false, Prod.mk.injEq] at hm
  rcases hm with ⟨rfl, rfl, rfl, rfl⟩ | ⟨rfl, rfl, rfl, rfl⟩
  · exact CallOK.V (d := 1) (own := RX5) (i := 111) (n := 1) (ci := 1) (good_X1_has l) (by decide) (by decide) rfl (by decide) rec_X1_has (mg 351 (by decide +kernel) (by decide +kernel)) (mg 313 (by decide +kernel) (by decide +kernel)) (mg 314 (by decide +kernel) (by decide +kernel)) (mg 2 (by decide +kernel) (by decide +kernel)) (mg 315 (by decide +kernel) (by decide +kernel)) (by decide +kernel)
  · exact CallOK.S (d := 1) (own := RX5) (i := 52) (n := 3) (good_X5_isOutside l) (by decide) (by decide) (mg 191 (by decide +kernel) (by decide +kernel)) (mg 192 (by decide +kernel) (by decide +kernel)) (mg 1 (by decide +kernel) (by decide +kernel)) (mg 193 (by decide +kernel) (by decide +kernel)) (by decide +kernel)
set_option maxRecDepth 20000 in
set_option maxHeartbeats 4000000 in
theorem body_X5_station (o : Nat) (i : Int) (w : Int) (μ : Mem) (K : List AV → Mem → Prop) (V : Nat → List (Option AV) → List AV → Mem → Prop) (hV : Clos FX5 CX5 G_X5_station 1 K cX5_station V) (hT : o = 0 ∧ (InR i ∧ InR w ∧ ∃ f, RG μ 1 f ∧ (0 ≤ f 35 ∧ f 35 ≤ 5) ∧ ((0 ≤ i ∧ i < f 35) ∧ 0 ≤ w ∧ w ≤ 6 → K [.inl (f (7 * i.toNat + w.toNat))] μ) ∧ (¬ ((0 ≤ i ∧ i < f 35) ∧ 0 ≤ w ∧ w ≤ 6) → K [.inl (-1)] μ))) : V 0 [some (.inr (.inr o)), some (.inl i), some (.inl w)] [] μ := by
  simp only [InR] at hT
  obtain ⟨rfl, h1, h2, f, hR, h3, h4, h5⟩ := hT
  have r35 := hR.2.1
  obtain ⟨k12, l5, k7⟩ := ringk kd_1
  by_cases hc : (0 ≤ i ∧ i < f 35) ∧ 0 ≤ w ∧ w ≤ 6
  · have h4 := h4 hc
    obtain ⟨i', rfl⟩ := Int.eq_ofNat_of_zero_le hc.1.1
    obtain ⟨w', rfl⟩ := Int.eq_ofNat_of_zero_le hc.2.1
    have hr : 3 ≤ rR μ 2 i' ∧ rR μ 2 i' ≤ 7 := hR.1.1 i' (by omega)
    obtain ⟨d1, d2⟩ := k7 _ hr.1 hr.2
    have ee : el μ 2 i' = rR μ 2 i' := elr (B := 1) k12 i'
    have v : rI μ (rR μ 2 i') w' = f (7 * i' + w') := hR.row (by omega) (by omega)
    rw [Int.toNat_natCast, Int.toNat_natCast, ← v] at h4
    apply hV [] 60
    simp only [InR, InL, inb, Int.toNat_natCast, wp1, wpc_z, wpc_s, stp_iconst, stp_bipush, stp_sipush, stp_lconst, stp_iload_n, stp_iload, stp_lload_n, stp_lload, stp_aload_n, stp_aload, stp_istore_n, stp_istore, stp_lstore_n, stp_lstore, stp_astore_n, stp_astore, stp_iinc, stp_iadd, stp_isub, stp_imul, stp_ineg, stp_idiv, stp_irem, stp_ladd, stp_lmul, stp_ldiv, stp_lrem, stp_ishl, stp_ishr, stp_iushr, stp_iand, stp_ior, stp_i2l, stp_i2b, stp_i2s, stp_lcmp, stp_dup, stp_dup2, stp_pop, stp_ifCond, stp_if_icmp, stp_goto, stp_tableswitch, stp_lookupswitch, stp_ldc, stp_ldc_w, stp_ldc2_w, stp_getstatic, stp_getfield, stp_putfield, stp_iaload, stp_baload, stp_iastore, stp_bastore, stp_aaload, stp_aastore, stp_invokevirtual, stp_invokestatic, stp_ireturn, stp_lreturn, stp_return_, lg, lset, okl, spl, wd, c1, cnd, tg, swT, swL, f4_0, f4_1, f4_2, f4_3, f2_0, f2_1, List.mem_cons, List.not_mem_nil, List.length_cons, List.length_nil, List.cons_append, List.nil_append, Nat.reduceAdd, Nat.reduceMul, Nat.reduceLT, Nat.reduceEqDiff, Nat.reduceLeDiff, Int.reduceAdd, Int.reduceNeg, Int.reduceToNat, Int.cast_ofNat_Int, Int.reduceNatCast, Int.toNat_zero, Int.toNat_one, Int.reduceLE, Int.reduceLT, Int.reduceEq, Int.zero_add, Int.add_zero, or_false, false_or, or_true, true_or, and_true, true_and, and_false, false_and, reduceIte, not_true_eq_false, not_false_eq_true, forall_const, false_implies, true_implies, implies_true, ne_eq, reduceCtorEq, List.all_cons, List.all_nil, Bool.and_true, Bool.and_self, decide_eq_true_eq, decide_true, dX5_station_0, dX5_station_1, dX5_station_4, dX5_station_5, dX5_station_8, dX5_station_11, dX5_station_12, dX5_station_13, dX5_station_15, dX5_station_18, dX5_station_21, dX5_station_22, dX5_station_23, dX5_station_24, dX5_station_27, dX5_station_30, dX5_station_31, dX5_station_32, dX5_station_33, dX5_station_34, FX5_10, FX5_115, G_X5_station_111, G_X5_station_52, kd_0, kd_1, kd_2, ln_2, T1_has, T5_isOutside, r35, ee, d1, d2]
    repeat' (first | exact trivial | omega | (with_reducible assumption) | exact absurd trivial (by with_reducible assumption) | contradiction | apply And.intro | intro _)
  · have h5 := h5 hc
    apply hV [23] 60
    simp only [InR, InL, inb, Int.toNat_natCast, wp1, wpc_z, wpc_s, stp_iconst, stp_bipush, stp_sipush, stp_lconst, stp_iload_n, stp_iload, stp_lload_n, stp_lload, stp_aload_n, stp_aload, stp_istore_n, stp_istore, stp_lstore_n, stp_lstore, stp_astore_n, stp_astore, stp_iinc, stp_iadd, stp_isub, stp_imul, stp_ineg, stp_idiv, stp_irem, stp_ladd, stp_lmul, stp_ldiv, stp_lrem, stp_ishl, stp_ishr, stp_iushr, stp_iand, stp_ior, stp_i2l, stp_i2b, stp_i2s, stp_lcmp, stp_dup, stp_dup2, stp_pop, stp_ifCond, stp_if_icmp, stp_goto, stp_tableswitch, stp_lookupswitch, stp_ldc, stp_ldc_w, stp_ldc2_w, stp_getstatic, stp_getfield, stp_putfield, stp_iaload, stp_baload, stp_iastore, stp_bastore, stp_aaload, stp_aastore, stp_invokevirtual, stp_invokestatic, stp_ireturn, stp_lreturn, stp_return_, lg, lset, okl, spl, wd, c1, cnd, tg, swT, swL, f4_0, f4_1, f4_2, f4_3, f2_0, f2_1, List.mem_cons, List.not_mem_nil, List.length_cons, List.length_nil, List.cons_append, List.nil_append, Nat.reduceAdd, Nat.reduceMul, Nat.reduceLT, Nat.reduceEqDiff, Nat.reduceLeDiff, Int.reduceAdd, Int.reduceNeg, Int.reduceToNat, Int.cast_ofNat_Int, Int.reduceNatCast, Int.toNat_zero, Int.toNat_one, Int.reduceLE, Int.reduceLT, Int.reduceEq, Int.zero_add, Int.add_zero, or_false, false_or, or_true, true_or, and_true, true_and, and_false, false_and, reduceIte, not_true_eq_false, not_false_eq_true, forall_const, false_implies, true_implies, implies_true, ne_eq, reduceCtorEq, List.all_cons, List.all_nil, Bool.and_true, Bool.and_self, decide_eq_true_eq, decide_true, dX5_station_0, dX5_station_1, dX5_station_4, dX5_station_5, dX5_station_8, dX5_station_11, dX5_station_12, dX5_station_13, dX5_station_15, dX5_station_18, dX5_station_21, dX5_station_22, dX5_station_23, dX5_station_24, dX5_station_27, dX5_station_30, dX5_station_31, dX5_station_32, dX5_station_33, dX5_station_34, FX5_10, FX5_115, G_X5_station_111, G_X5_station_52, kd_0, kd_1, kd_2, ln_2, T1_has, T5_isOutside, r35]
    repeat' (first | exact trivial | omega | (with_reducible assumption) | exact absurd trivial (by with_reducible assumption) | contradiction | apply And.intro | intro _)
theorem good_X5_station (l : Launch) : Good l 1 yX5_station cX5_station 3 (some .int) T5_station := by
  refine Good.mk 1 (by decide) rfl (by simp [retOK]) FOK5 COK5 (gk_X5_station l) ?_ ?_
  · intro a μ K h
    unfold T5_station at h
    split at h
    · simp [entl]
    · exact h.elim
  · intro a μ K V hV h
    unfold T5_station at h
    split at h
    · exact body_X5_station _ _ _ μ K V hV h
    · exact h.elim

