/-! the class: lines, the text -/
theorem sl_0 : slI (110 - 110) = 5 := rfl
theorem sl_1 : slI (111 - 110) = 6 := rfl
theorem sl_2 : slI (112 - 110) = 4 := rfl
theorem sl_3 : slI (113 - 110) = 4 := rfl
theorem sl_4 : slI (114 - 110) = 4 := rfl
theorem sc_0 : scI (110 - 110) 0 = 112 ∧ scI (110 - 110) 1 = 108 ∧ scI (110 - 110) 2 = 97 ∧ scI (110 - 110) 3 = 105 ∧ scI (110 - 110) 4 = 110 := ⟨rfl, rfl, rfl, rfl, rfl⟩
theorem sc_1 : scI (111 - 110) 0 = 103 ∧ scI (111 - 110) 1 = 114 ∧ scI (111 - 110) 2 = 101 ∧ scI (111 - 110) 3 = 101 ∧ scI (111 - 110) 4 = 100 ∧ scI (111 - 110) 5 = 121 := ⟨rfl, rfl, rfl, rfl, rfl, rfl⟩
theorem sc_2 : scI (112 - 110) 0 = 109 ∧ scI (112 - 110) 1 = 101 ∧ scI (112 - 110) 2 = 101 ∧ scI (112 - 110) 3 = 107 := ⟨rfl, rfl, rfl, rfl⟩
theorem sc_3 : scI (113 - 110) 0 = 102 ∧ scI (113 - 110) 1 = 97 ∧ scI (113 - 110) 2 = 105 ∧ scI (113 - 110) 3 = 114 := ⟨rfl, rfl, rfl, rfl⟩
theorem sc_4 : scI (114 - 110) 0 = 119 ∧ scI (114 - 110) 1 = 111 ∧ scI (114 - 110) 2 = 114 ∧ scI (114 - 110) 3 = 100 := ⟨rfl, rfl, rfl, rfl⟩
def T4_isNamed : TT := fun a μ K => match a with
  | [.inr (.inr o), .inr (.inr s)] => o = 19 ∧ (∃ (j q n : Nat) (b : Nat → Int), s = 110 + j ∧ j < 5 ∧ rI μ 19 6 = q ∧ rI μ 19 4 = n ∧ q ≤ n ∧ n ≤ 160 ∧ (∀ x, rI μ 20 x = b x) ∧ (∀ x, x < 160 → 0 ≤ b x ∧ b x ≤ 127) ∧ (nmB b q ((n : Int) - (q : Int)) j = true → K [.inl 1] μ) ∧ (¬ nmB b q ((n : Int) - (q : Int)) j = true → K [.inl 0] μ))
  | _ => False
theorem rec_X4_isNamed : ∀ a μ K, T4_isNamed a μ K → ∃ k r, a = .inr (.inr k) :: r ∧ kd k = 4 := by
  intro a μ K h
  unfold T4_isNamed at h
  split at h
  · exact ⟨_, _, rfl, by rw [h.1]; rfl⟩
  · exact h.elim
def GL_X4_isNamed : List (Nat × Nat × Bool × TT) := [(103, 1, false, T_len), (107, 2, false, T_chr)]
def G_X4_isNamed : Nat → Option (Nat × Bool × TT) := fun i => GL_X4_isNamed.lookup i
theorem G_X4_isNamed_103 : G_X4_isNamed 103 = some (1, false, T_len) := rfl
theorem G_X4_isNamed_107 : G_X4_isNamed 107 = some (2, false, T_chr) := rfl
theorem gk_X4_isNamed (l : Launch) : ∀ i n b T, G_X4_isNamed i = some (n, b, T) → CallOK l 5 RX4 i n b T := by
  intro i n b T h
  have hm : (i, n, b, T) ∈ GL_X4_isNamed := lk_mem h
  simp only [GL_X4_isNamed, List.mem_cons, List.not_mem_nil, or_false, Prod.mk.injEq] at hm
  rcases hm with ⟨rfl, rfl, rfl, rfl⟩ | ⟨rfl, rfl, rfl, rfl⟩
  · exact CallOK.len (d := 5) (own := RX4) (i := 103) (by decide) (mg 235 (by decide +kernel) (by decide +kernel))
  · exact CallOK.chr (d := 5) (own := RX4) (i := 107) (by decide) (mg 245 (by decide +kernel) (by decide +kernel))
set_option maxRecDepth 20000 in
set_option maxHeartbeats 4000000 in
theorem body_X4_isNamed (o : Nat) (s : Nat) (μ : Mem) (K : List AV → Mem → Prop) (V : Nat → List (Option AV) → List AV → Mem → Prop) (hV : Clos FX4 CX4 G_X4_isNamed 2 K cX4_isNamed V) (hT : o = 19 ∧ (∃ (j q n : Nat) (b : Nat → Int), s = 110 + j ∧ j < 5 ∧ rI μ 19 6 = q ∧ rI μ 19 4 = n ∧ q ≤ n ∧ n ≤ 160 ∧ (∀ x, rI μ 20 x = b x) ∧ (∀ x, x < 160 → 0 ≤ b x ∧ b x ≤ 127) ∧ (nmB b q ((n : Int) - (q : Int)) j = true → K [.inl 1] μ) ∧ (¬ nmB b q ((n : Int) - (q : Int)) j = true → K [.inl 0] μ))) : V 0 [some (.inr (.inr o)), some (.inr (.inr s)), none] [] μ := by
  obtain ⟨rfl, j, q, n, b, rfl, hj, h6, h4, hqn, hn, h20, hb, h1, h0⟩ := hT
  have b0 := fun (h : q < 160) => hb q h
  have b1 := fun (h : q + 1 < 160) => hb (q + 1) h
  have b2 := fun (h : q + 2 < 160) => hb (q + 2) h
  have b3 := fun (h : q + 3 < 160) => hb (q + 3) h
  have b4 := fun (h : q + 4 < 160) => hb (q + 4) h
  have b5 := fun (h : q + 5 < 160) => hb (q + 5) h
  have e1 : ((q : Int) + 1).toNat = q + 1 := by omega
  have e2 : ((q : Int) + 2).toNat = q + 2 := by omega
  have e3 : ((q : Int) + 3).toNat = q + 3 := by omega
  have e4 : ((q : Int) + 4).toNat = q + 4 := by omega
  have e5 : ((q : Int) + 5).toNat = q + 5 := by omega
  rcases (show j = 0 ∨ j = 1 ∨ j = 2 ∨ j = 3 ∨ j = 4 by omega) with rfl | rfl | rfl | rfl | rfl
  · simp only [nmB, decide_eq_true_eq] at h1 h0
    by_cases en : (n : Int) - (q : Int) = 5
    · have b0 := b0 (by omega)
      have b1 := b1 (by omega)
      have b2 := b2 (by omega)
      have b3 := b3 (by omega)
      have b4 := b4 (by omega)
      apply hV [] 160
      simp only [InR, InL, inb, Int.toNat_natCast, wp1, wpc_z, wpc_s, stp_iconst, stp_bipush, stp_sipush, stp_lconst, stp_iload_n, stp_iload, stp_lload_n, stp_lload, stp_aload_n, stp_aload, stp_istore_n, stp_istore, stp_lstore_n, stp_lstore, stp_astore_n, stp_astore, stp_iinc, stp_iadd, stp_isub, stp_imul, stp_ineg, stp_idiv, stp_irem, stp_ladd, stp_lmul, stp_ldiv, stp_lrem, stp_ishl, stp_ishr, stp_iushr, stp_iand, stp_ior, stp_i2l, stp_i2b, stp_i2s, stp_lcmp, stp_dup, stp_dup2, stp_pop, stp_ifCond, stp_if_icmp, stp_goto, stp_tableswitch, stp_lookupswitch, stp_ldc, stp_ldc_w, stp_ldc2_w, stp_getstatic, stp_getfield, stp_putfield, stp_iaload, stp_baload, stp_iastore, stp_bastore, stp_aaload, stp_aastore, stp_invokevirtual, stp_invokestatic, stp_ireturn, stp_lreturn, stp_return_, lg, lset, okl, spl, wd, c1, cnd, tg, swT, swL, f4_0, f4_1, f4_2, f4_3, f2_0, f2_1, List.mem_cons, List.not_mem_nil, List.length_cons, List.length_nil, List.cons_append, List.nil_append, Nat.reduceAdd, Nat.reduceMul, Nat.reduceLT, Nat.reduceEqDiff, Nat.reduceLeDiff, Int.reduceAdd, Int.reduceNeg, Int.reduceToNat, Int.cast_ofNat_Int, Int.reduceNatCast, Int.toNat_zero, Int.toNat_one, Int.reduceLE, Int.reduceLT, Int.reduceEq, Int.zero_add, Int.add_zero, or_false, false_or, or_true, true_or, and_true, true_and, and_false, false_and, reduceIte, not_true_eq_false, not_false_eq_true, forall_const, false_implies, true_implies, implies_true, ne_eq, reduceCtorEq, List.all_cons, List.all_nil, Bool.and_true, Bool.and_self, decide_eq_true_eq, decide_true, dX4_isNamed_0, dX4_isNamed_1, dX4_isNamed_4, dX4_isNamed_5, dX4_isNamed_8, dX4_isNamed_9, dX4_isNamed_10, dX4_isNamed_13, dX4_isNamed_16, dX4_isNamed_17, dX4_isNamed_18, dX4_isNamed_19, dX4_isNamed_20, dX4_isNamed_21, dX4_isNamed_22, dX4_isNamed_25, dX4_isNamed_28, dX4_isNamed_29, dX4_isNamed_32, dX4_isNamed_33, dX4_isNamed_36, dX4_isNamed_37, dX4_isNamed_38, dX4_isNamed_39, dX4_isNamed_40, dX4_isNamed_41, dX4_isNamed_44, dX4_isNamed_47, dX4_isNamed_48, dX4_isNamed_49, dX4_isNamed_52, dX4_isNamed_55, dX4_isNamed_56, FX4_24, FX4_61, FX4_9, G_X4_isNamed_103, G_X4_isNamed_107, kd_19, kd_20, ln_20, h6, h4, h20, e1, e2, e3, e4, e5, en, T_len, T_chr, sl_0, sc_0]
      clear hb b5
      repeat' (first | exact trivial | omega | (with_reducible assumption) | exact absurd trivial (by with_reducible assumption) | contradiction | apply And.intro | intro _)
      all_goals first | exact h1 ⟨by omega, by omega, by omega, by omega, by omega, by omega⟩ | exact h0 (by omega)
    · have h0 := h0 (fun z => en z.1)
      apply hV [18] 30
      simp only [InR, InL, inb, Int.toNat_natCast, wp1, wpc_z, wpc_s, stp_iconst, stp_bipush, stp_sipush, stp_lconst, stp_iload_n, stp_iload, stp_lload_n, stp_lload, stp_aload_n, stp_aload, stp_istore_n, stp_istore, stp_lstore_n, stp_lstore, stp_astore_n, stp_astore, stp_iinc, stp_iadd, stp_isub, stp_imul, stp_ineg, stp_idiv, stp_irem, stp_ladd, stp_lmul, stp_ldiv, stp_lrem, stp_ishl, stp_ishr, stp_iushr, stp_iand, stp_ior, stp_i2l, stp_i2b, stp_i2s, stp_lcmp, stp_dup, stp_dup2, stp_pop, stp_ifCond, stp_if_icmp, stp_goto, stp_tableswitch, stp_lookupswitch, stp_ldc, stp_ldc_w, stp_ldc2_w, stp_getstatic, stp_getfield, stp_putfield, stp_iaload, stp_baload, stp_iastore, stp_bastore, stp_aaload, stp_aastore, stp_invokevirtual, stp_invokestatic, stp_ireturn, stp_lreturn, stp_return_, lg, lset, okl, spl, wd, c1, cnd, tg, swT, swL, f4_0, f4_1, f4_2, f4_3, f2_0, f2_1, List.mem_cons, List.not_mem_nil, List.length_cons, List.length_nil, List.cons_append, List.nil_append, Nat.reduceAdd, Nat.reduceMul, Nat.reduceLT, Nat.reduceEqDiff, Nat.reduceLeDiff, Int.reduceAdd, Int.reduceNeg, Int.reduceToNat, Int.cast_ofNat_Int, Int.reduceNatCast, Int.toNat_zero, Int.toNat_one, Int.reduceLE, Int.reduceLT, Int.reduceEq, Int.zero_add, Int.add_zero, or_false, false_or, or_true, true_or, and_true, true_and, and_false, false_and, reduceIte, not_true_eq_false, not_false_eq_true, forall_const, false_implies, true_implies, implies_true, ne_eq, reduceCtorEq, List.all_cons, List.all_nil, Bool.and_true, Bool.and_self, decide_eq_true_eq, decide_true, dX4_isNamed_0, dX4_isNamed_1, dX4_isNamed_4, dX4_isNamed_5, dX4_isNamed_8, dX4_isNamed_9, dX4_isNamed_10, dX4_isNamed_13, dX4_isNamed_16, dX4_isNamed_17, dX4_isNamed_18, dX4_isNamed_19, dX4_isNamed_20, dX4_isNamed_21, dX4_isNamed_22, dX4_isNamed_25, dX4_isNamed_28, dX4_isNamed_29, dX4_isNamed_32, dX4_isNamed_33, dX4_isNamed_36, dX4_isNamed_37, dX4_isNamed_38, dX4_isNamed_39, dX4_isNamed_40, dX4_isNamed_41, dX4_isNamed_44, dX4_isNamed_47, dX4_isNamed_48, dX4_isNamed_49, dX4_isNamed_52, dX4_isNamed_55, dX4_isNamed_56, FX4_24, FX4_61, FX4_9, G_X4_isNamed_103, G_X4_isNamed_107, kd_19, h6, h4, T_len, sl_0]
      repeat' (first | exact trivial | omega | (with_reducible assumption) | exact absurd trivial (by with_reducible assumption) | contradiction | apply And.intro | intro _)
  · simp only [nmB, decide_eq_true_eq] at h1 h0
    by_cases en : (n : Int) - (q : Int) = 6
    · have b0 := b0 (by omega)
      have b1 := b1 (by omega)
      have b2 := b2 (by omega)
      have b3 := b3 (by omega)
      have b4 := b4 (by omega)
      have b5 := b5 (by omega)
      apply hV [] 180
      simp only [InR, InL, inb, Int.toNat_natCast, wp1, wpc_z, wpc_s, stp_iconst, stp_bipush, stp_sipush, stp_lconst, stp_iload_n, stp_iload, stp_lload_n, stp_lload, stp_aload_n, stp_aload, stp_istore_n, stp_istore, stp_lstore_n, stp_lstore, stp_astore_n, stp_astore, stp_iinc, stp_iadd, stp_isub, stp_imul, stp_ineg, stp_idiv, stp_irem, stp_ladd, stp_lmul, stp_ldiv, stp_lrem, stp_ishl, stp_ishr, stp_iushr, stp_iand, stp_ior, stp_i2l, stp_i2b, stp_i2s, stp_lcmp, stp_dup, stp_dup2, stp_pop, stp_ifCond, stp_if_icmp, stp_goto, stp_tableswitch, stp_lookupswitch, stp_ldc, stp_ldc_w, stp_ldc2_w, stp_getstatic, stp_getfield, stp_putfield, stp_iaload, stp_baload, stp_iastore, stp_bastore, stp_aaload, stp_aastore, stp_invokevirtual, stp_invokestatic, stp_ireturn, stp_lreturn, stp_return_, lg, lset, okl, spl, wd, c1, cnd, tg, swT, swL, f4_0, f4_1, f4_2, f4_3, f2_0, f2_1, List.mem_cons, List.not_mem_nil, List.length_cons, List.length_nil, List.cons_append, List.nil_append, Nat.reduceAdd, Nat.reduceMul, Nat.reduceLT, Nat.reduceEqDiff, Nat.reduceLeDiff, Int.reduceAdd, Int.reduceNeg, Int.reduceToNat, Int.cast_ofNat_Int, Int.reduceNatCast, Int.toNat_zero, Int.toNat_one, Int.reduceLE, Int.reduceLT, Int.reduceEq, Int.zero_add, Int.add_zero, or_false, false_or, or_true, true_or, and_true, true_and, and_false, false_and, reduceIte, not_true_eq_false, not_false_eq_true, forall_const, false_implies, true_implies, implies_true, ne_eq, reduceCtorEq, List.all_cons, List.all_nil, Bool.and_true, Bool.and_self, decide_eq_true_eq, decide_true, dX4_isNamed_0, dX4_isNamed_1, dX4_isNamed_4, dX4_isNamed_5, dX4_isNamed_8, dX4_isNamed_9, dX4_isNamed_10, dX4_isNamed_13, dX4_isNamed_16, dX4_isNamed_17, dX4_isNamed_18, dX4_isNamed_19, dX4_isNamed_20, dX4_isNamed_21, dX4_isNamed_22, dX4_isNamed_25, dX4_isNamed_28, dX4_isNamed_29, dX4_isNamed_32, dX4_isNamed_33, dX4_isNamed_36, dX4_isNamed_37, dX4_isNamed_38, dX4_isNamed_39, dX4_isNamed_40, dX4_isNamed_41, dX4_isNamed_44, dX4_isNamed_47, dX4_isNamed_48, dX4_isNamed_49, dX4_isNamed_52, dX4_isNamed_55, dX4_isNamed_56, FX4_24, FX4_61, FX4_9, G_X4_isNamed_103, G_X4_isNamed_107, kd_19, kd_20, ln_20, h6, h4, h20, e1, e2, e3, e4, e5, en, T_len, T_chr, sl_1, sc_1]
      clear hb
      repeat' (first | exact trivial | omega | (with_reducible assumption) | exact absurd trivial (by with_reducible assumption) | contradiction | apply And.intro | intro _)
      all_goals first | exact h1 ⟨by omega, by omega, by omega, by omega, by omega, by omega, by omega⟩ | exact h0 (by omega)
    · have h0 := h0 (fun z => en z.1)
      apply hV [18] 30
      simp only [InR, InL, inb, Int.toNat_natCast, wp1, wpc_z, wpc_s, stp_iconst, stp_bipush, stp_sipush, stp_lconst, stp_iload_n, stp_iload, stp_lload_n, stp_lload, stp_aload_n, stp_aload, stp_istore_n, stp_istore, stp_lstore_n, stp_lstore, stp_astore_n, stp_astore, stp_iinc, stp_iadd, stp_isub, stp_imul, stp_ineg, stp_idiv, stp_irem, stp_ladd, stp_lmul, stp_ldiv, stp_lrem, stp_ishl, stp_ishr, stp_iushr, stp_iand, stp_ior, stp_i2l, stp_i2b, stp_i2s, stp_lcmp, stp_dup, stp_dup2, stp_pop, stp_ifCond, stp_if_icmp, stp_goto, stp_tableswitch, stp_lookupswitch, stp_ldc, stp_ldc_w, stp_ldc2_w, stp_getstatic, stp_getfield, stp_putfield, stp_iaload, stp_baload, stp_iastore, stp_bastore, stp_aaload, stp_aastore, stp_invokevirtual, stp_invokestatic, stp_ireturn, stp_lreturn, stp_return_, lg, lset, okl, spl, wd, c1, cnd, tg, swT, swL, f4_0, f4_1, f4_2, f4_3, f2_0, f2_1, List.mem_cons, List.not_mem_nil, List.length_cons, List.length_nil, List.cons_append, List.nil_append, Nat.reduceAdd, Nat.reduceMul, Nat.reduceLT, Nat.reduceEqDiff, Nat.reduceLeDiff, Int.reduceAdd, Int.reduceNeg, Int.reduceToNat, Int.cast_ofNat_Int, Int.reduceNatCast, Int.toNat_zero, Int.toNat_one, Int.reduceLE, Int.reduceLT, Int.reduceEq, Int.zero_add, Int.add_zero, or_false, false_or, or_true, true_or, and_true, true_and, and_false, false_and, reduceIte, not_true_eq_false, not_false_eq_true, forall_const, false_implies, true_implies, implies_true, ne_eq, reduceCtorEq, List.all_cons, List.all_nil, Bool.and_true, Bool.and_self, decide_eq_true_eq, decide_true, dX4_isNamed_0, dX4_isNamed_1, dX4_isNamed_4, dX4_isNamed_5, dX4_isNamed_8, dX4_isNamed_9, dX4_isNamed_10, dX4_isNamed_13, dX4_isNamed_16, dX4_isNamed_17, dX4_isNamed_18, dX4_isNamed_19, dX4_isNamed_20, dX4_isNamed_21, dX4_isNamed_22, dX4_isNamed_25, dX4_isNamed_28, dX4_isNamed_29, dX4_isNamed_32, dX4_isNamed_33, dX4_isNamed_36, dX4_isNamed_37, dX4_isNamed_38, dX4_isNamed_39, dX4_isNamed_40, dX4_isNamed_41, dX4_isNamed_44, dX4_isNamed_47, dX4_isNamed_48, dX4_isNamed_49, dX4_isNamed_52, dX4_isNamed_55, dX4_isNamed_56, FX4_24, FX4_61, FX4_9, G_X4_isNamed_103, G_X4_isNamed_107, kd_19, h6, h4, T_len, sl_1]
      repeat' (first | exact trivial | omega | (with_reducible assumption) | exact absurd trivial (by with_reducible assumption) | contradiction | apply And.intro | intro _)
  · simp only [nmB, decide_eq_true_eq] at h1 h0
    by_cases en : (n : Int) - (q : Int) = 4
    · have b0 := b0 (by omega)
      have b1 := b1 (by omega)
      have b2 := b2 (by omega)
      have b3 := b3 (by omega)
      apply hV [] 140
      simp only [InR, InL, inb, Int.toNat_natCast, wp1, wpc_z, wpc_s, stp_iconst, stp_bipush, stp_sipush, stp_lconst, stp_iload_n, stp_iload, stp_lload_n, stp_lload, stp_aload_n, stp_aload, stp_istore_n, stp_istore, stp_lstore_n, stp_lstore, stp_astore_n, stp_astore, stp_iinc, stp_iadd, stp_isub, stp_imul, stp_ineg, stp_idiv, stp_irem, stp_ladd, stp_lmul, stp_ldiv, stp_lrem, stp_ishl, stp_ishr, stp_iushr, stp_iand, stp_ior, stp_i2l, stp_i2b, stp_i2s, stp_lcmp, stp_dup, stp_dup2, stp_pop, stp_ifCond, stp_if_icmp, stp_goto, stp_tableswitch, stp_lookupswitch, stp_ldc, stp_ldc_w, stp_ldc2_w, stp_getstatic, stp_getfield, stp_putfield, stp_iaload, stp_baload, stp_iastore, stp_bastore, stp_aaload, stp_aastore, stp_invokevirtual, stp_invokestatic, stp_ireturn, stp_lreturn, stp_return_, lg, lset, okl, spl, wd, c1, cnd, tg, swT, swL, f4_0, f4_1, f4_2, f4_3, f2_0, f2_1, List.mem_cons, List.not_mem_nil, List.length_cons, List.length_nil, List.cons_append, List.nil_append, Nat.reduceAdd, Nat.reduceMul, Nat.reduceLT, Nat.reduceEqDiff, Nat.reduceLeDiff, Int.reduceAdd, Int.reduceNeg, Int.reduceToNat, Int.cast_ofNat_Int, Int.reduceNatCast, Int.toNat_zero, Int.toNat_one, Int.reduceLE, Int.reduceLT, Int.reduceEq, Int.zero_add, Int.add_zero, or_false, false_or, or_true, true_or, and_true, true_and, and_false, false_and, reduceIte, not_true_eq_false, not_false_eq_true, forall_const, false_implies, true_implies, implies_true, ne_eq, reduceCtorEq, List.all_cons, List.all_nil, Bool.and_true, Bool.and_self, decide_eq_true_eq, decide_true, dX4_isNamed_0, dX4_isNamed_1, dX4_isNamed_4, dX4_isNamed_5, dX4_isNamed_8, dX4_isNamed_9, dX4_isNamed_10, dX4_isNamed_13, dX4_isNamed_16, dX4_isNamed_17, dX4_isNamed_18, dX4_isNamed_19, dX4_isNamed_20, dX4_isNamed_21, dX4_isNamed_22, dX4_isNamed_25, dX4_isNamed_28, dX4_isNamed_29, dX4_isNamed_32, dX4_isNamed_33, dX4_isNamed_36, dX4_isNamed_37, dX4_isNamed_38, dX4_isNamed_39, dX4_isNamed_40, dX4_isNamed_41, dX4_isNamed_44, dX4_isNamed_47, dX4_isNamed_48, dX4_isNamed_49, dX4_isNamed_52, dX4_isNamed_55, dX4_isNamed_56, FX4_24, FX4_61, FX4_9, G_X4_isNamed_103, G_X4_isNamed_107, kd_19, kd_20, ln_20, h6, h4, h20, e1, e2, e3, e4, e5, en, T_len, T_chr, sl_2, sc_2]
      clear hb b4 b5
      repeat' (first | exact trivial | omega | (with_reducible assumption) | exact absurd trivial (by with_reducible assumption) | contradiction | apply And.intro | intro _)
      all_goals first | exact h1 ⟨by omega, by omega, by omega, by omega, by omega⟩ | exact h0 (by omega)
    · have h0 := h0 (fun z => en z.1)
      apply hV [18] 30
      simp only [InR, InL, inb, Int.toNat_natCast, wp1, wpc_z, wpc_s, stp_iconst, stp_bipush, stp_sipush, stp_lconst, stp_iload_n, stp_iload, stp_lload_n, stp_lload, stp_aload_n, stp_aload, stp_istore_n, stp_istore, stp_lstore_n, stp_lstore, stp_astore_n, stp_astore, stp_iinc, stp_iadd, stp_isub, stp_imul, stp_ineg, stp_idiv, stp_irem, stp_ladd, stp_lmul, stp_ldiv, stp_lrem, stp_ishl, stp_ishr, stp_iushr, stp_iand, stp_ior, stp_i2l, stp_i2b, stp_i2s, stp_lcmp, stp_dup, stp_dup2, stp_pop, stp_ifCond, stp_if_icmp, stp_goto, stp_tableswitch, stp_lookupswitch, stp_ldc, stp_ldc_w, stp_ldc2_w, stp_getstatic, stp_getfield, stp_putfield, stp_iaload, stp_baload, stp_iastore, stp_bastore, stp_aaload, stp_aastore, stp_invokevirtual, stp_invokestatic, stp_ireturn, stp_lreturn, stp_return_, lg, lset, okl, spl, wd, c1, cnd, tg, swT, swL, f4_0, f4_1, f4_2, f4_3, f2_0, f2_1, List.mem_cons, List.not_mem_nil, List.length_cons, List.length_nil, List.cons_append, List.nil_append, Nat.reduceAdd, Nat.reduceMul, Nat.reduceLT, Nat.reduceEqDiff, Nat.reduceLeDiff, Int.reduceAdd, Int.reduceNeg, Int.reduceToNat, Int.cast_ofNat_Int, Int.reduceNatCast, Int.toNat_zero, Int.toNat_one, Int.reduceLE, Int.reduceLT, Int.reduceEq, Int.zero_add, Int.add_zero, or_false, false_or, or_true, true_or, and_true, true_and, and_false, false_and, reduceIte, not_true_eq_false, not_false_eq_true, forall_const, false_implies, true_implies, implies_true, ne_eq, reduceCtorEq, List.all_cons, List.all_nil, Bool.and_true, Bool.and_self, decide_eq_true_eq, decide_true, dX4_isNamed_0, dX4_isNamed_1, dX4_isNamed_4, dX4_isNamed_5, dX4_isNamed_8, dX4_isNamed_9, dX4_isNamed_10, dX4_isNamed_13, dX4_isNamed_16, dX4_isNamed_17, dX4_isNamed_18, dX4_isNamed_19, dX4_isNamed_20, dX4_isNamed_21, dX4_isNamed_22, dX4_isNamed_25, dX4_isNamed_28, dX4_isNamed_29, dX4_isNamed_32, dX4_isNamed_33, dX4_isNamed_36, dX4_isNamed_37, dX4_isNamed_38, dX4_isNamed_39, dX4_isNamed_40, dX4_isNamed_41, dX4_isNamed_44, dX4_isNamed_47, dX4_isNamed_48, dX4_isNamed_49, dX4_isNamed_52, dX4_isNamed_55, dX4_isNamed_56, FX4_24, FX4_61, FX4_9, G_X4_isNamed_103, G_X4_isNamed_107, kd_19, h6, h4, T_len, sl_2]
      repeat' (first | exact trivial | omega | (with_reducible assumption) | exact absurd trivial (by with_reducible assumption) | contradiction | apply And.intro | intro _)
  · simp only [nmB, decide_eq_true_eq] at h1 h0
    by_cases en : (n : Int) - (q : Int) = 4
    · have b0 := b0 (by omega)
      have b1 := b1 (by omega)
      have b2 := b2 (by omega)
      have b3 := b3 (by omega)
      apply hV [] 140
      simp only [InR, InL, inb, Int.toNat_natCast, wp1, wpc_z, wpc_s, stp_iconst, stp_bipush, stp_sipush, stp_lconst, stp_iload_n, stp_iload, stp_lload_n, stp_lload, stp_aload_n, stp_aload, stp_istore_n, stp_istore, stp_lstore_n, stp_lstore, stp_astore_n, stp_astore, stp_iinc, stp_iadd, stp_isub, stp_imul, stp_ineg, stp_idiv, stp_irem, stp_ladd, stp_lmul, stp_ldiv, stp_lrem, stp_ishl, stp_ishr, stp_iushr, stp_iand, stp_ior, stp_i2l, stp_i2b, stp_i2s, stp_lcmp, stp_dup, stp_dup2, stp_pop, stp_ifCond, stp_if_icmp, stp_goto, stp_tableswitch, stp_lookupswitch, stp_ldc, stp_ldc_w, stp_ldc2_w, stp_getstatic, stp_getfield, stp_putfield, stp_iaload, stp_baload, stp_iastore, stp_bastore, stp_aaload, stp_aastore, stp_invokevirtual, stp_invokestatic, stp_ireturn, stp_lreturn, stp_return_, lg, lset, okl, spl, wd, c1, cnd, tg, swT, swL, f4_0, f4_1, f4_2, f4_3, f2_0, f2_1, List.mem_cons, List.not_mem_nil, List.length_cons, List.length_nil, List.cons_append, List.nil_append, Nat.reduceAdd, Nat.reduceMul, Nat.reduceLT, Nat.reduceEqDiff, Nat.reduceLeDiff, Int.reduceAdd, Int.reduceNeg, Int.reduceToNat, Int.cast_ofNat_Int, Int.reduceNatCast, Int.toNat_zero, Int.toNat_one, Int.reduceLE, Int.reduceLT, Int.reduceEq, Int.zero_add, Int.add_zero, or_false, false_or, or_true, true_or, and_true, true_and, and_false, false_and, reduceIte, not_true_eq_false, not_false_eq_true, forall_const, false_implies, true_implies, implies_true, ne_eq, reduceCtorEq, List.all_cons, List.all_nil, Bool.and_true, Bool.and_self, decide_eq_true_eq, decide_true, dX4_isNamed_0, dX4_isNamed_1, dX4_isNamed_4, dX4_isNamed_5, dX4_isNamed_8, dX4_isNamed_9, dX4_isNamed_10, dX4_isNamed_13, dX4_isNamed_16, dX4_isNamed_17, dX4_isNamed_18, dX4_isNamed_19, dX4_isNamed_20, dX4_isNamed_21, dX4_isNamed_22, dX4_isNamed_25, dX4_isNamed_28, dX4_isNamed_29, dX4_isNamed_32, dX4_isNamed_33, dX4_isNamed_36, dX4_isNamed_37, dX4_isNamed_38, dX4_isNamed_39, dX4_isNamed_40, dX4_isNamed_41, dX4_isNamed_44, dX4_isNamed_47, dX4_isNamed_48, dX4_isNamed_49, dX4_isNamed_52, dX4_isNamed_55, dX4_isNamed_56, FX4_24, FX4_61, FX4_9, G_X4_isNamed_103, G_X4_isNamed_107, kd_19, kd_20, ln_20, h6, h4, h20, e1, e2, e3, e4, e5, en, T_len, T_chr, sl_3, sc_3]
      clear hb b4 b5
      repeat' (first | exact trivial | omega | (with_reducible assumption) | exact absurd trivial (by with_reducible assumption) | contradiction | apply And.intro | intro _)
      all_goals first | exact h1 ⟨by omega, by omega, by omega, by omega, by omega⟩ | exact h0 (by omega)
    · have h0 := h0 (fun z => en z.1)
      apply hV [18] 30
      simp only [InR, InL, inb, Int.toNat_natCast, wp1, wpc_z, wpc_s, stp_iconst, stp_bipush, stp_sipush, stp_lconst, stp_iload_n, stp_iload, stp_lload_n, stp_lload, stp_aload_n, stp_aload, stp_istore_n, stp_istore, stp_lstore_n, stp_lstore, stp_astore_n, stp_astore, stp_iinc, stp_iadd, stp_isub, stp_imul, stp_ineg, stp_idiv, stp_irem, stp_ladd, stp_lmul, stp_ldiv, stp_lrem, stp_ishl, stp_ishr, stp_iushr, stp_iand, stp_ior, stp_i2l, stp_i2b, stp_i2s, stp_lcmp, stp_dup, stp_dup2, stp_pop, stp_ifCond, stp_if_icmp, stp_goto, stp_tableswitch, stp_lookupswitch, stp_ldc, stp_ldc_w, stp_ldc2_w, stp_getstatic, stp_getfield, stp_putfield, stp_iaload, stp_baload, stp_iastore, stp_bastore, stp_aaload, stp_aastore, stp_invokevirtual, stp_invokestatic, stp_ireturn, stp_lreturn, stp_return_, lg, lset, okl, spl, wd, c1, cnd, tg, swT, swL, f4_0, f4_1, f4_2, f4_3, f2_0, f2_1, List.mem_cons, List.not_mem_nil, List.length_cons, List.length_nil, List.cons_append, List.nil_append, Nat.reduceAdd, Nat.reduceMul, Nat.reduceLT, Nat.reduceEqDiff, Nat.reduceLeDiff, Int.reduceAdd, Int.reduceNeg, Int.reduceToNat, Int.cast_ofNat_Int, Int.reduceNatCast, Int.toNat_zero, Int.toNat_one, Int.reduceLE, Int.reduceLT, Int.reduceEq, Int.zero_add, Int.add_zero, or_false, false_or, or_true, true_or, and_true, true_and, and_false, false_and, reduceIte, not_true_eq_false, not_false_eq_true, forall_const, false_implies, true_implies, implies_true, ne_eq, reduceCtorEq, List.all_cons, List.all_nil, Bool.and_true, Bool.and_self, decide_eq_true_eq, decide_true, dX4_isNamed_0, dX4_isNamed_1, dX4_isNamed_4, dX4_isNamed_5, dX4_isNamed_8, dX4_isNamed_9, dX4_isNamed_10, dX4_isNamed_13, dX4_isNamed_16, dX4_isNamed_17, dX4_isNamed_18, dX4_isNamed_19, dX4_isNamed_20, dX4_isNamed_21, dX4_isNamed_22, dX4_isNamed_25, dX4_isNamed_28, dX4_isNamed_29, dX4_isNamed_32, dX4_isNamed_33, dX4_isNamed_36, dX4_isNamed_37, dX4_isNamed_38, dX4_isNamed_39, dX4_isNamed_40, dX4_isNamed_41, dX4_isNamed_44, dX4_isNamed_47, dX4_isNamed_48, dX4_isNamed_49, dX4_isNamed_52, dX4_isNamed_55, dX4_isNamed_56, FX4_24, FX4_61, FX4_9, G_X4_isNamed_103, G_X4_isNamed_107, kd_19, h6, h4, T_len, sl_3]
      repeat' (first | exact trivial | omega | (with_reducible assumption) | exact absurd trivial (by with_reducible assumption) | contradiction | apply And.intro | intro _)
  · simp only [nmB, decide_eq_true_eq] at h1 h0
    by_cases en : (n : Int) - (q : Int) = 4
    · have b0 := b0 (by omega)
      have b1 := b1 (by omega)
      have b2 := b2 (by omega)
      have b3 := b3 (by omega)
      apply hV [] 140
      simp only [InR, InL, inb, Int.toNat_natCast, wp1, wpc_z, wpc_s, stp_iconst, stp_bipush, stp_sipush, stp_lconst, stp_iload_n, stp_iload, stp_lload_n, stp_lload, stp_aload_n, stp_aload, stp_istore_n, stp_istore, stp_lstore_n, stp_lstore, stp_astore_n, stp_astore, stp_iinc, stp_iadd, stp_isub, stp_imul, stp_ineg, stp_idiv, stp_irem, stp_ladd, stp_lmul, stp_ldiv, stp_lrem, stp_ishl, stp_ishr, stp_iushr, stp_iand, stp_ior, stp_i2l, stp_i2b, stp_i2s, stp_lcmp, stp_dup, stp_dup2, stp_pop, stp_ifCond, stp_if_icmp, stp_goto, stp_tableswitch, stp_lookupswitch, stp_ldc, stp_ldc_w, stp_ldc2_w, stp_getstatic, stp_getfield, stp_putfield, stp_iaload, stp_baload, stp_iastore, stp_bastore, stp_aaload, stp_aastore, stp_invokevirtual, stp_invokestatic, stp_ireturn, stp_lreturn, stp_return_, lg, lset, okl, spl, wd, c1, cnd, tg, swT, swL, f4_0, f4_1, f4_2, f4_3, f2_0, f2_1, List.mem_cons, List.not_mem_nil, List.length_cons, List.length_nil, List.cons_append, List.nil_append, Nat.reduceAdd, Nat.reduceMul, Nat.reduceLT, Nat.reduceEqDiff, Nat.reduceLeDiff, Int.reduceAdd, Int.reduceNeg, Int.reduceToNat, Int.cast_ofNat_Int, Int.reduceNatCast, Int.toNat_zero, Int.toNat_one, Int.reduceLE, Int.reduceLT, Int.reduceEq, Int.zero_add, Int.add_zero, or_false, false_or, or_true, true_or, and_true, true_and, and_false, false_and, reduceIte, not_true_eq_false, not_false_eq_true, forall_const, false_implies, true_implies, implies_true, ne_eq, reduceCtorEq, List.all_cons, List.all_nil, Bool.and_true, Bool.and_self, decide_eq_true_eq, decide_true, dX4_isNamed_0, dX4_isNamed_1, dX4_isNamed_4, dX4_isNamed_5, dX4_isNamed_8, dX4_isNamed_9, dX4_isNamed_10, dX4_isNamed_13, dX4_isNamed_16, dX4_isNamed_17, dX4_isNamed_18, dX4_isNamed_19, dX4_isNamed_20, dX4_isNamed_21, dX4_isNamed_22, dX4_isNamed_25, dX4_isNamed_28, dX4_isNamed_29, dX4_isNamed_32, dX4_isNamed_33, dX4_isNamed_36, dX4_isNamed_37, dX4_isNamed_38, dX4_isNamed_39, dX4_isNamed_40, dX4_isNamed_41, dX4_isNamed_44, dX4_isNamed_47, dX4_isNamed_48, dX4_isNamed_49, dX4_isNamed_52, dX4_isNamed_55, dX4_isNamed_56, FX4_24, FX4_61, FX4_9, G_X4_isNamed_103, G_X4_isNamed_107, kd_19, kd_20, ln_20, h6, h4, h20, e1, e2, e3, e4, e5, en, T_len, T_chr, sl_4, sc_4]
      clear hb b4 b5
      repeat' (first | exact trivial | omega | (with_reducible assumption) | exact absurd trivial (by with_reducible assumption) | contradiction | apply And.intro | intro _)
      all_goals first | exact h1 ⟨by omega, by omega, by omega, by omega, by omega⟩ | exact h0 (by omega)
    · have h0 := h0 (fun z => en z.1)
      apply hV [18] 30
      simp only [InR, InL, inb, Int.toNat_natCast, wp1, wpc_z, wpc_s, stp_iconst, stp_bipush, stp_sipush, stp_lconst, stp_iload_n, stp_iload, stp_lload_n, stp_lload, stp_aload_n, stp_aload, stp_istore_n, stp_istore, stp_lstore_n, stp_lstore, stp_astore_n, stp_astore, stp_iinc, stp_iadd, stp_isub, stp_imul, stp_ineg, stp_idiv, stp_irem, stp_ladd, stp_lmul, stp_ldiv, stp_lrem, stp_ishl, stp_ishr, stp_iushr, stp_iand, stp_ior, stp_i2l, stp_i2b, stp_i2s, stp_lcmp, stp_dup, stp_dup2, stp_pop, stp_ifCond, stp_if_icmp, stp_goto, stp_tableswitch, stp_lookupswitch, stp_ldc, stp_ldc_w, stp_ldc2_w, stp_getstatic, stp_getfield, stp_putfield, stp_iaload, stp_baload, stp_iastore, stp_bastore, stp_aaload, stp_aastore, stp_invokevirtual, stp_invokestatic, stp_ireturn, stp_lreturn, stp_return_, lg, lset, okl, spl, wd, c1, cnd, tg, swT, swL, f4_0, f4_1, f4_2, f4_3, f2_0, f2_1, List.mem_cons, List.not_mem_nil, List.length_cons, List.length_nil, List.cons_append, List.nil_append, Nat.reduceAdd, Nat.reduceMul, Nat.reduceLT, Nat.reduceEqDiff, Nat.reduceLeDiff, Int.reduceAdd, Int.reduceNeg, Int.reduceToNat, Int.cast_ofNat_Int, Int.reduceNatCast, Int.toNat_zero, Int.toNat_one, Int.reduceLE, Int.reduceLT, Int.reduceEq, Int.zero_add, Int.add_zero, or_false, false_or, or_true, true_or, and_true, true_and, and_false, false_and, reduceIte, not_true_eq_false, not_false_eq_true, forall_const, false_implies, true_implies, implies_true, ne_eq, reduceCtorEq, List.all_cons, List.all_nil, Bool.and_true, Bool.and_self, decide_eq_true_eq, decide_true, dX4_isNamed_0, dX4_isNamed_1, dX4_isNamed_4, dX4_isNamed_5, dX4_isNamed_8, dX4_isNamed_9, dX4_isNamed_10, dX4_isNamed_13, dX4_isNamed_16, dX4_isNamed_17, dX4_isNamed_18, dX4_isNamed_19, dX4_isNamed_20, dX4_isNamed_21, dX4_isNamed_22, dX4_isNamed_25, dX4_isNamed_28, dX4_isNamed_29, dX4_isNamed_32, dX4_isNamed_33, dX4_isNamed_36, dX4_isNamed_37, dX4_isNamed_38, dX4_isNamed_39, dX4_isNamed_40, dX4_isNamed_41, dX4_isNamed_44, dX4_isNamed_47, dX4_isNamed_48, dX4_isNamed_49, dX4_isNamed_52, dX4_isNamed_55, dX4_isNamed_56, FX4_24, FX4_61, FX4_9, G_X4_isNamed_103, G_X4_isNamed_107, kd_19, h6, h4, T_len, sl_4]
      repeat' (first | exact trivial | omega | (with_reducible assumption) | exact absurd trivial (by with_reducible assumption) | contradiction | apply And.intro | intro _)
theorem good_X4_isNamed (l : Launch) : Good l 5 yX4_isNamed cX4_isNamed 3 (some .boolean) T4_isNamed := by
  refine Good.mk 2 (by decide) rfl (by simp [retOK]) FOK4 COK4 (gk_X4_isNamed l) ?_ ?_
  · intro a μ K h
    unfold T4_isNamed at h
    split at h
    · simp [entl]
    · exact h.elim
  · intro a μ K V hV h
    unfold T4_isNamed at h
    split at h
    · exact body_X4_isNamed _ _ μ K V hV h
    · exact h.elim

def T4_lineBegun : TT := fun a μ K => match a with
  | [.inr (.inr o)] => o = 19 ∧ (∃ (q n : Nat) (b : Nat → Int) (s : Int), rI μ 19 6 = q ∧ rI μ 19 4 = n ∧ rI μ 19 5 = s ∧ (0 ≤ s ∧ s ≤ 4) ∧ q ≤ n ∧ n ≤ 160 ∧ (∀ x, rI μ 20 x = b x) ∧ (∀ x, x < 160 → 0 ≤ b x ∧ b x ≤ 127) ∧ K [.inl (kNm b q ((n : Int) - (q : Int)) s)] μ)
  | _ => False
theorem rec_X4_lineBegun : ∀ a μ K, T4_lineBegun a μ K → ∃ k r, a = .inr (.inr k) :: r ∧ kd k = 4 := by
  intro a μ K h
  unfold T4_lineBegun at h
  split at h
  · exact ⟨_, _, rfl, by rw [h.1]; rfl⟩
  · exact h.elim
def GL_X4_lineBegun : List (Nat × Nat × Bool × TT) := [(92, 2, false, T4_isNamed)]
def G_X4_lineBegun : Nat → Option (Nat × Bool × TT) := fun i => GL_X4_lineBegun.lookup i
theorem G_X4_lineBegun_92 : G_X4_lineBegun 92 = some (2, false, T4_isNamed) := rfl
theorem gk_X4_lineBegun (l : Launch) : ∀ i n b T, G_X4_lineBegun i = some (n, b, T) → CallOK l 6 RX4 i n b T := by
  intro i n b T h
  have hm : (i, n, b, T) ∈ GL_X4_lineBegun := lk_mem h
  simp only [GL_X4_lineBegun, List.mem_cons, List.not_mem_nil, or_false, Prod.mk.injEq] at hm
  rcases hm with ⟨rfl, rfl, rfl, rfl⟩
  · exact CallOK.V (d := 6) (own := RX4) (i := 92) (n := 1) (ci := 4) (good_X4_isNamed l) (by decide) (by decide) rfl (by decide) rec_X4_isNamed (mg 231 (by decide +kernel) (by decide +kernel)) (mg 233 (by decide +kernel) (by decide +kernel)) (mgs 5 (by decide +kernel) (by decide +kernel)) (mg 4 (by decide +kernel) (by decide +kernel)) (mg 234 (by decide +kernel) (by decide +kernel)) (by decide +kernel)
set_option maxRecDepth 20000 in
set_option maxHeartbeats 4000000 in
theorem body_X4_lineBegun (o : Nat) (μ : Mem) (K : List AV → Mem → Prop) (V : Nat → List (Option AV) → List AV → Mem → Prop) (hV : Clos FX4 CX4 G_X4_lineBegun 1 K cX4_lineBegun V) (hT : o = 19 ∧ (∃ (q n : Nat) (b : Nat → Int) (s : Int), rI μ 19 6 = q ∧ rI μ 19 4 = n ∧ rI μ 19 5 = s ∧ (0 ≤ s ∧ s ≤ 4) ∧ q ≤ n ∧ n ≤ 160 ∧ (∀ x, rI μ 20 x = b x) ∧ (∀ x, x < 160 → 0 ≤ b x ∧ b x ≤ 127) ∧ K [.inl (kNm b q ((n : Int) - (q : Int)) s)] μ)) : V 0 [some (.inr (.inr o))] [] μ := by
  obtain ⟨rfl, q, n, b, s, h6, h4, h5, hs, hqn, hn, h20, hb, hK⟩ := hT
  unfold kNm at hK
  by_cases z : s = 1
  · rw [if_neg (by simp [z])] at hK
    have tst : ∀ j : Nat, j < 5 → ∀ P1 P0 : Prop, (nmB b q ((n : Int) - (q : Int)) j = true → P1) → (¬ nmB b q ((n : Int) - (q : Int)) j = true → P0) → ∃ (j' q' n' : Nat) (b' : Nat → Int), 110 + j = 110 + j' ∧ j' < 5 ∧ rI μ 19 6 = q' ∧ rI μ 19 4 = n' ∧ q' ≤ n' ∧ n' ≤ 160 ∧ (∀ x, rI μ 20 x = b' x) ∧ (∀ x, x < 160 → 0 ≤ b' x ∧ b' x ≤ 127) ∧ (nmB b' q' ((n' : Int) - (q' : Int)) j' = true → P1) ∧ (¬ nmB b' q' ((n' : Int) - (q' : Int)) j' = true → P0) := fun j hj P1 P0 g1 g0 => ⟨j, q, n, b, rfl, hj, h6, h4, hqn, hn, h20, hb, g1, g0⟩
    have v55 : nmB b q ((n : Int) - (q : Int)) 0 ≠ true → nmB b q ((n : Int) - (q : Int)) 1 ≠ true → nmB b q ((n : Int) - (q : Int)) 2 ≠ true → nmB b q ((n : Int) - (q : Int)) 3 ≠ true → V 55 [some (.inr (.inr 19))] [] μ := by
      intro a0 a1 a2 a3
      rw [if_neg a0, if_neg a1, if_neg a2, if_neg a3] at hK
      apply hV [] 20
      simp only [InR, InL, inb, Int.toNat_natCast, wp1, wpc_z, wpc_s, stp_iconst, stp_bipush, stp_sipush, stp_lconst, stp_iload_n, stp_iload, stp_lload_n, stp_lload, stp_aload_n, stp_aload, stp_istore_n, stp_istore, stp_lstore_n, stp_lstore, stp_astore_n, stp_astore, stp_iinc, stp_iadd, stp_isub, stp_imul, stp_ineg, stp_idiv, stp_irem, stp_ladd, stp_lmul, stp_ldiv, stp_lrem, stp_ishl, stp_ishr, stp_iushr, stp_iand, stp_ior, stp_i2l, stp_i2b, stp_i2s, stp_lcmp, stp_dup, stp_dup2, stp_pop, stp_ifCond, stp_if_icmp, stp_goto, stp_tableswitch, stp_lookupswitch, stp_ldc, stp_ldc_w, stp_ldc2_w, stp_getstatic, stp_getfield, stp_putfield, stp_iaload, stp_baload, stp_iastore, stp_bastore, stp_aaload, stp_aastore, stp_invokevirtual, stp_invokestatic, stp_ireturn, stp_lreturn, stp_return_, lg, lset, okl, spl, wd, c1, cnd, tg, swT, swL, f4_0, f4_1, f4_2, f4_3, f2_0, f2_1, List.mem_cons, List.not_mem_nil, List.length_cons, List.length_nil, List.cons_append, List.nil_append, Nat.reduceAdd, Nat.reduceMul, Nat.reduceLT, Nat.reduceEqDiff, Nat.reduceLeDiff, Int.reduceAdd, Int.reduceNeg, Int.reduceToNat, Int.cast_ofNat_Int, Int.reduceNatCast, Int.toNat_zero, Int.toNat_one, Int.reduceLE, Int.reduceLT, Int.reduceEq, Int.zero_add, Int.add_zero, or_false, false_or, or_true, true_or, and_true, true_and, and_false, false_and, reduceIte, not_true_eq_false, not_false_eq_true, forall_const, false_implies, true_implies, implies_true, ne_eq, reduceCtorEq, List.all_cons, List.all_nil, Bool.and_true, Bool.and_self, decide_eq_true_eq, decide_true, dX4_lineBegun_0, dX4_lineBegun_1, dX4_lineBegun_4, dX4_lineBegun_5, dX4_lineBegun_8, dX4_lineBegun_10, dX4_lineBegun_11, dX4_lineBegun_12, dX4_lineBegun_14, dX4_lineBegun_17, dX4_lineBegun_20, dX4_lineBegun_21, dX4_lineBegun_22, dX4_lineBegun_23, dX4_lineBegun_25, dX4_lineBegun_28, dX4_lineBegun_31, dX4_lineBegun_32, dX4_lineBegun_33, dX4_lineBegun_34, dX4_lineBegun_36, dX4_lineBegun_39, dX4_lineBegun_42, dX4_lineBegun_43, dX4_lineBegun_44, dX4_lineBegun_45, dX4_lineBegun_47, dX4_lineBegun_50, dX4_lineBegun_53, dX4_lineBegun_54, dX4_lineBegun_55, dX4_lineBegun_56, dX4_lineBegun_58, dX4_lineBegun_61, dX4_lineBegun_64, dX4_lineBegun_65, dX4_lineBegun_68, dX4_lineBegun_70, FX4_30, CX4_90, CX4_96, CX4_98, CX4_100, CX4_102, G_X4_lineBegun_92, kd_19, T4_isNamed]
      refine tst 4 (by omega) _ _ (fun y => ?_) (fun y => ?_)
      · rw [if_pos y] at hK
        repeat' (first | exact trivial | omega | (with_reducible assumption) | exact absurd trivial (by with_reducible assumption) | contradiction | apply And.intro | intro _)
      · rw [if_neg y] at hK
        repeat' (first | exact trivial | omega | (with_reducible assumption) | exact absurd trivial (by with_reducible assumption) | contradiction | apply And.intro | intro _)
    have v44 : nmB b q ((n : Int) - (q : Int)) 0 ≠ true → nmB b q ((n : Int) - (q : Int)) 1 ≠ true → nmB b q ((n : Int) - (q : Int)) 2 ≠ true → V 44 [some (.inr (.inr 19))] [] μ := by
      intro a0 a1 a2
      rw [if_neg a0, if_neg a1, if_neg a2] at hK
      apply hV [55] 20
      simp only [InR, InL, inb, Int.toNat_natCast, wp1, wpc_z, wpc_s, stp_iconst, stp_bipush, stp_sipush, stp_lconst, stp_iload_n, stp_iload, stp_lload_n, stp_lload, stp_aload_n, stp_aload, stp_istore_n, stp_istore, stp_lstore_n, stp_lstore, stp_astore_n, stp_astore, stp_iinc, stp_iadd, stp_isub, stp_imul, stp_ineg, stp_idiv, stp_irem, stp_ladd, stp_lmul, stp_ldiv, stp_lrem, stp_ishl, stp_ishr, stp_iushr, stp_iand, stp_ior, stp_i2l, stp_i2b, stp_i2s, stp_lcmp, stp_dup, stp_dup2, stp_pop, stp_ifCond, stp_if_icmp, stp_goto, stp_tableswitch, stp_lookupswitch, stp_ldc, stp_ldc_w, stp_ldc2_w, stp_getstatic, stp_getfield, stp_putfield, stp_iaload, stp_baload, stp_iastore, stp_bastore, stp_aaload, stp_aastore, stp_invokevirtual, stp_invokestatic, stp_ireturn, stp_lreturn, stp_return_, lg, lset, okl, spl, wd, c1, cnd, tg, swT, swL, f4_0, f4_1, f4_2, f4_3, f2_0, f2_1, List.mem_cons, List.not_mem_nil, List.length_cons, List.length_nil, List.cons_append, List.nil_append, Nat.reduceAdd, Nat.reduceMul, Nat.reduceLT, Nat.reduceEqDiff, Nat.reduceLeDiff, Int.reduceAdd, Int.reduceNeg, Int.reduceToNat, Int.cast_ofNat_Int, Int.reduceNatCast, Int.toNat_zero, Int.toNat_one, Int.reduceLE, Int.reduceLT, Int.reduceEq, Int.zero_add, Int.add_zero, or_false, false_or, or_true, true_or, and_true, true_and, and_false, false_and, reduceIte, not_true_eq_false, not_false_eq_true, forall_const, false_implies, true_implies, implies_true, ne_eq, reduceCtorEq, List.all_cons, List.all_nil, Bool.and_true, Bool.and_self, decide_eq_true_eq, decide_true, dX4_lineBegun_0, dX4_lineBegun_1, dX4_lineBegun_4, dX4_lineBegun_5, dX4_lineBegun_8, dX4_lineBegun_10, dX4_lineBegun_11, dX4_lineBegun_12, dX4_lineBegun_14, dX4_lineBegun_17, dX4_lineBegun_20, dX4_lineBegun_21, dX4_lineBegun_22, dX4_lineBegun_23, dX4_lineBegun_25, dX4_lineBegun_28, dX4_lineBegun_31, dX4_lineBegun_32, dX4_lineBegun_33, dX4_lineBegun_34, dX4_lineBegun_36, dX4_lineBegun_39, dX4_lineBegun_42, dX4_lineBegun_43, dX4_lineBegun_44, dX4_lineBegun_45, dX4_lineBegun_47, dX4_lineBegun_50, dX4_lineBegun_53, dX4_lineBegun_54, dX4_lineBegun_55, dX4_lineBegun_56, dX4_lineBegun_58, dX4_lineBegun_61, dX4_lineBegun_64, dX4_lineBegun_65, dX4_lineBegun_68, dX4_lineBegun_70, FX4_30, CX4_90, CX4_96, CX4_98, CX4_100, CX4_102, G_X4_lineBegun_92, kd_19, T4_isNamed]
      refine tst 3 (by omega) _ _ (fun y => ?_) (fun y => ?_)
      · rw [if_pos y] at hK
        clear v55
        repeat' (first | exact trivial | omega | (with_reducible assumption) | exact absurd trivial (by with_reducible assumption) | contradiction | apply And.intro | intro _)
      · have := v55 a0 a1 a2 y
        clear v55
        repeat' (first | exact trivial | omega | (with_reducible assumption) | exact absurd trivial (by with_reducible assumption) | contradiction | apply And.intro | intro _)
    have v33 : nmB b q ((n : Int) - (q : Int)) 0 ≠ true → nmB b q ((n : Int) - (q : Int)) 1 ≠ true → V 33 [some (.inr (.inr 19))] [] μ := by
      intro a0 a1
      rw [if_neg a0, if_neg a1] at hK
      apply hV [44] 20
      simp only [InR, InL, inb, Int.toNat_natCast, wp1, wpc_z, wpc_s, stp_iconst, stp_bipush, stp_sipush, stp_lconst, stp_iload_n, stp_iload, stp_lload_n, stp_lload, stp_aload_n, stp_aload, stp_istore_n, stp_istore, stp_lstore_n, stp_lstore, stp_astore_n, stp_astore, stp_iinc, stp_iadd, stp_isub, stp_imul, stp_ineg, stp_idiv, stp_irem, stp_ladd, stp_lmul, stp_ldiv, stp_lrem, stp_ishl, stp_ishr, stp_iushr, stp_iand, stp_ior, stp_i2l, stp_i2b, stp_i2s, stp_lcmp, stp_dup, stp_dup2, stp_pop, stp_ifCond, stp_if_icmp, stp_goto, stp_tableswitch, stp_lookupswitch, stp_ldc, stp_ldc_w, stp_ldc2_w, stp_getstatic, stp_getfield, stp_putfield, stp_iaload, stp_baload, stp_iastore, stp_bastore, stp_aaload, stp_aastore, stp_invokevirtual, stp_invokestatic, stp_ireturn, stp_lreturn, stp_return_, lg, lset, okl, spl, wd, c1, cnd, tg, swT, swL, f4_0, f4_1, f4_2, f4_3, f2_0, f2_1, List.mem_cons, List.not_mem_nil, List.length_cons, List.length_nil, List.cons_append, List.nil_append, Nat.reduceAdd, Nat.reduceMul, Nat.reduceLT, Nat.reduceEqDiff, Nat.reduceLeDiff, Int.reduceAdd, Int.reduceNeg, Int.reduceToNat, Int.cast_ofNat_Int, Int.reduceNatCast, Int.toNat_zero, Int.toNat_one, Int.reduceLE, Int.reduceLT, Int.reduceEq, Int.zero_add, Int.add_zero, or_false, false_or, or_true, true_or, and_true, true_and, and_false, false_and, reduceIte, not_true_eq_false, not_false_eq_true, forall_const, false_implies, true_implies, implies_true, ne_eq, reduceCtorEq, List.all_cons, List.all_nil, Bool.and_true, Bool.and_self, decide_eq_true_eq, decide_true, dX4_lineBegun_0, dX4_lineBegun_1, dX4_lineBegun_4, dX4_lineBegun_5, dX4_lineBegun_8, dX4_lineBegun_10, dX4_lineBegun_11, dX4_lineBegun_12, dX4_lineBegun_14, dX4_lineBegun_17, dX4_lineBegun_20, dX4_lineBegun_21, dX4_lineBegun_22, dX4_lineBegun_23, dX4_lineBegun_25, dX4_lineBegun_28, dX4_lineBegun_31, dX4_lineBegun_32, dX4_lineBegun_33, dX4_lineBegun_34, dX4_lineBegun_36, dX4_lineBegun_39, dX4_lineBegun_42, dX4_lineBegun_43, dX4_lineBegun_44, dX4_lineBegun_45, dX4_lineBegun_47, dX4_lineBegun_50, dX4_lineBegun_53, dX4_lineBegun_54, dX4_lineBegun_55, dX4_lineBegun_56, dX4_lineBegun_58, dX4_lineBegun_61, dX4_lineBegun_64, dX4_lineBegun_65, dX4_lineBegun_68, dX4_lineBegun_70, FX4_30, CX4_90, CX4_96, CX4_98, CX4_100, CX4_102, G_X4_lineBegun_92, kd_19, T4_isNamed]
      refine tst 2 (by omega) _ _ (fun y => ?_) (fun y => ?_)
      · rw [if_pos y] at hK
        clear v55 v44
        repeat' (first | exact trivial | omega | (with_reducible assumption) | exact absurd trivial (by with_reducible assumption) | contradiction | apply And.intro | intro _)
      · have := v44 a0 a1 y
        clear v55 v44
        repeat' (first | exact trivial | omega | (with_reducible assumption) | exact absurd trivial (by with_reducible assumption) | contradiction | apply And.intro | intro _)
    have v22 : nmB b q ((n : Int) - (q : Int)) 0 ≠ true → V 22 [some (.inr (.inr 19))] [] μ := by
      intro a0
      rw [if_neg a0] at hK
      apply hV [33] 20
      simp only [InR, InL, inb, Int.toNat_natCast, wp1, wpc_z, wpc_s, stp_iconst, stp_bipush, stp_sipush, stp_lconst, stp_iload_n, stp_iload, stp_lload_n, stp_lload, stp_aload_n, stp_aload, stp_istore_n, stp_istore, stp_lstore_n, stp_lstore, stp_astore_n, stp_astore, stp_iinc, stp_iadd, stp_isub, stp_imul, stp_ineg, stp_idiv, stp_irem, stp_ladd, stp_lmul, stp_ldiv, stp_lrem, stp_ishl, stp_ishr, stp_iushr, stp_iand, stp_ior, stp_i2l, stp_i2b, stp_i2s, stp_lcmp, stp_dup, stp_dup2, stp_pop, stp_ifCond, stp_if_icmp, stp_goto, stp_tableswitch, stp_lookupswitch, stp_ldc, stp_ldc_w, stp_ldc2_w, stp_getstatic, stp_getfield, stp_putfield, stp_iaload, stp_baload, stp_iastore, stp_bastore, stp_aaload, stp_aastore, stp_invokevirtual, stp_invokestatic, stp_ireturn, stp_lreturn, stp_return_, lg, lset, okl, spl, wd, c1, cnd, tg, swT, swL, f4_0, f4_1, f4_2, f4_3, f2_0, f2_1, List.mem_cons, List.not_mem_nil, List.length_cons, List.length_nil, List.cons_append, List.nil_append, Nat.reduceAdd, Nat.reduceMul, Nat.reduceLT, Nat.reduceEqDiff, Nat.reduceLeDiff, Int.reduceAdd, Int.reduceNeg, Int.reduceToNat, Int.cast_ofNat_Int, Int.reduceNatCast, Int.toNat_zero, Int.toNat_one, Int.reduceLE, Int.reduceLT, Int.reduceEq, Int.zero_add, Int.add_zero, or_false, false_or, or_true, true_or, and_true, true_and, and_false, false_and, reduceIte, not_true_eq_false, not_false_eq_true, forall_const, false_implies, true_implies, implies_true, ne_eq, reduceCtorEq, List.all_cons, List.all_nil, Bool.and_true, Bool.and_self, decide_eq_true_eq, decide_true, dX4_lineBegun_0, dX4_lineBegun_1, dX4_lineBegun_4, dX4_lineBegun_5, dX4_lineBegun_8, dX4_lineBegun_10, dX4_lineBegun_11, dX4_lineBegun_12, dX4_lineBegun_14, dX4_lineBegun_17, dX4_lineBegun_20, dX4_lineBegun_21, dX4_lineBegun_22, dX4_lineBegun_23, dX4_lineBegun_25, dX4_lineBegun_28, dX4_lineBegun_31, dX4_lineBegun_32, dX4_lineBegun_33, dX4_lineBegun_34, dX4_lineBegun_36, dX4_lineBegun_39, dX4_lineBegun_42, dX4_lineBegun_43, dX4_lineBegun_44, dX4_lineBegun_45, dX4_lineBegun_47, dX4_lineBegun_50, dX4_lineBegun_53, dX4_lineBegun_54, dX4_lineBegun_55, dX4_lineBegun_56, dX4_lineBegun_58, dX4_lineBegun_61, dX4_lineBegun_64, dX4_lineBegun_65, dX4_lineBegun_68, dX4_lineBegun_70, FX4_30, CX4_90, CX4_96, CX4_98, CX4_100, CX4_102, G_X4_lineBegun_92, kd_19, T4_isNamed]
      refine tst 1 (by omega) _ _ (fun y => ?_) (fun y => ?_)
      · rw [if_pos y] at hK
        clear v55 v44 v33
        repeat' (first | exact trivial | omega | (with_reducible assumption) | exact absurd trivial (by with_reducible assumption) | contradiction | apply And.intro | intro _)
      · have := v33 a0 y
        clear v55 v44 v33
        repeat' (first | exact trivial | omega | (with_reducible assumption) | exact absurd trivial (by with_reducible assumption) | contradiction | apply And.intro | intro _)
    apply hV [22] 20
    simp only [InR, InL, inb, Int.toNat_natCast, wp1, wpc_z, wpc_s, stp_iconst, stp_bipush, stp_sipush, stp_lconst, stp_iload_n, stp_iload, stp_lload_n, stp_lload, stp_aload_n, stp_aload, stp_istore_n, stp_istore, stp_lstore_n, stp_lstore, stp_astore_n, stp_astore, stp_iinc, stp_iadd, stp_isub, stp_imul, stp_ineg, stp_idiv, stp_irem, stp_ladd, stp_lmul, stp_ldiv, stp_lrem, stp_ishl, stp_ishr, stp_iushr, stp_iand, stp_ior, stp_i2l, stp_i2b, stp_i2s, stp_lcmp, stp_dup, stp_dup2, stp_pop, stp_ifCond, stp_if_icmp, stp_goto, stp_tableswitch, stp_lookupswitch, stp_ldc, stp_ldc_w, stp_ldc2_w, stp_getstatic, stp_getfield, stp_putfield, stp_iaload, stp_baload, stp_iastore, stp_bastore, stp_aaload, stp_aastore, stp_invokevirtual, stp_invokestatic, stp_ireturn, stp_lreturn, stp_return_, lg, lset, okl, spl, wd, c1, cnd, tg, swT, swL, f4_0, f4_1, f4_2, f4_3, f2_0, f2_1, List.mem_cons, List.not_mem_nil, List.length_cons, List.length_nil, List.cons_append, List.nil_append, Nat.reduceAdd, Nat.reduceMul, Nat.reduceLT, Nat.reduceEqDiff, Nat.reduceLeDiff, Int.reduceAdd, Int.reduceNeg, Int.reduceToNat, Int.cast_ofNat_Int, Int.reduceNatCast, Int.toNat_zero, Int.toNat_one, Int.reduceLE, Int.reduceLT, Int.reduceEq, Int.zero_add, Int.add_zero, or_false, false_or, or_true, true_or, and_true, true_and, and_false, false_and, reduceIte, not_true_eq_false, not_false_eq_true, forall_const, false_implies, true_implies, implies_true, ne_eq, reduceCtorEq, List.all_cons, List.all_nil, Bool.and_true, Bool.and_self, decide_eq_true_eq, decide_true, dX4_lineBegun_0, dX4_lineBegun_1, dX4_lineBegun_4, dX4_lineBegun_5, dX4_lineBegun_8, dX4_lineBegun_10, dX4_lineBegun_11, dX4_lineBegun_12, dX4_lineBegun_14, dX4_lineBegun_17, dX4_lineBegun_20, dX4_lineBegun_21, dX4_lineBegun_22, dX4_lineBegun_23, dX4_lineBegun_25, dX4_lineBegun_28, dX4_lineBegun_31, dX4_lineBegun_32, dX4_lineBegun_33, dX4_lineBegun_34, dX4_lineBegun_36, dX4_lineBegun_39, dX4_lineBegun_42, dX4_lineBegun_43, dX4_lineBegun_44, dX4_lineBegun_45, dX4_lineBegun_47, dX4_lineBegun_50, dX4_lineBegun_53, dX4_lineBegun_54, dX4_lineBegun_55, dX4_lineBegun_56, dX4_lineBegun_58, dX4_lineBegun_61, dX4_lineBegun_64, dX4_lineBegun_65, dX4_lineBegun_68, dX4_lineBegun_70, FX4_30, CX4_90, CX4_96, CX4_98, CX4_100, CX4_102, G_X4_lineBegun_92, kd_19, T4_isNamed, h5]
    clear v55 v44 v33
    refine ⟨by omega, fun _ => ?_, fun y => absurd z y⟩
    refine tst 0 (by omega) _ _ (fun y => ?_) (fun y => ?_)
    · rw [if_pos y] at hK
      clear v22
      repeat' (first | exact trivial | omega | (with_reducible assumption) | exact absurd trivial (by with_reducible assumption) | contradiction | apply And.intro | intro _)
    · have := v22 y
      clear v22
      repeat' (first | exact trivial | omega | (with_reducible assumption) | exact absurd trivial (by with_reducible assumption) | contradiction | apply And.intro | intro _)
  · rw [if_pos z] at hK
    apply hV [11] 20
    simp only [InR, InL, inb, Int.toNat_natCast, wp1, wpc_z, wpc_s, stp_iconst, stp_bipush, stp_sipush, stp_lconst, stp_iload_n, stp_iload, stp_lload_n, stp_lload, stp_aload_n, stp_aload, stp_istore_n, stp_istore, stp_lstore_n, stp_lstore, stp_astore_n, stp_astore, stp_iinc, stp_iadd, stp_isub, stp_imul, stp_ineg, stp_idiv, stp_irem, stp_ladd, stp_lmul, stp_ldiv, stp_lrem, stp_ishl, stp_ishr, stp_iushr, stp_iand, stp_ior, stp_i2l, stp_i2b, stp_i2s, stp_lcmp, stp_dup, stp_dup2, stp_pop, stp_ifCond, stp_if_icmp, stp_goto, stp_tableswitch, stp_lookupswitch, stp_ldc, stp_ldc_w, stp_ldc2_w, stp_getstatic, stp_getfield, stp_putfield, stp_iaload, stp_baload, stp_iastore, stp_bastore, stp_aaload, stp_aastore, stp_invokevirtual, stp_invokestatic, stp_ireturn, stp_lreturn, stp_return_, lg, lset, okl, spl, wd, c1, cnd, tg, swT, swL, f4_0, f4_1, f4_2, f4_3, f2_0, f2_1, List.mem_cons, List.not_mem_nil, List.length_cons, List.length_nil, List.cons_append, List.nil_append, Nat.reduceAdd, Nat.reduceMul, Nat.reduceLT, Nat.reduceEqDiff, Nat.reduceLeDiff, Int.reduceAdd, Int.reduceNeg, Int.reduceToNat, Int.cast_ofNat_Int, Int.reduceNatCast, Int.toNat_zero, Int.toNat_one, Int.reduceLE, Int.reduceLT, Int.reduceEq, Int.zero_add, Int.add_zero, or_false, false_or, or_true, true_or, and_true, true_and, and_false, false_and, reduceIte, not_true_eq_false, not_false_eq_true, forall_const, false_implies, true_implies, implies_true, ne_eq, reduceCtorEq, List.all_cons, List.all_nil, Bool.and_true, Bool.and_self, decide_eq_true_eq, decide_true, dX4_lineBegun_0, dX4_lineBegun_1, dX4_lineBegun_4, dX4_lineBegun_5, dX4_lineBegun_8, dX4_lineBegun_10, dX4_lineBegun_11, dX4_lineBegun_12, dX4_lineBegun_14, dX4_lineBegun_17, dX4_lineBegun_20, dX4_lineBegun_21, dX4_lineBegun_22, dX4_lineBegun_23, dX4_lineBegun_25, dX4_lineBegun_28, dX4_lineBegun_31, dX4_lineBegun_32, dX4_lineBegun_33, dX4_lineBegun_34, dX4_lineBegun_36, dX4_lineBegun_39, dX4_lineBegun_42, dX4_lineBegun_43, dX4_lineBegun_44, dX4_lineBegun_45, dX4_lineBegun_47, dX4_lineBegun_50, dX4_lineBegun_53, dX4_lineBegun_54, dX4_lineBegun_55, dX4_lineBegun_56, dX4_lineBegun_58, dX4_lineBegun_61, dX4_lineBegun_64, dX4_lineBegun_65, dX4_lineBegun_68, dX4_lineBegun_70, FX4_30, CX4_90, CX4_96, CX4_98, CX4_100, CX4_102, G_X4_lineBegun_92, kd_19, h5]
    repeat' (first | exact trivial | omega | (with_reducible assumption) | exact absurd trivial (by with_reducible assumption) | contradiction | apply And.intro | intro _)
theorem good_X4_lineBegun (l : Launch) : Good l 6 yX4_lineBegun cX4_lineBegun 1 (some .int) T4_lineBegun := by
  refine Good.mk 1 (by decide) rfl (by simp [retOK]) FOK4 COK4 (gk_X4_lineBegun l) ?_ ?_
  · intro a μ K h
    unfold T4_lineBegun at h
    split at h
    · simp [entl]
    · exact h.elim
  · intro a μ K V hV h
    unfold T4_lineBegun at h
    split at h
    · exact body_X4_lineBegun _ μ K V hV h
    · exact h.elim

/-- the trial ring holds what is told so far -/
def RD (μ : Mem) (D : Nat → Int) (hw : Bool) : Prop := RP μ 8 ∧ rI μ 8 1 = D 35 ∧ rI μ 8 2 = (if hw = true then D 36 else -4) ∧ rI μ 8 3 = 0 ∧ rI μ 8 4 = 0 ∧ rI μ 8 5 = 0 ∧ rI μ 8 6 = 0 ∧ ∀ i t : Nat, (i : Int) < D 35 → t < 7 → rI μ (rR μ 9 i) t = D (7 * i + t)
theorem RD.tf {μ ν : Mem} {D : Nat → Int} {hw : Bool} (h : RD μ D hw) (h35 : D 35 ≤ 5) (hF : TFr μ ν) : RD ν D hw := by
  obtain ⟨r0, r1, r2, r3, r4, r5, r6, r7⟩ := h
  have e8 := hF.2.1 8 (by omega)
  refine ⟨r0.of (hF.2.2 _), by rw [e8]; exact r1, by rw [e8]; exact r2, by rw [e8]; exact r3, by rw [e8]; exact r4, by rw [e8]; exact r5, by rw [e8]; exact r6, fun i t hi ht => ?_⟩
  have hr : 10 ≤ rR μ 9 i ∧ rR μ 9 i ≤ 14 := r0.1 i (by omega)
  rw [hF.2.2, hF.2.1 _ (by omega)]
  exact r7 i t hi ht
/-- nothing but the TAPE's numbers and the trial ring has changed -/
def TFq (μ ν : Mem) : Prop := rI ν 19 1 = rI μ 19 1 ∧ (∀ k, k ≠ 19 → (k < 8 ∨ 14 < k) → ∀ j, rI ν k j = rI μ k j) ∧ (∀ k j, rR ν k j = rR μ k j)
theorem TFq.rf {μ : Mem} : TFq μ μ := ⟨rfl, fun _ _ _ _ => rfl, fun _ _ => rfl⟩
theorem TFq.tr {μ ν ρ : Mem} (h : TFq μ ν) (h2 : TFq ν ρ) : TFq μ ρ := ⟨h2.1.trans h.1, fun k a b j => (h2.2.1 k a b j).trans (h.2.1 k a b j), fun k j => (h2.2.2 k j).trans (h.2.2 k j)⟩
theorem TFr.q {μ ν : Mem} (h : TFr μ ν) : TFq μ ν := ⟨h.1, fun k a _ j => h.2.1 k a j, h.2.2⟩
theorem TFq.w (μ : Mem) {k : Nat} (hk : 8 ≤ k ∧ k ≤ 14) (j : Nat) (v : Int) : TFq μ (wI μ k j v) := ⟨by rw [rI_wI, if_neg (by omega)], fun a _ h y => by rw [rI_wI, if_neg (by omega)], fun _ _ => rfl⟩
theorem TFq.tp {μ ν : Mem} {b : Nat → Int} {len : Nat} (h : TFq μ ν) (ht : TP μ b len) : TP ν b len := ⟨by rw [h.1]; exact ht.1, ht.2.1, fun j => by rw [h.2.1 20 (by omega) (by omega)]; exact ht.2.2.1 j, ht.2.2.2⟩
def T4_placeWord : TT := fun a μ K => match a with
  | [.inr (.inr o), .inr (.inr R)] => o = 19 ∧ (R = 8 ∧ ∃ (D : Nat → Int) (hw : Bool) (len : Nat), (0 ≤ D 35 ∧ D 35 ≤ 5) ∧ (0 ≤ D 36 ∧ D 36 ≤ 4) ∧ InR (rI μ 19 2) ∧ rI μ 19 1 = len ∧ (rI μ 19 2 = 0 → RD μ D hw) ∧ InR (rI μ 8 2) ∧ InR (rI μ 8 1) ∧ (rI μ 19 2 ≠ 0 → ∀ ν, TFq μ ν → rI ν 19 2 = rI μ 19 2 → rI ν 19 3 = rI μ 19 3 → K [] ν) ∧ (rI μ 19 2 = 0 → hw = false → K [] (wI μ 8 2 (if D 35 = 0 then -4 else 0))) ∧ (rI μ 19 2 = 0 → hw = true → (D 36 < D 35 → K [] μ) ∧ (¬ D 36 < D 35 → K [] (wI (wI μ 19 2 6) 19 3 len))))
  | _ => False
theorem rec_X4_placeWord : ∀ a μ K, T4_placeWord a μ K → ∃ k r, a = .inr (.inr k) :: r ∧ kd k = 4 := by
  intro a μ K h
  unfold T4_placeWord at h
  split at h
  · exact ⟨_, _, rfl, by rw [h.1]; rfl⟩
  · exact h.elim
def GL_X4_placeWord : List (Nat × Nat × Bool × TT) := [(46, 2, false, T1_has), (53, 3, false, T4_blame)]
def G_X4_placeWord : Nat → Option (Nat × Bool × TT) := fun i => GL_X4_placeWord.lookup i
theorem G_X4_placeWord_46 : G_X4_placeWord 46 = some (2, false, T1_has) := rfl
theorem G_X4_placeWord_53 : G_X4_placeWord 53 = some (3, false, T4_blame) := rfl
theorem gk_X4_placeWord (l : Launch) : ∀ i n b T, G_X4_placeWord i = some (n, b, T) → CallOK l 1 RX4 i n b T := by
  intro i n b T h
  have hm : (i, n, b, T) ∈ GL_X4_placeWord := lk_mem h
  simp only [GL_X4_placeWord, List.mem_cons, List.not_mem_nil, or_false, Prod.mk.injEq] at hm
  rcases hm with ⟨rfl, rfl, rfl, rfl⟩ | ⟨rfl, rfl, rfl, rfl⟩
  · exact CallOK.V (d := 1) (own := RX4) (i := 46) (n := 1) (ci := 1) (good_X1_has l) (by decide) (by decide) rfl (by decide) rec_X1_has (mg 312 (by decide +kernel) (by decide +kernel)) (mg 313 (by decide +kernel) (by decide +kernel)) (mg 314 (by decide +kernel) (by decide +kernel)) (mg 2 (by decide +kernel) (by decide +kernel)) (mg 315 (by decide +kernel) (by decide +kernel)) (by decide +kernel)
  · exact CallOK.V (d := 1) (own := RX4) (i := 53) (n := 2) (ci := 4) (good_X4_blame l) (by decide) (by decide) rfl (by decide) rec_X4_blame (mg 218 (by decide +kernel) (by decide +kernel)) (mg 220 (by decide +kernel) (by decide +kernel)) (mgs 2 (by decide +kernel) (by decide +kernel)) (mg 4 (by decide +kernel) (by decide +kernel)) (mg 221 (by decide +kernel) (by decide +kernel)) (by decide +kernel)
set_option maxRecDepth 20000 in
set_option maxHeartbeats 4000000 in
theorem body_X4_placeWord (o : Nat) (R : Nat) (μ : Mem) (K : List AV → Mem → Prop) (V : Nat → List (Option AV) → List AV → Mem → Prop) (hV : Clos FX4 CX4 G_X4_placeWord 0 K cX4_placeWord V) (hT : o = 19 ∧ (R = 8 ∧ ∃ (D : Nat → Int) (hw : Bool) (len : Nat), (0 ≤ D 35 ∧ D 35 ≤ 5) ∧ (0 ≤ D 36 ∧ D 36 ≤ 4) ∧ InR (rI μ 19 2) ∧ rI μ 19 1 = len ∧ (rI μ 19 2 = 0 → RD μ D hw) ∧ InR (rI μ 8 2) ∧ InR (rI μ 8 1) ∧ (rI μ 19 2 ≠ 0 → ∀ ν, TFq μ ν → rI ν 19 2 = rI μ 19 2 → rI ν 19 3 = rI μ 19 3 → K [] ν) ∧ (rI μ 19 2 = 0 → hw = false → K [] (wI μ 8 2 (if D 35 = 0 then -4 else 0))) ∧ (rI μ 19 2 = 0 → hw = true → (D 36 < D 35 → K [] μ) ∧ (¬ D 36 < D 35 → K [] (wI (wI μ 19 2 6) 19 3 len))))) : V 0 [some (.inr (.inr o)), some (.inr (.inr R))] [] μ := by
  simp only [InR] at hT
  obtain ⟨rfl, rfl, D, hw, len, h35, h36, hi2, hl, hR, hr2, hr1, k1, k2, k3⟩ := hT
  by_cases z : rI μ 19 2 = 0
  · obtain ⟨r0, r1, r2, r3, r4, r5, r6, r7⟩ := hR z
    have k2 := k2 z
    have k3 := k3 z
    clear k1
    cases hw with
    | false =>
      have k2 := k2 rfl
      simp only [Bool.false_eq_true, if_false] at r2
      clear k3
      apply hV [] 30
      simp only [InR, InL, inb, Int.toNat_natCast, wp1, wpc_z, wpc_s, stp_iconst, stp_bipush, stp_sipush, stp_lconst, stp_iload_n, stp_iload, stp_lload_n, stp_lload, stp_aload_n, stp_aload, stp_istore_n, stp_istore, stp_lstore_n, stp_lstore, stp_astore_n, stp_astore, stp_iinc, stp_iadd, stp_isub, stp_imul, stp_ineg, stp_idiv, stp_irem, stp_ladd, stp_lmul, stp_ldiv, stp_lrem, stp_ishl, stp_ishr, stp_iushr, stp_iand, stp_ior, stp_i2l, stp_i2b, stp_i2s, stp_lcmp, stp_dup, stp_dup2, stp_pop, stp_ifCond, stp_if_icmp, stp_goto, stp_tableswitch, stp_lookupswitch, stp_ldc, stp_ldc_w, stp_ldc2_w, stp_getstatic, stp_getfield, stp_putfield, stp_iaload, stp_baload, stp_iastore, stp_bastore, stp_aaload, stp_aastore, stp_invokevirtual, stp_invokestatic, stp_ireturn, stp_lreturn, stp_return_, lg, lset, okl, spl, wd, c1, cnd, tg, swT, swL, f4_0, f4_1, f4_2, f4_3, f2_0, f2_1, List.mem_cons, List.not_mem_nil, List.length_cons, List.length_nil, List.cons_append, List.nil_append, Nat.reduceAdd, Nat.reduceMul, Nat.reduceLT, Nat.reduceEqDiff, Nat.reduceLeDiff, Int.reduceAdd, Int.reduceNeg, Int.reduceToNat, Int.cast_ofNat_Int, Int.reduceNatCast, Int.toNat_zero, Int.toNat_one, Int.reduceLE, Int.reduceLT, Int.reduceEq, Int.zero_add, Int.add_zero, or_false, false_or, or_true, true_or, and_true, true_and, and_false, false_and, reduceIte, not_true_eq_false, not_false_eq_true, forall_const, false_implies, true_implies, implies_true, ne_eq, reduceCtorEq, List.all_cons, List.all_nil, Bool.and_true, Bool.and_self, decide_eq_true_eq, decide_true, dX4_placeWord_0, dX4_placeWord_1, dX4_placeWord_4, dX4_placeWord_6, dX4_placeWord_9, dX4_placeWord_10, dX4_placeWord_11, dX4_placeWord_14, dX4_placeWord_17, dX4_placeWord_18, dX4_placeWord_21, dX4_placeWord_23, dX4_placeWord_26, dX4_placeWord_29, dX4_placeWord_30, dX4_placeWord_33, dX4_placeWord_36, dX4_placeWord_37, dX4_placeWord_38, dX4_placeWord_41, dX4_placeWord_44, dX4_placeWord_47, dX4_placeWord_48, dX4_placeWord_50, dX4_placeWord_51, dX4_placeWord_54, dX4_placeWord_57, FX4_40, FX4_43, FX4_20, FX4_50, G_X4_placeWord_46, G_X4_placeWord_53, kd_8, r2, r1]
      by_cases y : D 35 = 0
      · rw [if_pos y] at k2
        repeat' (first | exact trivial | omega | (with_reducible assumption) | exact absurd trivial (by with_reducible assumption) | contradiction | apply And.intro | intro _)
      · rw [if_neg y] at k2
        repeat' (first | exact trivial | omega | (with_reducible assumption) | exact absurd trivial (by with_reducible assumption) | contradiction | apply And.intro | intro _)
    | true =>
      obtain ⟨k4, k5⟩ := k3 rfl
      simp only [if_true] at r2
      clear k2
      apply hV [] 30
      simp only [InR, InL, inb, Int.toNat_natCast, wp1, wpc_z, wpc_s, stp_iconst, stp_bipush, stp_sipush, stp_lconst, stp_iload_n, stp_iload, stp_lload_n, stp_lload, stp_aload_n, stp_aload, stp_istore_n, stp_istore, stp_lstore_n, stp_lstore, stp_astore_n, stp_astore, stp_iinc, stp_iadd, stp_isub, stp_imul, stp_ineg, stp_idiv, stp_irem, stp_ladd, stp_lmul, stp_ldiv, stp_lrem, stp_ishl, stp_ishr, stp_iushr, stp_iand, stp_ior, stp_i2l, stp_i2b, stp_i2s, stp_lcmp, stp_dup, stp_dup2, stp_pop, stp_ifCond, stp_if_icmp, stp_goto, stp_tableswitch, stp_lookupswitch, stp_ldc, stp_ldc_w, stp_ldc2_w, stp_getstatic, stp_getfield, stp_putfield, stp_iaload, stp_baload, stp_iastore, stp_bastore, stp_aaload, stp_aastore, stp_invokevirtual, stp_invokestatic, stp_ireturn, stp_lreturn, stp_return_, lg, lset, okl, spl, wd, c1, cnd, tg, swT, swL, f4_0, f4_1, f4_2, f4_3, f2_0, f2_1, List.mem_cons, List.not_mem_nil, List.length_cons, List.length_nil, List.cons_append, List.nil_append, Nat.reduceAdd, Nat.reduceMul, Nat.reduceLT, Nat.reduceEqDiff, Nat.reduceLeDiff, Int.reduceAdd, Int.reduceNeg, Int.reduceToNat, Int.cast_ofNat_Int, Int.reduceNatCast, Int.toNat_zero, Int.toNat_one, Int.reduceLE, Int.reduceLT, Int.reduceEq, Int.zero_add, Int.add_zero, or_false, false_or, or_true, true_or, and_true, true_and, and_false, false_and, reduceIte, not_true_eq_false, not_false_eq_true, forall_const, false_implies, true_implies, implies_true, ne_eq, reduceCtorEq, List.all_cons, List.all_nil, Bool.and_true, Bool.and_self, decide_eq_true_eq, decide_true, dX4_placeWord_0, dX4_placeWord_1, dX4_placeWord_4, dX4_placeWord_6, dX4_placeWord_9, dX4_placeWord_10, dX4_placeWord_11, dX4_placeWord_14, dX4_placeWord_17, dX4_placeWord_18, dX4_placeWord_21, dX4_placeWord_23, dX4_placeWord_26, dX4_placeWord_29, dX4_placeWord_30, dX4_placeWord_33, dX4_placeWord_36, dX4_placeWord_37, dX4_placeWord_38, dX4_placeWord_41, dX4_placeWord_44, dX4_placeWord_47, dX4_placeWord_48, dX4_placeWord_50, dX4_placeWord_51, dX4_placeWord_54, dX4_placeWord_57, FX4_40, FX4_43, FX4_20, FX4_50, G_X4_placeWord_46, G_X4_placeWord_53, kd_8, kd_19, r2, r1, z, hl, T1_has, T4_blame]
      by_cases y : D 36 < D 35
      · have k4 := k4 y
        clear k5
        repeat' (first | exact trivial | omega | (with_reducible assumption) | exact absurd trivial (by with_reducible assumption) | contradiction | apply And.intro | intro _)
      · have k5 := k5 y
        clear k4
        repeat' (first | exact trivial | omega | (with_reducible assumption) | exact absurd trivial (by with_reducible assumption) | contradiction | apply And.intro | intro _)
  · have k1 := k1 z
    have ka := k1 μ TFq.rf rfl rfl
    have kb := fun v => k1 (wI μ 8 2 v) (TFq.w μ (by omega) 2 v) (by rw [rI_wI, if_neg (by omega)]) (by rw [rI_wI, if_neg (by omega)])
    have kb0 := kb 0
    have kb4 := kb (-4)
    clear k1 k2 k3 kb hR
    apply hV [] 30
    simp only [InR, InL, inb, Int.toNat_natCast, wp1, wpc_z, wpc_s, stp_iconst, stp_bipush, stp_sipush, stp_lconst, stp_iload_n, stp_iload, stp_lload_n, stp_lload, stp_aload_n, stp_aload, stp_istore_n, stp_istore, stp_lstore_n, stp_lstore, stp_astore_n, stp_astore, stp_iinc, stp_iadd, stp_isub, stp_imul, stp_ineg, stp_idiv, stp_irem, stp_ladd, stp_lmul, stp_ldiv, stp_lrem, stp_ishl, stp_ishr, stp_iushr, stp_iand, stp_ior, stp_i2l, stp_i2b, stp_i2s, stp_lcmp, stp_dup, stp_dup2, stp_pop, stp_ifCond, stp_if_icmp, stp_goto, stp_tableswitch, stp_lookupswitch, stp_ldc, stp_ldc_w, stp_ldc2_w, stp_getstatic, stp_getfield, stp_putfield, stp_iaload, stp_baload, stp_iastore, stp_bastore, stp_aaload, stp_aastore, stp_invokevirtual, stp_invokestatic, stp_ireturn, stp_lreturn, stp_return_, lg, lset, okl, spl, wd, c1, cnd, tg, swT, swL, f4_0, f4_1, f4_2, f4_3, f2_0, f2_1, List.mem_cons, List.not_mem_nil, List.length_cons, List.length_nil, List.cons_append, List.nil_append, Nat.reduceAdd, Nat.reduceMul, Nat.reduceLT, Nat.reduceEqDiff, Nat.reduceLeDiff, Int.reduceAdd, Int.reduceNeg, Int.reduceToNat, Int.cast_ofNat_Int, Int.reduceNatCast, Int.toNat_zero, Int.toNat_one, Int.reduceLE, Int.reduceLT, Int.reduceEq, Int.zero_add, Int.add_zero, or_false, false_or, or_true, true_or, and_true, true_and, and_false, false_and, reduceIte, not_true_eq_false, not_false_eq_true, forall_const, false_implies, true_implies, implies_true, ne_eq, reduceCtorEq, List.all_cons, List.all_nil, Bool.and_true, Bool.and_self, decide_eq_true_eq, decide_true, dX4_placeWord_0, dX4_placeWord_1, dX4_placeWord_4, dX4_placeWord_6, dX4_placeWord_9, dX4_placeWord_10, dX4_placeWord_11, dX4_placeWord_14, dX4_placeWord_17, dX4_placeWord_18, dX4_placeWord_21, dX4_placeWord_23, dX4_placeWord_26, dX4_placeWord_29, dX4_placeWord_30, dX4_placeWord_33, dX4_placeWord_36, dX4_placeWord_37, dX4_placeWord_38, dX4_placeWord_41, dX4_placeWord_44, dX4_placeWord_47, dX4_placeWord_48, dX4_placeWord_50, dX4_placeWord_51, dX4_placeWord_54, dX4_placeWord_57, FX4_40, FX4_43, FX4_20, FX4_50, G_X4_placeWord_46, G_X4_placeWord_53, kd_8, kd_19]
    repeat' (first | exact trivial | omega | (with_reducible assumption) | exact absurd trivial (by with_reducible assumption) | contradiction | apply And.intro | intro _)
theorem good_X4_placeWord (l : Launch) : Good l 1 yX4_placeWord cX4_placeWord 2 none T4_placeWord := by
  refine Good.mk 0 (by decide) rfl (by simp [retOK]) FOK4 COK4 (gk_X4_placeWord l) ?_ ?_
  · intro a μ K h
    unfold T4_placeWord at h
    split at h
    · simp [entl]
    · exact h.elim
  · intro a μ K V hV h
    unfold T4_placeWord at h
    split at h
    · exact body_X4_placeWord _ _ μ K V hV h
    · exact h.elim

/-- behind a line: its FAULT, or what is told then -/
def LN (μ ν : Mem) (e pl : Int) (q : Nat) (D : Nat → Int) (hw : Bool) : Prop := TFq μ ν ∧ rI ν 19 2 = e ∧ (e ≠ 0 → rI ν 19 3 = pl) ∧ (e = 0 → RD ν D hw ∧ rI ν 19 4 = q) ∧ RP ν 8 ∧ InR (rI ν 8 2) ∧ InR (rI ν 8 1)
