/-! the class: text -/
/-- the head of a line has been read -/
def HD (ν : Mem) (b : Nat → Int) (len p : Nat) : Prop := rI ν 19 4 = tkN b len p ∧ rI ν 19 6 = tkF b len p ∧ rI ν 19 5 = tkS b len p ∧ rI ν 19 2 = (if tkE b len p = true then 1 else 0) ∧ (tkE b len p = true → rI ν 19 3 = tkF b len p)
theorem TA.hd {μ ν : Mem} {b : Nat → Int} {len p : Nat} (h : TA μ ν b len p (if tkE b len p = true then 1 else 0)) : HD ν b len p := by
  obtain ⟨a4, a6, a5, a2, a3, aF⟩ := h
  exact ⟨a4, a6, a5, a2, fun z => a3 (by rw [if_pos z]; omega)⟩
set_option maxRecDepth 20000 in
set_option maxHeartbeats 4000000 in
theorem lp_ta (V : Nat → List (Option AV) → List AV → Mem → Prop) (K : List AV → Mem → Prop) (hV : Clos FX4 CX4 G_X4_tellAll 1 K cX4_tellAll V) (μ : Mem) (b : Nat → Int) (len : Nat) (ht : TP μ b len) (R : Int × Int × Int × (Nat → Int)) (hK : ∀ ρ, FIc μ ρ R → (R.1 = 0 → K [.inl R.2.2.1] ρ) ∧ (R.1 ≠ 0 → ∀ r, K [.inl r] ρ)) : ∀ m n : Nat, m + n = 8 → ∀ (p : Nat) (D : Nat → Int) (hw : Bool), DW D hw n → plN b len m p D hw n = R → p ≤ len → ∀ ν, TFq μ ν → RD ν D hw → HD ν b len p → V 20 [some (.inr (.inr 19)), some (.inr (.inr 8)), some (.inl (n : Int))] [] ν := by
  have ht2 := ht.2.1
  have hb := ht.2.2.2
  intro m
  induction m with
  | zero =>
    intro n hn p D hw hD
    have := hD.2.1
    have := hD.1
    split at * <;> omega
  | succ m ih =>
    intro n hn p D hw hD hR hp ν h1 hRD hH
    have hn6 : n ≤ 6 := by
      have a := hD.2.1
      have b := hD.1
      split at a <;> omega
    have htp := h1.tp ht
    obtain ⟨a4, a6, a5, a2, a3⟩ := hH
    have hRD' := hRD
    obtain ⟨r0, r1, r2, r3, r4, r5, r6, r7⟩ := hRD
    have w1 := hD.1
    have i1 : InR (rI ν 8 1) := by rw [r1]; exact ⟨by omega, by omega⟩
    have i2 : InR (rI ν 8 2) := by
      rw [r2]
      split
      · rename_i z; have := hD.2.2.1 z; exact ⟨by omega, by omega⟩
      · exact ⟨by omega, by omega⟩
    have hs := tkS_in (b := b) (len := len) p
    by_cases z : tkE b len p = true
    · rw [if_pos z] at a2
      simp only [plN] at hR
      rw [if_pos z] at hR
      have kk := b_ta63 V K hV μ ν R hK n h1 r0 i2 i1 len htp.1 (Or.inl ⟨by rw [a2, ← hR], by rw [← hR]; simp, by rw [← hR]; simp, by rw [a3 z, ← hR]⟩)
      clear hK ih
      apply hV [63] 10
      simp only [InR, InL, inb, Int.toNat_natCast, wp1, wpc_z, wpc_s, stp_iconst, stp_bipush, stp_sipush, stp_lconst, stp_iload_n, stp_iload, stp_lload_n, stp_lload, stp_aload_n, stp_aload, stp_istore_n, stp_istore, stp_lstore_n, stp_lstore, stp_astore_n, stp_astore, stp_iinc, stp_iadd, stp_isub, stp_imul, stp_ineg, stp_idiv, stp_irem, stp_ladd, stp_lmul, stp_ldiv, stp_lrem, stp_ishl, stp_ishr, stp_iushr, stp_iand, stp_ior, stp_i2l, stp_i2b, stp_i2s, stp_lcmp, stp_dup, stp_dup2, stp_pop, stp_ifCond, stp_if_icmp, stp_goto, stp_tableswitch, stp_lookupswitch, stp_ldc, stp_ldc_w, stp_ldc2_w, stp_getstatic, stp_getfield, stp_putfield, stp_iaload, stp_baload, stp_iastore, stp_bastore, stp_aaload, stp_aastore, stp_invokevirtual, stp_invokestatic, stp_ireturn, stp_lreturn, stp_return_, lg, lset, okl, spl, wd, c1, cnd, tg, swT, swL, f4_0, f4_1, f4_2, f4_3, f2_0, f2_1, List.mem_cons, List.not_mem_nil, List.length_cons, List.length_nil, List.cons_append, List.nil_append, Nat.reduceAdd, Nat.reduceMul, Nat.reduceLT, Nat.reduceEqDiff, Nat.reduceLeDiff, Int.reduceAdd, Int.reduceNeg, Int.reduceToNat, Int.cast_ofNat_Int, Int.reduceNatCast, Int.toNat_zero, Int.toNat_one, Int.reduceLE, Int.reduceLT, Int.reduceEq, Int.zero_add, Int.add_zero, or_false, false_or, or_true, true_or, and_true, true_and, and_false, false_and, reduceIte, not_true_eq_false, not_false_eq_true, forall_const, false_implies, true_implies, implies_true, ne_eq, reduceCtorEq, List.all_cons, List.all_nil, Bool.and_true, Bool.and_self, decide_eq_true_eq, decide_true, dX4_tellAll_0, dX4_tellAll_1, dX4_tellAll_4, dX4_tellAll_5, dX4_tellAll_6, dX4_tellAll_9, dX4_tellAll_10, dX4_tellAll_11, dX4_tellAll_14, dX4_tellAll_15, dX4_tellAll_16, dX4_tellAll_17, dX4_tellAll_20, dX4_tellAll_21, dX4_tellAll_24, dX4_tellAll_27, dX4_tellAll_28, dX4_tellAll_31, dX4_tellAll_34, dX4_tellAll_35, dX4_tellAll_38, dX4_tellAll_41, dX4_tellAll_42, dX4_tellAll_43, dX4_tellAll_46, dX4_tellAll_49, dX4_tellAll_50, dX4_tellAll_53, dX4_tellAll_56, dX4_tellAll_57, dX4_tellAll_60, dX4_tellAll_63, dX4_tellAll_64, dX4_tellAll_65, dX4_tellAll_68, dX4_tellAll_69, FX4_20, FX4_24, FX4_30, G_X4_tellAll_15, G_X4_tellAll_27, G_X4_tellAll_33, G_X4_tellAll_37, kd_19, a2]
      repeat' (first | exact trivial | omega | (with_reducible assumption) | exact absurd trivial (by with_reducible assumption) | contradiction | apply And.intro | intro _)
    · rw [if_neg z] at a2
      by_cases y : tkS b len p = 0
      · simp only [plN] at hR
        rw [if_neg z, if_pos y, (tkS_0 hb ht2 hp).mp y] at hR
        have kk := b_ta63 V K hV μ ν R hK n h1 r0 i2 i1 len htp.1 (Or.inr ⟨a2, D, hw, n, hRD', hD, hR.symm⟩)
        clear hK ih
        rw [y] at a5
        apply hV [63] 10
        simp only [InR, InL, inb, Int.toNat_natCast, wp1, wpc_z, wpc_s, stp_iconst, stp_bipush, stp_sipush, stp_lconst, stp_iload_n, stp_iload, stp_lload_n, stp_lload, stp_aload_n, stp_aload, stp_istore_n, stp_istore, stp_lstore_n, stp_lstore, stp_astore_n, stp_astore, stp_iinc, stp_iadd, stp_isub, stp_imul, stp_ineg, stp_idiv, stp_irem, stp_ladd, stp_lmul, stp_ldiv, stp_lrem, stp_ishl, stp_ishr, stp_iushr, stp_iand, stp_ior, stp_i2l, stp_i2b, stp_i2s, stp_lcmp, stp_dup, stp_dup2, stp_pop, stp_ifCond, stp_if_icmp, stp_goto, stp_tableswitch, stp_lookupswitch, stp_ldc, stp_ldc_w, stp_ldc2_w, stp_getstatic, stp_getfield, stp_putfield, stp_iaload, stp_baload, stp_iastore, stp_bastore, stp_aaload, stp_aastore, stp_invokevirtual, stp_invokestatic, stp_ireturn, stp_lreturn, stp_return_, lg, lset, okl, spl, wd, c1, cnd, tg, swT, swL, f4_0, f4_1, f4_2, f4_3, f2_0, f2_1, List.mem_cons, List.not_mem_nil, List.length_cons, List.length_nil, List.cons_append, List.nil_append, Nat.reduceAdd, Nat.reduceMul, Nat.reduceLT, Nat.reduceEqDiff, Nat.reduceLeDiff, Int.reduceAdd, Int.reduceNeg, Int.reduceToNat, Int.cast_ofNat_Int, Int.reduceNatCast, Int.toNat_zero, Int.toNat_one, Int.reduceLE, Int.reduceLT, Int.reduceEq, Int.zero_add, Int.add_zero, or_false, false_or, or_true, true_or, and_true, true_and, and_false, false_and, reduceIte, not_true_eq_false, not_false_eq_true, forall_const, false_implies, true_implies, implies_true, ne_eq, reduceCtorEq, List.all_cons, List.all_nil, Bool.and_true, Bool.and_self, decide_eq_true_eq, decide_true, dX4_tellAll_0, dX4_tellAll_1, dX4_tellAll_4, dX4_tellAll_5, dX4_tellAll_6, dX4_tellAll_9, dX4_tellAll_10, dX4_tellAll_11, dX4_tellAll_14, dX4_tellAll_15, dX4_tellAll_16, dX4_tellAll_17, dX4_tellAll_20, dX4_tellAll_21, dX4_tellAll_24, dX4_tellAll_27, dX4_tellAll_28, dX4_tellAll_31, dX4_tellAll_34, dX4_tellAll_35, dX4_tellAll_38, dX4_tellAll_41, dX4_tellAll_42, dX4_tellAll_43, dX4_tellAll_46, dX4_tellAll_49, dX4_tellAll_50, dX4_tellAll_53, dX4_tellAll_56, dX4_tellAll_57, dX4_tellAll_60, dX4_tellAll_63, dX4_tellAll_64, dX4_tellAll_65, dX4_tellAll_68, dX4_tellAll_69, FX4_20, FX4_24, FX4_30, G_X4_tellAll_15, G_X4_tellAll_27, G_X4_tellAll_33, G_X4_tellAll_37, kd_19, a2, a5]
        repeat' (first | exact trivial | omega | (with_reducible assumption) | exact absurd trivial (by with_reducible assumption) | contradiction | apply And.intro | intro _)
      · rw [plN_s (by simpa using z) y] at hR
        have k46 : ∀ ρ, LN ν ρ (lnR b len p D hw).1 (lnR b len p D hw).2.1 (lnR b len p D hw).2.2.1 (lnR b len p D hw).2.2.2.1 (lnR b len p D hw).2.2.2.2 → V 46 [some (.inr (.inr 19)), some (.inr (.inr 8)), some (.inl (n : Int))] [] ρ := by
          intro ρ hL
          obtain ⟨l1, l2, l3, l4, l5, l6, l7⟩ := hL
          have htr := l1.tp htp
          by_cases x : (lnR b len p D hw).1 = 0
          · rw [if_neg (fun q => q x)] at hR
            obtain ⟨g1, g2⟩ := l4 x
            rw [x] at l2
            have hq := lnR_in hb ht2 hp D hw
            have hD2 := lnR_DW hD x
            have k20 : ∀ σ, TA ρ σ b len (lnR b len p D hw).2.2.1 (if tkE b len (lnR b len p D hw).2.2.1 = true then 1 else 0) → V 20 [some (.inr (.inr 19)), some (.inr (.inr 8)), some (.inl ((n : Int) + 1))] [] σ := by
              intro σ hσ
              have h := ih (n + 1) (by omega) _ _ _ hD2 hR hq σ ((h1.tr l1).tr hσ.2.2.2.2.2.q) (g1.tf hD2.1.2 hσ.2.2.2.2.2) hσ.hd
              rw [show ((n + 1 : Nat) : Int) = (n : Int) + 1 by omega] at h
              exact h
            clear ih hK
            apply hV [20] 10
            simp only [InR, InL, inb, Int.toNat_natCast, wp1, wpc_z, wpc_s, stp_iconst, stp_bipush, stp_sipush, stp_lconst, stp_iload_n, stp_iload, stp_lload_n, stp_lload, stp_aload_n, stp_aload, stp_istore_n, stp_istore, stp_lstore_n, stp_lstore, stp_astore_n, stp_astore, stp_iinc, stp_iadd, stp_isub, stp_imul, stp_ineg, stp_idiv, stp_irem, stp_ladd, stp_lmul, stp_ldiv, stp_lrem, stp_ishl, stp_ishr, stp_iushr, stp_iand, stp_ior, stp_i2l, stp_i2b, stp_i2s, stp_lcmp, stp_dup, stp_dup2, stp_pop, stp_ifCond, stp_if_icmp, stp_goto, stp_tableswitch, stp_lookupswitch, stp_ldc, stp_ldc_w, stp_ldc2_w, stp_getstatic, stp_getfield, stp_putfield, stp_iaload, stp_baload, stp_iastore, stp_bastore, stp_aaload, stp_aastore, stp_invokevirtual, stp_invokestatic, stp_ireturn, stp_lreturn, stp_return_, lg, lset, okl, spl, wd, c1, cnd, tg, swT, swL, f4_0, f4_1, f4_2, f4_3, f2_0, f2_1, List.mem_cons, List.not_mem_nil, List.length_cons, List.length_nil, List.cons_append, List.nil_append, Nat.reduceAdd, Nat.reduceMul, Nat.reduceLT, Nat.reduceEqDiff, Nat.reduceLeDiff, Int.reduceAdd, Int.reduceNeg, Int.reduceToNat, Int.cast_ofNat_Int, Int.reduceNatCast, Int.toNat_zero, Int.toNat_one, Int.reduceLE, Int.reduceLT, Int.reduceEq, Int.zero_add, Int.add_zero, or_false, false_or, or_true, true_or, and_true, true_and, and_false, false_and, reduceIte, not_true_eq_false, not_false_eq_true, forall_const, false_implies, true_implies, implies_true, ne_eq, reduceCtorEq, List.all_cons, List.all_nil, Bool.and_true, Bool.and_self, decide_eq_true_eq, decide_true, dX4_tellAll_0, dX4_tellAll_1, dX4_tellAll_4, dX4_tellAll_5, dX4_tellAll_6, dX4_tellAll_9, dX4_tellAll_10, dX4_tellAll_11, dX4_tellAll_14, dX4_tellAll_15, dX4_tellAll_16, dX4_tellAll_17, dX4_tellAll_20, dX4_tellAll_21, dX4_tellAll_24, dX4_tellAll_27, dX4_tellAll_28, dX4_tellAll_31, dX4_tellAll_34, dX4_tellAll_35, dX4_tellAll_38, dX4_tellAll_41, dX4_tellAll_42, dX4_tellAll_43, dX4_tellAll_46, dX4_tellAll_49, dX4_tellAll_50, dX4_tellAll_53, dX4_tellAll_56, dX4_tellAll_57, dX4_tellAll_60, dX4_tellAll_63, dX4_tellAll_64, dX4_tellAll_65, dX4_tellAll_68, dX4_tellAll_69, FX4_20, FX4_24, FX4_30, G_X4_tellAll_15, G_X4_tellAll_27, G_X4_tellAll_33, G_X4_tellAll_37, kd_19, l2, T4_advance]
            have main : ∃ (b_1 : Nat → Int) (len_1 p_1 : Nat), TP ρ b_1 len_1 ∧ rI ρ 19 4 = p_1 ∧ p_1 ≤ len_1 ∧ ∀ σ, TA ρ σ b_1 len_1 p_1 (if tkE b_1 len_1 p_1 = true then 1 else 0) → V 20 [some (.inr (.inr 19)), some (.inr (.inr 8)), some (.inl ((n : Int) + 1))] [] σ := ⟨b, len, _, htr, g2, hq, k20⟩
            clear k20
            repeat' (first | exact trivial | omega | (with_reducible assumption) | exact absurd trivial (by with_reducible assumption) | contradiction | apply And.intro | intro _)
          · rw [if_pos x] at hR
            have hin : 0 ≤ (lnR b len p D hw).1 ∧ (lnR b len p D hw).1 ≤ 7 := by
              have hsf := fun q => sf_in (b := b) (len := len) q
              have hnf := fun q lo hi => nf_in (b := b) (len := len) q lo hi
              have hck : ∀ (L : List (Int × Int)) (q : Nat), 0 ≤ (ckL b len L q).1 ∧ (ckL b len L q).1 ≤ 3 := by
                intro L
                induction L with
                | nil => intro q; have := hsf q; simp only [ckL]; omega
                | cons c r ihL =>
                  intro q
                  simp only [ckL]
                  split
                  · exact hnf _ _ _
                  · exact ihL _
              unfold lnR
              split
              · simp
              · split
                · split
                  · simp
                  · have := hck [(0, 4)] (tkN b len p); simp only; omega
                · split
                  · simp
                  · have := hck bds (tkN b len p); simp only; omega
            have kk := b_ta63 V K hV μ ρ R hK ((n : Int) + 1) (h1.tr l1) l5 l6 l7 len htr.1 (Or.inl ⟨by rw [l2, ← hR], by rw [← hR]; exact x, by rw [← hR]; exact hin, by rw [l3 x, ← hR]⟩)
            clear ih hK
            apply hV [63] 20
            simp only [InR, InL, inb, Int.toNat_natCast, wp1, wpc_z, wpc_s, stp_iconst, stp_bipush, stp_sipush, stp_lconst, stp_iload_n, stp_iload, stp_lload_n, stp_lload, stp_aload_n, stp_aload, stp_istore_n, stp_istore, stp_lstore_n, stp_lstore, stp_astore_n, stp_astore, stp_iinc, stp_iadd, stp_isub, stp_imul, stp_ineg, stp_idiv, stp_irem, stp_ladd, stp_lmul, stp_ldiv, stp_lrem, stp_ishl, stp_ishr, stp_iushr, stp_iand, stp_ior, stp_i2l, stp_i2b, stp_i2s, stp_lcmp, stp_dup, stp_dup2, stp_pop, stp_ifCond, stp_if_icmp, stp_goto, stp_tableswitch, stp_lookupswitch, stp_ldc, stp_ldc_w, stp_ldc2_w, stp_getstatic, stp_getfield, stp_putfield, stp_iaload, stp_baload, stp_iastore, stp_bastore, stp_aaload, stp_aastore, stp_invokevirtual, stp_invokestatic, stp_ireturn, stp_lreturn, stp_return_, lg, lset, okl, spl, wd, c1, cnd, tg, swT, swL, f4_0, f4_1, f4_2, f4_3, f2_0, f2_1, List.mem_cons, List.not_mem_nil, List.length_cons, List.length_nil, List.cons_append, List.nil_append, Nat.reduceAdd, Nat.reduceMul, Nat.reduceLT, Nat.reduceEqDiff, Nat.reduceLeDiff, Int.reduceAdd, Int.reduceNeg, Int.reduceToNat, Int.cast_ofNat_Int, Int.reduceNatCast, Int.toNat_zero, Int.toNat_one, Int.reduceLE, Int.reduceLT, Int.reduceEq, Int.zero_add, Int.add_zero, or_false, false_or, or_true, true_or, and_true, true_and, and_false, false_and, reduceIte, not_true_eq_false, not_false_eq_true, forall_const, false_implies, true_implies, implies_true, ne_eq, reduceCtorEq, List.all_cons, List.all_nil, Bool.and_true, Bool.and_self, decide_eq_true_eq, decide_true, dX4_tellAll_0, dX4_tellAll_1, dX4_tellAll_4, dX4_tellAll_5, dX4_tellAll_6, dX4_tellAll_9, dX4_tellAll_10, dX4_tellAll_11, dX4_tellAll_14, dX4_tellAll_15, dX4_tellAll_16, dX4_tellAll_17, dX4_tellAll_20, dX4_tellAll_21, dX4_tellAll_24, dX4_tellAll_27, dX4_tellAll_28, dX4_tellAll_31, dX4_tellAll_34, dX4_tellAll_35, dX4_tellAll_38, dX4_tellAll_41, dX4_tellAll_42, dX4_tellAll_43, dX4_tellAll_46, dX4_tellAll_49, dX4_tellAll_50, dX4_tellAll_53, dX4_tellAll_56, dX4_tellAll_57, dX4_tellAll_60, dX4_tellAll_63, dX4_tellAll_64, dX4_tellAll_65, dX4_tellAll_68, dX4_tellAll_69, FX4_20, FX4_24, FX4_30, G_X4_tellAll_15, G_X4_tellAll_27, G_X4_tellAll_33, G_X4_tellAll_37, kd_19, l2]
            repeat' (first | exact trivial | omega | (with_reducible assumption) | exact absurd trivial (by with_reducible assumption) | contradiction | apply And.intro | intro _)
        clear ih hK
        apply hV [46] 20
        simp only [InR, InL, inb, Int.toNat_natCast, wp1, wpc_z, wpc_s, stp_iconst, stp_bipush, stp_sipush, stp_lconst, stp_iload_n, stp_iload, stp_lload_n, stp_lload, stp_aload_n, stp_aload, stp_istore_n, stp_istore, stp_lstore_n, stp_lstore, stp_astore_n, stp_astore, stp_iinc, stp_iadd, stp_isub, stp_imul, stp_ineg, stp_idiv, stp_irem, stp_ladd, stp_lmul, stp_ldiv, stp_lrem, stp_ishl, stp_ishr, stp_iushr, stp_iand, stp_ior, stp_i2l, stp_i2b, stp_i2s, stp_lcmp, stp_dup, stp_dup2, stp_pop, stp_ifCond, stp_if_icmp, stp_goto, stp_tableswitch, stp_lookupswitch, stp_ldc, stp_ldc_w, stp_ldc2_w, stp_getstatic, stp_getfield, stp_putfield, stp_iaload, stp_baload, stp_iastore, stp_bastore, stp_aaload, stp_aastore, stp_invokevirtual, stp_invokestatic, stp_ireturn, stp_lreturn, stp_return_, lg, lset, okl, spl, wd, c1, cnd, tg, swT, swL, f4_0, f4_1, f4_2, f4_3, f2_0, f2_1, List.mem_cons, List.not_mem_nil, List.length_cons, List.length_nil, List.cons_append, List.nil_append, Nat.reduceAdd, Nat.reduceMul, Nat.reduceLT, Nat.reduceEqDiff, Nat.reduceLeDiff, Int.reduceAdd, Int.reduceNeg, Int.reduceToNat, Int.cast_ofNat_Int, Int.reduceNatCast, Int.toNat_zero, Int.toNat_one, Int.reduceLE, Int.reduceLT, Int.reduceEq, Int.zero_add, Int.add_zero, or_false, false_or, or_true, true_or, and_true, true_and, and_false, false_and, reduceIte, not_true_eq_false, not_false_eq_true, forall_const, false_implies, true_implies, implies_true, ne_eq, reduceCtorEq, List.all_cons, List.all_nil, Bool.and_true, Bool.and_self, decide_eq_true_eq, decide_true, dX4_tellAll_0, dX4_tellAll_1, dX4_tellAll_4, dX4_tellAll_5, dX4_tellAll_6, dX4_tellAll_9, dX4_tellAll_10, dX4_tellAll_11, dX4_tellAll_14, dX4_tellAll_15, dX4_tellAll_16, dX4_tellAll_17, dX4_tellAll_20, dX4_tellAll_21, dX4_tellAll_24, dX4_tellAll_27, dX4_tellAll_28, dX4_tellAll_31, dX4_tellAll_34, dX4_tellAll_35, dX4_tellAll_38, dX4_tellAll_41, dX4_tellAll_42, dX4_tellAll_43, dX4_tellAll_46, dX4_tellAll_49, dX4_tellAll_50, dX4_tellAll_53, dX4_tellAll_56, dX4_tellAll_57, dX4_tellAll_60, dX4_tellAll_63, dX4_tellAll_64, dX4_tellAll_65, dX4_tellAll_68, dX4_tellAll_69, FX4_20, FX4_24, FX4_30, G_X4_tellAll_15, G_X4_tellAll_27, G_X4_tellAll_33, G_X4_tellAll_37, kd_19, a2, a5, T4_takeLine]
        have main : ∃ (b_1 : Nat → Int) (len_1 p_1 n_1 : Nat) (D_1 : Nat → Int) (hw_1 : Bool), TP ν b_1 len_1 ∧ p_1 ≤ len_1 ∧ rI ν 19 4 = tkN b_1 len_1 p_1 ∧ rI ν 19 6 = tkF b_1 len_1 p_1 ∧ tkS b len p = tkS b_1 len_1 p_1 ∧ RD ν D_1 hw_1 ∧ DW D_1 hw_1 n_1 ∧ ∀ ρ, LN ν ρ (lnR b_1 len_1 p_1 D_1 hw_1).1 (lnR b_1 len_1 p_1 D_1 hw_1).2.1 (lnR b_1 len_1 p_1 D_1 hw_1).2.2.1 (lnR b_1 len_1 p_1 D_1 hw_1).2.2.2.1 (lnR b_1 len_1 p_1 D_1 hw_1).2.2.2.2 → V 46 [some (.inr (.inr 19)), some (.inr (.inr 8)), some (.inl (n : Int))] [] ρ := ⟨b, len, p, n, D, hw, htp, hp, a4, a6, rfl, hRD', hD, k46⟩
        clear k46
        repeat' (first | exact trivial | omega | (with_reducible assumption) | exact absurd trivial (by with_reducible assumption) | contradiction | apply And.intro | intro _)
def T4_tellAll : TT := fun a μ K => match a with
  | [.inr (.inr o), .inr (.inr R)] => o = 19 ∧ (R = 8 ∧ ∃ (b : Nat → Int) (len : Nat), TP μ b len ∧ RP μ 8 ∧ ∀ ν, FIc μ ν (plN b len 8 0 (fun _ => 0) false 0) → ((plN b len 8 0 (fun _ => 0) false 0).1 = 0 → K [.inl (plN b len 8 0 (fun _ => 0) false 0).2.2.1] ν) ∧ ((plN b len 8 0 (fun _ => 0) false 0).1 ≠ 0 → ∀ r, K [.inl r] ν))
  | _ => False
theorem rec_X4_tellAll : ∀ a μ K, T4_tellAll a μ K → ∃ k r, a = .inr (.inr k) :: r ∧ kd k = 4 := by
  intro a μ K h
  unfold T4_tellAll at h
  split at h
  · exact ⟨_, _, rfl, by rw [h.1]; rfl⟩
  · exact h.elim
theorem gk_X4_tellAll (l : Launch) : ∀ i n b T, G_X4_tellAll i = some (n, b, T) → CallOK l 8 RX4 i n b T := by
  intro i n b T h
  have hm : (i, n, b, T) ∈ GL_X4_tellAll := lk_mem h
  simp only [GL_X4_tellAll, List.mem_cons, List.not_mem_nil, or_false, Prod.mk.injEq] at hm
  rcases hm with ⟨rfl, rfl, rfl, rfl⟩ | ⟨rfl, rfl, rfl, rfl⟩ | ⟨rfl, rfl, rfl, rfl⟩ | ⟨rfl, rfl, rfl, rfl⟩
  · exact CallOK.V (d := 8) (own := RX4) (i := 15) (n := 0) (ci := 1) (good_X1_clear l) (by decide) (by decide) rfl (by decide) rec_X1_clear (mg 206 (by decide +kernel) (by decide +kernel)) (mg 207 (by decide +kernel) (by decide +kernel)) (mg 208 (by decide +kernel) (by decide +kernel)) (mg 2 (by decide +kernel) (by decide +kernel)) (mg 209 (by decide +kernel) (by decide +kernel)) (by decide +kernel)
  · exact CallOK.V (d := 8) (own := RX4) (i := 27) (n := 0) (ci := 4) (good_X4_advance l) (by decide) (by decide) rfl (by decide) rec_X4_advance (mg 210 (by decide +kernel) (by decide +kernel)) (mg 212 (by decide +kernel) (by decide +kernel)) (mgs 0 (by decide +kernel) (by decide +kernel)) (mg 4 (by decide +kernel) (by decide +kernel)) (mg 213 (by decide +kernel) (by decide +kernel)) (by decide +kernel)
  · exact CallOK.V (d := 8) (own := RX4) (i := 33) (n := 1) (ci := 4) (good_X4_takeLine l) (by decide) (by decide) rfl (by decide) rec_X4_takeLine (mg 222 (by decide +kernel) (by decide +kernel)) (mg 224 (by decide +kernel) (by decide +kernel)) (mgs 3 (by decide +kernel) (by decide +kernel)) (mg 4 (by decide +kernel) (by decide +kernel)) (mg 225 (by decide +kernel) (by decide +kernel)) (by decide +kernel)
  · exact CallOK.V (d := 8) (own := RX4) (i := 37) (n := 1) (ci := 4) (good_X4_placeWord l) (by decide) (by decide) rfl (by decide) rec_X4_placeWord (mg 308 (by decide +kernel) (by decide +kernel)) (mg 310 (by decide +kernel) (by decide +kernel)) (mgs 10 (by decide +kernel) (by decide +kernel)) (mg 4 (by decide +kernel) (by decide +kernel)) (mg 311 (by decide +kernel) (by decide +kernel)) (by decide +kernel)
set_option maxRecDepth 20000 in
set_option maxHeartbeats 4000000 in
theorem body_X4_tellAll (o : Nat) (R : Nat) (μ : Mem) (K : List AV → Mem → Prop) (V : Nat → List (Option AV) → List AV → Mem → Prop) (hV : Clos FX4 CX4 G_X4_tellAll 1 K cX4_tellAll V) (hT : o = 19 ∧ (R = 8 ∧ ∃ (b : Nat → Int) (len : Nat), TP μ b len ∧ RP μ 8 ∧ ∀ ν, FIc μ ν (plN b len 8 0 (fun _ => 0) false 0) → ((plN b len 8 0 (fun _ => 0) false 0).1 = 0 → K [.inl (plN b len 8 0 (fun _ => 0) false 0).2.2.1] ν) ∧ ((plN b len 8 0 (fun _ => 0) false 0).1 ≠ 0 → ∀ r, K [.inl r] ν))) : V 0 [some (.inr (.inr o)), some (.inr (.inr R)), none] [] μ := by
  obtain ⟨rfl, rfl, b, len, ht, h8, hK⟩ := hT
  generalize hν0 : wI (wI (wI (wI (wI (wI (wI (wI μ 8 1 0) 8 2 (-4)) 8 3 0) 8 4 0) 8 5 0) 8 6 0) 19 2 0) 19 4 0 = ν0
  have h1 : TFq μ ν0 := by
    rw [← hν0]
    exact (((((((TFq.w μ (by omega) 1 0).tr (TFq.w _ (by omega) 2 _)).tr (TFq.w _ (by omega) 3 _)).tr (TFq.w _ (by omega) 4 _)).tr (TFq.w _ (by omega) 5 _)).tr (TFq.w _ (by omega) 6 _)).tr (TFr.w _ (by omega) 0).q).tr (TFr.w _ (by omega) 0).q
  have hRD : RD ν0 (fun _ => 0) false := by
    rw [← hν0]
    refine ⟨h8.of (fun _ => rfl), by simp [rI_wI], by simp [rI_wI], by simp [rI_wI], by simp [rI_wI], by simp [rI_wI], by simp [rI_wI], fun i t hi _ => by simp at hi; omega⟩
  have e4 : rI ν0 19 4 = ((0 : Nat) : Int) := by rw [← hν0]; simp [rI_wI]
  have e2 : rI ν0 19 2 = 0 := by rw [← hν0]; simp [rI_wI]
  have k20 : ∀ σ, TA ν0 σ b len 0 (if tkE b len 0 = true then 1 else 0) → V 20 [some (.inr (.inr 19)), some (.inr (.inr 8)), some (.inl 0)] [] σ := fun σ hσ => lp_ta V K hV μ b len ht _ hK 8 0 (by omega) 0 _ _ DW.z rfl (by omega) σ (h1.tr hσ.2.2.2.2.2.q) (hRD.tf (by simp) hσ.2.2.2.2.2) hσ.hd
  have htp := h1.tp ht
  clear hK
  apply hV [20] 20
  simp only [InR, InL, inb, Int.toNat_natCast, wp1, wpc_z, wpc_s, stp_iconst, stp_bipush, stp_sipush, stp_lconst, stp_iload_n, stp_iload, stp_lload_n, stp_lload, stp_aload_n, stp_aload, stp_istore_n, stp_istore, stp_lstore_n, stp_lstore, stp_astore_n, stp_astore, stp_iinc, stp_iadd, stp_isub, stp_imul, stp_ineg, stp_idiv, stp_irem, stp_ladd, stp_lmul, stp_ldiv, stp_lrem, stp_ishl, stp_ishr, stp_iushr, stp_iand, stp_ior, stp_i2l, stp_i2b, stp_i2s, stp_lcmp, stp_dup, stp_dup2, stp_pop, stp_ifCond, stp_if_icmp, stp_goto, stp_tableswitch, stp_lookupswitch, stp_ldc, stp_ldc_w, stp_ldc2_w, stp_getstatic, stp_getfield, stp_putfield, stp_iaload, stp_baload, stp_iastore, stp_bastore, stp_aaload, stp_aastore, stp_invokevirtual, stp_invokestatic, stp_ireturn, stp_lreturn, stp_return_, lg, lset, okl, spl, wd, c1, cnd, tg, swT, swL, f4_0, f4_1, f4_2, f4_3, f2_0, f2_1, List.mem_cons, List.not_mem_nil, List.length_cons, List.length_nil, List.cons_append, List.nil_append, Nat.reduceAdd, Nat.reduceMul, Nat.reduceLT, Nat.reduceEqDiff, Nat.reduceLeDiff, Int.reduceAdd, Int.reduceNeg, Int.reduceToNat, Int.cast_ofNat_Int, Int.reduceNatCast, Int.toNat_zero, Int.toNat_one, Int.reduceLE, Int.reduceLT, Int.reduceEq, Int.zero_add, Int.add_zero, or_false, false_or, or_true, true_or, and_true, true_and, and_false, false_and, reduceIte, not_true_eq_false, not_false_eq_true, forall_const, false_implies, true_implies, implies_true, ne_eq, reduceCtorEq, List.all_cons, List.all_nil, Bool.and_true, Bool.and_self, decide_eq_true_eq, decide_true, dX4_tellAll_0, dX4_tellAll_1, dX4_tellAll_4, dX4_tellAll_5, dX4_tellAll_6, dX4_tellAll_9, dX4_tellAll_10, dX4_tellAll_11, dX4_tellAll_14, dX4_tellAll_15, dX4_tellAll_16, dX4_tellAll_17, dX4_tellAll_20, dX4_tellAll_21, dX4_tellAll_24, dX4_tellAll_27, dX4_tellAll_28, dX4_tellAll_31, dX4_tellAll_34, dX4_tellAll_35, dX4_tellAll_38, dX4_tellAll_41, dX4_tellAll_42, dX4_tellAll_43, dX4_tellAll_46, dX4_tellAll_49, dX4_tellAll_50, dX4_tellAll_53, dX4_tellAll_56, dX4_tellAll_57, dX4_tellAll_60, dX4_tellAll_63, dX4_tellAll_64, dX4_tellAll_65, dX4_tellAll_68, dX4_tellAll_69, FX4_20, FX4_24, FX4_30, G_X4_tellAll_15, G_X4_tellAll_27, G_X4_tellAll_33, G_X4_tellAll_37, kd_8, kd_19, T1_clear, T4_advance]
  rw [hν0]
  exact ⟨b, len, 0, htp, e4, by omega, e2, k20⟩
theorem good_X4_tellAll (l : Launch) : Good l 8 yX4_tellAll cX4_tellAll 3 (some .int) T4_tellAll := by
  refine Good.mk 1 (by decide) rfl (by simp [retOK]) FOK4 COK4 (gk_X4_tellAll l) ?_ ?_
  · intro a μ K h
    unfold T4_tellAll at h
    split at h
    · simp [entl]
    · exact h.elim
  · intro a μ K V hV h
    unfold T4_tellAll at h
    split at h
    · exact body_X4_tellAll _ _ μ K V hV h
    · exact h.elim

/-- the class behind text() that was taken; with a FAULT -/
def TXc (μ ν : Mem) (f : Nat → Int) : Prop := RG ν 1 f ∧ rI ν 1 5 = 0 ∧ rI ν 1 6 = 0 ∧ RP ν 8 ∧ rI ν 15 3 = 0 ∧ rI ν 19 1 = 0 ∧ rI ν 19 2 = 0 ∧ rI ν 22 2 = 0 ∧ rI ν 34 2 = 0 ∧ (∀ k, (k = 0 ∨ 20 ≤ k) → k ≠ 22 → k ≠ 34 → ∀ j, rI ν k j = rI μ k j) ∧ ∀ k j, rR ν k j = rR μ k j
def TXf (μ ν : Mem) (e : Int) : Prop := RP ν 8 ∧ rI ν 19 1 = 0 ∧ rI ν 19 2 = e ∧ (∀ k, k ≠ 19 → (k < 8 ∨ 14 < k) → ∀ j, rI ν k j = rI μ k j) ∧ ∀ k j, rR ν k j = rR μ k j
def T5_text : TT := fun a μ K => match a with
  | [.inr (.inr o)] => o = 0 ∧ (∃ (b : Nat → Int) (len : Nat), TP μ b len ∧ RP μ 1 ∧ RP μ 8 ∧ ((plN b len 8 0 (fun _ => 0) false 0).1 = 0 → (0 ≤ (plN b len 8 0 (fun _ => 0) false 0).2.2.2 35 ∧ (plN b len 8 0 (fun _ => 0) false 0).2.2.2 35 ≤ 5)) ∧ (-1 ≤ (plN b len 8 0 (fun _ => 0) false 0).1 ∧ (plN b len 8 0 (fun _ => 0) false 0).1 ≤ 10) ∧ ((plN b len 8 0 (fun _ => 0) false 0).1 = 0 → ∀ ν, TXc μ ν (plN b len 8 0 (fun _ => 0) false 0).2.2.2 → K [.inl (plN b len 8 0 (fun _ => 0) false 0).2.2.1] ν) ∧ ((plN b len 8 0 (fun _ => 0) false 0).1 ≠ 0 → ∀ ν, TXf μ ν (plN b len 8 0 (fun _ => 0) false 0).1 → K [.inl (-10 - (plN b len 8 0 (fun _ => 0) false 0).2.1)] ν))
  | _ => False
theorem rec_X5_text : ∀ a μ K, T5_text a μ K → ∃ k r, a = .inr (.inr k) :: r ∧ kd k = 5 := by
  intro a μ K h
  unfold T5_text at h
  split at h
  · exact ⟨_, _, rfl, by rw [h.1]; rfl⟩
  · exact h.elim
def GL_X5_text : List (Nat × Nat × Bool × TT) := [(64, 2, false, T4_tellAll), (74, 2, false, T1_copyFrom)]
def G_X5_text : Nat → Option (Nat × Bool × TT) := fun i => GL_X5_text.lookup i
theorem G_X5_text_64 : G_X5_text 64 = some (2, false, T4_tellAll) := rfl
theorem G_X5_text_74 : G_X5_text 74 = some (2, false, T1_copyFrom) := rfl
theorem gk_X5_text (l : Launch) : ∀ i n b T, G_X5_text i = some (n, b, T) → CallOK l 9 RX5 i n b T := by
  intro i n b T h
  have hm : (i, n, b, T) ∈ GL_X5_text := lk_mem h
  simp only [GL_X5_text, List.mem_cons, List.not_mem_nil, or_false, Prod.mk.injEq] at hm
  rcases hm with ⟨rfl, rfl, rfl, rfl⟩ | ⟨rfl, rfl, rfl, rfl⟩
  · exact CallOK.V (d := 9) (own := RX5) (i := 64) (n := 1) (ci := 4) (good_X4_tellAll l) (by decide) (by decide) rfl (by decide) rec_X4_tellAll (mg 202 (by decide +kernel) (by decide +kernel)) (mg 203 (by decide +kernel) (by decide +kernel)) (mg 204 (by decide +kernel) (by decide +kernel)) (mg 4 (by decide +kernel) (by decide +kernel)) (mg 205 (by decide +kernel) (by decide +kernel)) (by decide +kernel)
  · exact CallOK.V (d := 9) (own := RX5) (i := 74) (n := 1) (ci := 1) (good_X1_copyFrom l) (by decide) (by decide) rfl (by decide) rec_X1_copyFrom (mg 316 (by decide +kernel) (by decide +kernel)) (mg 317 (by decide +kernel) (by decide +kernel)) (mg 318 (by decide +kernel) (by decide +kernel)) (mg 2 (by decide +kernel) (by decide +kernel)) (mg 319 (by decide +kernel) (by decide +kernel)) (by decide +kernel)
set_option maxRecDepth 20000 in
set_option maxHeartbeats 4000000 in
theorem body_X5_text (o : Nat) (μ : Mem) (K : List AV → Mem → Prop) (V : Nat → List (Option AV) → List AV → Mem → Prop) (hV : Clos FX5 CX5 G_X5_text 1 K cX5_text V) (hT : o = 0 ∧ (∃ (b : Nat → Int) (len : Nat), TP μ b len ∧ RP μ 1 ∧ RP μ 8 ∧ ((plN b len 8 0 (fun _ => 0) false 0).1 = 0 → (0 ≤ (plN b len 8 0 (fun _ => 0) false 0).2.2.2 35 ∧ (plN b len 8 0 (fun _ => 0) false 0).2.2.2 35 ≤ 5)) ∧ (-1 ≤ (plN b len 8 0 (fun _ => 0) false 0).1 ∧ (plN b len 8 0 (fun _ => 0) false 0).1 ≤ 10) ∧ ((plN b len 8 0 (fun _ => 0) false 0).1 = 0 → ∀ ν, TXc μ ν (plN b len 8 0 (fun _ => 0) false 0).2.2.2 → K [.inl (plN b len 8 0 (fun _ => 0) false 0).2.2.1] ν) ∧ ((plN b len 8 0 (fun _ => 0) false 0).1 ≠ 0 → ∀ ν, TXf μ ν (plN b len 8 0 (fun _ => 0) false 0).1 → K [.inl (-10 - (plN b len 8 0 (fun _ => 0) false 0).2.1)] ν))) : V 0 [some (.inr (.inr o)), none, none] [] μ := by
  obtain ⟨rfl, b, len, ht, h1, h8, h35, hin, hK0, hK1⟩ := hT
  have e21a : ∀ ν, el ν 21 0 = 22 := fun ν => el_21 ν 0
  have e21b : ∀ ν, el ν 21 1 = 34 := fun ν => el_21 ν 1
  have main : ∃ (b_1 : Nat → Int) (len_1 : Nat), TP μ b_1 len_1 ∧ RP μ 8 ∧ ∀ ν, FIc μ ν (plN b_1 len_1 8 0 (fun _ => 0) false 0) → ((plN b_1 len_1 8 0 (fun _ => 0) false 0).1 = 0 → V 11 [some (.inr (.inr 0)), none, none] [.inl (plN b_1 len_1 8 0 (fun _ => 0) false 0).2.2.1] ν) ∧ ((plN b_1 len_1 8 0 (fun _ => 0) false 0).1 ≠ 0 → ∀ r, V 11 [some (.inr (.inr 0)), none, none] [.inl r] ν) := by
    refine ⟨b, len, ht, h8, fun ν hν => ?_⟩
    generalize hR : plN b len 8 0 (fun _ => 0) false 0 = R at h35 hin hK0 hK1 hν ⊢
    obtain ⟨n1, n2', n3, n4, n5⟩ := hν
    refine ⟨fun z => ?_, fun z r => ?_⟩
    · rw [z] at n2'
      have hK0 := hK0 z
      obtain ⟨g1, g2, g3⟩ := n5 z
      have h35 := h35 z
      have e0 : rI (wI ν 19 1 0) 19 2 = 0 := by rw [rI_wI, if_neg (by omega)]; exact n2'
      have hRG8 : RG (wI ν 19 1 0) 8 R.2.2.2 := g1.wo h35.2 (by omega) 1 0
      have hRP1 : RP (wI ν 19 1 0) 1 := (h1.of (n1.2.2 _)).of (fun _ => rfl)
      have fin : ∀ ρ, RG ρ 1 R.2.2.2 ∧ rI ρ 1 5 = rI (wI ν 19 1 0) 8 5 ∧ rI ρ 1 6 = rI (wI ν 19 1 0) 8 6 ∧ FR 1 (wI ν 19 1 0) ρ → K [.inl R.2.2.1] (wI (wI (wI ρ 15 3 0) 22 2 0) 34 2 0) := by
        intro ρ hρ
        obtain ⟨p1, p2, p3, p4⟩ := hρ
        refine hK0 _ ⟨((p1.wo h35.2 (by omega) 3 0).wo h35.2 (by omega) 2 0).wo h35.2 (by omega) 2 0, ?_, ?_, ?_, ?_, ?_, ?_, ?_, ?_, ?_, ?_⟩
        · rw [rI_wI, if_neg (by omega), rI_wI, if_neg (by omega), rI_wI, if_neg (by omega), p2, rI_wI, if_neg (by omega)]; exact g2
        · rw [rI_wI, if_neg (by omega), rI_wI, if_neg (by omega), rI_wI, if_neg (by omega), p3, rI_wI, if_neg (by omega)]; exact g3
        · exact (n4.of (fun j => by show rR ρ 9 j = rR ν 9 j; rw [p4.2]; rfl))
        · simp [rI_wI]
        · rw [rI_wI, if_neg (by omega), rI_wI, if_neg (by omega), rI_wI, if_neg (by omega), p4.1 19 (by omega), rI_wI, if_pos ⟨rfl, rfl⟩]
        · rw [rI_wI, if_neg (by omega), rI_wI, if_neg (by omega), rI_wI, if_neg (by omega), p4.1 19 (by omega)]; exact e0
        · simp [rI_wI]
        · simp [rI_wI]
        · intro k hk k1 k2 j
          rw [rI_wI, if_neg (by omega), rI_wI, if_neg (by omega), rI_wI, if_neg (by omega), p4.1 k (by omega), rI_wI, if_neg (by omega)]
          exact n1.2.1 k (by omega) (by omega) j
        · intro k j
          show rR ρ k j = rR μ k j
          rw [p4.2]
          exact n1.2.2 k j
      clear hK0 hK1
      apply hV [] 90
      simp only [InR, InL, inb, Int.toNat_natCast, wp1, wpc_z, wpc_s, stp_iconst, stp_bipush, stp_sipush, stp_lconst, stp_iload_n, stp_iload, stp_lload_n, stp_lload, stp_aload_n, stp_aload, stp_istore_n, stp_istore, stp_lstore_n, stp_lstore, stp_astore_n, stp_astore, stp_iinc, stp_iadd, stp_isub, stp_imul, stp_ineg, stp_idiv, stp_irem, stp_ladd, stp_lmul, stp_ldiv, stp_lrem, stp_ishl, stp_ishr, stp_iushr, stp_iand, stp_ior, stp_i2l, stp_i2b, stp_i2s, stp_lcmp, stp_dup, stp_dup2, stp_pop, stp_ifCond, stp_if_icmp, stp_goto, stp_tableswitch, stp_lookupswitch, stp_ldc, stp_ldc_w, stp_ldc2_w, stp_getstatic, stp_getfield, stp_putfield, stp_iaload, stp_baload, stp_iastore, stp_bastore, stp_aaload, stp_aastore, stp_invokevirtual, stp_invokestatic, stp_ireturn, stp_lreturn, stp_return_, lg, lset, okl, spl, wd, c1, cnd, tg, swT, swL, f4_0, f4_1, f4_2, f4_3, f2_0, f2_1, List.mem_cons, List.not_mem_nil, List.length_cons, List.length_nil, List.cons_append, List.nil_append, Nat.reduceAdd, Nat.reduceMul, Nat.reduceLT, Nat.reduceEqDiff, Nat.reduceLeDiff, Int.reduceAdd, Int.reduceNeg, Int.reduceToNat, Int.cast_ofNat_Int, Int.reduceNatCast, Int.toNat_zero, Int.toNat_one, Int.reduceLE, Int.reduceLT, Int.reduceEq, Int.zero_add, Int.add_zero, or_false, false_or, or_true, true_or, and_true, true_and, and_false, false_and, reduceIte, not_true_eq_false, not_false_eq_true, forall_const, false_implies, true_implies, implies_true, ne_eq, reduceCtorEq, List.all_cons, List.all_nil, Bool.and_true, Bool.and_self, decide_eq_true_eq, decide_true, dX5_text_0, dX5_text_1, dX5_text_4, dX5_text_5, dX5_text_8, dX5_text_11, dX5_text_12, dX5_text_13, dX5_text_16, dX5_text_17, dX5_text_20, dX5_text_21, dX5_text_24, dX5_text_27, dX5_text_30, dX5_text_32, dX5_text_33, dX5_text_36, dX5_text_39, dX5_text_40, dX5_text_41, dX5_text_42, dX5_text_45, dX5_text_46, dX5_text_49, dX5_text_52, dX5_text_53, dX5_text_56, dX5_text_57, dX5_text_60, dX5_text_61, dX5_text_62, dX5_text_63, dX5_text_64, dX5_text_67, dX5_text_68, dX5_text_71, dX5_text_72, dX5_text_73, dX5_text_74, dX5_text_77, dX5_text_80, dX5_text_83, dX5_text_84, FX5_29, FX5_16, FX5_56, FX5_68, FX5_71, FX5_10, FX5_22, FX5_78, FX5_35, FX5_81, G_X5_text_64, G_X5_text_74, kd_0, kd_1, kd_8, kd_15, kd_19, kd_21, ln_21, kd_22, kd_34, e21a, e21b, e0, T1_copyFrom]
      refine ⟨hRP1, R.2.2.2, hRG8, h35, fun ρ hρ => ?_⟩
      have := fin ρ hρ
      clear fin
      repeat' (first | exact trivial | omega | (with_reducible assumption) | exact absurd trivial (by with_reducible assumption) | contradiction | apply And.intro | intro _)
    · have hK1 := hK1 z
      have hk := hK1 (wI ν 19 1 0) ⟨n4.of (fun _ => rfl), by simp [rI_wI], by rw [rI_wI, if_neg (by omega)]; exact n2', fun k a b j => by rw [rI_wI, if_neg (fun y => a y.1)]; exact n1.2.1 k a b j, n1.2.2⟩
      have e2 : rI (wI ν 19 1 0) 19 2 = R.1 := by rw [rI_wI, if_neg (by omega)]; exact n2'
      have e3 : rI (wI ν 19 1 0) 19 3 = R.2.1 := by rw [rI_wI, if_neg (by omega)]; exact n3 z
      clear hK0 hK1
      apply hV [41] 30
      simp only [InR, InL, inb, Int.toNat_natCast, wp1, wpc_z, wpc_s, stp_iconst, stp_bipush, stp_sipush, stp_lconst, stp_iload_n, stp_iload, stp_lload_n, stp_lload, stp_aload_n, stp_aload, stp_istore_n, stp_istore, stp_lstore_n, stp_lstore, stp_astore_n, stp_astore, stp_iinc, stp_iadd, stp_isub, stp_imul, stp_ineg, stp_idiv, stp_irem, stp_ladd, stp_lmul, stp_ldiv, stp_lrem, stp_ishl, stp_ishr, stp_iushr, stp_iand, stp_ior, stp_i2l, stp_i2b, stp_i2s, stp_lcmp, stp_dup, stp_dup2, stp_pop, stp_ifCond, stp_if_icmp, stp_goto, stp_tableswitch, stp_lookupswitch, stp_ldc, stp_ldc_w, stp_ldc2_w, stp_getstatic, stp_getfield, stp_putfield, stp_iaload, stp_baload, stp_iastore, stp_bastore, stp_aaload, stp_aastore, stp_invokevirtual, stp_invokestatic, stp_ireturn, stp_lreturn, stp_return_, lg, lset, okl, spl, wd, c1, cnd, tg, swT, swL, f4_0, f4_1, f4_2, f4_3, f2_0, f2_1, List.mem_cons, List.not_mem_nil, List.length_cons, List.length_nil, List.cons_append, List.nil_append, Nat.reduceAdd, Nat.reduceMul, Nat.reduceLT, Nat.reduceEqDiff, Nat.reduceLeDiff, Int.reduceAdd, Int.reduceNeg, Int.reduceToNat, Int.cast_ofNat_Int, Int.reduceNatCast, Int.toNat_zero, Int.toNat_one, Int.reduceLE, Int.reduceLT, Int.reduceEq, Int.zero_add, Int.add_zero, or_false, false_or, or_true, true_or, and_true, true_and, and_false, false_and, reduceIte, not_true_eq_false, not_false_eq_true, forall_const, false_implies, true_implies, implies_true, ne_eq, reduceCtorEq, List.all_cons, List.all_nil, Bool.and_true, Bool.and_self, decide_eq_true_eq, decide_true, dX5_text_0, dX5_text_1, dX5_text_4, dX5_text_5, dX5_text_8, dX5_text_11, dX5_text_12, dX5_text_13, dX5_text_16, dX5_text_17, dX5_text_20, dX5_text_21, dX5_text_24, dX5_text_27, dX5_text_30, dX5_text_32, dX5_text_33, dX5_text_36, dX5_text_39, dX5_text_40, dX5_text_41, dX5_text_42, dX5_text_45, dX5_text_46, dX5_text_49, dX5_text_52, dX5_text_53, dX5_text_56, dX5_text_57, dX5_text_60, dX5_text_61, dX5_text_62, dX5_text_63, dX5_text_64, dX5_text_67, dX5_text_68, dX5_text_71, dX5_text_72, dX5_text_73, dX5_text_74, dX5_text_77, dX5_text_80, dX5_text_83, dX5_text_84, FX5_29, FX5_16, FX5_56, FX5_68, FX5_71, FX5_10, FX5_22, FX5_78, FX5_35, FX5_81, G_X5_text_64, G_X5_text_74, kd_0, kd_19, e2, e3]
      repeat' (first | exact trivial | omega | (with_reducible assumption) | exact absurd trivial (by with_reducible assumption) | contradiction | apply And.intro | intro _)
  clear hK0 hK1
  apply hV [11] 10
  simp only [InR, InL, inb, Int.toNat_natCast, wp1, wpc_z, wpc_s, stp_iconst, stp_bipush, stp_sipush, stp_lconst, stp_iload_n, stp_iload, stp_lload_n, stp_lload, stp_aload_n, stp_aload, stp_istore_n, stp_istore, stp_lstore_n, stp_lstore, stp_astore_n, stp_astore, stp_iinc, stp_iadd, stp_isub, stp_imul, stp_ineg, stp_idiv, stp_irem, stp_ladd, stp_lmul, stp_ldiv, stp_lrem, stp_ishl, stp_ishr, stp_iushr, stp_iand, stp_ior, stp_i2l, stp_i2b, stp_i2s, stp_lcmp, stp_dup, stp_dup2, stp_pop, stp_ifCond, stp_if_icmp, stp_goto, stp_tableswitch, stp_lookupswitch, stp_ldc, stp_ldc_w, stp_ldc2_w, stp_getstatic, stp_getfield, stp_putfield, stp_iaload, stp_baload, stp_iastore, stp_bastore, stp_aaload, stp_aastore, stp_invokevirtual, stp_invokestatic, stp_ireturn, stp_lreturn, stp_return_, lg, lset, okl, spl, wd, c1, cnd, tg, swT, swL, f4_0, f4_1, f4_2, f4_3, f2_0, f2_1, List.mem_cons, List.not_mem_nil, List.length_cons, List.length_nil, List.cons_append, List.nil_append, Nat.reduceAdd, Nat.reduceMul, Nat.reduceLT, Nat.reduceEqDiff, Nat.reduceLeDiff, Int.reduceAdd, Int.reduceNeg, Int.reduceToNat, Int.cast_ofNat_Int, Int.reduceNatCast, Int.toNat_zero, Int.toNat_one, Int.reduceLE, Int.reduceLT, Int.reduceEq, Int.zero_add, Int.add_zero, or_false, false_or, or_true, true_or, and_true, true_and, and_false, false_and, reduceIte, not_true_eq_false, not_false_eq_true, forall_const, false_implies, true_implies, implies_true, ne_eq, reduceCtorEq, List.all_cons, List.all_nil, Bool.and_true, Bool.and_self, decide_eq_true_eq, decide_true, dX5_text_0, dX5_text_1, dX5_text_4, dX5_text_5, dX5_text_8, dX5_text_11, dX5_text_12, dX5_text_13, dX5_text_16, dX5_text_17, dX5_text_20, dX5_text_21, dX5_text_24, dX5_text_27, dX5_text_30, dX5_text_32, dX5_text_33, dX5_text_36, dX5_text_39, dX5_text_40, dX5_text_41, dX5_text_42, dX5_text_45, dX5_text_46, dX5_text_49, dX5_text_52, dX5_text_53, dX5_text_56, dX5_text_57, dX5_text_60, dX5_text_61, dX5_text_62, dX5_text_63, dX5_text_64, dX5_text_67, dX5_text_68, dX5_text_71, dX5_text_72, dX5_text_73, dX5_text_74, dX5_text_77, dX5_text_80, dX5_text_83, dX5_text_84, FX5_29, FX5_16, FX5_56, FX5_68, FX5_71, FX5_10, FX5_22, FX5_78, FX5_35, FX5_81, G_X5_text_64, G_X5_text_74, kd_0, kd_8, kd_19, T4_tellAll]
  exact main
theorem good_X5_text (l : Launch) : Good l 9 yX5_text cX5_text 3 (some .int) T5_text := by
  refine Good.mk 1 (by decide) rfl (by simp [retOK]) FOK5 COK5 (gk_X5_text l) ?_ ?_
  · intro a μ K h
    unfold T5_text at h
    split at h
    · simp [entl]
    · exact h.elim
  · intro a μ K V hV h
    unfold T5_text at h
    split at h
    · exact body_X5_text _ μ K V hV h
    · exact h.elim

