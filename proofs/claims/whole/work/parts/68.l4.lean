/-! the law: its loop -/
set_option maxRecDepth 20000 in
set_option maxHeartbeats 4000000 in
theorem lp_law (V : Nat → List (Option AV) → List AV → Mem → Prop) (sc : Nat → Int) (SL : Nat) (hV : ClosL sc SL G_L (fun r _ => r = [.inl 1]) cL_law V) (hR : ∀ j, InR (sc j)) (hSL : SL ≤ 3072) : ∀ m i : Nat, SL ≤ i + m → i ≤ SL + 6 → ∀ μ, REL μ → V 18 [some (.inr (.inr 200)), some (.inr (.inr 0)), some (.inr (.inr 66)), some (.inl (i : Int))] [] μ := by
  have ex : ∀ i : Nat, SL < i + 6 → i ≤ SL + 6 → ∀ μ, V 18 [some (.inr (.inr 200)), some (.inr (.inr 0)), some (.inr (.inr 66)), some (.inl (i : Int))] [] μ := by
    intro i h1 h2 μ
    apply hV [18] 30
    simp only [InR, InL, inb, Int.toNat_natCast, wp1, wpc_z, wpc_s, stp_iconst, stp_bipush, stp_sipush, stp_lconst, stp_iload_n, stp_iload, stp_lload_n, stp_lload, stp_aload_n, stp_aload, stp_istore_n, stp_istore, stp_lstore_n, stp_lstore, stp_astore_n, stp_astore, stp_iinc, stp_iadd, stp_isub, stp_imul, stp_ineg, stp_idiv, stp_irem, stp_ladd, stp_lmul, stp_ldiv, stp_lrem, stp_ishl, stp_ishr, stp_iushr, stp_iand, stp_ior, stp_i2l, stp_i2b, stp_i2s, stp_lcmp, stp_dup, stp_dup2, stp_pop, stp_ifCond, stp_if_icmp, stp_goto, stp_tableswitch, stp_lookupswitch, stp_ldc, stp_ldc_w, stp_ldc2_w, stp_getstatic, stp_getfield, stp_putfield, stp_iaload, stp_baload, stp_iastore, stp_bastore, stp_aaload, stp_aastore, stp_invokevirtual, stp_invokestatic, stp_ireturn, stp_lreturn, stp_return_, lg, lset, okl, spl, wd, c1, cnd, tg, swT, swL, f4_0, f4_1, f4_2, f4_3, f2_0, f2_1, List.mem_cons, List.not_mem_nil, List.length_cons, List.length_nil, List.cons_append, List.nil_append, Nat.reduceAdd, Nat.reduceMul, Nat.reduceLT, Nat.reduceEqDiff, Nat.reduceLeDiff, Int.reduceAdd, Int.reduceNeg, Int.reduceToNat, Int.cast_ofNat_Int, Int.reduceNatCast, Int.toNat_zero, Int.toNat_one, Int.reduceLE, Int.reduceLT, Int.reduceEq, Int.zero_add, Int.add_zero, or_false, false_or, or_true, true_or, and_true, true_and, and_false, false_and, reduceIte, not_true_eq_false, not_false_eq_true, forall_const, false_implies, true_implies, implies_true, ne_eq, reduceCtorEq, List.all_cons, List.all_nil, Bool.and_true, Bool.and_self, decide_eq_true_eq, decide_true, wp1L, wpcL_z, wpcL_s, sL_iaload, sL_arraylength, sL_iand, sL_icmpeq, sL_lcmp, sL_iconst, sL_bipush, sL_iload_n, sL_aload_n, sL_istore_n, sL_iinc, sL_iadd, sL_isub, sL_goto, sL_icmpgt, sL_ifeq, sL_tsw, sL_inv, sL_ireturn, dL_law_18, dL_law_19, dL_law_20, dL_law_21, dL_law_23, dL_law_24, dL_law_27, dL_law_28, dL_law_29, dL_law_30, dL_law_32, dL_law_33, dL_law_1268, dL_law_1271, dL_law_1274, dL_law_1275]
    repeat' (first | exact trivial | omega | rfl | exact Or.inr ⟨rfl, Or.inr rfl⟩ | apply And.intro | intro _)
  intro m
  induction m with
  | zero =>
    intro i h1 h2 μ h
    exact ex i (by omega) h2 μ
  | succ m ih =>
    intro i h1 h2 μ h
    by_cases z : i + 6 ≤ SL
    · have hL : ∀ ρ, REL ρ → V 1268 [some (.inr (.inr 200)), some (.inr (.inr 0)), some (.inr (.inr 66)), some (.inl (i : Int))] [] ρ := by
        intro ρ hρ
        have hh := ih (i + 6) (by omega) (by omega) ρ hρ
        rw [show ((i + 6 : Nat) : Int) = (i : Int) + 6 by omega] at hh
        apply hV [18] 10
        simp only [InR, InL, inb, Int.toNat_natCast, wp1, wpc_z, wpc_s, stp_iconst, stp_bipush, stp_sipush, stp_lconst, stp_iload_n, stp_iload, stp_lload_n, stp_lload, stp_aload_n, stp_aload, stp_istore_n, stp_istore, stp_lstore_n, stp_lstore, stp_astore_n, stp_astore, stp_iinc, stp_iadd, stp_isub, stp_imul, stp_ineg, stp_idiv, stp_irem, stp_ladd, stp_lmul, stp_ldiv, stp_lrem, stp_ishl, stp_ishr, stp_iushr, stp_iand, stp_ior, stp_i2l, stp_i2b, stp_i2s, stp_lcmp, stp_dup, stp_dup2, stp_pop, stp_ifCond, stp_if_icmp, stp_goto, stp_tableswitch, stp_lookupswitch, stp_ldc, stp_ldc_w, stp_ldc2_w, stp_getstatic, stp_getfield, stp_putfield, stp_iaload, stp_baload, stp_iastore, stp_bastore, stp_aaload, stp_aastore, stp_invokevirtual, stp_invokestatic, stp_ireturn, stp_lreturn, stp_return_, lg, lset, okl, spl, wd, c1, cnd, tg, swT, swL, f4_0, f4_1, f4_2, f4_3, f2_0, f2_1, List.mem_cons, List.not_mem_nil, List.length_cons, List.length_nil, List.cons_append, List.nil_append, Nat.reduceAdd, Nat.reduceMul, Nat.reduceLT, Nat.reduceEqDiff, Nat.reduceLeDiff, Int.reduceAdd, Int.reduceNeg, Int.reduceToNat, Int.cast_ofNat_Int, Int.reduceNatCast, Int.toNat_zero, Int.toNat_one, Int.reduceLE, Int.reduceLT, Int.reduceEq, Int.zero_add, Int.add_zero, or_false, false_or, or_true, true_or, and_true, true_and, and_false, false_and, reduceIte, not_true_eq_false, not_false_eq_true, forall_const, false_implies, true_implies, implies_true, ne_eq, reduceCtorEq, List.all_cons, List.all_nil, Bool.and_true, Bool.and_self, decide_eq_true_eq, decide_true, wp1L, wpcL_z, wpcL_s, sL_iaload, sL_arraylength, sL_iand, sL_icmpeq, sL_lcmp, sL_iconst, sL_bipush, sL_iload_n, sL_aload_n, sL_istore_n, sL_iinc, sL_iadd, sL_isub, sL_goto, sL_icmpgt, sL_ifeq, sL_tsw, sL_inv, sL_ireturn, dL_law_18, dL_law_19, dL_law_20, dL_law_21, dL_law_23, dL_law_24, dL_law_27, dL_law_28, dL_law_29, dL_law_30, dL_law_32, dL_law_33, dL_law_1268, dL_law_1271, dL_law_1274, dL_law_1275]
        repeat' (first | exact trivial | omega | exact hh | apply And.intro | intro _)
      have hc := hR i
      simp only [InR] at hc
      have c_184 := lw_feed V sc SL hV hR hSL i z hL μ h
      have c_207 := lw_end V sc SL hV hR hSL i z hL μ h
      have c_230 := lw_text V sc SL hV hR hSL i z hL μ h
      have c_243 := lw_fault V sc SL hV hR hSL i z hL μ h
      have c_256 := lw_rule V sc SL hV hR hSL i z hL μ h
      have c_279 := lw_station V sc SL hV hR hSL i z hL μ h
      have c_312 := lw_alter V sc SL hV hR hSL i z hL μ h
      have c_355 := lw_give V sc SL hV hR hSL i z hL μ h
      have c_378 := lw_post V sc SL hV hR hSL i z hL μ h
      have c_411 := lw_change V sc SL hV hR hSL i z hL μ h
      have c_444 := lw_visits V sc SL hV hR hSL i z hL μ h
      have c_467 := lw_runs V sc SL hV hR hSL i z hL μ h
      have c_500 := lw_ahead V sc SL hV hR hSL i z hL μ h
      have c_543 := lw_when V sc SL hV hR hSL i z hL μ h
      have c_566 := lw_kind V sc SL hV hR hSL i z hL μ h
      have c_609 := lw_hold V sc SL hV hR hSL i z hL μ h
      have c_652 := lw_swap V sc SL hV hR hSL i z hL μ h
      have c_685 := lw_pass V sc SL hV hR hSL i z hL μ h
      have c_718 := lw_begin V sc SL hV hR hSL i z hL μ h
      have c_751 := lw_luck V sc SL hV hR hSL i z hL μ h
      have c_815 := lw_mean V sc SL hV hR hSL i z hL μ h
      have c_859 := lw_see V sc SL hV hR hSL i z hL μ h
      have c_902 := lw_forget V sc SL hV hR hSL i z hL μ h
      have c_925 := lw_kinds V sc SL hV hR hSL i z hL μ h
      have c_948 := lw_gains V sc SL hV hR hSL i z hL μ h
      have c_971 := lw_ask V sc SL hV hR hSL i z hL μ h
      have c_1004 := lw_drift V sc SL hV hR hSL i z hL μ h
      have c_1047 := lw_keep V sc SL hV hR hSL i z hL μ h
      have c_1070 := lw_back V sc SL hV hR hSL i z hL μ h
      have c_1093 := lw_sheet V sc SL hV hR hSL i z hL μ h
      have c_1136 := lw_lay V sc SL hV hR hSL i z hL μ h
      have c_1179 := lw_read V sc SL hV hR hSL i z hL μ h
      have c_1232 := lw_torn V sc SL hV hR hSL i z hL μ h
      have c_1245 := lw_count V sc SL hV hR hSL i z hL μ h
      have c_1268 := hL μ h
      clear hL ih
      apply hV [18, 1268, 184, 207, 230, 243, 256, 279, 312, 355, 378, 411, 444, 467, 500, 543, 566, 609, 652, 685, 718, 751, 815, 859, 902, 925, 948, 971, 1004, 1047, 1070, 1093, 1136, 1179, 1232, 1245] 30
      simp only [InR, InL, inb, Int.toNat_natCast, wp1, wpc_z, wpc_s, stp_iconst, stp_bipush, stp_sipush, stp_lconst, stp_iload_n, stp_iload, stp_lload_n, stp_lload, stp_aload_n, stp_aload, stp_istore_n, stp_istore, stp_lstore_n, stp_lstore, stp_astore_n, stp_astore, stp_iinc, stp_iadd, stp_isub, stp_imul, stp_ineg, stp_idiv, stp_irem, stp_ladd, stp_lmul, stp_ldiv, stp_lrem, stp_ishl, stp_ishr, stp_iushr, stp_iand, stp_ior, stp_i2l, stp_i2b, stp_i2s, stp_lcmp, stp_dup, stp_dup2, stp_pop, stp_ifCond, stp_if_icmp, stp_goto, stp_tableswitch, stp_lookupswitch, stp_ldc, stp_ldc_w, stp_ldc2_w, stp_getstatic, stp_getfield, stp_putfield, stp_iaload, stp_baload, stp_iastore, stp_bastore, stp_aaload, stp_aastore, stp_invokevirtual, stp_invokestatic, stp_ireturn, stp_lreturn, stp_return_, lg, lset, okl, spl, wd, c1, cnd, tg, swT, swL, f4_0, f4_1, f4_2, f4_3, f2_0, f2_1, List.mem_cons, List.not_mem_nil, List.length_cons, List.length_nil, List.cons_append, List.nil_append, Nat.reduceAdd, Nat.reduceMul, Nat.reduceLT, Nat.reduceEqDiff, Nat.reduceLeDiff, Int.reduceAdd, Int.reduceNeg, Int.reduceToNat, Int.cast_ofNat_Int, Int.reduceNatCast, Int.toNat_zero, Int.toNat_one, Int.reduceLE, Int.reduceLT, Int.reduceEq, Int.zero_add, Int.add_zero, or_false, false_or, or_true, true_or, and_true, true_and, and_false, false_and, reduceIte, not_true_eq_false, not_false_eq_true, forall_const, false_implies, true_implies, implies_true, ne_eq, reduceCtorEq, List.all_cons, List.all_nil, Bool.and_true, Bool.and_self, decide_eq_true_eq, decide_true, wp1L, wpcL_z, wpcL_s, sL_iaload, sL_arraylength, sL_iand, sL_icmpeq, sL_lcmp, sL_iconst, sL_bipush, sL_iload_n, sL_aload_n, sL_istore_n, sL_iinc, sL_iadd, sL_isub, sL_goto, sL_icmpgt, sL_ifeq, sL_tsw, sL_inv, sL_ireturn, dL_law_18, dL_law_19, dL_law_20, dL_law_21, dL_law_23, dL_law_24, dL_law_27, dL_law_28, dL_law_29, dL_law_30, dL_law_32, dL_law_33, dL_law_1268, dL_law_1271, dL_law_1274, dL_law_1275, List.size_toArray, Int.reduceSub]
      repeat' (first | exact trivial | omega | with_reducible assumption | apply And.intro | intro _)
    · exact ex i (by omega) h2 μ
