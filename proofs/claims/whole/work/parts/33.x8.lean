/-! the class: whom to pass by -/
def passU (f : Nat → Int) (n : Nat) : Nat → Int := fun i => sL (psd (i : Int)) f n
def passR (f : Nat → Int) (n w : Int) : Int := if (0 ≤ n ∧ n ≤ 200) ∧ 0 ≤ w ∧ w ≤ 1 then jdA (jd idC (passU f n.toNat) (sL yes f n.toNat) (f 35).toNat) w else -1
def GL_X5_pass : List (Nat × Nat × Bool × TT) := [(52, 3, true, T5_isOutside), (144, 1, false, T5_startTrial), (147, 2, false, T1_go), (140, 2, false, T1_visit)]
def G_X5_pass : Nat → Option (Nat × Bool × TT) := fun i => GL_X5_pass.lookup i
theorem G_X5_pass_52 : G_X5_pass 52 = some (3, true, T5_isOutside) := rfl
theorem G_X5_pass_144 : G_X5_pass 144 = some (1, false, T5_startTrial) := rfl
theorem G_X5_pass_147 : G_X5_pass 147 = some (2, false, T1_go) := rfl
theorem G_X5_pass_140 : G_X5_pass 140 = some (2, false, T1_visit) := rfl

set_option maxRecDepth 20000 in
set_option maxHeartbeats 4000000 in
theorem lp_pass2 (V : Nat → List (Option AV) → List AV → Mem → Prop) (K : List AV → Mem → Prop) (hV : Clos FX5 CX5 G_X5_pass 1 K cX5_pass V) (μ : Mem) (f : Nat → Int) (hW : WF f) (h38 : f 38 ≤ 9999) (e : Nat) (he : e ≤ 200) (w b a : Int) (i : Nat) (hi : (i : Int) < f 35) (hK : ∀ ν, GR (psd (i : Int)) μ ν 8 f e → V 105 [some (.inr (.inr 0)), some (.inl (e : Int)), some (.inl w), some (.inl b), some (.inl a), some (.inl (i : Int)), some (.inl (e : Int))] [] ν) : ∀ m n : Nat, n + m = e → ∀ ν, GR (psd (i : Int)) μ ν 8 f n → V 68 [some (.inr (.inr 0)), some (.inl (e : Int)), some (.inl w), some (.inl b), some (.inl a), some (.inl (i : Int)), some (.inl (n : Int))] [] ν := by
  have h35 := hW.1
  intro m
  induction m with
  | zero =>
    intro n hn ν hG
    have en : n = e := by omega
    subst en
    have hk := hK ν hG
    apply hV [68, 105] 40
    simp only [InR, InL, inb, Int.toNat_natCast, wp1, wpc_z, wpc_s, stp_iconst, stp_bipush, stp_sipush, stp_lconst, stp_iload_n, stp_iload, stp_lload_n, stp_lload, stp_aload_n, stp_aload, stp_istore_n, stp_istore, stp_lstore_n, stp_lstore, stp_astore_n, stp_astore, stp_iinc, stp_iadd, stp_isub, stp_imul, stp_ineg, stp_idiv, stp_irem, stp_ladd, stp_lmul, stp_ldiv, stp_lrem, stp_ishl, stp_ishr, stp_iushr, stp_iand, stp_ior, stp_i2l, stp_i2b, stp_i2s, stp_lcmp, stp_dup, stp_dup2, stp_pop, stp_ifCond, stp_if_icmp, stp_goto, stp_tableswitch, stp_lookupswitch, stp_ldc, stp_ldc_w, stp_ldc2_w, stp_getstatic, stp_getfield, stp_putfield, stp_iaload, stp_baload, stp_iastore, stp_bastore, stp_aaload, stp_aastore, stp_invokevirtual, stp_invokestatic, stp_ireturn, stp_lreturn, stp_return_, lg, lset, okl, spl, wd, c1, cnd, tg, swT, swL, f4_0, f4_1, f4_2, f4_3, f2_0, f2_1, List.mem_cons, List.not_mem_nil, List.length_cons, List.length_nil, List.cons_append, List.nil_append, Nat.reduceAdd, Nat.reduceMul, Nat.reduceLT, Nat.reduceEqDiff, Nat.reduceLeDiff, Int.reduceAdd, Int.reduceNeg, Int.reduceToNat, Int.cast_ofNat_Int, Int.reduceNatCast, Int.toNat_zero, Int.toNat_one, Int.reduceLE, Int.reduceLT, Int.reduceEq, Int.zero_add, Int.add_zero, or_false, false_or, or_true, true_or, and_true, true_and, and_false, false_and, reduceIte, not_true_eq_false, not_false_eq_true, forall_const, false_implies, true_implies, implies_true, ne_eq, reduceCtorEq, List.all_cons, List.all_nil, Bool.and_true, Bool.and_self, decide_eq_true_eq, decide_true, dX5_pass_0, dX5_pass_1, dX5_pass_2, dX5_pass_5, dX5_pass_8, dX5_pass_11, dX5_pass_12, dX5_pass_13, dX5_pass_14, dX5_pass_17, dX5_pass_20, dX5_pass_21, dX5_pass_22, dX5_pass_23, dX5_pass_26, dX5_pass_27, dX5_pass_30, dX5_pass_31, dX5_pass_34, dX5_pass_35, dX5_pass_38, dX5_pass_41, dX5_pass_42, dX5_pass_44, dX5_pass_46, dX5_pass_47, dX5_pass_49, dX5_pass_51, dX5_pass_52, dX5_pass_55, dX5_pass_58, dX5_pass_61, dX5_pass_62, dX5_pass_65, dX5_pass_66, dX5_pass_68, dX5_pass_70, dX5_pass_71, dX5_pass_74, dX5_pass_75, dX5_pass_78, dX5_pass_79, dX5_pass_82, dX5_pass_85, dX5_pass_87, dX5_pass_90, dX5_pass_91, dX5_pass_94, dX5_pass_95, dX5_pass_98, dX5_pass_99, dX5_pass_102, dX5_pass_105, dX5_pass_106, dX5_pass_109, dX5_pass_112, dX5_pass_113, dX5_pass_116, dX5_pass_117, dX5_pass_120, dX5_pass_123, dX5_pass_124, dX5_pass_126, dX5_pass_128, dX5_pass_131, dX5_pass_134, dX5_pass_136, dX5_pass_138, dX5_pass_141, dX5_pass_142, dX5_pass_145, dX5_pass_147, dX5_pass_150, dX5_pass_151, FX5_16, FX5_100, FX5_10, FX5_85, FX5_88, G_X5_pass_52, G_X5_pass_144, G_X5_pass_147, G_X5_pass_140, kd_0, kd_1, kd_8]
    repeat' (first | exact trivial | omega | (with_reducible assumption) | exact absurd trivial (by with_reducible assumption) | contradiction | apply And.intro | intro _)
  | succ m ih =>
    intro n hn ν hG
    obtain ⟨x1, x2, x3⟩ := nx_WF (p := psd (i : Int)) hW n
    have hw2 := x1.2.1 (by rw [x3]; omega)
    have e2 : rI ν 8 2 = nx (psd (i : Int)) f n 36 := by rw [hG.1.2.2.1, x3, if_neg (by omega)]
    have key := fun ρ hρ => ih (n + 1) (by omega) ρ hρ
    rw [show ((n + 1 : Nat) : Int) = (n : Int) + 1 by omega] at key
    apply hV [68, 105] 60
    simp only [InR, InL, inb, Int.toNat_natCast, wp1, wpc_z, wpc_s, stp_iconst, stp_bipush, stp_sipush, stp_lconst, stp_iload_n, stp_iload, stp_lload_n, stp_lload, stp_aload_n, stp_aload, stp_istore_n, stp_istore, stp_lstore_n, stp_lstore, stp_astore_n, stp_astore, stp_iinc, stp_iadd, stp_isub, stp_imul, stp_ineg, stp_idiv, stp_irem, stp_ladd, stp_lmul, stp_ldiv, stp_lrem, stp_ishl, stp_ishr, stp_iushr, stp_iand, stp_ior, stp_i2l, stp_i2b, stp_i2s, stp_lcmp, stp_dup, stp_dup2, stp_pop, stp_ifCond, stp_if_icmp, stp_goto, stp_tableswitch, stp_lookupswitch, stp_ldc, stp_ldc_w, stp_ldc2_w, stp_getstatic, stp_getfield, stp_putfield, stp_iaload, stp_baload, stp_iastore, stp_bastore, stp_aaload, stp_aastore, stp_invokevirtual, stp_invokestatic, stp_ireturn, stp_lreturn, stp_return_, lg, lset, okl, spl, wd, c1, cnd, tg, swT, swL, f4_0, f4_1, f4_2, f4_3, f2_0, f2_1, List.mem_cons, List.not_mem_nil, List.length_cons, List.length_nil, List.cons_append, List.nil_append, Nat.reduceAdd, Nat.reduceMul, Nat.reduceLT, Nat.reduceEqDiff, Nat.reduceLeDiff, Int.reduceAdd, Int.reduceNeg, Int.reduceToNat, Int.cast_ofNat_Int, Int.reduceNatCast, Int.toNat_zero, Int.toNat_one, Int.reduceLE, Int.reduceLT, Int.reduceEq, Int.zero_add, Int.add_zero, or_false, false_or, or_true, true_or, and_true, true_and, and_false, false_and, reduceIte, not_true_eq_false, not_false_eq_true, forall_const, false_implies, true_implies, implies_true, ne_eq, reduceCtorEq, List.all_cons, List.all_nil, Bool.and_true, Bool.and_self, decide_eq_true_eq, decide_true, dX5_pass_0, dX5_pass_1, dX5_pass_2, dX5_pass_5, dX5_pass_8, dX5_pass_11, dX5_pass_12, dX5_pass_13, dX5_pass_14, dX5_pass_17, dX5_pass_20, dX5_pass_21, dX5_pass_22, dX5_pass_23, dX5_pass_26, dX5_pass_27, dX5_pass_30, dX5_pass_31, dX5_pass_34, dX5_pass_35, dX5_pass_38, dX5_pass_41, dX5_pass_42, dX5_pass_44, dX5_pass_46, dX5_pass_47, dX5_pass_49, dX5_pass_51, dX5_pass_52, dX5_pass_55, dX5_pass_58, dX5_pass_61, dX5_pass_62, dX5_pass_65, dX5_pass_66, dX5_pass_68, dX5_pass_70, dX5_pass_71, dX5_pass_74, dX5_pass_75, dX5_pass_78, dX5_pass_79, dX5_pass_82, dX5_pass_85, dX5_pass_87, dX5_pass_90, dX5_pass_91, dX5_pass_94, dX5_pass_95, dX5_pass_98, dX5_pass_99, dX5_pass_102, dX5_pass_105, dX5_pass_106, dX5_pass_109, dX5_pass_112, dX5_pass_113, dX5_pass_116, dX5_pass_117, dX5_pass_120, dX5_pass_123, dX5_pass_124, dX5_pass_126, dX5_pass_128, dX5_pass_131, dX5_pass_134, dX5_pass_136, dX5_pass_138, dX5_pass_141, dX5_pass_142, dX5_pass_145, dX5_pass_147, dX5_pass_150, dX5_pass_151, FX5_16, FX5_100, FX5_10, FX5_85, FX5_88, G_X5_pass_52, G_X5_pass_144, G_X5_pass_147, G_X5_pass_140, kd_0, kd_1, kd_8, e2, T1_visit]
    by_cases z : nx (psd (i : Int)) f n 36 = (i : Int)
    · have hp : psd (i : Int) n (nx (psd (i : Int)) f n) = false := by unfold psd; rw [show (nx (fun _ f => decide (f 36 ≠ (i : Int))) f n 36) = (i : Int) from z]; simp
      repeat' (first | exact trivial | omega | (with_reducible assumption) | exact absurd trivial (by with_reducible assumption) | contradiction | apply And.intro | intro _)
      refine ⟨nx (psd (i : Int)) f n, false, hG.1, x1, by omega, by simp, fun ρ hρ => key ρ ?_⟩
      rw [← hp] at hρ
      exact hG.st hρ
    · have hp : psd (i : Int) n (nx (psd (i : Int)) f n) = true := by unfold psd; exact decide_eq_true z
      repeat' (first | exact trivial | omega | (with_reducible assumption) | exact absurd trivial (by with_reducible assumption) | contradiction | apply And.intro | intro _)
      refine ⟨nx (psd (i : Int)) f n, true, hG.1, x1, by omega, by simp, fun ρ hρ => key ρ ?_⟩
      rw [← hp] at hρ
      exact hG.st hρ
set_option maxRecDepth 20000 in
set_option maxHeartbeats 4000000 in
theorem lp_pass (V : Nat → List (Option AV) → List AV → Mem → Prop) (K : List AV → Mem → Prop) (hV : Clos FX5 CX5 G_X5_pass 1 K cX5_pass V) (μ : Mem) (f : Nat → Int) (hW : WF f) (h38 : f 38 ≤ 9999) (e : Nat) (he : e ≤ 200) (w : Int) (hw : 0 ≤ w ∧ w ≤ 1) (hP : RP μ 8) (hR : RG μ 1 f) (hK : ∀ ν, FQ μ ν → K [.inl (jdA (jd idC (passU f e) (sL yes f e) (f 35).toNat) w)] ν) : ∀ m n : Nat, n + m = (f 35).toNat → ∀ ν, FQ μ ν → ∀ q : Int × Int, q = jd idC (passU f e) (sL yes f e) n → ∀ x : Option AV, V 49 [some (.inr (.inr 0)), some (.inl (e : Int)), some (.inl w), some (.inl q.2), some (.inl q.1), some (.inl (n : Int)), x] [] ν := by
  have h35 := hW.1
  have hu : ∀ v : Nat, 0 ≤ passU f e v ∧ passU f e v ≤ 27000 := by
    intro v
    have := (sum_in (p := psd (v : Int)) hW e).2.1
    unfold passU
    omega
  have hb := (sum_in (p := yes) hW e).2.1
  have hj := fun (n : Nat) (hn : (n : Int) ≤ f 35) => jd_rg (c := idC) (u := passU f e) (b := sL yes f e) (lo := 0) (hi := 27000) (lc := 0) (hc := 9) (fun n => by show (n : Int) ≠ -4; omega) n (fun k hk => hu k) (fun k hk => ⟨by show 0 ≤ (k : Int); omega, by show (k : Int) ≤ 9; omega⟩)
  intro m
  induction m with
  | zero =>
    intro n hn ν hF q hq x
    have en : n = (f 35).toNat := by omega
    have hk := hK ν hF
    rw [← en, ← hq] at hk
    have e1 := (hF.ring hR h35.2).2.1
    have hjn := hj n (by omega)
    rw [← hq] at hjn
    have hrg : InR q.1 := by
      by_cases z : q.1 = -4
      · rw [z]; exact ⟨by omega, by omega⟩
      · have := hjn.2 z; exact ⟨by omega, by omega⟩
    simp only [InR] at hrg
    unfold jdA at hk
    apply hV [49, 68] 60
    simp only [InR, InL, inb, Int.toNat_natCast, wp1, wpc_z, wpc_s, stp_iconst, stp_bipush, stp_sipush, stp_lconst, stp_iload_n, stp_iload, stp_lload_n, stp_lload, stp_aload_n, stp_aload, stp_istore_n, stp_istore, stp_lstore_n, stp_lstore, stp_astore_n, stp_astore, stp_iinc, stp_iadd, stp_isub, stp_imul, stp_ineg, stp_idiv, stp_irem, stp_ladd, stp_lmul, stp_ldiv, stp_lrem, stp_ishl, stp_ishr, stp_iushr, stp_iand, stp_ior, stp_i2l, stp_i2b, stp_i2s, stp_lcmp, stp_dup, stp_dup2, stp_pop, stp_ifCond, stp_if_icmp, stp_goto, stp_tableswitch, stp_lookupswitch, stp_ldc, stp_ldc_w, stp_ldc2_w, stp_getstatic, stp_getfield, stp_putfield, stp_iaload, stp_baload, stp_iastore, stp_bastore, stp_aaload, stp_aastore, stp_invokevirtual, stp_invokestatic, stp_ireturn, stp_lreturn, stp_return_, lg, lset, okl, spl, wd, c1, cnd, tg, swT, swL, f4_0, f4_1, f4_2, f4_3, f2_0, f2_1, List.mem_cons, List.not_mem_nil, List.length_cons, List.length_nil, List.cons_append, List.nil_append, Nat.reduceAdd, Nat.reduceMul, Nat.reduceLT, Nat.reduceEqDiff, Nat.reduceLeDiff, Int.reduceAdd, Int.reduceNeg, Int.reduceToNat, Int.cast_ofNat_Int, Int.reduceNatCast, Int.toNat_zero, Int.toNat_one, Int.reduceLE, Int.reduceLT, Int.reduceEq, Int.zero_add, Int.add_zero, or_false, false_or, or_true, true_or, and_true, true_and, and_false, false_and, reduceIte, not_true_eq_false, not_false_eq_true, forall_const, false_implies, true_implies, implies_true, ne_eq, reduceCtorEq, List.all_cons, List.all_nil, Bool.and_true, Bool.and_self, decide_eq_true_eq, decide_true, dX5_pass_0, dX5_pass_1, dX5_pass_2, dX5_pass_5, dX5_pass_8, dX5_pass_11, dX5_pass_12, dX5_pass_13, dX5_pass_14, dX5_pass_17, dX5_pass_20, dX5_pass_21, dX5_pass_22, dX5_pass_23, dX5_pass_26, dX5_pass_27, dX5_pass_30, dX5_pass_31, dX5_pass_34, dX5_pass_35, dX5_pass_38, dX5_pass_41, dX5_pass_42, dX5_pass_44, dX5_pass_46, dX5_pass_47, dX5_pass_49, dX5_pass_51, dX5_pass_52, dX5_pass_55, dX5_pass_58, dX5_pass_61, dX5_pass_62, dX5_pass_65, dX5_pass_66, dX5_pass_68, dX5_pass_70, dX5_pass_71, dX5_pass_74, dX5_pass_75, dX5_pass_78, dX5_pass_79, dX5_pass_82, dX5_pass_85, dX5_pass_87, dX5_pass_90, dX5_pass_91, dX5_pass_94, dX5_pass_95, dX5_pass_98, dX5_pass_99, dX5_pass_102, dX5_pass_105, dX5_pass_106, dX5_pass_109, dX5_pass_112, dX5_pass_113, dX5_pass_116, dX5_pass_117, dX5_pass_120, dX5_pass_123, dX5_pass_124, dX5_pass_126, dX5_pass_128, dX5_pass_131, dX5_pass_134, dX5_pass_136, dX5_pass_138, dX5_pass_141, dX5_pass_142, dX5_pass_145, dX5_pass_147, dX5_pass_150, dX5_pass_151, FX5_16, FX5_100, FX5_10, FX5_85, FX5_88, G_X5_pass_52, G_X5_pass_144, G_X5_pass_147, G_X5_pass_140, kd_0, kd_1, kd_8, e1]
    by_cases z : q.1 = -4
    · rw [if_pos z] at hk
      rw [z]
      repeat' (first | exact trivial | omega | (with_reducible assumption) | exact absurd trivial (by with_reducible assumption) | contradiction | apply And.intro | intro _)
    · rw [if_neg z] at hk
      by_cases w0 : w = 0
      · rw [if_pos w0] at hk
        repeat' (first | exact trivial | omega | (with_reducible assumption) | exact absurd trivial (by with_reducible assumption) | contradiction | apply And.intro | intro _)
      · rw [if_neg w0] at hk
        repeat' (first | exact trivial | omega | (with_reducible assumption) | exact absurd trivial (by with_reducible assumption) | contradiction | apply And.intro | intro _)
  | succ m ih =>
    intro n hn ν hF q hq x
    have hR1 := hF.ring hR h35.2
    have e1 := hR1.2.1
    have hun := hu n
    have hjn := hj n (by omega)
    rw [← hq] at hjn
    have hP2 := hF.2.2
    have key := fun σ hσ y => ih (n + 1) (by omega) σ hσ (jd idC (passU f e) (sL yes f e) (n + 1)) rfl y
    rw [show ((n + 1 : Nat) : Int) = (n : Int) + 1 by omega, jd_s, ← hq] at key
    have hrg : (-4 ≤ q.1 ∧ q.1 ≤ 9) ∧ 0 ≤ q.2 ∧ q.2 ≤ 27000 := by
      by_cases z : q.1 = -4
      · have := (hjn.1 z).1; omega
      · have := hjn.2 z; omega
    apply hV [49, 68] 12
    simp only [InR, InL, inb, Int.toNat_natCast, wp1, wpc_z, wpc_s, stp_iconst, stp_bipush, stp_sipush, stp_lconst, stp_iload_n, stp_iload, stp_lload_n, stp_lload, stp_aload_n, stp_aload, stp_istore_n, stp_istore, stp_lstore_n, stp_lstore, stp_astore_n, stp_astore, stp_iinc, stp_iadd, stp_isub, stp_imul, stp_ineg, stp_idiv, stp_irem, stp_ladd, stp_lmul, stp_ldiv, stp_lrem, stp_ishl, stp_ishr, stp_iushr, stp_iand, stp_ior, stp_i2l, stp_i2b, stp_i2s, stp_lcmp, stp_dup, stp_dup2, stp_pop, stp_ifCond, stp_if_icmp, stp_goto, stp_tableswitch, stp_lookupswitch, stp_ldc, stp_ldc_w, stp_ldc2_w, stp_getstatic, stp_getfield, stp_putfield, stp_iaload, stp_baload, stp_iastore, stp_bastore, stp_aaload, stp_aastore, stp_invokevirtual, stp_invokestatic, stp_ireturn, stp_lreturn, stp_return_, lg, lset, okl, spl, wd, c1, cnd, tg, swT, swL, f4_0, f4_1, f4_2, f4_3, f2_0, f2_1, List.mem_cons, List.not_mem_nil, List.length_cons, List.length_nil, List.cons_append, List.nil_append, Nat.reduceAdd, Nat.reduceMul, Nat.reduceLT, Nat.reduceEqDiff, Nat.reduceLeDiff, Int.reduceAdd, Int.reduceNeg, Int.reduceToNat, Int.cast_ofNat_Int, Int.reduceNatCast, Int.toNat_zero, Int.toNat_one, Int.reduceLE, Int.reduceLT, Int.reduceEq, Int.zero_add, Int.add_zero, or_false, false_or, or_true, true_or, and_true, true_and, and_false, false_and, reduceIte, not_true_eq_false, not_false_eq_true, forall_const, false_implies, true_implies, implies_true, ne_eq, reduceCtorEq, List.all_cons, List.all_nil, Bool.and_true, Bool.and_self, decide_eq_true_eq, decide_true, dX5_pass_0, dX5_pass_1, dX5_pass_2, dX5_pass_5, dX5_pass_8, dX5_pass_11, dX5_pass_12, dX5_pass_13, dX5_pass_14, dX5_pass_17, dX5_pass_20, dX5_pass_21, dX5_pass_22, dX5_pass_23, dX5_pass_26, dX5_pass_27, dX5_pass_30, dX5_pass_31, dX5_pass_34, dX5_pass_35, dX5_pass_38, dX5_pass_41, dX5_pass_42, dX5_pass_44, dX5_pass_46, dX5_pass_47, dX5_pass_49, dX5_pass_51, dX5_pass_52, dX5_pass_55, dX5_pass_58, dX5_pass_61, dX5_pass_62, dX5_pass_65, dX5_pass_66, dX5_pass_68, dX5_pass_70, dX5_pass_71, dX5_pass_74, dX5_pass_75, dX5_pass_78, dX5_pass_79, dX5_pass_82, dX5_pass_85, dX5_pass_87, dX5_pass_90, dX5_pass_91, dX5_pass_94, dX5_pass_95, dX5_pass_98, dX5_pass_99, dX5_pass_102, dX5_pass_105, dX5_pass_106, dX5_pass_109, dX5_pass_112, dX5_pass_113, dX5_pass_116, dX5_pass_117, dX5_pass_120, dX5_pass_123, dX5_pass_124, dX5_pass_126, dX5_pass_128, dX5_pass_131, dX5_pass_134, dX5_pass_136, dX5_pass_138, dX5_pass_141, dX5_pass_142, dX5_pass_145, dX5_pass_147, dX5_pass_150, dX5_pass_151, FX5_16, FX5_100, FX5_10, FX5_85, FX5_88, G_X5_pass_52, G_X5_pass_144, G_X5_pass_147, G_X5_pass_140, e1, kd_0, kd_1, T5_startTrial]
    refine ⟨by omega, by omega, fun z => absurd z (by omega), fun _ => ⟨hP2, f, hR1, by omega, fun ρ hρ => ?_⟩⟩
    obtain ⟨a1, a2, a3, a4⟩ := hρ
    have h2 := lp_pass2 V K hV ρ f hW h38 e he w q.2 q.1 n (by omega) (fun σ hσ => by
      obtain ⟨b1, b2, b3, b4⟩ := hσ
      have key := key σ (hF.tr ((a4.tr b4).q hF.2.2)) (some (.inl (e : Int)))
      have es : rI σ 8 6 = passU f e n := by rw [b3, a3]; unfold passU; omega
      apply hV [49] 60
      simp only [InR, InL, inb, Int.toNat_natCast, wp1, wpc_z, wpc_s, stp_iconst, stp_bipush, stp_sipush, stp_lconst, stp_iload_n, stp_iload, stp_lload_n, stp_lload, stp_aload_n, stp_aload, stp_istore_n, stp_istore, stp_lstore_n, stp_lstore, stp_astore_n, stp_astore, stp_iinc, stp_iadd, stp_isub, stp_imul, stp_ineg, stp_idiv, stp_irem, stp_ladd, stp_lmul, stp_ldiv, stp_lrem, stp_ishl, stp_ishr, stp_iushr, stp_iand, stp_ior, stp_i2l, stp_i2b, stp_i2s, stp_lcmp, stp_dup, stp_dup2, stp_pop, stp_ifCond, stp_if_icmp, stp_goto, stp_tableswitch, stp_lookupswitch, stp_ldc, stp_ldc_w, stp_ldc2_w, stp_getstatic, stp_getfield, stp_putfield, stp_iaload, stp_baload, stp_iastore, stp_bastore, stp_aaload, stp_aastore, stp_invokevirtual, stp_invokestatic, stp_ireturn, stp_lreturn, stp_return_, lg, lset, okl, spl, wd, c1, cnd, tg, swT, swL, f4_0, f4_1, f4_2, f4_3, f2_0, f2_1, List.mem_cons, List.not_mem_nil, List.length_cons, List.length_nil, List.cons_append, List.nil_append, Nat.reduceAdd, Nat.reduceMul, Nat.reduceLT, Nat.reduceEqDiff, Nat.reduceLeDiff, Int.reduceAdd, Int.reduceNeg, Int.reduceToNat, Int.cast_ofNat_Int, Int.reduceNatCast, Int.toNat_zero, Int.toNat_one, Int.reduceLE, Int.reduceLT, Int.reduceEq, Int.zero_add, Int.add_zero, or_false, false_or, or_true, true_or, and_true, true_and, and_false, false_and, reduceIte, not_true_eq_false, not_false_eq_true, forall_const, false_implies, true_implies, implies_true, ne_eq, reduceCtorEq, List.all_cons, List.all_nil, Bool.and_true, Bool.and_self, decide_eq_true_eq, decide_true, dX5_pass_0, dX5_pass_1, dX5_pass_2, dX5_pass_5, dX5_pass_8, dX5_pass_11, dX5_pass_12, dX5_pass_13, dX5_pass_14, dX5_pass_17, dX5_pass_20, dX5_pass_21, dX5_pass_22, dX5_pass_23, dX5_pass_26, dX5_pass_27, dX5_pass_30, dX5_pass_31, dX5_pass_34, dX5_pass_35, dX5_pass_38, dX5_pass_41, dX5_pass_42, dX5_pass_44, dX5_pass_46, dX5_pass_47, dX5_pass_49, dX5_pass_51, dX5_pass_52, dX5_pass_55, dX5_pass_58, dX5_pass_61, dX5_pass_62, dX5_pass_65, dX5_pass_66, dX5_pass_68, dX5_pass_70, dX5_pass_71, dX5_pass_74, dX5_pass_75, dX5_pass_78, dX5_pass_79, dX5_pass_82, dX5_pass_85, dX5_pass_87, dX5_pass_90, dX5_pass_91, dX5_pass_94, dX5_pass_95, dX5_pass_98, dX5_pass_99, dX5_pass_102, dX5_pass_105, dX5_pass_106, dX5_pass_109, dX5_pass_112, dX5_pass_113, dX5_pass_116, dX5_pass_117, dX5_pass_120, dX5_pass_123, dX5_pass_124, dX5_pass_126, dX5_pass_128, dX5_pass_131, dX5_pass_134, dX5_pass_136, dX5_pass_138, dX5_pass_141, dX5_pass_142, dX5_pass_145, dX5_pass_147, dX5_pass_150, dX5_pass_151, FX5_16, FX5_100, FX5_10, FX5_85, FX5_88, G_X5_pass_52, G_X5_pass_144, G_X5_pass_147, G_X5_pass_140, kd_0, kd_1, kd_8, es]
      by_cases lt : passU f e n < q.2
      · rw [if_pos lt] at key
        simp only [idC] at key
        repeat' (first | exact trivial | omega | (with_reducible assumption) | exact absurd trivial (by with_reducible assumption) | contradiction | apply And.intro | intro _)
      · rw [if_neg lt] at key
        repeat' (first | exact trivial | omega | (with_reducible assumption) | exact absurd trivial (by with_reducible assumption) | contradiction | apply And.intro | intro _)) e 0 (by omega) ρ (GR.rf a1)
    exact h2
def T5_pass : TT := fun a μ K => match a with
  | [.inr (.inr o), .inl n, .inl w] => o = 0 ∧ (InR n ∧ InR w ∧ RP μ 8 ∧ ∃ f, RG μ 1 f ∧ WF f ∧ f 38 ≤ 9999 ∧ ∀ ν, FQ μ ν → K [.inl (passR f n w)] ν)
  | _ => False
theorem rec_X5_pass : ∀ a μ K, T5_pass a μ K → ∃ k r, a = .inr (.inr k) :: r ∧ kd k = 5 := by
  intro a μ K h
  unfold T5_pass at h
  split at h
  · exact ⟨_, _, rfl, by rw [h.1]; rfl⟩
  · exact h.elim
theorem gk_X5_pass (l : Launch) : ∀ i n b T, G_X5_pass i = some (n, b, T) → CallOK l 5 RX5 i n b T := by
  intro i n b T h
  have hm : (i, n, b, T) ∈ GL_X5_pass := lk_mem h
  simp only [GL_X5_pass, List.mem_cons, List.not_mem_nil, or_false, Prod.mk.injEq] at hm
  rcases hm with ⟨rfl, rfl, rfl, rfl⟩ | ⟨rfl, rfl, rfl, rfl⟩ | ⟨rfl, rfl, rfl, rfl⟩ | ⟨rfl, rfl, rfl, rfl⟩
  · exact CallOK.S (d := 5) (own := RX5) (i := 52) (n := 3) (good_X5_isOutside l) (by decide) (by decide) (mg 191 (by decide +kernel) (by decide +kernel)) (mg 192 (by decide +kernel) (by decide +kernel)) (mg 1 (by decide +kernel) (by decide +kernel)) (mg 193 (by decide +kernel) (by decide +kernel)) (by decide +kernel)
  · exact CallOK.V (d := 5) (own := RX5) (i := 144) (n := 0) (ci := 5) (good_X5_startTrial l) (by decide) (by decide) rfl (by decide) rec_X5_startTrial (mg 406 (by decide +kernel) (by decide +kernel)) (mg 408 (by decide +kernel) (by decide +kernel)) (mgs 13 (by decide +kernel) (by decide +kernel)) (mg 1 (by decide +kernel) (by decide +kernel)) (mg 409 (by decide +kernel) (by decide +kernel)) (by decide +kernel)
  · exact CallOK.V (d := 5) (own := RX5) (i := 147) (n := 1) (ci := 1) (good_X1_go l) (by decide) (by decide) rfl (by decide) rec_X1_go (mg 410 (by decide +kernel) (by decide +kernel)) (mg 411 (by decide +kernel) (by decide +kernel)) (mg 412 (by decide +kernel) (by decide +kernel)) (mg 2 (by decide +kernel) (by decide +kernel)) (mg 413 (by decide +kernel) (by decide +kernel)) (by decide +kernel)
  · exact CallOK.V (d := 5) (own := RX5) (i := 140) (n := 1) (ci := 1) (good_X1_visit l) (by decide) (by decide) rfl (by decide) rec_X1_visit (mg 392 (by decide +kernel) (by decide +kernel)) (mg 393 (by decide +kernel) (by decide +kernel)) (mg 394 (by decide +kernel) (by decide +kernel)) (mg 2 (by decide +kernel) (by decide +kernel)) (mg 395 (by decide +kernel) (by decide +kernel)) (by decide +kernel)
set_option maxRecDepth 20000 in
set_option maxHeartbeats 4000000 in
theorem body_X5_pass (o : Nat) (n : Int) (w : Int) (μ : Mem) (K : List AV → Mem → Prop) (V : Nat → List (Option AV) → List AV → Mem → Prop) (hV : Clos FX5 CX5 G_X5_pass 1 K cX5_pass V) (hT : o = 0 ∧ (InR n ∧ InR w ∧ RP μ 8 ∧ ∃ f, RG μ 1 f ∧ WF f ∧ f 38 ≤ 9999 ∧ ∀ ν, FQ μ ν → K [.inl (passR f n w)] ν)) : V 0 [some (.inr (.inr o)), some (.inl n), some (.inl w), none, none, none, none] [] μ := by
  simp only [InR] at hT
  obtain ⟨rfl, hn, hw, hP, f, hR, hW, h38, hK⟩ := hT
  have h35 := hW.1
  by_cases hc : (0 ≤ n ∧ n ≤ 200) ∧ 0 ≤ w ∧ w ≤ 1
  · obtain ⟨n', rfl⟩ := Int.eq_ofNat_of_zero_le hc.1.1
    apply hV [49] 80
    simp only [InR, InL, inb, Int.toNat_natCast, wp1, wpc_z, wpc_s, stp_iconst, stp_bipush, stp_sipush, stp_lconst, stp_iload_n, stp_iload, stp_lload_n, stp_lload, stp_aload_n, stp_aload, stp_istore_n, stp_istore, stp_lstore_n, stp_lstore, stp_astore_n, stp_astore, stp_iinc, stp_iadd, stp_isub, stp_imul, stp_ineg, stp_idiv, stp_irem, stp_ladd, stp_lmul, stp_ldiv, stp_lrem, stp_ishl, stp_ishr, stp_iushr, stp_iand, stp_ior, stp_i2l, stp_i2b, stp_i2s, stp_lcmp, stp_dup, stp_dup2, stp_pop, stp_ifCond, stp_if_icmp, stp_goto, stp_tableswitch, stp_lookupswitch, stp_ldc, stp_ldc_w, stp_ldc2_w, stp_getstatic, stp_getfield, stp_putfield, stp_iaload, stp_baload, stp_iastore, stp_bastore, stp_aaload, stp_aastore, stp_invokevirtual, stp_invokestatic, stp_ireturn, stp_lreturn, stp_return_, lg, lset, okl, spl, wd, c1, cnd, tg, swT, swL, f4_0, f4_1, f4_2, f4_3, f2_0, f2_1, List.mem_cons, List.not_mem_nil, List.length_cons, List.length_nil, List.cons_append, List.nil_append, Nat.reduceAdd, Nat.reduceMul, Nat.reduceLT, Nat.reduceEqDiff, Nat.reduceLeDiff, Int.reduceAdd, Int.reduceNeg, Int.reduceToNat, Int.cast_ofNat_Int, Int.reduceNatCast, Int.toNat_zero, Int.toNat_one, Int.reduceLE, Int.reduceLT, Int.reduceEq, Int.zero_add, Int.add_zero, or_false, false_or, or_true, true_or, and_true, true_and, and_false, false_and, reduceIte, not_true_eq_false, not_false_eq_true, forall_const, false_implies, true_implies, implies_true, ne_eq, reduceCtorEq, List.all_cons, List.all_nil, Bool.and_true, Bool.and_self, decide_eq_true_eq, decide_true, dX5_pass_0, dX5_pass_1, dX5_pass_2, dX5_pass_5, dX5_pass_8, dX5_pass_11, dX5_pass_12, dX5_pass_13, dX5_pass_14, dX5_pass_17, dX5_pass_20, dX5_pass_21, dX5_pass_22, dX5_pass_23, dX5_pass_26, dX5_pass_27, dX5_pass_30, dX5_pass_31, dX5_pass_34, dX5_pass_35, dX5_pass_38, dX5_pass_41, dX5_pass_42, dX5_pass_44, dX5_pass_46, dX5_pass_47, dX5_pass_49, dX5_pass_51, dX5_pass_52, dX5_pass_55, dX5_pass_58, dX5_pass_61, dX5_pass_62, dX5_pass_65, dX5_pass_66, dX5_pass_68, dX5_pass_70, dX5_pass_71, dX5_pass_74, dX5_pass_75, dX5_pass_78, dX5_pass_79, dX5_pass_82, dX5_pass_85, dX5_pass_87, dX5_pass_90, dX5_pass_91, dX5_pass_94, dX5_pass_95, dX5_pass_98, dX5_pass_99, dX5_pass_102, dX5_pass_105, dX5_pass_106, dX5_pass_109, dX5_pass_112, dX5_pass_113, dX5_pass_116, dX5_pass_117, dX5_pass_120, dX5_pass_123, dX5_pass_124, dX5_pass_126, dX5_pass_128, dX5_pass_131, dX5_pass_134, dX5_pass_136, dX5_pass_138, dX5_pass_141, dX5_pass_142, dX5_pass_145, dX5_pass_147, dX5_pass_150, dX5_pass_151, FX5_16, FX5_100, FX5_10, FX5_85, FX5_88, G_X5_pass_52, G_X5_pass_144, G_X5_pass_147, G_X5_pass_140, kd_0, kd_1, kd_8, T5_isOutside, T5_startTrial, T1_go]
    repeat' (first | exact trivial | omega | (with_reducible assumption) | exact absurd trivial (by with_reducible assumption) | contradiction | apply And.intro | intro _)
    refine ⟨f, hR, h35, fun ρ hρ => ?_⟩
    obtain ⟨a1, a2, a3, a4⟩ := hρ
    refine ⟨by omega, f, a1, hW, by omega, fun σ hσ => ?_⟩
    obtain ⟨b1, b2, b3, b4⟩ := hσ
    have hF : FQ μ σ := (a4.tr b4).q hP
    have es : rI σ 8 6 = sL yes f n' := by rw [b3, a3]; omega
    have h := lp_pass V K hV μ f hW h38 n' (by omega) w (by omega) hP hR (fun ν hν => by
      have hk := hK ν hν
      unfold passR at hk
      rw [if_pos hc, Int.toNat_natCast] at hk
      exact hk) (f 35).toNat 0 (by omega) σ hF _ rfl none
    simp only [jd] at h
    rw [es]
    exact h
  · have hk := hK μ (FQ.rf hP)
    unfold passR at hk
    rw [if_neg hc] at hk
    apply hV [22] 80
    simp only [InR, InL, inb, Int.toNat_natCast, wp1, wpc_z, wpc_s, stp_iconst, stp_bipush, stp_sipush, stp_lconst, stp_iload_n, stp_iload, stp_lload_n, stp_lload, stp_aload_n, stp_aload, stp_istore_n, stp_istore, stp_lstore_n, stp_lstore, stp_astore_n, stp_astore, stp_iinc, stp_iadd, stp_isub, stp_imul, stp_ineg, stp_idiv, stp_irem, stp_ladd, stp_lmul, stp_ldiv, stp_lrem, stp_ishl, stp_ishr, stp_iushr, stp_iand, stp_ior, stp_i2l, stp_i2b, stp_i2s, stp_lcmp, stp_dup, stp_dup2, stp_pop, stp_ifCond, stp_if_icmp, stp_goto, stp_tableswitch, stp_lookupswitch, stp_ldc, stp_ldc_w, stp_ldc2_w, stp_getstatic, stp_getfield, stp_putfield, stp_iaload, stp_baload, stp_iastore, stp_bastore, stp_aaload, stp_aastore, stp_invokevirtual, stp_invokestatic, stp_ireturn, stp_lreturn, stp_return_, lg, lset, okl, spl, wd, c1, cnd, tg, swT, swL, f4_0, f4_1, f4_2, f4_3, f2_0, f2_1, List.mem_cons, List.not_mem_nil, List.length_cons, List.length_nil, List.cons_append, List.nil_append, Nat.reduceAdd, Nat.reduceMul, Nat.reduceLT, Nat.reduceEqDiff, Nat.reduceLeDiff, Int.reduceAdd, Int.reduceNeg, Int.reduceToNat, Int.cast_ofNat_Int, Int.reduceNatCast, Int.toNat_zero, Int.toNat_one, Int.reduceLE, Int.reduceLT, Int.reduceEq, Int.zero_add, Int.add_zero, or_false, false_or, or_true, true_or, and_true, true_and, and_false, false_and, reduceIte, not_true_eq_false, not_false_eq_true, forall_const, false_implies, true_implies, implies_true, ne_eq, reduceCtorEq, List.all_cons, List.all_nil, Bool.and_true, Bool.and_self, decide_eq_true_eq, decide_true, dX5_pass_0, dX5_pass_1, dX5_pass_2, dX5_pass_5, dX5_pass_8, dX5_pass_11, dX5_pass_12, dX5_pass_13, dX5_pass_14, dX5_pass_17, dX5_pass_20, dX5_pass_21, dX5_pass_22, dX5_pass_23, dX5_pass_26, dX5_pass_27, dX5_pass_30, dX5_pass_31, dX5_pass_34, dX5_pass_35, dX5_pass_38, dX5_pass_41, dX5_pass_42, dX5_pass_44, dX5_pass_46, dX5_pass_47, dX5_pass_49, dX5_pass_51, dX5_pass_52, dX5_pass_55, dX5_pass_58, dX5_pass_61, dX5_pass_62, dX5_pass_65, dX5_pass_66, dX5_pass_68, dX5_pass_70, dX5_pass_71, dX5_pass_74, dX5_pass_75, dX5_pass_78, dX5_pass_79, dX5_pass_82, dX5_pass_85, dX5_pass_87, dX5_pass_90, dX5_pass_91, dX5_pass_94, dX5_pass_95, dX5_pass_98, dX5_pass_99, dX5_pass_102, dX5_pass_105, dX5_pass_106, dX5_pass_109, dX5_pass_112, dX5_pass_113, dX5_pass_116, dX5_pass_117, dX5_pass_120, dX5_pass_123, dX5_pass_124, dX5_pass_126, dX5_pass_128, dX5_pass_131, dX5_pass_134, dX5_pass_136, dX5_pass_138, dX5_pass_141, dX5_pass_142, dX5_pass_145, dX5_pass_147, dX5_pass_150, dX5_pass_151, FX5_16, FX5_100, FX5_10, FX5_85, FX5_88, G_X5_pass_52, G_X5_pass_144, G_X5_pass_147, G_X5_pass_140, kd_0, kd_1, kd_8, T5_isOutside]
    repeat' (first | exact trivial | omega | (with_reducible assumption) | exact absurd trivial (by with_reducible assumption) | contradiction | apply And.intro | intro _)
theorem good_X5_pass (l : Launch) : Good l 5 yX5_pass cX5_pass 7 (some .int) T5_pass := by
  refine Good.mk 1 (by decide) rfl (by simp [retOK]) FOK5 COK5 (gk_X5_pass l) ?_ ?_
  · intro a μ K h
    unfold T5_pass at h
    split at h
    · simp [entl]
    · exact h.elim
  · intro a μ K V hV h
    unfold T5_pass at h
    split at h
    · exact body_X5_pass _ _ _ μ K V hV h
    · exact h.elim

