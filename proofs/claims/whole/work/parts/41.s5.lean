/-! both: swap; the reference: ahead -/
def swI (u : Nat → Nat → Int) (i : Nat) : Nat → Int × Int → Int × Int
  | 0, q => q
  | m + 1, q => if u i (i + 1 + m) < (swI u i m q).2 then (10 * (i : Int) + ((i : Int) + 1 + (m : Int)), u i (i + 1 + m)) else swI u i m q
def swO (u : Nat → Nat → Int) (b : Int) (N : Nat) : Nat → Int × Int
  | 0 => (-4, b)
  | i + 1 => swI u i (N - (i + 1)) (swO u b N i)
def QR (q : Int × Int) : Prop := (-4 ≤ q.1 ∧ q.1 ≤ 60) ∧ -3600 ≤ q.2 ∧ q.2 ≤ 0
theorem swI_rg {u : Nat → Nat → Int} {i N : Nat} (hN : N ≤ 5) (hu : ∀ k, i < k → k < N → -3600 ≤ u i k ∧ u i k ≤ 0) {q : Int × Int} (hq : QR q) : ∀ m, i + 1 + m ≤ N → QR (swI u i m q)
  | 0, _ => hq
  | m + 1, h => by
    have h1 := swI_rg hN hu hq m (by omega)
    have h2 := hu (i + 1 + m) (by omega) (by omega)
    simp only [swI]
    by_cases e : u i (i + 1 + m) < (swI u i m q).2
    · rw [if_pos e]; exact ⟨⟨by show -4 ≤ 10 * (i : Int) + _; omega, by show 10 * (i : Int) + _ ≤ 60; omega⟩, h2⟩
    · rw [if_neg e]; exact h1
theorem swO_rg {u : Nat → Nat → Int} {b : Int} {N : Nat} (hN : N ≤ 5) (hb : -3600 ≤ b ∧ b ≤ 0) (hu : ∀ i k, i < k → k < N → -3600 ≤ u i k ∧ u i k ≤ 0) : ∀ i, i ≤ N → QR (swO u b N i)
  | 0, _ => ⟨⟨Int.le_refl _, by show (-4 : Int) ≤ 60; omega⟩, hb⟩
  | i + 1, h => swI_rg hN (fun k => hu i k) (swO_rg hN hb hu i (by omega)) _ (by omega)
def swU (f : Nat → Int) (n : Nat) : Nat → Nat → Int := fun i k => -sS yes (swpF f i k) n
def swapR (f : Nat → Int) (n w : Int) : Int := if (0 ≤ n ∧ n ≤ 200) ∧ 0 ≤ w ∧ w ≤ 1 then jdB (swO (swU f n.toNat) (-sS yes f n.toNat) (f 35).toNat (f 35).toNat) w else -1
theorem swU_in {f : Nat → Int} (hW : WF f) {n : Nat} (hn : n ≤ 200) : ∀ i k, i < k → k < (f 35).toNat → -3600 ≤ swU f n i k ∧ swU f n i k ≤ 0 := by
  intro i k h1 h2
  have h35 := hW.1
  have := (sum_in (p := yes) (hW.swp (i := i) (k := k) (by omega) (by omega)) n).1
  unfold swU
  omega
def GL_X5_swap : List (Nat × Nat × Bool × TT) := [(52, 3, true, T5_isOutside), (144, 1, false, T5_startTrial), (147, 2, false, T1_go), (136, 3, false, T1_exchange)]
def G_X5_swap : Nat → Option (Nat × Bool × TT) := fun i => GL_X5_swap.lookup i
theorem G_X5_swap_52 : G_X5_swap 52 = some (3, true, T5_isOutside) := rfl
theorem G_X5_swap_144 : G_X5_swap 144 = some (1, false, T5_startTrial) := rfl
theorem G_X5_swap_147 : G_X5_swap 147 = some (2, false, T1_go) := rfl
theorem G_X5_swap_136 : G_X5_swap 136 = some (3, false, T1_exchange) := rfl

set_option maxRecDepth 20000 in
set_option maxHeartbeats 4000000 in
theorem lp_swap2 (V : Nat → List (Option AV) → List AV → Mem → Prop) (K : List AV → Mem → Prop) (hV : Clos FX5 CX5 G_X5_swap 1 K cX5_swap V) (μ : Mem) (f : Nat → Int) (hW : WF f) (h38 : f 38 ≤ 9999) (e : Nat) (he : e ≤ 200) (w : Int) (hP : RP μ 8) (hR : RG μ 1 f) (i : Nat) (hi : (i : Int) < f 35) (q0 : Int × Int) (hq0 : QR q0) (hK : ∀ ν, FQ μ ν → ∀ q : Int × Int, q = swI (swU f e) i ((f 35).toNat - (i + 1)) q0 → ∀ x : Option AV, V 137 [some (.inr (.inr 0)), some (.inl (e : Int)), some (.inl w), some (.inl (-q.2)), some (.inl q.1), some (.inl (i : Int)), x] [] ν) : ∀ m n : Nat, i + 1 + n + m = (f 35).toNat → ∀ ν, FQ μ ν → ∀ q : Int × Int, q = swI (swU f e) i n q0 → V 67 [some (.inr (.inr 0)), some (.inl (e : Int)), some (.inl w), some (.inl (-q.2)), some (.inl q.1), some (.inl (i : Int)), some (.inl ((i : Int) + 1 + (n : Int)))] [] ν := by
  have h35 := hW.1
  intro m
  induction m with
  | zero =>
    intro n hn ν hF q hq
    have en : n = (f 35).toNat - (i + 1) := by omega
    have hk := hK ν hF q (by rw [hq, en]) (some (.inl ((i : Int) + 1 + (n : Int))))
    have e1 := (hF.ring hR h35.2).2.1
    apply hV [67, 137] 60
    simp only [InR, InL, inb, Int.toNat_natCast, wp1, wpc_z, wpc_s, stp_iconst, stp_bipush, stp_sipush, stp_lconst, stp_iload_n, stp_iload, stp_lload_n, stp_lload, stp_aload_n, stp_aload, stp_istore_n, stp_istore, stp_lstore_n, stp_lstore, stp_astore_n, stp_astore, stp_iinc, stp_iadd, stp_isub, stp_imul, stp_ineg, stp_idiv, stp_irem, stp_ladd, stp_lmul, stp_ldiv, stp_lrem, stp_ishl, stp_ishr, stp_iushr, stp_iand, stp_ior, stp_i2l, stp_i2b, stp_i2s, stp_lcmp, stp_dup, stp_dup2, stp_pop, stp_ifCond, stp_if_icmp, stp_goto, stp_tableswitch, stp_lookupswitch, stp_ldc, stp_ldc_w, stp_ldc2_w, stp_getstatic, stp_getfield, stp_putfield, stp_iaload, stp_baload, stp_iastore, stp_bastore, stp_aaload, stp_aastore, stp_invokevirtual, stp_invokestatic, stp_ireturn, stp_lreturn, stp_return_, lg, lset, okl, spl, wd, c1, cnd, tg, swT, swL, f4_0, f4_1, f4_2, f4_3, f2_0, f2_1, List.mem_cons, List.not_mem_nil, List.length_cons, List.length_nil, List.cons_append, List.nil_append, Nat.reduceAdd, Nat.reduceMul, Nat.reduceLT, Nat.reduceEqDiff, Nat.reduceLeDiff, Int.reduceAdd, Int.reduceNeg, Int.reduceToNat, Int.cast_ofNat_Int, Int.reduceNatCast, Int.toNat_zero, Int.toNat_one, Int.reduceLE, Int.reduceLT, Int.reduceEq, Int.zero_add, Int.add_zero, or_false, false_or, or_true, true_or, and_true, true_and, and_false, false_and, reduceIte, not_true_eq_false, not_false_eq_true, forall_const, false_implies, true_implies, implies_true, ne_eq, reduceCtorEq, List.all_cons, List.all_nil, Bool.and_true, Bool.and_self, decide_eq_true_eq, decide_true, dX5_swap_0, dX5_swap_1, dX5_swap_2, dX5_swap_5, dX5_swap_8, dX5_swap_11, dX5_swap_12, dX5_swap_13, dX5_swap_14, dX5_swap_17, dX5_swap_20, dX5_swap_21, dX5_swap_22, dX5_swap_23, dX5_swap_26, dX5_swap_27, dX5_swap_30, dX5_swap_31, dX5_swap_34, dX5_swap_35, dX5_swap_38, dX5_swap_41, dX5_swap_42, dX5_swap_44, dX5_swap_46, dX5_swap_47, dX5_swap_49, dX5_swap_51, dX5_swap_52, dX5_swap_55, dX5_swap_58, dX5_swap_61, dX5_swap_63, dX5_swap_64, dX5_swap_65, dX5_swap_67, dX5_swap_69, dX5_swap_70, dX5_swap_73, dX5_swap_76, dX5_swap_79, dX5_swap_80, dX5_swap_83, dX5_swap_84, dX5_swap_87, dX5_swap_89, dX5_swap_91, dX5_swap_94, dX5_swap_95, dX5_swap_98, dX5_swap_99, dX5_swap_102, dX5_swap_103, dX5_swap_106, dX5_swap_109, dX5_swap_110, dX5_swap_113, dX5_swap_114, dX5_swap_117, dX5_swap_120, dX5_swap_121, dX5_swap_123, dX5_swap_125, dX5_swap_126, dX5_swap_128, dX5_swap_129, dX5_swap_131, dX5_swap_134, dX5_swap_137, dX5_swap_140, dX5_swap_143, dX5_swap_145, dX5_swap_147, dX5_swap_150, dX5_swap_151, dX5_swap_154, dX5_swap_156, dX5_swap_159, dX5_swap_160, FX5_16, FX5_97, FX5_10, FX5_85, G_X5_swap_52, G_X5_swap_144, G_X5_swap_147, G_X5_swap_136, kd_0, kd_1, kd_8, e1]
    repeat' (first | exact trivial | omega | (with_reducible assumption) | exact absurd trivial (by with_reducible assumption) | contradiction | apply And.intro | intro _)
  | succ m ih =>
    intro n hn ν hF q hq
    have hR1 := hF.ring hR h35.2
    have e1 := hR1.2.1
    have hP2 := hF.2.2
    have hun := swU_in hW he i (i + 1 + n) (by omega) (by omega)
    have hrg := swI_rg (u := swU f e) (i := i) (N := (f 35).toNat) (by omega) (fun k => swU_in hW he i k) hq0 n (by omega)
    rw [← hq] at hrg
    obtain ⟨⟨g1, g2⟩, g3, g4⟩ := hrg
    have key := fun σ hσ => ih (n + 1) (by omega) σ hσ (swI (swU f e) i (n + 1) q0) rfl
    simp only [swI] at key
    rw [← hq, show ((n + 1 : Nat) : Int) = (n : Int) + 1 by omega] at key
    have en : ((i : Int) + 1 + (n : Int)).toNat = i + 1 + n := by omega
    apply hV [67, 137] 60
    simp only [InR, InL, inb, Int.toNat_natCast, wp1, wpc_z, wpc_s, stp_iconst, stp_bipush, stp_sipush, stp_lconst, stp_iload_n, stp_iload, stp_lload_n, stp_lload, stp_aload_n, stp_aload, stp_istore_n, stp_istore, stp_lstore_n, stp_lstore, stp_astore_n, stp_astore, stp_iinc, stp_iadd, stp_isub, stp_imul, stp_ineg, stp_idiv, stp_irem, stp_ladd, stp_lmul, stp_ldiv, stp_lrem, stp_ishl, stp_ishr, stp_iushr, stp_iand, stp_ior, stp_i2l, stp_i2b, stp_i2s, stp_lcmp, stp_dup, stp_dup2, stp_pop, stp_ifCond, stp_if_icmp, stp_goto, stp_tableswitch, stp_lookupswitch, stp_ldc, stp_ldc_w, stp_ldc2_w, stp_getstatic, stp_getfield, stp_putfield, stp_iaload, stp_baload, stp_iastore, stp_bastore, stp_aaload, stp_aastore, stp_invokevirtual, stp_invokestatic, stp_ireturn, stp_lreturn, stp_return_, lg, lset, okl, spl, wd, c1, cnd, tg, swT, swL, f4_0, f4_1, f4_2, f4_3, f2_0, f2_1, List.mem_cons, List.not_mem_nil, List.length_cons, List.length_nil, List.cons_append, List.nil_append, Nat.reduceAdd, Nat.reduceMul, Nat.reduceLT, Nat.reduceEqDiff, Nat.reduceLeDiff, Int.reduceAdd, Int.reduceNeg, Int.reduceToNat, Int.cast_ofNat_Int, Int.reduceNatCast, Int.toNat_zero, Int.toNat_one, Int.reduceLE, Int.reduceLT, Int.reduceEq, Int.zero_add, Int.add_zero, or_false, false_or, or_true, true_or, and_true, true_and, and_false, false_and, reduceIte, not_true_eq_false, not_false_eq_true, forall_const, false_implies, true_implies, implies_true, ne_eq, reduceCtorEq, List.all_cons, List.all_nil, Bool.and_true, Bool.and_self, decide_eq_true_eq, decide_true, dX5_swap_0, dX5_swap_1, dX5_swap_2, dX5_swap_5, dX5_swap_8, dX5_swap_11, dX5_swap_12, dX5_swap_13, dX5_swap_14, dX5_swap_17, dX5_swap_20, dX5_swap_21, dX5_swap_22, dX5_swap_23, dX5_swap_26, dX5_swap_27, dX5_swap_30, dX5_swap_31, dX5_swap_34, dX5_swap_35, dX5_swap_38, dX5_swap_41, dX5_swap_42, dX5_swap_44, dX5_swap_46, dX5_swap_47, dX5_swap_49, dX5_swap_51, dX5_swap_52, dX5_swap_55, dX5_swap_58, dX5_swap_61, dX5_swap_63, dX5_swap_64, dX5_swap_65, dX5_swap_67, dX5_swap_69, dX5_swap_70, dX5_swap_73, dX5_swap_76, dX5_swap_79, dX5_swap_80, dX5_swap_83, dX5_swap_84, dX5_swap_87, dX5_swap_89, dX5_swap_91, dX5_swap_94, dX5_swap_95, dX5_swap_98, dX5_swap_99, dX5_swap_102, dX5_swap_103, dX5_swap_106, dX5_swap_109, dX5_swap_110, dX5_swap_113, dX5_swap_114, dX5_swap_117, dX5_swap_120, dX5_swap_121, dX5_swap_123, dX5_swap_125, dX5_swap_126, dX5_swap_128, dX5_swap_129, dX5_swap_131, dX5_swap_134, dX5_swap_137, dX5_swap_140, dX5_swap_143, dX5_swap_145, dX5_swap_147, dX5_swap_150, dX5_swap_151, dX5_swap_154, dX5_swap_156, dX5_swap_159, dX5_swap_160, FX5_16, FX5_97, FX5_10, FX5_85, G_X5_swap_52, G_X5_swap_144, G_X5_swap_147, G_X5_swap_136, kd_0, kd_1, kd_8, e1, T5_startTrial, T1_exchange, T1_go, en]
    refine ⟨by omega, by omega, fun z => absurd z (by omega), fun _ => ⟨hP2, f, hR1, by omega, fun ρ hρ => ?_⟩⟩
    obtain ⟨a1, a2, a3, a4⟩ := hρ
    have hs := a1.swp h35.2 (i := i) (k := i + 1 + n) (by omega) (by omega) (by omega)
    refine ⟨by omega, by omega, a1.1, by omega, swpF f i (i + 1 + n), hs, hW.swp (by omega) (by omega), by rw [swp_o _ _ _ (by omega)]; omega, fun σ hσ => ?_⟩
    obtain ⟨b1, b2, b3, b4⟩ := hσ
    have key := key σ (hF.tr ((a4.q hF.2.2).tr (FQ.tr (ν := wR (wR ρ 9 i (rR ρ 9 (i + 1 + n))) 9 (i + 1 + n) (rR ρ 9 i)) ⟨fun _ _ _ => rfl, fun k j hk => by rw [rR_wR, if_neg (fun z => hk z.1), rR_wR, if_neg (fun z => hk z.1)], hs.1⟩ (b4.q hs.1))))
    have es : rI σ 8 5 = -swU f e i (i + 1 + n) := by rw [b2, rI_wR, rI_wR, a2]; unfold swU; omega
    rw [es]
    by_cases lt : swU f e i (i + 1 + n) < q.2
    · rw [if_pos lt] at key
      simp only at key
      rw [show (i : Int) + 1 + ((n : Int) + 1) = (i : Int) + 1 + (n : Int) + 1 by omega] at key
      repeat' (first | exact trivial | omega | (with_reducible assumption) | exact absurd trivial (by with_reducible assumption) | contradiction | apply And.intro | intro _)
    · rw [if_neg lt] at key
      rw [show (i : Int) + 1 + ((n : Int) + 1) = (i : Int) + 1 + (n : Int) + 1 by omega] at key
      repeat' (first | exact trivial | omega | (with_reducible assumption) | exact absurd trivial (by with_reducible assumption) | contradiction | apply And.intro | intro _)
set_option maxRecDepth 20000 in
set_option maxHeartbeats 4000000 in
theorem lp_swap (V : Nat → List (Option AV) → List AV → Mem → Prop) (K : List AV → Mem → Prop) (hV : Clos FX5 CX5 G_X5_swap 1 K cX5_swap V) (μ : Mem) (f : Nat → Int) (hW : WF f) (h38 : f 38 ≤ 9999) (e : Nat) (he : e ≤ 200) (w : Int) (hw : 0 ≤ w ∧ w ≤ 1) (hP : RP μ 8) (hR : RG μ 1 f) (hK : ∀ ν, FQ μ ν → K [.inl (jdB (swO (swU f e) (-sS yes f e) (f 35).toNat (f 35).toNat) w)] ν) : ∀ m n : Nat, n + m = (f 35).toNat → ∀ ν, FQ μ ν → ∀ q : Int × Int, q = swO (swU f e) (-sS yes f e) (f 35).toNat n → ∀ x : Option AV, V 49 [some (.inr (.inr 0)), some (.inl (e : Int)), some (.inl w), some (.inl (-q.2)), some (.inl q.1), some (.inl (n : Int)), x] [] ν := by
  have h35 := hW.1
  have hb := (sum_in (p := yes) hW e).1
  have hrg := fun n (hn : n ≤ (f 35).toNat) => swO_rg (u := swU f e) (b := -sS yes f e) (N := (f 35).toNat) (by omega) (by omega) (swU_in hW he) n hn
  intro m
  induction m with
  | zero =>
    intro n hn ν hF q hq x
    have en : n = (f 35).toNat := by omega
    have hk := hK ν hF
    have hr := hrg n (by omega)
    rw [← hq] at hr
    rw [en] at hq
    rw [← hq] at hk
    have e1 := (hF.ring hR h35.2).2.1
    obtain ⟨⟨g1, g2⟩, g3, g4⟩ := hr
    unfold jdB at hk
    apply hV [49, 67] 60
    simp only [InR, InL, inb, Int.toNat_natCast, wp1, wpc_z, wpc_s, stp_iconst, stp_bipush, stp_sipush, stp_lconst, stp_iload_n, stp_iload, stp_lload_n, stp_lload, stp_aload_n, stp_aload, stp_istore_n, stp_istore, stp_lstore_n, stp_lstore, stp_astore_n, stp_astore, stp_iinc, stp_iadd, stp_isub, stp_imul, stp_ineg, stp_idiv, stp_irem, stp_ladd, stp_lmul, stp_ldiv, stp_lrem, stp_ishl, stp_ishr, stp_iushr, stp_iand, stp_ior, stp_i2l, stp_i2b, stp_i2s, stp_lcmp, stp_dup, stp_dup2, stp_pop, stp_ifCond, stp_if_icmp, stp_goto, stp_tableswitch, stp_lookupswitch, stp_ldc, stp_ldc_w, stp_ldc2_w, stp_getstatic, stp_getfield, stp_putfield, stp_iaload, stp_baload, stp_iastore, stp_bastore, stp_aaload, stp_aastore, stp_invokevirtual, stp_invokestatic, stp_ireturn, stp_lreturn, stp_return_, lg, lset, okl, spl, wd, c1, cnd, tg, swT, swL, f4_0, f4_1, f4_2, f4_3, f2_0, f2_1, List.mem_cons, List.not_mem_nil, List.length_cons, List.length_nil, List.cons_append, List.nil_append, Nat.reduceAdd, Nat.reduceMul, Nat.reduceLT, Nat.reduceEqDiff, Nat.reduceLeDiff, Int.reduceAdd, Int.reduceNeg, Int.reduceToNat, Int.cast_ofNat_Int, Int.reduceNatCast, Int.toNat_zero, Int.toNat_one, Int.reduceLE, Int.reduceLT, Int.reduceEq, Int.zero_add, Int.add_zero, or_false, false_or, or_true, true_or, and_true, true_and, and_false, false_and, reduceIte, not_true_eq_false, not_false_eq_true, forall_const, false_implies, true_implies, implies_true, ne_eq, reduceCtorEq, List.all_cons, List.all_nil, Bool.and_true, Bool.and_self, decide_eq_true_eq, decide_true, dX5_swap_0, dX5_swap_1, dX5_swap_2, dX5_swap_5, dX5_swap_8, dX5_swap_11, dX5_swap_12, dX5_swap_13, dX5_swap_14, dX5_swap_17, dX5_swap_20, dX5_swap_21, dX5_swap_22, dX5_swap_23, dX5_swap_26, dX5_swap_27, dX5_swap_30, dX5_swap_31, dX5_swap_34, dX5_swap_35, dX5_swap_38, dX5_swap_41, dX5_swap_42, dX5_swap_44, dX5_swap_46, dX5_swap_47, dX5_swap_49, dX5_swap_51, dX5_swap_52, dX5_swap_55, dX5_swap_58, dX5_swap_61, dX5_swap_63, dX5_swap_64, dX5_swap_65, dX5_swap_67, dX5_swap_69, dX5_swap_70, dX5_swap_73, dX5_swap_76, dX5_swap_79, dX5_swap_80, dX5_swap_83, dX5_swap_84, dX5_swap_87, dX5_swap_89, dX5_swap_91, dX5_swap_94, dX5_swap_95, dX5_swap_98, dX5_swap_99, dX5_swap_102, dX5_swap_103, dX5_swap_106, dX5_swap_109, dX5_swap_110, dX5_swap_113, dX5_swap_114, dX5_swap_117, dX5_swap_120, dX5_swap_121, dX5_swap_123, dX5_swap_125, dX5_swap_126, dX5_swap_128, dX5_swap_129, dX5_swap_131, dX5_swap_134, dX5_swap_137, dX5_swap_140, dX5_swap_143, dX5_swap_145, dX5_swap_147, dX5_swap_150, dX5_swap_151, dX5_swap_154, dX5_swap_156, dX5_swap_159, dX5_swap_160, FX5_16, FX5_97, FX5_10, FX5_85, G_X5_swap_52, G_X5_swap_144, G_X5_swap_147, G_X5_swap_136, kd_0, kd_1, kd_8, e1]
    by_cases z : q.1 = -4
    · rw [if_pos z] at hk
      rw [z]
      repeat' (first | exact trivial | omega | (with_reducible assumption) | exact absurd trivial (by with_reducible assumption) | contradiction | apply And.intro | intro _)
    · rw [if_neg z] at hk
      by_cases w0 : w = 0
      · rw [if_pos w0] at hk
        repeat' (first | exact trivial | omega | (with_reducible assumption) | exact absurd trivial (by with_reducible assumption) | contradiction | apply And.intro | intro _)
      · rw [if_neg w0] at hk
        repeat' (first | exact trivial | omega | (with_reducible assumption) | exact absurd trivial (by with_reducible assumption) | contradiction | apply And.intro | intro _)
  | succ m ih =>
    intro n hn ν hF q hq x
    have hr := hrg n (by omega)
    rw [← hq] at hr
    have e1 := (hF.ring hR h35.2).2.1
    have key := lp_swap2 V K hV μ f hW h38 e he w hP hR n (by omega) q hr (fun σ hσ q' hq' y => by
      have h := ih (n + 1) (by omega) σ hσ q' (by rw [hq', hq]; rfl) y
      rw [show ((n + 1 : Nat) : Int) = (n : Int) + 1 by omega] at h
      apply hV [49] 30
      simp only [InR, InL, inb, Int.toNat_natCast, wp1, wpc_z, wpc_s, stp_iconst, stp_bipush, stp_sipush, stp_lconst, stp_iload_n, stp_iload, stp_lload_n, stp_lload, stp_aload_n, stp_aload, stp_istore_n, stp_istore, stp_lstore_n, stp_lstore, stp_astore_n, stp_astore, stp_iinc, stp_iadd, stp_isub, stp_imul, stp_ineg, stp_idiv, stp_irem, stp_ladd, stp_lmul, stp_ldiv, stp_lrem, stp_ishl, stp_ishr, stp_iushr, stp_iand, stp_ior, stp_i2l, stp_i2b, stp_i2s, stp_lcmp, stp_dup, stp_dup2, stp_pop, stp_ifCond, stp_if_icmp, stp_goto, stp_tableswitch, stp_lookupswitch, stp_ldc, stp_ldc_w, stp_ldc2_w, stp_getstatic, stp_getfield, stp_putfield, stp_iaload, stp_baload, stp_iastore, stp_bastore, stp_aaload, stp_aastore, stp_invokevirtual, stp_invokestatic, stp_ireturn, stp_lreturn, stp_return_, lg, lset, okl, spl, wd, c1, cnd, tg, swT, swL, f4_0, f4_1, f4_2, f4_3, f2_0, f2_1, List.mem_cons, List.not_mem_nil, List.length_cons, List.length_nil, List.cons_append, List.nil_append, Nat.reduceAdd, Nat.reduceMul, Nat.reduceLT, Nat.reduceEqDiff, Nat.reduceLeDiff, Int.reduceAdd, Int.reduceNeg, Int.reduceToNat, Int.cast_ofNat_Int, Int.reduceNatCast, Int.toNat_zero, Int.toNat_one, Int.reduceLE, Int.reduceLT, Int.reduceEq, Int.zero_add, Int.add_zero, or_false, false_or, or_true, true_or, and_true, true_and, and_false, false_and, reduceIte, not_true_eq_false, not_false_eq_true, forall_const, false_implies, true_implies, implies_true, ne_eq, reduceCtorEq, List.all_cons, List.all_nil, Bool.and_true, Bool.and_self, decide_eq_true_eq, decide_true, dX5_swap_0, dX5_swap_1, dX5_swap_2, dX5_swap_5, dX5_swap_8, dX5_swap_11, dX5_swap_12, dX5_swap_13, dX5_swap_14, dX5_swap_17, dX5_swap_20, dX5_swap_21, dX5_swap_22, dX5_swap_23, dX5_swap_26, dX5_swap_27, dX5_swap_30, dX5_swap_31, dX5_swap_34, dX5_swap_35, dX5_swap_38, dX5_swap_41, dX5_swap_42, dX5_swap_44, dX5_swap_46, dX5_swap_47, dX5_swap_49, dX5_swap_51, dX5_swap_52, dX5_swap_55, dX5_swap_58, dX5_swap_61, dX5_swap_63, dX5_swap_64, dX5_swap_65, dX5_swap_67, dX5_swap_69, dX5_swap_70, dX5_swap_73, dX5_swap_76, dX5_swap_79, dX5_swap_80, dX5_swap_83, dX5_swap_84, dX5_swap_87, dX5_swap_89, dX5_swap_91, dX5_swap_94, dX5_swap_95, dX5_swap_98, dX5_swap_99, dX5_swap_102, dX5_swap_103, dX5_swap_106, dX5_swap_109, dX5_swap_110, dX5_swap_113, dX5_swap_114, dX5_swap_117, dX5_swap_120, dX5_swap_121, dX5_swap_123, dX5_swap_125, dX5_swap_126, dX5_swap_128, dX5_swap_129, dX5_swap_131, dX5_swap_134, dX5_swap_137, dX5_swap_140, dX5_swap_143, dX5_swap_145, dX5_swap_147, dX5_swap_150, dX5_swap_151, dX5_swap_154, dX5_swap_156, dX5_swap_159, dX5_swap_160, FX5_16, FX5_97, FX5_10, FX5_85, G_X5_swap_52, G_X5_swap_144, G_X5_swap_147, G_X5_swap_136]
      exact h) m 0 (by omega) ν hF q (by simp only [swI])
    rw [show (n : Int) + 1 + ((0 : Nat) : Int) = (n : Int) + 1 by omega] at key
    apply hV [49, 67] 12
    simp only [InR, InL, inb, Int.toNat_natCast, wp1, wpc_z, wpc_s, stp_iconst, stp_bipush, stp_sipush, stp_lconst, stp_iload_n, stp_iload, stp_lload_n, stp_lload, stp_aload_n, stp_aload, stp_istore_n, stp_istore, stp_lstore_n, stp_lstore, stp_astore_n, stp_astore, stp_iinc, stp_iadd, stp_isub, stp_imul, stp_ineg, stp_idiv, stp_irem, stp_ladd, stp_lmul, stp_ldiv, stp_lrem, stp_ishl, stp_ishr, stp_iushr, stp_iand, stp_ior, stp_i2l, stp_i2b, stp_i2s, stp_lcmp, stp_dup, stp_dup2, stp_pop, stp_ifCond, stp_if_icmp, stp_goto, stp_tableswitch, stp_lookupswitch, stp_ldc, stp_ldc_w, stp_ldc2_w, stp_getstatic, stp_getfield, stp_putfield, stp_iaload, stp_baload, stp_iastore, stp_bastore, stp_aaload, stp_aastore, stp_invokevirtual, stp_invokestatic, stp_ireturn, stp_lreturn, stp_return_, lg, lset, okl, spl, wd, c1, cnd, tg, swT, swL, f4_0, f4_1, f4_2, f4_3, f2_0, f2_1, List.mem_cons, List.not_mem_nil, List.length_cons, List.length_nil, List.cons_append, List.nil_append, Nat.reduceAdd, Nat.reduceMul, Nat.reduceLT, Nat.reduceEqDiff, Nat.reduceLeDiff, Int.reduceAdd, Int.reduceNeg, Int.reduceToNat, Int.cast_ofNat_Int, Int.reduceNatCast, Int.toNat_zero, Int.toNat_one, Int.reduceLE, Int.reduceLT, Int.reduceEq, Int.zero_add, Int.add_zero, or_false, false_or, or_true, true_or, and_true, true_and, and_false, false_and, reduceIte, not_true_eq_false, not_false_eq_true, forall_const, false_implies, true_implies, implies_true, ne_eq, reduceCtorEq, List.all_cons, List.all_nil, Bool.and_true, Bool.and_self, decide_eq_true_eq, decide_true, dX5_swap_0, dX5_swap_1, dX5_swap_2, dX5_swap_5, dX5_swap_8, dX5_swap_11, dX5_swap_12, dX5_swap_13, dX5_swap_14, dX5_swap_17, dX5_swap_20, dX5_swap_21, dX5_swap_22, dX5_swap_23, dX5_swap_26, dX5_swap_27, dX5_swap_30, dX5_swap_31, dX5_swap_34, dX5_swap_35, dX5_swap_38, dX5_swap_41, dX5_swap_42, dX5_swap_44, dX5_swap_46, dX5_swap_47, dX5_swap_49, dX5_swap_51, dX5_swap_52, dX5_swap_55, dX5_swap_58, dX5_swap_61, dX5_swap_63, dX5_swap_64, dX5_swap_65, dX5_swap_67, dX5_swap_69, dX5_swap_70, dX5_swap_73, dX5_swap_76, dX5_swap_79, dX5_swap_80, dX5_swap_83, dX5_swap_84, dX5_swap_87, dX5_swap_89, dX5_swap_91, dX5_swap_94, dX5_swap_95, dX5_swap_98, dX5_swap_99, dX5_swap_102, dX5_swap_103, dX5_swap_106, dX5_swap_109, dX5_swap_110, dX5_swap_113, dX5_swap_114, dX5_swap_117, dX5_swap_120, dX5_swap_121, dX5_swap_123, dX5_swap_125, dX5_swap_126, dX5_swap_128, dX5_swap_129, dX5_swap_131, dX5_swap_134, dX5_swap_137, dX5_swap_140, dX5_swap_143, dX5_swap_145, dX5_swap_147, dX5_swap_150, dX5_swap_151, dX5_swap_154, dX5_swap_156, dX5_swap_159, dX5_swap_160, FX5_16, FX5_97, FX5_10, FX5_85, G_X5_swap_52, G_X5_swap_144, G_X5_swap_147, G_X5_swap_136, e1, kd_0, kd_1]
    repeat' (first | exact trivial | omega | (with_reducible assumption) | exact absurd trivial (by with_reducible assumption) | contradiction | apply And.intro | intro _)
def T5_swap : TT := fun a μ K => match a with
  | [.inr (.inr o), .inl n, .inl w] => o = 0 ∧ (InR n ∧ InR w ∧ RP μ 8 ∧ ∃ f, RG μ 1 f ∧ WF f ∧ f 38 ≤ 9999 ∧ ∀ ν, FQ μ ν → K [.inl (swapR f n w)] ν)
  | _ => False
theorem rec_X5_swap : ∀ a μ K, T5_swap a μ K → ∃ k r, a = .inr (.inr k) :: r ∧ kd k = 5 := by
  intro a μ K h
  unfold T5_swap at h
  split at h
  · exact ⟨_, _, rfl, by rw [h.1]; rfl⟩
  · exact h.elim
theorem gk_X5_swap (l : Launch) : ∀ i n b T, G_X5_swap i = some (n, b, T) → CallOK l 5 RX5 i n b T := by
  intro i n b T h
  have hm : (i, n, b, T) ∈ GL_X5_swap := lk_mem h
  simp only [GL_X5_swap, List.mem_cons, List.not_mem_nil, or_false, Prod.mk.injEq] at hm
  rcases hm with ⟨rfl, rfl, rfl, rfl⟩ | ⟨rfl, rfl, rfl, rfl⟩ | ⟨rfl, rfl, rfl, rfl⟩ | ⟨rfl, rfl, rfl, rfl⟩
  · exact CallOK.S (d := 5) (own := RX5) (i := 52) (n := 3) (good_X5_isOutside l) (by decide) (by decide) (mg 191 (by decide +kernel) (by decide +kernel)) (mg 192 (by decide +kernel) (by decide +kernel)) (mg 1 (by decide +kernel) (by decide +kernel)) (mg 193 (by decide +kernel) (by decide +kernel)) (by decide +kernel)
  · exact CallOK.V (d := 5) (own := RX5) (i := 144) (n := 0) (ci := 5) (good_X5_startTrial l) (by decide) (by decide) rfl (by decide) rec_X5_startTrial (mg 406 (by decide +kernel) (by decide +kernel)) (mg 408 (by decide +kernel) (by decide +kernel)) (mgs 13 (by decide +kernel) (by decide +kernel)) (mg 1 (by decide +kernel) (by decide +kernel)) (mg 409 (by decide +kernel) (by decide +kernel)) (by decide +kernel)
  · exact CallOK.V (d := 5) (own := RX5) (i := 147) (n := 1) (ci := 1) (good_X1_go l) (by decide) (by decide) rfl (by decide) rec_X1_go (mg 410 (by decide +kernel) (by decide +kernel)) (mg 411 (by decide +kernel) (by decide +kernel)) (mg 412 (by decide +kernel) (by decide +kernel)) (mg 2 (by decide +kernel) (by decide +kernel)) (mg 413 (by decide +kernel) (by decide +kernel)) (by decide +kernel)
  · exact CallOK.V (d := 5) (own := RX5) (i := 136) (n := 2) (ci := 1) (good_X1_exchange l) (by decide) (by decide) rfl (by decide) rec_X1_exchange (mg 384 (by decide +kernel) (by decide +kernel)) (mg 385 (by decide +kernel) (by decide +kernel)) (mg 386 (by decide +kernel) (by decide +kernel)) (mg 2 (by decide +kernel) (by decide +kernel)) (mg 387 (by decide +kernel) (by decide +kernel)) (by decide +kernel)
set_option maxRecDepth 20000 in
set_option maxHeartbeats 4000000 in
theorem body_X5_swap (o : Nat) (n : Int) (w : Int) (μ : Mem) (K : List AV → Mem → Prop) (V : Nat → List (Option AV) → List AV → Mem → Prop) (hV : Clos FX5 CX5 G_X5_swap 1 K cX5_swap V) (hT : o = 0 ∧ (InR n ∧ InR w ∧ RP μ 8 ∧ ∃ f, RG μ 1 f ∧ WF f ∧ f 38 ≤ 9999 ∧ ∀ ν, FQ μ ν → K [.inl (swapR f n w)] ν)) : V 0 [some (.inr (.inr o)), some (.inl n), some (.inl w), none, none, none, none] [] μ := by
  simp only [InR] at hT
  obtain ⟨rfl, hn, hw, hP, f, hR, hW, h38, hK⟩ := hT
  have h35 := hW.1
  by_cases hc : (0 ≤ n ∧ n ≤ 200) ∧ 0 ≤ w ∧ w ≤ 1
  · obtain ⟨n', rfl⟩ := Int.eq_ofNat_of_zero_le hc.1.1
    apply hV [49] 80
    simp only [InR, InL, inb, Int.toNat_natCast, wp1, wpc_z, wpc_s, stp_iconst, stp_bipush, stp_sipush, stp_lconst, stp_iload_n, stp_iload, stp_lload_n, stp_lload, stp_aload_n, stp_aload, stp_istore_n, stp_istore, stp_lstore_n, stp_lstore, stp_astore_n, stp_astore, stp_iinc, stp_iadd, stp_isub, stp_imul, stp_ineg, stp_idiv, stp_irem, stp_ladd, stp_lmul, stp_ldiv, stp_lrem, stp_ishl, stp_ishr, stp_iushr, stp_iand, stp_ior, stp_i2l, stp_i2b, stp_i2s, stp_lcmp, stp_dup, stp_dup2, stp_pop, stp_ifCond, stp_if_icmp, stp_goto, stp_tableswitch, stp_lookupswitch, stp_ldc, stp_ldc_w, stp_ldc2_w, stp_getstatic, stp_getfield, stp_putfield, stp_iaload, stp_baload, stp_iastore, stp_bastore, stp_aaload, stp_aastore, stp_invokevirtual, stp_invokestatic, stp_ireturn, stp_lreturn, stp_return_, lg, lset, okl, spl, wd, c1, cnd, tg, swT, swL, f4_0, f4_1, f4_2, f4_3, f2_0, f2_1, List.mem_cons, List.not_mem_nil, List.length_cons, List.length_nil, List.cons_append, List.nil_append, Nat.reduceAdd, Nat.reduceMul, Nat.reduceLT, Nat.reduceEqDiff, Nat.reduceLeDiff, Int.reduceAdd, Int.reduceNeg, Int.reduceToNat, Int.cast_ofNat_Int, Int.reduceNatCast, Int.toNat_zero, Int.toNat_one, Int.reduceLE, Int.reduceLT, Int.reduceEq, Int.zero_add, Int.add_zero, or_false, false_or, or_true, true_or, and_true, true_and, and_false, false_and, reduceIte, not_true_eq_false, not_false_eq_true, forall_const, false_implies, true_implies, implies_true, ne_eq, reduceCtorEq, List.all_cons, List.all_nil, Bool.and_true, Bool.and_self, decide_eq_true_eq, decide_true, dX5_swap_0, dX5_swap_1, dX5_swap_2, dX5_swap_5, dX5_swap_8, dX5_swap_11, dX5_swap_12, dX5_swap_13, dX5_swap_14, dX5_swap_17, dX5_swap_20, dX5_swap_21, dX5_swap_22, dX5_swap_23, dX5_swap_26, dX5_swap_27, dX5_swap_30, dX5_swap_31, dX5_swap_34, dX5_swap_35, dX5_swap_38, dX5_swap_41, dX5_swap_42, dX5_swap_44, dX5_swap_46, dX5_swap_47, dX5_swap_49, dX5_swap_51, dX5_swap_52, dX5_swap_55, dX5_swap_58, dX5_swap_61, dX5_swap_63, dX5_swap_64, dX5_swap_65, dX5_swap_67, dX5_swap_69, dX5_swap_70, dX5_swap_73, dX5_swap_76, dX5_swap_79, dX5_swap_80, dX5_swap_83, dX5_swap_84, dX5_swap_87, dX5_swap_89, dX5_swap_91, dX5_swap_94, dX5_swap_95, dX5_swap_98, dX5_swap_99, dX5_swap_102, dX5_swap_103, dX5_swap_106, dX5_swap_109, dX5_swap_110, dX5_swap_113, dX5_swap_114, dX5_swap_117, dX5_swap_120, dX5_swap_121, dX5_swap_123, dX5_swap_125, dX5_swap_126, dX5_swap_128, dX5_swap_129, dX5_swap_131, dX5_swap_134, dX5_swap_137, dX5_swap_140, dX5_swap_143, dX5_swap_145, dX5_swap_147, dX5_swap_150, dX5_swap_151, dX5_swap_154, dX5_swap_156, dX5_swap_159, dX5_swap_160, FX5_16, FX5_97, FX5_10, FX5_85, G_X5_swap_52, G_X5_swap_144, G_X5_swap_147, G_X5_swap_136, kd_0, kd_1, kd_8, T5_isOutside, T5_startTrial, T1_go]
    repeat' (first | exact trivial | omega | (with_reducible assumption) | exact absurd trivial (by with_reducible assumption) | contradiction | apply And.intro | intro _)
    refine ⟨f, hR, h35, fun ρ hρ => ?_⟩
    obtain ⟨a1, a2, a3, a4⟩ := hρ
    refine ⟨by omega, f, a1, hW, by omega, fun σ hσ => ?_⟩
    obtain ⟨b1, b2, b3, b4⟩ := hσ
    have hF : FQ μ σ := (a4.tr b4).q hP
    have es : rI σ 8 5 = sS yes f n' := by rw [b2, a2]; omega
    have h := lp_swap V K hV μ f hW h38 n' (by omega) w (by omega) hP hR (fun ν hν => by
      have hk := hK ν hν
      unfold swapR at hk
      rw [if_pos hc, Int.toNat_natCast] at hk
      exact hk) (f 35).toNat 0 (by omega) σ hF _ rfl none
    simp only [swO, Int.neg_neg] at h
    rw [es]
    exact h
  · have hk := hK μ (FQ.rf hP)
    unfold swapR at hk
    rw [if_neg hc] at hk
    apply hV [22] 80
    simp only [InR, InL, inb, Int.toNat_natCast, wp1, wpc_z, wpc_s, stp_iconst, stp_bipush, stp_sipush, stp_lconst, stp_iload_n, stp_iload, stp_lload_n, stp_lload, stp_aload_n, stp_aload, stp_istore_n, stp_istore, stp_lstore_n, stp_lstore, stp_astore_n, stp_astore, stp_iinc, stp_iadd, stp_isub, stp_imul, stp_ineg, stp_idiv, stp_irem, stp_ladd, stp_lmul, stp_ldiv, stp_lrem, stp_ishl, stp_ishr, stp_iushr, stp_iand, stp_ior, stp_i2l, stp_i2b, stp_i2s, stp_lcmp, stp_dup, stp_dup2, stp_pop, stp_ifCond, stp_if_icmp, stp_goto, stp_tableswitch, stp_lookupswitch, stp_ldc, stp_ldc_w, stp_ldc2_w, stp_getstatic, stp_getfield, stp_putfield, stp_iaload, stp_baload, stp_iastore, stp_bastore, stp_aaload, stp_aastore, stp_invokevirtual, stp_invokestatic, stp_ireturn, stp_lreturn, stp_return_, lg, lset, okl, spl, wd, c1, cnd, tg, swT, swL, f4_0, f4_1, f4_2, f4_3, f2_0, f2_1, List.mem_cons, List.not_mem_nil, List.length_cons, List.length_nil, List.cons_append, List.nil_append, Nat.reduceAdd, Nat.reduceMul, Nat.reduceLT, Nat.reduceEqDiff, Nat.reduceLeDiff, Int.reduceAdd, Int.reduceNeg, Int.reduceToNat, Int.cast_ofNat_Int, Int.reduceNatCast, Int.toNat_zero, Int.toNat_one, Int.reduceLE, Int.reduceLT, Int.reduceEq, Int.zero_add, Int.add_zero, or_false, false_or, or_true, true_or, and_true, true_and, and_false, false_and, reduceIte, not_true_eq_false, not_false_eq_true, forall_const, false_implies, true_implies, implies_true, ne_eq, reduceCtorEq, List.all_cons, List.all_nil, Bool.and_true, Bool.and_self, decide_eq_true_eq, decide_true, dX5_swap_0, dX5_swap_1, dX5_swap_2, dX5_swap_5, dX5_swap_8, dX5_swap_11, dX5_swap_12, dX5_swap_13, dX5_swap_14, dX5_swap_17, dX5_swap_20, dX5_swap_21, dX5_swap_22, dX5_swap_23, dX5_swap_26, dX5_swap_27, dX5_swap_30, dX5_swap_31, dX5_swap_34, dX5_swap_35, dX5_swap_38, dX5_swap_41, dX5_swap_42, dX5_swap_44, dX5_swap_46, dX5_swap_47, dX5_swap_49, dX5_swap_51, dX5_swap_52, dX5_swap_55, dX5_swap_58, dX5_swap_61, dX5_swap_63, dX5_swap_64, dX5_swap_65, dX5_swap_67, dX5_swap_69, dX5_swap_70, dX5_swap_73, dX5_swap_76, dX5_swap_79, dX5_swap_80, dX5_swap_83, dX5_swap_84, dX5_swap_87, dX5_swap_89, dX5_swap_91, dX5_swap_94, dX5_swap_95, dX5_swap_98, dX5_swap_99, dX5_swap_102, dX5_swap_103, dX5_swap_106, dX5_swap_109, dX5_swap_110, dX5_swap_113, dX5_swap_114, dX5_swap_117, dX5_swap_120, dX5_swap_121, dX5_swap_123, dX5_swap_125, dX5_swap_126, dX5_swap_128, dX5_swap_129, dX5_swap_131, dX5_swap_134, dX5_swap_137, dX5_swap_140, dX5_swap_143, dX5_swap_145, dX5_swap_147, dX5_swap_150, dX5_swap_151, dX5_swap_154, dX5_swap_156, dX5_swap_159, dX5_swap_160, FX5_16, FX5_97, FX5_10, FX5_85, G_X5_swap_52, G_X5_swap_144, G_X5_swap_147, G_X5_swap_136, kd_0, kd_1, kd_8, T5_isOutside]
    repeat' (first | exact trivial | omega | (with_reducible assumption) | exact absurd trivial (by with_reducible assumption) | contradiction | apply And.intro | intro _)
theorem good_X5_swap (l : Launch) : Good l 5 yX5_swap cX5_swap 7 (some .int) T5_swap := by
  refine Good.mk 1 (by decide) rfl (by simp [retOK]) FOK5 COK5 (gk_X5_swap l) ?_ ?_
  · intro a μ K h
    unfold T5_swap at h
    split at h
    · simp [entl]
    · exact h.elim
  · intro a μ K V hV h
    unfold T5_swap at h
    split at h
    · exact body_X5_swap _ _ _ μ K V hV h
    · exact h.elim

def GL_X6_swap : List (Nat × Nat × Bool × TT) := [(205, 1, true, T6_isFar), (218, 1, true, T6_isPart), (174, 1, false, T6_starts), (200, 2, false, T6_visitsGo), (221, 2, false, T6_startsJudging), (195, 3, false, T6_trades), (224, 3, false, T6_judges), (227, 2, false, T6_judgedMore)]
def G_X6_swap : Nat → Option (Nat × Bool × TT) := fun i => GL_X6_swap.lookup i
theorem G_X6_swap_205 : G_X6_swap 205 = some (1, true, T6_isFar) := rfl
theorem G_X6_swap_218 : G_X6_swap 218 = some (1, true, T6_isPart) := rfl
theorem G_X6_swap_174 : G_X6_swap 174 = some (1, false, T6_starts) := rfl
theorem G_X6_swap_200 : G_X6_swap 200 = some (2, false, T6_visitsGo) := rfl
theorem G_X6_swap_221 : G_X6_swap 221 = some (2, false, T6_startsJudging) := rfl
theorem G_X6_swap_195 : G_X6_swap 195 = some (3, false, T6_trades) := rfl
theorem G_X6_swap_224 : G_X6_swap 224 = some (3, false, T6_judges) := rfl
theorem G_X6_swap_227 : G_X6_swap 227 = some (2, false, T6_judgedMore) := rfl

set_option maxRecDepth 20000 in
set_option maxHeartbeats 4000000 in
theorem lp_mswap2 (V : Nat → List (Option AV) → List AV → Mem → Prop) (K : List AV → Mem → Prop) (hV : Clos FX6 CX6 G_X6_swap 1 K cX6_swap V) (μ : Mem) (hQ : MOK μ) (e : Nat) (he : e ≤ 200) (w : Int) (i : Nat) (hi : (i : Int) < rI μ 67 35) (q0 : Int × Int) (hq0 : QR q0) (hK : ∀ ν, MF μ ν → (rI ν 66 18, rI ν 66 19) = swI (swU (rI μ 67) e) i ((rI μ 67 35).toNat - (i + 1)) q0 → ∀ x : Option AV, V 102 [some (.inr (.inr 66)), some (.inl (e : Int)), some (.inl w), some (.inl (i : Int)), x] [] ν) : ∀ m n : Nat, i + 1 + n + m = (rI μ 67 35).toNat → ∀ ν, MF μ ν → (rI ν 66 18, rI ν 66 19) = swI (swU (rI μ 67) e) i n q0 → V 52 [some (.inr (.inr 66)), some (.inl (e : Int)), some (.inl w), some (.inl (i : Int)), some (.inl ((i : Int) + 1 + (n : Int)))] [] ν := by
  obtain ⟨hW, h38, h39, h40⟩ := hQ
  have h35 := hW.1
  intro m
  induction m with
  | zero =>
    intro n hn ν hF hq
    have en : n = (rI μ 67 35).toNat - (i + 1) := by omega
    have hk := hK ν hF (by rw [hq, en]) (some (.inl ((i : Int) + 1 + (n : Int))))
    have e35 : rI ν 67 35 = rI μ 67 35 := hF.1 67 (by omega) (by omega) (by omega) (by omega) (by omega) 35
    apply hV [52, 102] 60
    simp only [InR, InL, inb, Int.toNat_natCast, wp1, wpc_z, wpc_s, stp_iconst, stp_bipush, stp_sipush, stp_lconst, stp_iload_n, stp_iload, stp_lload_n, stp_lload, stp_aload_n, stp_aload, stp_istore_n, stp_istore, stp_lstore_n, stp_lstore, stp_astore_n, stp_astore, stp_iinc, stp_iadd, stp_isub, stp_imul, stp_ineg, stp_idiv, stp_irem, stp_ladd, stp_lmul, stp_ldiv, stp_lrem, stp_ishl, stp_ishr, stp_iushr, stp_iand, stp_ior, stp_i2l, stp_i2b, stp_i2s, stp_lcmp, stp_dup, stp_dup2, stp_pop, stp_ifCond, stp_if_icmp, stp_goto, stp_tableswitch, stp_lookupswitch, stp_ldc, stp_ldc_w, stp_ldc2_w, stp_getstatic, stp_getfield, stp_putfield, stp_iaload, stp_baload, stp_iastore, stp_bastore, stp_aaload, stp_aastore, stp_invokevirtual, stp_invokestatic, stp_ireturn, stp_lreturn, stp_return_, lg, lset, okl, spl, wd, c1, cnd, tg, swT, swL, f4_0, f4_1, f4_2, f4_3, f2_0, f2_1, List.mem_cons, List.not_mem_nil, List.length_cons, List.length_nil, List.cons_append, List.nil_append, Nat.reduceAdd, Nat.reduceMul, Nat.reduceLT, Nat.reduceEqDiff, Nat.reduceLeDiff, Int.reduceAdd, Int.reduceNeg, Int.reduceToNat, Int.cast_ofNat_Int, Int.reduceNatCast, Int.toNat_zero, Int.toNat_one, Int.reduceLE, Int.reduceLT, Int.reduceEq, Int.zero_add, Int.add_zero, or_false, false_or, or_true, true_or, and_true, true_and, and_false, false_and, reduceIte, not_true_eq_false, not_false_eq_true, forall_const, false_implies, true_implies, implies_true, ne_eq, reduceCtorEq, List.all_cons, List.all_nil, Bool.and_true, Bool.and_self, decide_eq_true_eq, decide_true, dX6_swap_0, dX6_swap_1, dX6_swap_4, dX6_swap_7, dX6_swap_8, dX6_swap_11, dX6_swap_14, dX6_swap_15, dX6_swap_16, dX6_swap_17, dX6_swap_20, dX6_swap_21, dX6_swap_22, dX6_swap_25, dX6_swap_26, dX6_swap_27, dX6_swap_30, dX6_swap_31, dX6_swap_34, dX6_swap_35, dX6_swap_36, dX6_swap_37, dX6_swap_38, dX6_swap_41, dX6_swap_43, dX6_swap_44, dX6_swap_47, dX6_swap_48, dX6_swap_49, dX6_swap_50, dX6_swap_52, dX6_swap_54, dX6_swap_55, dX6_swap_58, dX6_swap_60, dX6_swap_61, dX6_swap_64, dX6_swap_65, dX6_swap_68, dX6_swap_69, dX6_swap_70, dX6_swap_72, dX6_swap_75, dX6_swap_76, dX6_swap_77, dX6_swap_80, dX6_swap_81, dX6_swap_83, dX6_swap_84, dX6_swap_85, dX6_swap_87, dX6_swap_88, dX6_swap_89, dX6_swap_92, dX6_swap_93, dX6_swap_96, dX6_swap_99, dX6_swap_102, dX6_swap_105, dX6_swap_108, dX6_swap_109, dX6_swap_110, dX6_swap_113, FX6_132, FX6_7, G_X6_swap_205, G_X6_swap_218, G_X6_swap_174, G_X6_swap_200, G_X6_swap_221, G_X6_swap_195, G_X6_swap_224, G_X6_swap_227, kd_66, kd_67, ln_67, e35]
    repeat' (first | exact trivial | omega | (with_reducible assumption) | exact absurd trivial (by with_reducible assumption) | contradiction | apply And.intro | intro _)
  | succ m ih =>
    intro n hn ν hF hq
    have hun := swU_in hW he i (i + 1 + n) (by omega) (by omega)
    have hrg := swI_rg (u := swU (rI μ 67) e) (i := i) (N := (rI μ 67 35).toNat) (by omega) (fun k => swU_in hW he i k) hq0 n (by omega)
    rw [← hq] at hrg
    obtain ⟨⟨g1, g2⟩, g3, g4⟩ := hrg
    simp only at g1 g2 g3 g4
    have key := fun σ hσ => ih (n + 1) (by omega) σ hσ
    simp only [swI] at key
    rw [← hq, show ((n + 1 : Nat) : Int) = (n : Int) + 1 by omega, show (i : Int) + 1 + ((n : Int) + 1) = (i : Int) + 1 + (n : Int) + 1 by omega] at key
    have en : ((i : Int) + 1 + (n : Int)).toNat = i + 1 + n := by omega
    have e67 : rI ν 67 = rI μ 67 := funext (fun j => hF.1 67 (by omega) (by omega) (by omega) (by omega) (by omega) j)
    have e35 : rI ν 67 35 = rI μ 67 35 := by rw [e67]
    have tS : ∀ j, j < 60 → rI (trd (stM ν) i (i + 1 + n) 7) 68 j = swpF (rI μ 67) i (i + 1 + n) j := fun j hj => by rw [trd_st ν (by omega) (by omega) hj, e67]
    have hW2 : WF (swpF (rI μ 67) i (i + 1 + n)) := hW.swp (by omega) (by omega)
    have hE : Eq39 (rI (trd (stM ν) i (i + 1 + n) 7) 68) (swpF (rI μ 67) i (i + 1 + n)) := fun x hx => tS x (by omega)
    have t38 : rI (trd (stM ν) i (i + 1 + n) 7) 68 38 = rI μ 67 38 := by rw [tS 38 (by omega), swp_o _ _ _ (by omega)]
    have t39 : rI (trd (stM ν) i (i + 1 + n) 7) 68 39 = rI μ 67 39 := by rw [tS 39 (by omega), swp_o _ _ _ (by omega)]
    have t40 : rI (trd (stM ν) i (i + 1 + n) 7) 68 40 = rI μ 67 40 := by rw [tS 40 (by omega), swp_o _ _ _ (by omega)]
    have g66 : ∀ j, rI (trd (stM ν) i (i + 1 + n) 7) 66 j = rI (stM ν) 66 j := fun j => trd_o _ _ _ _ (by omega) j
    have t13 : rI (trd (stM ν) i (i + 1 + n) 7) 66 13 = -4 := by rw [g66, st_66]; simp
    have hW3 : WF (rI (trd (stM ν) i (i + 1 + n) 7) 68) := hW2.of hE.sy
    have fin : ∀ ρ, MGR (psd (-4)) (trd (stM ν) i (i + 1 + n) 7) ρ e → rI ρ 66 14 = -swU (rI μ 67) e i (i + 1 + n) ∧ rI ρ 66 19 = rI ν 66 19 ∧ (swU (rI μ 67) e i (i + 1 + n) < rI ν 66 19 → V 52 [some (.inr (.inr 66)), some (.inl (e : Int)), some (.inl w), some (.inl (i : Int)), some (.inl ((i : Int) + 1 + (n : Int) + 1))] [] (wI (wI ρ 66 18 (10 * (i : Int) + ((i : Int) + 1 + (n : Int)))) 66 19 (swU (rI μ 67) e i (i + 1 + n)))) ∧ (¬ swU (rI μ 67) e i (i + 1 + n) < rI ν 66 19 → V 52 [some (.inr (.inr 66)), some (.inl (e : Int)), some (.inl w), some (.inl (i : Int)), some (.inl ((i : Int) + 1 + (n : Int) + 1))] [] ρ) := by
      intro ρ hρ
      obtain ⟨m1, m2, m3, m4, m5⟩ := mrun hE hW2 (by rw [g66, st_66]; simp) (by rw [g66, st_66]; simp) (by rw [g66, st_66]; simp) hρ
      obtain ⟨p1, p2, p3⟩ := nx_psd4 hW2 e
      rw [p2] at m1
      have hMF : MF μ ρ := by
        have h1 : MF ν (trd (stM ν) i (i + 1 + n) 7) := by
          obtain ⟨q1, q2, q3⟩ := st_MF ν
          exact ⟨fun k a b c d f j => by rw [trd_o _ _ _ _ b]; exact q1 k a b c d f j, fun j hj => by rw [trd_o _ _ _ _ (by omega)]; exact q2 j hj, q3⟩
        exact hF.tr (h1.tr hρ.mf)
      have e18 : rI ρ 66 18 = rI ν 66 18 := by rw [m5 18 (by omega) (by omega) (by omega), g66, st_66]; simp
      have e19 : rI ρ 66 19 = rI ν 66 19 := by rw [m5 19 (by omega) (by omega) (by omega), g66, st_66]; simp
      refine ⟨by rw [m1]; unfold swU; omega, e19, fun z => ?_, fun z => ?_⟩
      · refine key _ ?_ ?_
        · obtain ⟨q1, q2, q3⟩ := hMF
          exact ⟨fun k a b c d f j => by rw [rI_wI, rI_wI, if_neg (fun z => a z.1), if_neg (fun z => a z.1)]; exact q1 k a b c d f j, fun j hj => by rw [rI_wI, rI_wI, if_neg (by omega), if_neg (by omega)]; exact q2 j hj, q3⟩
        · rw [if_pos z]; simp [rI_wI]
      · refine key _ hMF ?_
        rw [if_neg z, e18, e19]
    apply hV [52] 40
    simp only [InR, InL, inb, Int.toNat_natCast, wp1, wpc_z, wpc_s, stp_iconst, stp_bipush, stp_sipush, stp_lconst, stp_iload_n, stp_iload, stp_lload_n, stp_lload, stp_aload_n, stp_aload, stp_istore_n, stp_istore, stp_lstore_n, stp_lstore, stp_astore_n, stp_astore, stp_iinc, stp_iadd, stp_isub, stp_imul, stp_ineg, stp_idiv, stp_irem, stp_ladd, stp_lmul, stp_ldiv, stp_lrem, stp_ishl, stp_ishr, stp_iushr, stp_iand, stp_ior, stp_i2l, stp_i2b, stp_i2s, stp_lcmp, stp_dup, stp_dup2, stp_pop, stp_ifCond, stp_if_icmp, stp_goto, stp_tableswitch, stp_lookupswitch, stp_ldc, stp_ldc_w, stp_ldc2_w, stp_getstatic, stp_getfield, stp_putfield, stp_iaload, stp_baload, stp_iastore, stp_bastore, stp_aaload, stp_aastore, stp_invokevirtual, stp_invokestatic, stp_ireturn, stp_lreturn, stp_return_, lg, lset, okl, spl, wd, c1, cnd, tg, swT, swL, f4_0, f4_1, f4_2, f4_3, f2_0, f2_1, List.mem_cons, List.not_mem_nil, List.length_cons, List.length_nil, List.cons_append, List.nil_append, Nat.reduceAdd, Nat.reduceMul, Nat.reduceLT, Nat.reduceEqDiff, Nat.reduceLeDiff, Int.reduceAdd, Int.reduceNeg, Int.reduceToNat, Int.cast_ofNat_Int, Int.reduceNatCast, Int.toNat_zero, Int.toNat_one, Int.reduceLE, Int.reduceLT, Int.reduceEq, Int.zero_add, Int.add_zero, or_false, false_or, or_true, true_or, and_true, true_and, and_false, false_and, reduceIte, not_true_eq_false, not_false_eq_true, forall_const, false_implies, true_implies, implies_true, ne_eq, reduceCtorEq, List.all_cons, List.all_nil, Bool.and_true, Bool.and_self, decide_eq_true_eq, decide_true, dX6_swap_0, dX6_swap_1, dX6_swap_4, dX6_swap_7, dX6_swap_8, dX6_swap_11, dX6_swap_14, dX6_swap_15, dX6_swap_16, dX6_swap_17, dX6_swap_20, dX6_swap_21, dX6_swap_22, dX6_swap_25, dX6_swap_26, dX6_swap_27, dX6_swap_30, dX6_swap_31, dX6_swap_34, dX6_swap_35, dX6_swap_36, dX6_swap_37, dX6_swap_38, dX6_swap_41, dX6_swap_43, dX6_swap_44, dX6_swap_47, dX6_swap_48, dX6_swap_49, dX6_swap_50, dX6_swap_52, dX6_swap_54, dX6_swap_55, dX6_swap_58, dX6_swap_60, dX6_swap_61, dX6_swap_64, dX6_swap_65, dX6_swap_68, dX6_swap_69, dX6_swap_70, dX6_swap_72, dX6_swap_75, dX6_swap_76, dX6_swap_77, dX6_swap_80, dX6_swap_81, dX6_swap_83, dX6_swap_84, dX6_swap_85, dX6_swap_87, dX6_swap_88, dX6_swap_89, dX6_swap_92, dX6_swap_93, dX6_swap_96, dX6_swap_99, dX6_swap_102, dX6_swap_105, dX6_swap_108, dX6_swap_109, dX6_swap_110, dX6_swap_113, FX6_132, FX6_7, G_X6_swap_205, G_X6_swap_218, G_X6_swap_174, G_X6_swap_200, G_X6_swap_221, G_X6_swap_195, G_X6_swap_224, G_X6_swap_227, kd_66, kd_67, ln_67, e35, T6_starts, T6_trades, T6_visitsGo, T6_judges, en, t13, t38, t39, t40]
    repeat' (first | exact trivial | omega | (with_reducible assumption) | exact absurd trivial (by with_reducible assumption) | contradiction | apply And.intro | intro _)
    all_goals first | (have h9 := fin _ (by assumption); rw [h9.1, Int.neg_neg]; exact h9.2.2.1 (by omega)) | (have h9 := fin _ (by assumption); exact h9.2.2.2 (by omega)) | (have h9 := fin _ (by assumption); omega)
set_option maxRecDepth 20000 in
set_option maxHeartbeats 4000000 in
theorem lp_mswap (V : Nat → List (Option AV) → List AV → Mem → Prop) (K : List AV → Mem → Prop) (hV : Clos FX6 CX6 G_X6_swap 1 K cX6_swap V) (μ : Mem) (hQ : MOK μ) (e : Nat) (he : e ≤ 200) (w : Int) (hw : 0 ≤ w ∧ w ≤ 1) (hK : ∀ ν, MF μ ν → K [.inl (jdB (swO (swU (rI μ 67) e) (-sS yes (rI μ 67) e) (rI μ 67 35).toNat (rI μ 67 35).toNat) w)] ν) : ∀ m n : Nat, n + m = (rI μ 67 35).toNat → ∀ ν, MF μ ν → (rI ν 66 18, rI ν 66 19) = swO (swU (rI μ 67) e) (-sS yes (rI μ 67) e) (rI μ 67 35).toNat n → ∀ x : Option AV, V 36 [some (.inr (.inr 66)), some (.inl (e : Int)), some (.inl w), some (.inl (n : Int)), x] [] ν := by
  have hQ' := hQ
  obtain ⟨hW, h38, h39, h40⟩ := hQ
  have h35 := hW.1
  have hb := (sum_in (p := yes) hW e).1
  have hrg := fun n (hn : n ≤ (rI μ 67 35).toNat) => swO_rg (u := swU (rI μ 67) e) (b := -sS yes (rI μ 67) e) (N := (rI μ 67 35).toNat) (by omega) (by omega) (swU_in hW he) n hn
  intro m
  induction m with
  | zero =>
    intro n hn ν hF hq x
    have en : n = (rI μ 67 35).toNat := by omega
    have hk := hK ν hF
    have hr := hrg n (by omega)
    rw [← hq] at hr
    rw [en] at hq
    rw [← hq] at hk
    have e35 : rI ν 67 35 = rI μ 67 35 := hF.1 67 (by omega) (by omega) (by omega) (by omega) (by omega) 35
    obtain ⟨⟨g1, g2⟩, g3, g4⟩ := hr
    simp only at g1 g2 g3 g4
    apply hV [36, 52] 60
    simp only [InR, InL, inb, Int.toNat_natCast, wp1, wpc_z, wpc_s, stp_iconst, stp_bipush, stp_sipush, stp_lconst, stp_iload_n, stp_iload, stp_lload_n, stp_lload, stp_aload_n, stp_aload, stp_istore_n, stp_istore, stp_lstore_n, stp_lstore, stp_astore_n, stp_astore, stp_iinc, stp_iadd, stp_isub, stp_imul, stp_ineg, stp_idiv, stp_irem, stp_ladd, stp_lmul, stp_ldiv, stp_lrem, stp_ishl, stp_ishr, stp_iushr, stp_iand, stp_ior, stp_i2l, stp_i2b, stp_i2s, stp_lcmp, stp_dup, stp_dup2, stp_pop, stp_ifCond, stp_if_icmp, stp_goto, stp_tableswitch, stp_lookupswitch, stp_ldc, stp_ldc_w, stp_ldc2_w, stp_getstatic, stp_getfield, stp_putfield, stp_iaload, stp_baload, stp_iastore, stp_bastore, stp_aaload, stp_aastore, stp_invokevirtual, stp_invokestatic, stp_ireturn, stp_lreturn, stp_return_, lg, lset, okl, spl, wd, c1, cnd, tg, swT, swL, f4_0, f4_1, f4_2, f4_3, f2_0, f2_1, List.mem_cons, List.not_mem_nil, List.length_cons, List.length_nil, List.cons_append, List.nil_append, Nat.reduceAdd, Nat.reduceMul, Nat.reduceLT, Nat.reduceEqDiff, Nat.reduceLeDiff, Int.reduceAdd, Int.reduceNeg, Int.reduceToNat, Int.cast_ofNat_Int, Int.reduceNatCast, Int.toNat_zero, Int.toNat_one, Int.reduceLE, Int.reduceLT, Int.reduceEq, Int.zero_add, Int.add_zero, or_false, false_or, or_true, true_or, and_true, true_and, and_false, false_and, reduceIte, not_true_eq_false, not_false_eq_true, forall_const, false_implies, true_implies, implies_true, ne_eq, reduceCtorEq, List.all_cons, List.all_nil, Bool.and_true, Bool.and_self, decide_eq_true_eq, decide_true, dX6_swap_0, dX6_swap_1, dX6_swap_4, dX6_swap_7, dX6_swap_8, dX6_swap_11, dX6_swap_14, dX6_swap_15, dX6_swap_16, dX6_swap_17, dX6_swap_20, dX6_swap_21, dX6_swap_22, dX6_swap_25, dX6_swap_26, dX6_swap_27, dX6_swap_30, dX6_swap_31, dX6_swap_34, dX6_swap_35, dX6_swap_36, dX6_swap_37, dX6_swap_38, dX6_swap_41, dX6_swap_43, dX6_swap_44, dX6_swap_47, dX6_swap_48, dX6_swap_49, dX6_swap_50, dX6_swap_52, dX6_swap_54, dX6_swap_55, dX6_swap_58, dX6_swap_60, dX6_swap_61, dX6_swap_64, dX6_swap_65, dX6_swap_68, dX6_swap_69, dX6_swap_70, dX6_swap_72, dX6_swap_75, dX6_swap_76, dX6_swap_77, dX6_swap_80, dX6_swap_81, dX6_swap_83, dX6_swap_84, dX6_swap_85, dX6_swap_87, dX6_swap_88, dX6_swap_89, dX6_swap_92, dX6_swap_93, dX6_swap_96, dX6_swap_99, dX6_swap_102, dX6_swap_105, dX6_swap_108, dX6_swap_109, dX6_swap_110, dX6_swap_113, FX6_132, FX6_7, G_X6_swap_205, G_X6_swap_218, G_X6_swap_174, G_X6_swap_200, G_X6_swap_221, G_X6_swap_195, G_X6_swap_224, G_X6_swap_227, kd_66, kd_67, ln_67, e35, T6_judgedMore]
    repeat' (first | exact trivial | omega | (with_reducible assumption) | exact absurd trivial (by with_reducible assumption) | contradiction | apply And.intro | intro _)
  | succ m ih =>
    intro n hn ν hF hq x
    have hr := hrg n (by omega)
    rw [← hq] at hr
    have e35 : rI ν 67 35 = rI μ 67 35 := hF.1 67 (by omega) (by omega) (by omega) (by omega) (by omega) 35
    have key := lp_mswap2 V K hV μ hQ' e he w n (by omega) _ hr (fun σ hσ hq' y => by
      have h := ih (n + 1) (by omega) σ hσ (by rw [hq', hq]; rfl) y
      rw [show ((n + 1 : Nat) : Int) = (n : Int) + 1 by omega] at h
      apply hV [36] 30
      simp only [InR, InL, inb, Int.toNat_natCast, wp1, wpc_z, wpc_s, stp_iconst, stp_bipush, stp_sipush, stp_lconst, stp_iload_n, stp_iload, stp_lload_n, stp_lload, stp_aload_n, stp_aload, stp_istore_n, stp_istore, stp_lstore_n, stp_lstore, stp_astore_n, stp_astore, stp_iinc, stp_iadd, stp_isub, stp_imul, stp_ineg, stp_idiv, stp_irem, stp_ladd, stp_lmul, stp_ldiv, stp_lrem, stp_ishl, stp_ishr, stp_iushr, stp_iand, stp_ior, stp_i2l, stp_i2b, stp_i2s, stp_lcmp, stp_dup, stp_dup2, stp_pop, stp_ifCond, stp_if_icmp, stp_goto, stp_tableswitch, stp_lookupswitch, stp_ldc, stp_ldc_w, stp_ldc2_w, stp_getstatic, stp_getfield, stp_putfield, stp_iaload, stp_baload, stp_iastore, stp_bastore, stp_aaload, stp_aastore, stp_invokevirtual, stp_invokestatic, stp_ireturn, stp_lreturn, stp_return_, lg, lset, okl, spl, wd, c1, cnd, tg, swT, swL, f4_0, f4_1, f4_2, f4_3, f2_0, f2_1, List.mem_cons, List.not_mem_nil, List.length_cons, List.length_nil, List.cons_append, List.nil_append, Nat.reduceAdd, Nat.reduceMul, Nat.reduceLT, Nat.reduceEqDiff, Nat.reduceLeDiff, Int.reduceAdd, Int.reduceNeg, Int.reduceToNat, Int.cast_ofNat_Int, Int.reduceNatCast, Int.toNat_zero, Int.toNat_one, Int.reduceLE, Int.reduceLT, Int.reduceEq, Int.zero_add, Int.add_zero, or_false, false_or, or_true, true_or, and_true, true_and, and_false, false_and, reduceIte, not_true_eq_false, not_false_eq_true, forall_const, false_implies, true_implies, implies_true, ne_eq, reduceCtorEq, List.all_cons, List.all_nil, Bool.and_true, Bool.and_self, decide_eq_true_eq, decide_true, dX6_swap_0, dX6_swap_1, dX6_swap_4, dX6_swap_7, dX6_swap_8, dX6_swap_11, dX6_swap_14, dX6_swap_15, dX6_swap_16, dX6_swap_17, dX6_swap_20, dX6_swap_21, dX6_swap_22, dX6_swap_25, dX6_swap_26, dX6_swap_27, dX6_swap_30, dX6_swap_31, dX6_swap_34, dX6_swap_35, dX6_swap_36, dX6_swap_37, dX6_swap_38, dX6_swap_41, dX6_swap_43, dX6_swap_44, dX6_swap_47, dX6_swap_48, dX6_swap_49, dX6_swap_50, dX6_swap_52, dX6_swap_54, dX6_swap_55, dX6_swap_58, dX6_swap_60, dX6_swap_61, dX6_swap_64, dX6_swap_65, dX6_swap_68, dX6_swap_69, dX6_swap_70, dX6_swap_72, dX6_swap_75, dX6_swap_76, dX6_swap_77, dX6_swap_80, dX6_swap_81, dX6_swap_83, dX6_swap_84, dX6_swap_85, dX6_swap_87, dX6_swap_88, dX6_swap_89, dX6_swap_92, dX6_swap_93, dX6_swap_96, dX6_swap_99, dX6_swap_102, dX6_swap_105, dX6_swap_108, dX6_swap_109, dX6_swap_110, dX6_swap_113, FX6_132, FX6_7, G_X6_swap_205, G_X6_swap_218, G_X6_swap_174, G_X6_swap_200, G_X6_swap_221, G_X6_swap_195, G_X6_swap_224, G_X6_swap_227]
      exact h) m 0 (by omega) ν hF (by simp only [swI])
    rw [show (n : Int) + 1 + ((0 : Nat) : Int) = (n : Int) + 1 by omega] at key
    apply hV [36, 52] 12
    simp only [InR, InL, inb, Int.toNat_natCast, wp1, wpc_z, wpc_s, stp_iconst, stp_bipush, stp_sipush, stp_lconst, stp_iload_n, stp_iload, stp_lload_n, stp_lload, stp_aload_n, stp_aload, stp_istore_n, stp_istore, stp_lstore_n, stp_lstore, stp_astore_n, stp_astore, stp_iinc, stp_iadd, stp_isub, stp_imul, stp_ineg, stp_idiv, stp_irem, stp_ladd, stp_lmul, stp_ldiv, stp_lrem, stp_ishl, stp_ishr, stp_iushr, stp_iand, stp_ior, stp_i2l, stp_i2b, stp_i2s, stp_lcmp, stp_dup, stp_dup2, stp_pop, stp_ifCond, stp_if_icmp, stp_goto, stp_tableswitch, stp_lookupswitch, stp_ldc, stp_ldc_w, stp_ldc2_w, stp_getstatic, stp_getfield, stp_putfield, stp_iaload, stp_baload, stp_iastore, stp_bastore, stp_aaload, stp_aastore, stp_invokevirtual, stp_invokestatic, stp_ireturn, stp_lreturn, stp_return_, lg, lset, okl, spl, wd, c1, cnd, tg, swT, swL, f4_0, f4_1, f4_2, f4_3, f2_0, f2_1, List.mem_cons, List.not_mem_nil, List.length_cons, List.length_nil, List.cons_append, List.nil_append, Nat.reduceAdd, Nat.reduceMul, Nat.reduceLT, Nat.reduceEqDiff, Nat.reduceLeDiff, Int.reduceAdd, Int.reduceNeg, Int.reduceToNat, Int.cast_ofNat_Int, Int.reduceNatCast, Int.toNat_zero, Int.toNat_one, Int.reduceLE, Int.reduceLT, Int.reduceEq, Int.zero_add, Int.add_zero, or_false, false_or, or_true, true_or, and_true, true_and, and_false, false_and, reduceIte, not_true_eq_false, not_false_eq_true, forall_const, false_implies, true_implies, implies_true, ne_eq, reduceCtorEq, List.all_cons, List.all_nil, Bool.and_true, Bool.and_self, decide_eq_true_eq, decide_true, dX6_swap_0, dX6_swap_1, dX6_swap_4, dX6_swap_7, dX6_swap_8, dX6_swap_11, dX6_swap_14, dX6_swap_15, dX6_swap_16, dX6_swap_17, dX6_swap_20, dX6_swap_21, dX6_swap_22, dX6_swap_25, dX6_swap_26, dX6_swap_27, dX6_swap_30, dX6_swap_31, dX6_swap_34, dX6_swap_35, dX6_swap_36, dX6_swap_37, dX6_swap_38, dX6_swap_41, dX6_swap_43, dX6_swap_44, dX6_swap_47, dX6_swap_48, dX6_swap_49, dX6_swap_50, dX6_swap_52, dX6_swap_54, dX6_swap_55, dX6_swap_58, dX6_swap_60, dX6_swap_61, dX6_swap_64, dX6_swap_65, dX6_swap_68, dX6_swap_69, dX6_swap_70, dX6_swap_72, dX6_swap_75, dX6_swap_76, dX6_swap_77, dX6_swap_80, dX6_swap_81, dX6_swap_83, dX6_swap_84, dX6_swap_85, dX6_swap_87, dX6_swap_88, dX6_swap_89, dX6_swap_92, dX6_swap_93, dX6_swap_96, dX6_swap_99, dX6_swap_102, dX6_swap_105, dX6_swap_108, dX6_swap_109, dX6_swap_110, dX6_swap_113, FX6_132, FX6_7, G_X6_swap_205, G_X6_swap_218, G_X6_swap_174, G_X6_swap_200, G_X6_swap_221, G_X6_swap_195, G_X6_swap_224, G_X6_swap_227, e35, kd_66, kd_67, ln_67]
    repeat' (first | exact trivial | omega | (with_reducible assumption) | exact absurd trivial (by with_reducible assumption) | contradiction | apply And.intro | intro _)
def T6_swap : TT := fun a μ K => match a with
  | [.inr (.inr o), .inl n, .inl w] => o = 66 ∧ (InR n ∧ InR w ∧ MOK μ ∧ ∀ ν, MF μ ν → K [.inl (swapR (rI μ 67) n w)] ν)
  | _ => False
theorem rec_X6_swap : ∀ a μ K, T6_swap a μ K → ∃ k r, a = .inr (.inr k) :: r ∧ kd k = 6 := by
  intro a μ K h
  unfold T6_swap at h
  split at h
  · exact ⟨_, _, rfl, by rw [h.1]; rfl⟩
  · exact h.elim
theorem gk_X6_swap (l : Launch) : ∀ i n b T, G_X6_swap i = some (n, b, T) → CallOK l 5 RX6 i n b T := by
  intro i n b T h
  have hm : (i, n, b, T) ∈ GL_X6_swap := lk_mem h
  simp only [GL_X6_swap, List.mem_cons, List.not_mem_nil, or_false, Prod.mk.injEq] at hm
  rcases hm with ⟨rfl, rfl, rfl, rfl⟩ | ⟨rfl, rfl, rfl, rfl⟩ | ⟨rfl, rfl, rfl, rfl⟩ | ⟨rfl, rfl, rfl, rfl⟩ | ⟨rfl, rfl, rfl, rfl⟩ | ⟨rfl, rfl, rfl, rfl⟩ | ⟨rfl, rfl, rfl, rfl⟩ | ⟨rfl, rfl, rfl, rfl⟩
  · exact CallOK.S (d := 5) (own := RX6) (i := 205) (n := 1) (good_X6_isFar l) (by decide) (by decide) (mg 864 (by decide +kernel) (by decide +kernel)) (mg 865 (by decide +kernel) (by decide +kernel)) (mg 7 (by decide +kernel) (by decide +kernel)) (mg 866 (by decide +kernel) (by decide +kernel)) (by decide +kernel)
  · exact CallOK.S (d := 5) (own := RX6) (i := 218) (n := 1) (good_X6_isPart l) (by decide) (by decide) (mg 882 (by decide +kernel) (by decide +kernel)) (mg 883 (by decide +kernel) (by decide +kernel)) (mg 7 (by decide +kernel) (by decide +kernel)) (mg 884 (by decide +kernel) (by decide +kernel)) (by decide +kernel)
  · exact CallOK.V (d := 5) (own := RX6) (i := 174) (n := 0) (ci := 6) (good_X6_starts l) (by decide) (by decide) rfl (by decide) rec_X6_starts (mg 769 (by decide +kernel) (by decide +kernel)) (mg 771 (by decide +kernel) (by decide +kernel)) (mgs 33 (by decide +kernel) (by decide +kernel)) (mg 7 (by decide +kernel) (by decide +kernel)) (mg 772 (by decide +kernel) (by decide +kernel)) (by decide +kernel)
  · exact CallOK.V (d := 5) (own := RX6) (i := 200) (n := 1) (ci := 6) (good_X6_visitsGo l) (by decide) (by decide) rfl (by decide) rec_X6_visitsGo (mg 849 (by decide +kernel) (by decide +kernel)) (mg 851 (by decide +kernel) (by decide +kernel)) (mgs 45 (by decide +kernel) (by decide +kernel)) (mg 7 (by decide +kernel) (by decide +kernel)) (mg 852 (by decide +kernel) (by decide +kernel)) (by decide +kernel)
  · exact CallOK.V (d := 5) (own := RX6) (i := 221) (n := 1) (ci := 6) (good_X6_startsJudging l) (by decide) (by decide) rfl (by decide) rec_X6_startsJudging (mg 885 (by decide +kernel) (by decide +kernel)) (mg 887 (by decide +kernel) (by decide +kernel)) (mgs 47 (by decide +kernel) (by decide +kernel)) (mg 7 (by decide +kernel) (by decide +kernel)) (mg 888 (by decide +kernel) (by decide +kernel)) (by decide +kernel)
  · exact CallOK.V (d := 5) (own := RX6) (i := 195) (n := 2) (ci := 6) (good_X6_trades l) (by decide) (by decide) rfl (by decide) rec_X6_trades (mg 840 (by decide +kernel) (by decide +kernel)) (mg 842 (by decide +kernel) (by decide +kernel)) (mgs 44 (by decide +kernel) (by decide +kernel)) (mg 7 (by decide +kernel) (by decide +kernel)) (mg 843 (by decide +kernel) (by decide +kernel)) (by decide +kernel)
  · exact CallOK.V (d := 5) (own := RX6) (i := 224) (n := 2) (ci := 6) (good_X6_judges l) (by decide) (by decide) rfl (by decide) rec_X6_judges (mg 889 (by decide +kernel) (by decide +kernel)) (mg 891 (by decide +kernel) (by decide +kernel)) (mgs 48 (by decide +kernel) (by decide +kernel)) (mg 7 (by decide +kernel) (by decide +kernel)) (mg 892 (by decide +kernel) (by decide +kernel)) (by decide +kernel)
  · exact CallOK.V (d := 5) (own := RX6) (i := 227) (n := 1) (ci := 6) (good_X6_judgedMore l) (by decide) (by decide) rfl (by decide) rec_X6_judgedMore (mg 893 (by decide +kernel) (by decide +kernel)) (mg 895 (by decide +kernel) (by decide +kernel)) (mgs 49 (by decide +kernel) (by decide +kernel)) (mg 7 (by decide +kernel) (by decide +kernel)) (mg 896 (by decide +kernel) (by decide +kernel)) (by decide +kernel)
set_option maxRecDepth 20000 in
set_option maxHeartbeats 4000000 in
theorem body_X6_swap (o : Nat) (n : Int) (w : Int) (μ : Mem) (K : List AV → Mem → Prop) (V : Nat → List (Option AV) → List AV → Mem → Prop) (hV : Clos FX6 CX6 G_X6_swap 1 K cX6_swap V) (hT : o = 66 ∧ (InR n ∧ InR w ∧ MOK μ ∧ ∀ ν, MF μ ν → K [.inl (swapR (rI μ 67) n w)] ν)) : V 0 [some (.inr (.inr o)), some (.inl n), some (.inl w), none, none] [] μ := by
  simp only [InR] at hT
  obtain ⟨rfl, hn, hw, hQ, hK⟩ := hT
  have hQ' := hQ
  obtain ⟨hW, h38, h39, h40⟩ := hQ
  have h35 := hW.1
  by_cases hc : (0 ≤ n ∧ n ≤ 200) ∧ 0 ≤ w ∧ w ≤ 1
  · obtain ⟨n', rfl⟩ := Int.eq_ofNat_of_zero_le hc.1.1
    have g38 : rI (stM μ) 68 38 = rI μ 67 38 := st_68 μ (by omega)
    have g39 : rI (stM μ) 68 39 = rI μ 67 39 := st_68 μ (by omega)
    have g40 : rI (stM μ) 68 40 = rI μ 67 40 := st_68 μ (by omega)
    have g13 : rI (stM μ) 66 13 = -4 := by rw [st_66]; simp
    have hW2 : WF (rI (stM μ) 68) := hW.of (st_E μ).sy
    have fin : ∀ ν, MGR (psd (-4)) (stM μ) ν n' → V 36 [some (.inr (.inr 66)), some (.inl (n' : Int)), some (.inl w), some (.inl 0), none] [] (wI (wI ν 66 18 (-4)) 66 19 (-rI ν 66 14)) := by
      intro ν hν
      obtain ⟨m1, m2, m3, m4, m5⟩ := mrun (st_E μ) hW (by rw [st_66]; simp) (by rw [st_66]; simp) (by rw [st_66]; simp) hν
      obtain ⟨p1, p2, p3⟩ := nx_psd4 hW n'
      rw [p2] at m1
      have hMF := (st_MF μ).tr hν.mf
      rw [m1]
      exact lp_mswap V K hV μ hQ' n' (by omega) w (by omega) (fun ν hν => by
        have hk := hK ν hν
        unfold swapR at hk
        rw [if_pos hc, Int.toNat_natCast] at hk
        exact hk) (rI μ 67 35).toNat 0 (by omega) _ (by
          obtain ⟨q1, q2, q3⟩ := hMF
          exact ⟨fun k a b c d f j => by rw [rI_wI, rI_wI, if_neg (fun z => a z.1), if_neg (fun z => a z.1)]; exact q1 k a b c d f j, fun j hj => by rw [rI_wI, rI_wI, if_neg (by omega), if_neg (by omega)]; exact q2 j hj, q3⟩) (by simp [swO, rI_wI]) none
    apply hV [36] 40
    simp only [InR, InL, inb, Int.toNat_natCast, wp1, wpc_z, wpc_s, stp_iconst, stp_bipush, stp_sipush, stp_lconst, stp_iload_n, stp_iload, stp_lload_n, stp_lload, stp_aload_n, stp_aload, stp_istore_n, stp_istore, stp_lstore_n, stp_lstore, stp_astore_n, stp_astore, stp_iinc, stp_iadd, stp_isub, stp_imul, stp_ineg, stp_idiv, stp_irem, stp_ladd, stp_lmul, stp_ldiv, stp_lrem, stp_ishl, stp_ishr, stp_iushr, stp_iand, stp_ior, stp_i2l, stp_i2b, stp_i2s, stp_lcmp, stp_dup, stp_dup2, stp_pop, stp_ifCond, stp_if_icmp, stp_goto, stp_tableswitch, stp_lookupswitch, stp_ldc, stp_ldc_w, stp_ldc2_w, stp_getstatic, stp_getfield, stp_putfield, stp_iaload, stp_baload, stp_iastore, stp_bastore, stp_aaload, stp_aastore, stp_invokevirtual, stp_invokestatic, stp_ireturn, stp_lreturn, stp_return_, lg, lset, okl, spl, wd, c1, cnd, tg, swT, swL, f4_0, f4_1, f4_2, f4_3, f2_0, f2_1, List.mem_cons, List.not_mem_nil, List.length_cons, List.length_nil, List.cons_append, List.nil_append, Nat.reduceAdd, Nat.reduceMul, Nat.reduceLT, Nat.reduceEqDiff, Nat.reduceLeDiff, Int.reduceAdd, Int.reduceNeg, Int.reduceToNat, Int.cast_ofNat_Int, Int.reduceNatCast, Int.toNat_zero, Int.toNat_one, Int.reduceLE, Int.reduceLT, Int.reduceEq, Int.zero_add, Int.add_zero, or_false, false_or, or_true, true_or, and_true, true_and, and_false, false_and, reduceIte, not_true_eq_false, not_false_eq_true, forall_const, false_implies, true_implies, implies_true, ne_eq, reduceCtorEq, List.all_cons, List.all_nil, Bool.and_true, Bool.and_self, decide_eq_true_eq, decide_true, dX6_swap_0, dX6_swap_1, dX6_swap_4, dX6_swap_7, dX6_swap_8, dX6_swap_11, dX6_swap_14, dX6_swap_15, dX6_swap_16, dX6_swap_17, dX6_swap_20, dX6_swap_21, dX6_swap_22, dX6_swap_25, dX6_swap_26, dX6_swap_27, dX6_swap_30, dX6_swap_31, dX6_swap_34, dX6_swap_35, dX6_swap_36, dX6_swap_37, dX6_swap_38, dX6_swap_41, dX6_swap_43, dX6_swap_44, dX6_swap_47, dX6_swap_48, dX6_swap_49, dX6_swap_50, dX6_swap_52, dX6_swap_54, dX6_swap_55, dX6_swap_58, dX6_swap_60, dX6_swap_61, dX6_swap_64, dX6_swap_65, dX6_swap_68, dX6_swap_69, dX6_swap_70, dX6_swap_72, dX6_swap_75, dX6_swap_76, dX6_swap_77, dX6_swap_80, dX6_swap_81, dX6_swap_83, dX6_swap_84, dX6_swap_85, dX6_swap_87, dX6_swap_88, dX6_swap_89, dX6_swap_92, dX6_swap_93, dX6_swap_96, dX6_swap_99, dX6_swap_102, dX6_swap_105, dX6_swap_108, dX6_swap_109, dX6_swap_110, dX6_swap_113, FX6_132, FX6_7, G_X6_swap_205, G_X6_swap_218, G_X6_swap_174, G_X6_swap_200, G_X6_swap_221, G_X6_swap_195, G_X6_swap_224, G_X6_swap_227, kd_66, T6_isFar, T6_isPart, T6_starts, T6_visitsGo, T6_startsJudging, g13, g38, g39, g40]
    repeat' (first | exact trivial | omega | (with_reducible assumption) | exact absurd trivial (by with_reducible assumption) | contradiction | apply And.intro | intro _)
    all_goals exact fin _ (by assumption)
  · have hk := hK μ MF.rf
    unfold swapR at hk
    rw [if_neg hc] at hk
    apply hV [16] 40
    simp only [InR, InL, inb, Int.toNat_natCast, wp1, wpc_z, wpc_s, stp_iconst, stp_bipush, stp_sipush, stp_lconst, stp_iload_n, stp_iload, stp_lload_n, stp_lload, stp_aload_n, stp_aload, stp_istore_n, stp_istore, stp_lstore_n, stp_lstore, stp_astore_n, stp_astore, stp_iinc, stp_iadd, stp_isub, stp_imul, stp_ineg, stp_idiv, stp_irem, stp_ladd, stp_lmul, stp_ldiv, stp_lrem, stp_ishl, stp_ishr, stp_iushr, stp_iand, stp_ior, stp_i2l, stp_i2b, stp_i2s, stp_lcmp, stp_dup, stp_dup2, stp_pop, stp_ifCond, stp_if_icmp, stp_goto, stp_tableswitch, stp_lookupswitch, stp_ldc, stp_ldc_w, stp_ldc2_w, stp_getstatic, stp_getfield, stp_putfield, stp_iaload, stp_baload, stp_iastore, stp_bastore, stp_aaload, stp_aastore, stp_invokevirtual, stp_invokestatic, stp_ireturn, stp_lreturn, stp_return_, lg, lset, okl, spl, wd, c1, cnd, tg, swT, swL, f4_0, f4_1, f4_2, f4_3, f2_0, f2_1, List.mem_cons, List.not_mem_nil, List.length_cons, List.length_nil, List.cons_append, List.nil_append, Nat.reduceAdd, Nat.reduceMul, Nat.reduceLT, Nat.reduceEqDiff, Nat.reduceLeDiff, Int.reduceAdd, Int.reduceNeg, Int.reduceToNat, Int.cast_ofNat_Int, Int.reduceNatCast, Int.toNat_zero, Int.toNat_one, Int.reduceLE, Int.reduceLT, Int.reduceEq, Int.zero_add, Int.add_zero, or_false, false_or, or_true, true_or, and_true, true_and, and_false, false_and, reduceIte, not_true_eq_false, not_false_eq_true, forall_const, false_implies, true_implies, implies_true, ne_eq, reduceCtorEq, List.all_cons, List.all_nil, Bool.and_true, Bool.and_self, decide_eq_true_eq, decide_true, dX6_swap_0, dX6_swap_1, dX6_swap_4, dX6_swap_7, dX6_swap_8, dX6_swap_11, dX6_swap_14, dX6_swap_15, dX6_swap_16, dX6_swap_17, dX6_swap_20, dX6_swap_21, dX6_swap_22, dX6_swap_25, dX6_swap_26, dX6_swap_27, dX6_swap_30, dX6_swap_31, dX6_swap_34, dX6_swap_35, dX6_swap_36, dX6_swap_37, dX6_swap_38, dX6_swap_41, dX6_swap_43, dX6_swap_44, dX6_swap_47, dX6_swap_48, dX6_swap_49, dX6_swap_50, dX6_swap_52, dX6_swap_54, dX6_swap_55, dX6_swap_58, dX6_swap_60, dX6_swap_61, dX6_swap_64, dX6_swap_65, dX6_swap_68, dX6_swap_69, dX6_swap_70, dX6_swap_72, dX6_swap_75, dX6_swap_76, dX6_swap_77, dX6_swap_80, dX6_swap_81, dX6_swap_83, dX6_swap_84, dX6_swap_85, dX6_swap_87, dX6_swap_88, dX6_swap_89, dX6_swap_92, dX6_swap_93, dX6_swap_96, dX6_swap_99, dX6_swap_102, dX6_swap_105, dX6_swap_108, dX6_swap_109, dX6_swap_110, dX6_swap_113, FX6_132, FX6_7, G_X6_swap_205, G_X6_swap_218, G_X6_swap_174, G_X6_swap_200, G_X6_swap_221, G_X6_swap_195, G_X6_swap_224, G_X6_swap_227, kd_66, T6_isFar, T6_isPart]
    repeat' (first | exact trivial | omega | (with_reducible assumption) | exact absurd trivial (by with_reducible assumption) | contradiction | apply And.intro | intro _)
theorem good_X6_swap (l : Launch) : Good l 5 yX6_swap cX6_swap 5 (some .int) T6_swap := by
  refine Good.mk 1 (by decide) rfl (by simp [retOK]) FOK6 COK6 (gk_X6_swap l) ?_ ?_
  · intro a μ K h
    unfold T6_swap at h
    split at h
    · simp [entl]
    · exact h.elim
  · intro a μ K V hV h
    unfold T6_swap at h
    split at h
    · exact body_X6_swap _ _ _ μ K V hV h
    · exact h.elim

def GL_X6_ahead : List (Nat × Nat × Bool × TT) := [(180, 2, false, T6_isStation), (205, 1, true, T6_isFar), (59, 3, true, T6_in), (174, 1, false, T6_starts), (145, 3, false, T6_of), (170, 2, false, T6_visitGoes)]
def G_X6_ahead : Nat → Option (Nat × Bool × TT) := fun i => GL_X6_ahead.lookup i
theorem G_X6_ahead_180 : G_X6_ahead 180 = some (2, false, T6_isStation) := rfl
theorem G_X6_ahead_205 : G_X6_ahead 205 = some (1, true, T6_isFar) := rfl
theorem G_X6_ahead_59 : G_X6_ahead 59 = some (3, true, T6_in) := rfl
theorem G_X6_ahead_174 : G_X6_ahead 174 = some (1, false, T6_starts) := rfl
theorem G_X6_ahead_145 : G_X6_ahead 145 = some (3, false, T6_of) := rfl
theorem G_X6_ahead_170 : G_X6_ahead 170 = some (2, false, T6_visitGoes) := rfl

set_option maxRecDepth 20000 in
set_option maxHeartbeats 4000000 in
theorem lp_mahead (V : Nat → List (Option AV) → List AV → Mem → Prop) (K : List AV → Mem → Prop) (hV : Clos FX6 CX6 G_X6_ahead 1 K cX6_ahead V) (μ : Mem) (hQ : MOK μ) (i : Nat) (hi : (i : Int) < rI μ 67 35) (e : Nat) (he : e ≤ 200) (w : Int) (hw : 0 ≤ w ∧ w ≤ 2) (hK : ∀ ν, MF μ ν → K [.inl (if w = 0 then nx yes (rI μ 67) e (7 * i + 1) else if w = 1 then nx yes (rI μ 67) e (7 * i + 5) - rI μ 67 (7 * i + 5) else lgst (rI μ 67) i e)] ν) : ∀ m n : Nat, n + m = e → ∀ ν, MGR yes (stM μ) ν n → V 44 [some (.inr (.inr 66)), some (.inl (i : Int)), some (.inl (e : Int)), some (.inl w), some (.inl (lgst (rI μ 67) i n)), some (.inl (n : Int))] [] ν := by
  have hW := hQ.1
  have h35 := hW.1
  intro m
  induction m with
  | zero =>
    intro n hn ν hG
    have en : n = e := by omega
    subst en
    obtain ⟨p1, p2, p3, p4, p5, p6, p7⟩ := mpre hQ (by omega) hG
    have hE := mnow hQ hG
    have hk := hK ν p6
    have v1 : rI ν 68 (7 * i + 1) = nx yes (rI μ 67) n (7 * i + 1) := hE _ (by omega)
    have v5 : rI ν 72 i = nx yes (rI μ 67) n (7 * i + 5) - rI μ 67 (7 * i + 5) := by
      have a9 := hG.2.2.2.2.2.2.2.2.1 i (by omega) (by rw [st_68 μ (by omega)]; exact hi)
      rw [a9, st_72 μ (by omega), st_68 μ (by omega), (nx_congr yes_congr (hW.of (st_E μ).sy) (st_E μ) n).1 _ (by omega)]
      omega
    apply hV [44] 60
    simp only [InR, InL, inb, Int.toNat_natCast, wp1, wpc_z, wpc_s, stp_iconst, stp_bipush, stp_sipush, stp_lconst, stp_iload_n, stp_iload, stp_lload_n, stp_lload, stp_aload_n, stp_aload, stp_istore_n, stp_istore, stp_lstore_n, stp_lstore, stp_astore_n, stp_astore, stp_iinc, stp_iadd, stp_isub, stp_imul, stp_ineg, stp_idiv, stp_irem, stp_ladd, stp_lmul, stp_ldiv, stp_lrem, stp_ishl, stp_ishr, stp_iushr, stp_iand, stp_ior, stp_i2l, stp_i2b, stp_i2s, stp_lcmp, stp_dup, stp_dup2, stp_pop, stp_ifCond, stp_if_icmp, stp_goto, stp_tableswitch, stp_lookupswitch, stp_ldc, stp_ldc_w, stp_ldc2_w, stp_getstatic, stp_getfield, stp_putfield, stp_iaload, stp_baload, stp_iastore, stp_bastore, stp_aaload, stp_aastore, stp_invokevirtual, stp_invokestatic, stp_ireturn, stp_lreturn, stp_return_, lg, lset, okl, spl, wd, c1, cnd, tg, swT, swL, f4_0, f4_1, f4_2, f4_3, f2_0, f2_1, List.mem_cons, List.not_mem_nil, List.length_cons, List.length_nil, List.cons_append, List.nil_append, Nat.reduceAdd, Nat.reduceMul, Nat.reduceLT, Nat.reduceEqDiff, Nat.reduceLeDiff, Int.reduceAdd, Int.reduceNeg, Int.reduceToNat, Int.cast_ofNat_Int, Int.reduceNatCast, Int.toNat_zero, Int.toNat_one, Int.reduceLE, Int.reduceLT, Int.reduceEq, Int.zero_add, Int.add_zero, or_false, false_or, or_true, true_or, and_true, true_and, and_false, false_and, reduceIte, not_true_eq_false, not_false_eq_true, forall_const, false_implies, true_implies, implies_true, ne_eq, reduceCtorEq, List.all_cons, List.all_nil, Bool.and_true, Bool.and_self, decide_eq_true_eq, decide_true, dX6_ahead_0, dX6_ahead_1, dX6_ahead_2, dX6_ahead_5, dX6_ahead_8, dX6_ahead_9, dX6_ahead_12, dX6_ahead_15, dX6_ahead_16, dX6_ahead_17, dX6_ahead_18, dX6_ahead_21, dX6_ahead_24, dX6_ahead_27, dX6_ahead_28, dX6_ahead_29, dX6_ahead_30, dX6_ahead_33, dX6_ahead_34, dX6_ahead_35, dX6_ahead_36, dX6_ahead_39, dX6_ahead_41, dX6_ahead_42, dX6_ahead_44, dX6_ahead_46, dX6_ahead_47, dX6_ahead_50, dX6_ahead_51, dX6_ahead_52, dX6_ahead_55, dX6_ahead_56, dX6_ahead_57, dX6_ahead_58, dX6_ahead_61, dX6_ahead_63, dX6_ahead_66, dX6_ahead_67, dX6_ahead_68, dX6_ahead_69, dX6_ahead_72, dX6_ahead_75, dX6_ahead_77, dX6_ahead_79, dX6_ahead_82, dX6_ahead_85, dX6_ahead_86, dX6_ahead_89, dX6_ahead_90, dX6_ahead_91, dX6_ahead_92, dX6_ahead_95, dX6_ahead_98, dX6_ahead_99, dX6_ahead_100, dX6_ahead_103, dX6_ahead_104, dX6_ahead_107, dX6_ahead_108, dX6_ahead_109, dX6_ahead_112, dX6_ahead_114, CX6_210, FX6_26, G_X6_ahead_180, G_X6_ahead_205, G_X6_ahead_59, G_X6_ahead_174, G_X6_ahead_145, G_X6_ahead_170, kd_66, kd_72, ln_72, T6_of, tn7_1, v1, v5]
    by_cases w0 : w = 0
    · rw [if_pos w0] at hk
      repeat' (first | exact trivial | omega | (with_reducible assumption) | exact absurd trivial (by with_reducible assumption) | contradiction | apply And.intro | intro _)
    · rw [if_neg w0] at hk
      by_cases w1 : w = 1
      · rw [if_pos w1] at hk
        repeat' (first | exact trivial | omega | (with_reducible assumption) | exact absurd trivial (by with_reducible assumption) | contradiction | apply And.intro | intro _)
      · rw [if_neg w1] at hk
        repeat' (first | exact trivial | omega | (with_reducible assumption) | exact absurd trivial (by with_reducible assumption) | contradiction | apply And.intro | intro _)
  | succ m ih =>
    intro n hn ν hG
    obtain ⟨p1, p2, p3, p4, p5, p6, p7⟩ := mpre hQ (by omega) hG
    have hl := lgst_in hW hi n
    have hq := q_in hW hi (n + 1)
    simp only [InR] at p5
    have fin : ∀ ρ, VP ν ρ (decide (True ∧ ¬ rI ν 68 36 = rI ν 66 13)) → rI ρ 68 (7 * i + 1) = nx yes (rI μ 67) (n + 1) (7 * i + 1) ∧ V 44 [some (.inr (.inr 66)), some (.inl (i : Int)), some (.inl (e : Int)), some (.inl w), some (.inl (max (lgst (rI μ 67) i n) (nx yes (rI μ 67) (n + 1) (7 * i + 1)))), some (.inl ((n : Int) + 1))] [] ρ := by
      intro ρ hρ
      have hG2 := mstep hQ hG (ρ := ρ) (by simpa using hρ)
      have h := ih (n + 1) (by omega) ρ hG2
      rw [show ((n + 1 : Nat) : Int) = (n : Int) + 1 by omega] at h
      exact ⟨mnow hQ hG2 _ (by omega), h⟩
    simp only [true_and] at fin
    apply hV [44] 60
    simp only [InR, InL, inb, Int.toNat_natCast, wp1, wpc_z, wpc_s, stp_iconst, stp_bipush, stp_sipush, stp_lconst, stp_iload_n, stp_iload, stp_lload_n, stp_lload, stp_aload_n, stp_aload, stp_istore_n, stp_istore, stp_lstore_n, stp_lstore, stp_astore_n, stp_astore, stp_iinc, stp_iadd, stp_isub, stp_imul, stp_ineg, stp_idiv, stp_irem, stp_ladd, stp_lmul, stp_ldiv, stp_lrem, stp_ishl, stp_ishr, stp_iushr, stp_iand, stp_ior, stp_i2l, stp_i2b, stp_i2s, stp_lcmp, stp_dup, stp_dup2, stp_pop, stp_ifCond, stp_if_icmp, stp_goto, stp_tableswitch, stp_lookupswitch, stp_ldc, stp_ldc_w, stp_ldc2_w, stp_getstatic, stp_getfield, stp_putfield, stp_iaload, stp_baload, stp_iastore, stp_bastore, stp_aaload, stp_aastore, stp_invokevirtual, stp_invokestatic, stp_ireturn, stp_lreturn, stp_return_, lg, lset, okl, spl, wd, c1, cnd, tg, swT, swL, f4_0, f4_1, f4_2, f4_3, f2_0, f2_1, List.mem_cons, List.not_mem_nil, List.length_cons, List.length_nil, List.cons_append, List.nil_append, Nat.reduceAdd, Nat.reduceMul, Nat.reduceLT, Nat.reduceEqDiff, Nat.reduceLeDiff, Int.reduceAdd, Int.reduceNeg, Int.reduceToNat, Int.cast_ofNat_Int, Int.reduceNatCast, Int.toNat_zero, Int.toNat_one, Int.reduceLE, Int.reduceLT, Int.reduceEq, Int.zero_add, Int.add_zero, or_false, false_or, or_true, true_or, and_true, true_and, and_false, false_and, reduceIte, not_true_eq_false, not_false_eq_true, forall_const, false_implies, true_implies, implies_true, ne_eq, reduceCtorEq, List.all_cons, List.all_nil, Bool.and_true, Bool.and_self, decide_eq_true_eq, decide_true, dX6_ahead_0, dX6_ahead_1, dX6_ahead_2, dX6_ahead_5, dX6_ahead_8, dX6_ahead_9, dX6_ahead_12, dX6_ahead_15, dX6_ahead_16, dX6_ahead_17, dX6_ahead_18, dX6_ahead_21, dX6_ahead_24, dX6_ahead_27, dX6_ahead_28, dX6_ahead_29, dX6_ahead_30, dX6_ahead_33, dX6_ahead_34, dX6_ahead_35, dX6_ahead_36, dX6_ahead_39, dX6_ahead_41, dX6_ahead_42, dX6_ahead_44, dX6_ahead_46, dX6_ahead_47, dX6_ahead_50, dX6_ahead_51, dX6_ahead_52, dX6_ahead_55, dX6_ahead_56, dX6_ahead_57, dX6_ahead_58, dX6_ahead_61, dX6_ahead_63, dX6_ahead_66, dX6_ahead_67, dX6_ahead_68, dX6_ahead_69, dX6_ahead_72, dX6_ahead_75, dX6_ahead_77, dX6_ahead_79, dX6_ahead_82, dX6_ahead_85, dX6_ahead_86, dX6_ahead_89, dX6_ahead_90, dX6_ahead_91, dX6_ahead_92, dX6_ahead_95, dX6_ahead_98, dX6_ahead_99, dX6_ahead_100, dX6_ahead_103, dX6_ahead_104, dX6_ahead_107, dX6_ahead_108, dX6_ahead_109, dX6_ahead_112, dX6_ahead_114, CX6_210, FX6_26, G_X6_ahead_180, G_X6_ahead_205, G_X6_ahead_59, G_X6_ahead_174, G_X6_ahead_145, G_X6_ahead_170, kd_66, T6_of, T6_visitGoes, tn7_1]
    repeat' (first | exact trivial | omega | (with_reducible assumption) | exact absurd trivial (by with_reducible assumption) | contradiction | apply And.intro | intro _)
    all_goals have h9 := fin _ (by assumption)
    all_goals first | omega | (rw [h9.1]; omega) | (have h8 := h9.2; have e9 := h9.1; rw [e9] at *; first | rwa [show max (lgst (rI μ 67) i n) (nx yes (rI μ 67) (n + 1) (7 * i + 1)) = lgst (rI μ 67) i n by omega] at h8 | rwa [show max (lgst (rI μ 67) i n) (nx yes (rI μ 67) (n + 1) (7 * i + 1)) = nx yes (rI μ 67) (n + 1) (7 * i + 1) by omega] at h8)
def T6_ahead : TT := fun a μ K => match a with
  | [.inr (.inr o), .inl i, .inl n, .inl w] => o = 66 ∧ (InR i ∧ InR n ∧ InR w ∧ MOK μ ∧ ∀ ν, MF μ ν → K [.inl (aheadR (rI μ 67) i n w)] ν)
  | _ => False
theorem rec_X6_ahead : ∀ a μ K, T6_ahead a μ K → ∃ k r, a = .inr (.inr k) :: r ∧ kd k = 6 := by
  intro a μ K h
  unfold T6_ahead at h
  split at h
  · exact ⟨_, _, rfl, by rw [h.1]; rfl⟩
  · exact h.elim
theorem gk_X6_ahead (l : Launch) : ∀ i n b T, G_X6_ahead i = some (n, b, T) → CallOK l 4 RX6 i n b T := by
  intro i n b T h
  have hm : (i, n, b, T) ∈ GL_X6_ahead := lk_mem h
  simp only [GL_X6_ahead, List.mem_cons, List.not_mem_nil, or_false, Prod.mk.injEq] at hm
  rcases hm with ⟨rfl, rfl, rfl, rfl⟩ | ⟨rfl, rfl, rfl, rfl⟩ | ⟨rfl, rfl, rfl, rfl⟩ | ⟨rfl, rfl, rfl, rfl⟩ | ⟨rfl, rfl, rfl, rfl⟩ | ⟨rfl, rfl, rfl, rfl⟩
  · exact CallOK.V (d := 4) (own := RX6) (i := 180) (n := 1) (ci := 6) (good_X6_isStation l) (by decide) (by decide) rfl (by decide) rec_X6_isStation (mg 796 (by decide +kernel) (by decide +kernel)) (mg 798 (by decide +kernel) (by decide +kernel)) (mgs 38 (by decide +kernel) (by decide +kernel)) (mg 7 (by decide +kernel) (by decide +kernel)) (mg 799 (by decide +kernel) (by decide +kernel)) (by decide +kernel)
  · exact CallOK.S (d := 4) (own := RX6) (i := 205) (n := 1) (good_X6_isFar l) (by decide) (by decide) (mg 864 (by decide +kernel) (by decide +kernel)) (mg 865 (by decide +kernel) (by decide +kernel)) (mg 7 (by decide +kernel) (by decide +kernel)) (mg 866 (by decide +kernel) (by decide +kernel)) (by decide +kernel)
  · exact CallOK.S (d := 4) (own := RX6) (i := 59) (n := 3) (good_X6_in l) (by decide) (by decide) (mg 708 (by decide +kernel) (by decide +kernel)) (mg 709 (by decide +kernel) (by decide +kernel)) (mg 7 (by decide +kernel) (by decide +kernel)) (mg 710 (by decide +kernel) (by decide +kernel)) (by decide +kernel)
  · exact CallOK.V (d := 4) (own := RX6) (i := 174) (n := 0) (ci := 6) (good_X6_starts l) (by decide) (by decide) rfl (by decide) rec_X6_starts (mg 769 (by decide +kernel) (by decide +kernel)) (mg 771 (by decide +kernel) (by decide +kernel)) (mgs 33 (by decide +kernel) (by decide +kernel)) (mg 7 (by decide +kernel) (by decide +kernel)) (mg 772 (by decide +kernel) (by decide +kernel)) (by decide +kernel)
  · exact CallOK.V (d := 4) (own := RX6) (i := 145) (n := 2) (ci := 6) (good_X6_of l) (by decide) (by decide) rfl (by decide) rec_X6_of (mg 777 (by decide +kernel) (by decide +kernel)) (mg 779 (by decide +kernel) (by decide +kernel)) (mgs 35 (by decide +kernel) (by decide +kernel)) (mg 7 (by decide +kernel) (by decide +kernel)) (mg 780 (by decide +kernel) (by decide +kernel)) (by decide +kernel)
  · exact CallOK.V (d := 4) (own := RX6) (i := 170) (n := 1) (ci := 6) (good_X6_visitGoes l) (by decide) (by decide) rfl (by decide) rec_X6_visitGoes (mg 853 (by decide +kernel) (by decide +kernel)) (mg 855 (by decide +kernel) (by decide +kernel)) (mgs 46 (by decide +kernel) (by decide +kernel)) (mg 7 (by decide +kernel) (by decide +kernel)) (mg 856 (by decide +kernel) (by decide +kernel)) (by decide +kernel)
set_option maxRecDepth 20000 in
set_option maxHeartbeats 4000000 in
theorem body_X6_ahead (o : Nat) (i : Int) (n : Int) (w : Int) (μ : Mem) (K : List AV → Mem → Prop) (V : Nat → List (Option AV) → List AV → Mem → Prop) (hV : Clos FX6 CX6 G_X6_ahead 1 K cX6_ahead V) (hT : o = 66 ∧ (InR i ∧ InR n ∧ InR w ∧ MOK μ ∧ ∀ ν, MF μ ν → K [.inl (aheadR (rI μ 67) i n w)] ν)) : V 0 [some (.inr (.inr o)), some (.inl i), some (.inl n), some (.inl w), none, none] [] μ := by
  simp only [InR] at hT
  obtain ⟨rfl, hi, hn, hw, hQ, hK⟩ := hT
  have h35 := hQ.1.1
  by_cases hc : (0 ≤ i ∧ i < rI μ 67 35) ∧ (0 ≤ n ∧ n ≤ 200) ∧ 0 ≤ w ∧ w ≤ 2
  · obtain ⟨i', rfl⟩ := Int.eq_ofNat_of_zero_le hc.1.1
    obtain ⟨n', rfl⟩ := Int.eq_ofNat_of_zero_le hc.2.1.1
    have h := lp_mahead V K hV μ hQ i' (by omega) n' (by omega) w (by omega) (fun ν hν => by
      have hk := hK ν hν
      unfold aheadR at hk
      rw [if_pos hc, Int.toNat_natCast, Int.toNat_natCast] at hk
      exact hk) n' 0 (by omega) (stM μ) (MGR.rf (by rw [st_68 μ (by omega)]; exact hQ.2.2.1.2) (by rw [st_68 μ (by omega)]; exact hQ.2.2.2.2))
    have v1 : rI (stM μ) 68 (7 * i' + 1) = rI μ 67 (7 * i' + 1) := st_68 μ (by omega)
    simp only [lgst] at h
    apply hV [44] 40
    simp only [InR, InL, inb, Int.toNat_natCast, wp1, wpc_z, wpc_s, stp_iconst, stp_bipush, stp_sipush, stp_lconst, stp_iload_n, stp_iload, stp_lload_n, stp_lload, stp_aload_n, stp_aload, stp_istore_n, stp_istore, stp_lstore_n, stp_lstore, stp_astore_n, stp_astore, stp_iinc, stp_iadd, stp_isub, stp_imul, stp_ineg, stp_idiv, stp_irem, stp_ladd, stp_lmul, stp_ldiv, stp_lrem, stp_ishl, stp_ishr, stp_iushr, stp_iand, stp_ior, stp_i2l, stp_i2b, stp_i2s, stp_lcmp, stp_dup, stp_dup2, stp_pop, stp_ifCond, stp_if_icmp, stp_goto, stp_tableswitch, stp_lookupswitch, stp_ldc, stp_ldc_w, stp_ldc2_w, stp_getstatic, stp_getfield, stp_putfield, stp_iaload, stp_baload, stp_iastore, stp_bastore, stp_aaload, stp_aastore, stp_invokevirtual, stp_invokestatic, stp_ireturn, stp_lreturn, stp_return_, lg, lset, okl, spl, wd, c1, cnd, tg, swT, swL, f4_0, f4_1, f4_2, f4_3, f2_0, f2_1, List.mem_cons, List.not_mem_nil, List.length_cons, List.length_nil, List.cons_append, List.nil_append, Nat.reduceAdd, Nat.reduceMul, Nat.reduceLT, Nat.reduceEqDiff, Nat.reduceLeDiff, Int.reduceAdd, Int.reduceNeg, Int.reduceToNat, Int.cast_ofNat_Int, Int.reduceNatCast, Int.toNat_zero, Int.toNat_one, Int.reduceLE, Int.reduceLT, Int.reduceEq, Int.zero_add, Int.add_zero, or_false, false_or, or_true, true_or, and_true, true_and, and_false, false_and, reduceIte, not_true_eq_false, not_false_eq_true, forall_const, false_implies, true_implies, implies_true, ne_eq, reduceCtorEq, List.all_cons, List.all_nil, Bool.and_true, Bool.and_self, decide_eq_true_eq, decide_true, dX6_ahead_0, dX6_ahead_1, dX6_ahead_2, dX6_ahead_5, dX6_ahead_8, dX6_ahead_9, dX6_ahead_12, dX6_ahead_15, dX6_ahead_16, dX6_ahead_17, dX6_ahead_18, dX6_ahead_21, dX6_ahead_24, dX6_ahead_27, dX6_ahead_28, dX6_ahead_29, dX6_ahead_30, dX6_ahead_33, dX6_ahead_34, dX6_ahead_35, dX6_ahead_36, dX6_ahead_39, dX6_ahead_41, dX6_ahead_42, dX6_ahead_44, dX6_ahead_46, dX6_ahead_47, dX6_ahead_50, dX6_ahead_51, dX6_ahead_52, dX6_ahead_55, dX6_ahead_56, dX6_ahead_57, dX6_ahead_58, dX6_ahead_61, dX6_ahead_63, dX6_ahead_66, dX6_ahead_67, dX6_ahead_68, dX6_ahead_69, dX6_ahead_72, dX6_ahead_75, dX6_ahead_77, dX6_ahead_79, dX6_ahead_82, dX6_ahead_85, dX6_ahead_86, dX6_ahead_89, dX6_ahead_90, dX6_ahead_91, dX6_ahead_92, dX6_ahead_95, dX6_ahead_98, dX6_ahead_99, dX6_ahead_100, dX6_ahead_103, dX6_ahead_104, dX6_ahead_107, dX6_ahead_108, dX6_ahead_109, dX6_ahead_112, dX6_ahead_114, CX6_210, FX6_26, G_X6_ahead_180, G_X6_ahead_205, G_X6_ahead_59, G_X6_ahead_174, G_X6_ahead_145, G_X6_ahead_170, kd_66, T6_isStation, T6_isFar, T6_in, T6_starts, T6_of, tn7_1, v1]
    repeat' (first | exact trivial | omega | (with_reducible assumption) | exact absurd trivial (by with_reducible assumption) | contradiction | apply And.intro | intro _)
  · have hk := hK μ MF.rf
    unfold aheadR at hk
    rw [if_neg hc] at hk
    apply hV [29] 40
    simp only [InR, InL, inb, Int.toNat_natCast, wp1, wpc_z, wpc_s, stp_iconst, stp_bipush, stp_sipush, stp_lconst, stp_iload_n, stp_iload, stp_lload_n, stp_lload, stp_aload_n, stp_aload, stp_istore_n, stp_istore, stp_lstore_n, stp_lstore, stp_astore_n, stp_astore, stp_iinc, stp_iadd, stp_isub, stp_imul, stp_ineg, stp_idiv, stp_irem, stp_ladd, stp_lmul, stp_ldiv, stp_lrem, stp_ishl, stp_ishr, stp_iushr, stp_iand, stp_ior, stp_i2l, stp_i2b, stp_i2s, stp_lcmp, stp_dup, stp_dup2, stp_pop, stp_ifCond, stp_if_icmp, stp_goto, stp_tableswitch, stp_lookupswitch, stp_ldc, stp_ldc_w, stp_ldc2_w, stp_getstatic, stp_getfield, stp_putfield, stp_iaload, stp_baload, stp_iastore, stp_bastore, stp_aaload, stp_aastore, stp_invokevirtual, stp_invokestatic, stp_ireturn, stp_lreturn, stp_return_, lg, lset, okl, spl, wd, c1, cnd, tg, swT, swL, f4_0, f4_1, f4_2, f4_3, f2_0, f2_1, List.mem_cons, List.not_mem_nil, List.length_cons, List.length_nil, List.cons_append, List.nil_append, Nat.reduceAdd, Nat.reduceMul, Nat.reduceLT, Nat.reduceEqDiff, Nat.reduceLeDiff, Int.reduceAdd, Int.reduceNeg, Int.reduceToNat, Int.cast_ofNat_Int, Int.reduceNatCast, Int.toNat_zero, Int.toNat_one, Int.reduceLE, Int.reduceLT, Int.reduceEq, Int.zero_add, Int.add_zero, or_false, false_or, or_true, true_or, and_true, true_and, and_false, false_and, reduceIte, not_true_eq_false, not_false_eq_true, forall_const, false_implies, true_implies, implies_true, ne_eq, reduceCtorEq, List.all_cons, List.all_nil, Bool.and_true, Bool.and_self, decide_eq_true_eq, decide_true, dX6_ahead_0, dX6_ahead_1, dX6_ahead_2, dX6_ahead_5, dX6_ahead_8, dX6_ahead_9, dX6_ahead_12, dX6_ahead_15, dX6_ahead_16, dX6_ahead_17, dX6_ahead_18, dX6_ahead_21, dX6_ahead_24, dX6_ahead_27, dX6_ahead_28, dX6_ahead_29, dX6_ahead_30, dX6_ahead_33, dX6_ahead_34, dX6_ahead_35, dX6_ahead_36, dX6_ahead_39, dX6_ahead_41, dX6_ahead_42, dX6_ahead_44, dX6_ahead_46, dX6_ahead_47, dX6_ahead_50, dX6_ahead_51, dX6_ahead_52, dX6_ahead_55, dX6_ahead_56, dX6_ahead_57, dX6_ahead_58, dX6_ahead_61, dX6_ahead_63, dX6_ahead_66, dX6_ahead_67, dX6_ahead_68, dX6_ahead_69, dX6_ahead_72, dX6_ahead_75, dX6_ahead_77, dX6_ahead_79, dX6_ahead_82, dX6_ahead_85, dX6_ahead_86, dX6_ahead_89, dX6_ahead_90, dX6_ahead_91, dX6_ahead_92, dX6_ahead_95, dX6_ahead_98, dX6_ahead_99, dX6_ahead_100, dX6_ahead_103, dX6_ahead_104, dX6_ahead_107, dX6_ahead_108, dX6_ahead_109, dX6_ahead_112, dX6_ahead_114, CX6_210, FX6_26, G_X6_ahead_180, G_X6_ahead_205, G_X6_ahead_59, G_X6_ahead_174, G_X6_ahead_145, G_X6_ahead_170, kd_66, T6_isStation, T6_isFar, T6_in]
    repeat' (first | exact trivial | omega | (with_reducible assumption) | exact absurd trivial (by with_reducible assumption) | contradiction | apply And.intro | intro _)
theorem good_X6_ahead (l : Launch) : Good l 4 yX6_ahead cX6_ahead 6 (some .int) T6_ahead := by
  refine Good.mk 1 (by decide) rfl (by simp [retOK]) FOK6 COK6 (gk_X6_ahead l) ?_ ?_
  · intro a μ K h
    unfold T6_ahead at h
    split at h
    · simp [entl]
    · exact h.elim
  · intro a μ K V hV h
    unfold T6_ahead at h
    split at h
    · exact body_X6_ahead _ _ _ _ μ K V hV h
    · exact h.elim

