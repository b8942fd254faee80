/-! the reference: visits that fail -/
theorem mstepP {p : Nat → (Nat → Int) → Bool} {μ ν ρ : Mem} {n : Nat} {b : Int} (hQ : MOK μ) (h : MGR p (stM μ) ν n) (hb : p n (nx p (rI (stM μ) 68) n) = decide (b = 0)) (hv : VP ν ρ (decide (b = 0 ∧ rI ν 68 36 ≠ rI ν 66 13))) : MGR p (stM μ) ρ (n + 1) := by
  have hW : WF (rI (stM μ) 68) := hQ.1.of (st_E μ).sy
  obtain ⟨x1, x2, x3⟩ := nx_WF (p := p) hW n
  have hE := h.1
  have h13 : rI ν 66 13 = -4 := by
    rw [h.2.2.2.2.2.2.2.1 13 (by omega) (by omega) (by omega), st_66]; simp
  by_cases h0 : rI ν 68 35 = 0
  · refine h.st hW (may := p n (nx p (rI (stM μ) 68) n)) ?_ rfl
    obtain ⟨b1, b2, b3, b4, b5, b6, b7, b8, b9, b10, b11⟩ := hv
    have e1 : ∀ b, nxt (rI ν 68) b = upF (rI ν 68) 38 (rI ν 68 38 + 1) := fun b => by unfold nxt; rw [if_pos h0]
    have e2 : ∀ b, sndI (rI ν 68) b = 0 := fun b => by unfold sndI; rw [if_pos h0]
    have e3 : ∀ b, lstI (rI ν 68) b = 0 := fun b => by unfold lstI; rw [if_pos h0]
    rw [e1] at b6
    rw [e2] at b2 b5 b9
    rw [e3] at b3 b7
    simp only [e1] at b1
    unfold VP
    rw [e2, e3]
    simp only [e1]
    exact ⟨b1, b2, b3, b4, b5, b6, b7, b8, b9, b10, b11⟩
  · have hw := (x1.of hE.sy).2.1 h0
    have : decide (b = 0 ∧ rI ν 68 36 ≠ rI ν 66 13) = p n (nx p (rI (stM μ) 68) n) := by
      rw [h13, hb]
      have hne : rI ν 68 36 ≠ -4 := by omega
      simp [hne]
    rw [this] at hv
    exact h.st hW hv rfl
theorem mnowP {p : Nat → (Nat → Int) → Bool} (hp : ∀ n f f', Eq39 f f' → p n f = p n f') {μ ν : Mem} {n : Nat} (hQ : MOK μ) (h : MGR p (stM μ) ν n) : Eq39 (rI ν 68) (nx p (rI μ 67) n) ∧ rI ν 66 14 = sS p (rI μ 67) n := by
  have hc := nx_congr hp (hQ.1.of (st_E μ).sy) (st_E μ) n
  refine ⟨h.1.tr hc.1, ?_⟩
  rw [h.2.2.2.2.1, hc.2.1, st_66]; simp
theorem mpreP {p : Nat → (Nat → Int) → Bool} (hp : ∀ n f f', Eq39 f f' → p n f = p n f') {μ ν : Mem} {n : Nat} (hQ : MOK μ) (hn : n ≤ 1000) (h : MGR p (stM μ) ν n) : WF (rI ν 68) ∧ rI ν 68 38 ≤ 20000 ∧ (0 ≤ rI ν 68 39 ∧ rI ν 68 39 ≤ 999999) ∧ (0 ≤ rI ν 68 40 ∧ rI ν 68 40 ≤ 999999) ∧ InR (rI ν 66 13) ∧ MF μ ν ∧ rI ν 68 35 = rI μ 67 35 := by
  obtain ⟨hW, h38, h39, h40⟩ := hQ
  have hE := (mnowP hp ⟨hW, h38, h39, h40⟩ h).1
  obtain ⟨x1, x2, x3⟩ := nx_WF (p := p) hW n
  have h13 : rI ν 66 13 = -4 := by
    rw [h.2.2.2.2.2.2.2.1 13 (by omega) (by omega) (by omega), st_66]; simp
  have a2 := h.2.1
  have a3 := h.2.2.1
  have a12 := h.2.2.2.2.2.2.2.2.2.2.2.1
  have a13 := h.2.2.2.2.2.2.2.2.2.2.2.2
  rw [st_68 μ (by omega)] at a2 a3
  refine ⟨x1.of hE.sy, by rw [hE 38 (by omega), x2]; omega, by omega, by omega, by rw [h13]; exact ⟨by omega, by omega⟩, (st_MF μ).tr h.mf, by rw [hE 35 (by omega), x3]⟩
def FO (μ ν : Mem) (v i q : Int) (n F : Nat) : Prop := MF μ ν ∧ rI ν 66 20 = lkX (rI μ 67) v i q n F ∧ rI ν 66 21 = mnS (rI μ 67) v n F ∧ rI ν 66 22 = pw n
def GL_X6_findOdds : List (Nat × Nat × Bool × TT) := [(174, 1, false, T6_starts), (170, 2, false, T6_visitGoes), (145, 3, false, T6_of)]
def G_X6_findOdds : Nat → Option (Nat × Bool × TT) := fun i => GL_X6_findOdds.lookup i
theorem G_X6_findOdds_174 : G_X6_findOdds 174 = some (1, false, T6_starts) := rfl
theorem G_X6_findOdds_170 : G_X6_findOdds 170 = some (2, false, T6_visitGoes) := rfl
theorem G_X6_findOdds_145 : G_X6_findOdds 145 = some (3, false, T6_of) := rfl

set_option maxRecDepth 20000 in
set_option maxHeartbeats 4000000 in
theorem lp_odds1 (V : Nat → List (Option AV) → List AV → Mem → Prop) (K : List AV → Mem → Prop) (hV : Clos FX6 CX6 G_X6_findOdds 0 K cX6_findOdds V) (μ : Mem) (v i q : Int) (e : Nat) (he : e ≤ 8) (hK : V 42 [some (.inr (.inr 66)), some (.inl v), some (.inl i), some (.inl (e : Int)), some (.inl q), some (.inl (e : Int)), none, none, none, none] [] (wI μ 66 22 (pw e))) : ∀ m n : Nat, n + m = e → ∀ ν, ν = wI μ 66 22 (pw n) → V 18 [some (.inr (.inr 66)), some (.inl v), some (.inl i), some (.inl (e : Int)), some (.inl q), some (.inl (n : Int)), none, none, none, none] [] ν := by
  intro m
  induction m with
  | zero =>
    intro n hn ν hν
    have en : n = e := by omega
    subst en
    subst hν
    apply hV [18, 42] 30
    simp only [InR, InL, inb, Int.toNat_natCast, wp1, wpc_z, wpc_s, stp_iconst, stp_bipush, stp_sipush, stp_lconst, stp_iload_n, stp_iload, stp_lload_n, stp_lload, stp_aload_n, stp_aload, stp_istore_n, stp_istore, stp_lstore_n, stp_lstore, stp_astore_n, stp_astore, stp_iinc, stp_iadd, stp_isub, stp_imul, stp_ineg, stp_idiv, stp_irem, stp_ladd, stp_lmul, stp_ldiv, stp_lrem, stp_ishl, stp_ishr, stp_iushr, stp_iand, stp_ior, stp_i2l, stp_i2b, stp_i2s, stp_lcmp, stp_dup, stp_dup2, stp_pop, stp_ifCond, stp_if_icmp, stp_goto, stp_tableswitch, stp_lookupswitch, stp_ldc, stp_ldc_w, stp_ldc2_w, stp_getstatic, stp_getfield, stp_putfield, stp_iaload, stp_baload, stp_iastore, stp_bastore, stp_aaload, stp_aastore, stp_invokevirtual, stp_invokestatic, stp_ireturn, stp_lreturn, stp_return_, lg, lset, okl, spl, wd, c1, cnd, tg, swT, swL, f4_0, f4_1, f4_2, f4_3, f2_0, f2_1, List.mem_cons, List.not_mem_nil, List.length_cons, List.length_nil, List.cons_append, List.nil_append, Nat.reduceAdd, Nat.reduceMul, Nat.reduceLT, Nat.reduceEqDiff, Nat.reduceLeDiff, Int.reduceAdd, Int.reduceNeg, Int.reduceToNat, Int.cast_ofNat_Int, Int.reduceNatCast, Int.toNat_zero, Int.toNat_one, Int.reduceLE, Int.reduceLT, Int.reduceEq, Int.zero_add, Int.add_zero, or_false, false_or, or_true, true_or, and_true, true_and, and_false, false_and, reduceIte, not_true_eq_false, not_false_eq_true, forall_const, false_implies, true_implies, implies_true, ne_eq, reduceCtorEq, List.all_cons, List.all_nil, Bool.and_true, Bool.and_self, decide_eq_true_eq, decide_true, dX6_findOdds_0, dX6_findOdds_1, dX6_findOdds_2, dX6_findOdds_5, dX6_findOdds_6, dX6_findOdds_7, dX6_findOdds_10, dX6_findOdds_11, dX6_findOdds_12, dX6_findOdds_15, dX6_findOdds_16, dX6_findOdds_18, dX6_findOdds_20, dX6_findOdds_21, dX6_findOdds_24, dX6_findOdds_25, dX6_findOdds_26, dX6_findOdds_29, dX6_findOdds_32, dX6_findOdds_33, dX6_findOdds_36, dX6_findOdds_39, dX6_findOdds_42, dX6_findOdds_43, dX6_findOdds_45, dX6_findOdds_47, dX6_findOdds_48, dX6_findOdds_49, dX6_findOdds_50, dX6_findOdds_53, dX6_findOdds_54, dX6_findOdds_56, dX6_findOdds_57, dX6_findOdds_60, dX6_findOdds_61, dX6_findOdds_63, dX6_findOdds_65, dX6_findOdds_66, dX6_findOdds_69, dX6_findOdds_71, dX6_findOdds_73, dX6_findOdds_74, dX6_findOdds_75, dX6_findOdds_76, dX6_findOdds_77, dX6_findOdds_80, dX6_findOdds_81, dX6_findOdds_84, dX6_findOdds_85, dX6_findOdds_87, dX6_findOdds_89, dX6_findOdds_91, dX6_findOdds_94, dX6_findOdds_95, dX6_findOdds_96, dX6_findOdds_99, dX6_findOdds_101, dX6_findOdds_102, dX6_findOdds_103, dX6_findOdds_104, dX6_findOdds_105, dX6_findOdds_107, dX6_findOdds_108, dX6_findOdds_110, dX6_findOdds_113, dX6_findOdds_116, dX6_findOdds_119, dX6_findOdds_120, dX6_findOdds_121, dX6_findOdds_124, dX6_findOdds_125, dX6_findOdds_127, dX6_findOdds_130, dX6_findOdds_131, dX6_findOdds_132, dX6_findOdds_133, dX6_findOdds_136, dX6_findOdds_138, dX6_findOdds_141, dX6_findOdds_143, dX6_findOdds_146, dX6_findOdds_147, dX6_findOdds_148, dX6_findOdds_151, dX6_findOdds_152, dX6_findOdds_153, dX6_findOdds_156, dX6_findOdds_158, dX6_findOdds_159, dX6_findOdds_162, dX6_findOdds_163, dX6_findOdds_164, dX6_findOdds_165, dX6_findOdds_168, dX6_findOdds_171, dX6_findOdds_174, FX6_238, FX6_242, FX6_245, CX6_248, FX6_132, G_X6_findOdds_174, G_X6_findOdds_170, G_X6_findOdds_145, kd_66]
    repeat' (first | exact trivial | omega | (with_reducible assumption) | exact absurd trivial (by with_reducible assumption) | contradiction | apply And.intro | intro _)
  | succ m ih =>
    intro n hn ν hν
    have e22 : rI ν 66 22 = pw n := by rw [hν, rI_wI, if_pos ⟨rfl, rfl⟩]
    have h := ih (n + 1) (by omega) (wI ν 66 22 (pw n * 10)) (by
      rw [hν]
      refine mem_ext (fun a b => ?_) (fun _ _ => rfl)
      rw [rI_wI, rI_wI, rI_wI]
      by_cases z : a = 66 ∧ b = 22
      · rw [if_pos z, if_pos z]; rfl
      · rw [if_neg z, if_neg z, if_neg z])
    rw [show ((n + 1 : Nat) : Int) = (n : Int) + 1 by omega] at h
    apply hV [18, 42] 30
    simp only [InR, InL, inb, Int.toNat_natCast, wp1, wpc_z, wpc_s, stp_iconst, stp_bipush, stp_sipush, stp_lconst, stp_iload_n, stp_iload, stp_lload_n, stp_lload, stp_aload_n, stp_aload, stp_istore_n, stp_istore, stp_lstore_n, stp_lstore, stp_astore_n, stp_astore, stp_iinc, stp_iadd, stp_isub, stp_imul, stp_ineg, stp_idiv, stp_irem, stp_ladd, stp_lmul, stp_ldiv, stp_lrem, stp_ishl, stp_ishr, stp_iushr, stp_iand, stp_ior, stp_i2l, stp_i2b, stp_i2s, stp_lcmp, stp_dup, stp_dup2, stp_pop, stp_ifCond, stp_if_icmp, stp_goto, stp_tableswitch, stp_lookupswitch, stp_ldc, stp_ldc_w, stp_ldc2_w, stp_getstatic, stp_getfield, stp_putfield, stp_iaload, stp_baload, stp_iastore, stp_bastore, stp_aaload, stp_aastore, stp_invokevirtual, stp_invokestatic, stp_ireturn, stp_lreturn, stp_return_, lg, lset, okl, spl, wd, c1, cnd, tg, swT, swL, f4_0, f4_1, f4_2, f4_3, f2_0, f2_1, List.mem_cons, List.not_mem_nil, List.length_cons, List.length_nil, List.cons_append, List.nil_append, Nat.reduceAdd, Nat.reduceMul, Nat.reduceLT, Nat.reduceEqDiff, Nat.reduceLeDiff, Int.reduceAdd, Int.reduceNeg, Int.reduceToNat, Int.cast_ofNat_Int, Int.reduceNatCast, Int.toNat_zero, Int.toNat_one, Int.reduceLE, Int.reduceLT, Int.reduceEq, Int.zero_add, Int.add_zero, or_false, false_or, or_true, true_or, and_true, true_and, and_false, false_and, reduceIte, not_true_eq_false, not_false_eq_true, forall_const, false_implies, true_implies, implies_true, ne_eq, reduceCtorEq, List.all_cons, List.all_nil, Bool.and_true, Bool.and_self, decide_eq_true_eq, decide_true, dX6_findOdds_0, dX6_findOdds_1, dX6_findOdds_2, dX6_findOdds_5, dX6_findOdds_6, dX6_findOdds_7, dX6_findOdds_10, dX6_findOdds_11, dX6_findOdds_12, dX6_findOdds_15, dX6_findOdds_16, dX6_findOdds_18, dX6_findOdds_20, dX6_findOdds_21, dX6_findOdds_24, dX6_findOdds_25, dX6_findOdds_26, dX6_findOdds_29, dX6_findOdds_32, dX6_findOdds_33, dX6_findOdds_36, dX6_findOdds_39, dX6_findOdds_42, dX6_findOdds_43, dX6_findOdds_45, dX6_findOdds_47, dX6_findOdds_48, dX6_findOdds_49, dX6_findOdds_50, dX6_findOdds_53, dX6_findOdds_54, dX6_findOdds_56, dX6_findOdds_57, dX6_findOdds_60, dX6_findOdds_61, dX6_findOdds_63, dX6_findOdds_65, dX6_findOdds_66, dX6_findOdds_69, dX6_findOdds_71, dX6_findOdds_73, dX6_findOdds_74, dX6_findOdds_75, dX6_findOdds_76, dX6_findOdds_77, dX6_findOdds_80, dX6_findOdds_81, dX6_findOdds_84, dX6_findOdds_85, dX6_findOdds_87, dX6_findOdds_89, dX6_findOdds_91, dX6_findOdds_94, dX6_findOdds_95, dX6_findOdds_96, dX6_findOdds_99, dX6_findOdds_101, dX6_findOdds_102, dX6_findOdds_103, dX6_findOdds_104, dX6_findOdds_105, dX6_findOdds_107, dX6_findOdds_108, dX6_findOdds_110, dX6_findOdds_113, dX6_findOdds_116, dX6_findOdds_119, dX6_findOdds_120, dX6_findOdds_121, dX6_findOdds_124, dX6_findOdds_125, dX6_findOdds_127, dX6_findOdds_130, dX6_findOdds_131, dX6_findOdds_132, dX6_findOdds_133, dX6_findOdds_136, dX6_findOdds_138, dX6_findOdds_141, dX6_findOdds_143, dX6_findOdds_146, dX6_findOdds_147, dX6_findOdds_148, dX6_findOdds_151, dX6_findOdds_152, dX6_findOdds_153, dX6_findOdds_156, dX6_findOdds_158, dX6_findOdds_159, dX6_findOdds_162, dX6_findOdds_163, dX6_findOdds_164, dX6_findOdds_165, dX6_findOdds_168, dX6_findOdds_171, dX6_findOdds_174, FX6_238, FX6_242, FX6_245, CX6_248, FX6_132, G_X6_findOdds_174, G_X6_findOdds_170, G_X6_findOdds_145, kd_66, e22]
    repeat' (first | exact trivial | omega | (with_reducible assumption) | exact absurd trivial (by with_reducible assumption) | contradiction | apply And.intro | intro _)
set_option maxRecDepth 20000 in
set_option maxHeartbeats 4000000 in
theorem lp_odds3 (V : Nat → List (Option AV) → List AV → Mem → Prop) (K : List AV → Mem → Prop) (hV : Clos FX6 CX6 G_X6_findOdds 0 K cX6_findOdds V) (μ : Mem) (hQ : MOK μ) (v i q : Int) (hv : 0 ≤ v ∧ v ≤ 10) (e : Nat) (he : e ≤ 8) (F : Nat) (hF : F < 1024) (hK : ∀ ν, MGR (bt F) (stM μ) ν e → ∀ x : Option AV, V 119 [some (.inr (.inr 66)), some (.inl v), some (.inl i), some (.inl (e : Int)), some (.inl q), some (.inl (F : Int)), some (.inr (.inl (chW v F e))), none, some (.inl (e : Int)), x] [] ν) : ∀ m n : Nat, n + m = e → ∀ ν, MGR (bt F) (stM μ) ν n → ∀ x : Option AV, V 63 [some (.inr (.inr 66)), some (.inl v), some (.inl i), some (.inl (e : Int)), some (.inl q), some (.inl (F : Int)), some (.inr (.inl (chW v F n))), none, some (.inl (n : Int)), x] [] ν := by
  intro m
  induction m with
  | zero =>
    intro n hn ν hG x
    have en : n = e := by omega
    subst en
    have hk := hK ν hG x
    apply hV [63, 69, 119] 10
    simp only [InR, InL, inb, Int.toNat_natCast, wp1, wpc_z, wpc_s, stp_iconst, stp_bipush, stp_sipush, stp_lconst, stp_iload_n, stp_iload, stp_lload_n, stp_lload, stp_aload_n, stp_aload, stp_istore_n, stp_istore, stp_lstore_n, stp_lstore, stp_astore_n, stp_astore, stp_iinc, stp_iadd, stp_isub, stp_imul, stp_ineg, stp_idiv, stp_irem, stp_ladd, stp_lmul, stp_ldiv, stp_lrem, stp_ishl, stp_ishr, stp_iushr, stp_iand, stp_ior, stp_i2l, stp_i2b, stp_i2s, stp_lcmp, stp_dup, stp_dup2, stp_pop, stp_ifCond, stp_if_icmp, stp_goto, stp_tableswitch, stp_lookupswitch, stp_ldc, stp_ldc_w, stp_ldc2_w, stp_getstatic, stp_getfield, stp_putfield, stp_iaload, stp_baload, stp_iastore, stp_bastore, stp_aaload, stp_aastore, stp_invokevirtual, stp_invokestatic, stp_ireturn, stp_lreturn, stp_return_, lg, lset, okl, spl, wd, c1, cnd, tg, swT, swL, f4_0, f4_1, f4_2, f4_3, f2_0, f2_1, List.mem_cons, List.not_mem_nil, List.length_cons, List.length_nil, List.cons_append, List.nil_append, Nat.reduceAdd, Nat.reduceMul, Nat.reduceLT, Nat.reduceEqDiff, Nat.reduceLeDiff, Int.reduceAdd, Int.reduceNeg, Int.reduceToNat, Int.cast_ofNat_Int, Int.reduceNatCast, Int.toNat_zero, Int.toNat_one, Int.reduceLE, Int.reduceLT, Int.reduceEq, Int.zero_add, Int.add_zero, or_false, false_or, or_true, true_or, and_true, true_and, and_false, false_and, reduceIte, not_true_eq_false, not_false_eq_true, forall_const, false_implies, true_implies, implies_true, ne_eq, reduceCtorEq, List.all_cons, List.all_nil, Bool.and_true, Bool.and_self, decide_eq_true_eq, decide_true, dX6_findOdds_0, dX6_findOdds_1, dX6_findOdds_2, dX6_findOdds_5, dX6_findOdds_6, dX6_findOdds_7, dX6_findOdds_10, dX6_findOdds_11, dX6_findOdds_12, dX6_findOdds_15, dX6_findOdds_16, dX6_findOdds_18, dX6_findOdds_20, dX6_findOdds_21, dX6_findOdds_24, dX6_findOdds_25, dX6_findOdds_26, dX6_findOdds_29, dX6_findOdds_32, dX6_findOdds_33, dX6_findOdds_36, dX6_findOdds_39, dX6_findOdds_42, dX6_findOdds_43, dX6_findOdds_45, dX6_findOdds_47, dX6_findOdds_48, dX6_findOdds_49, dX6_findOdds_50, dX6_findOdds_53, dX6_findOdds_54, dX6_findOdds_56, dX6_findOdds_57, dX6_findOdds_60, dX6_findOdds_61, dX6_findOdds_63, dX6_findOdds_65, dX6_findOdds_66, dX6_findOdds_69, dX6_findOdds_71, dX6_findOdds_73, dX6_findOdds_74, dX6_findOdds_75, dX6_findOdds_76, dX6_findOdds_77, dX6_findOdds_80, dX6_findOdds_81, dX6_findOdds_84, dX6_findOdds_85, dX6_findOdds_87, dX6_findOdds_89, dX6_findOdds_91, dX6_findOdds_94, dX6_findOdds_95, dX6_findOdds_96, dX6_findOdds_99, dX6_findOdds_101, dX6_findOdds_102, dX6_findOdds_103, dX6_findOdds_104, dX6_findOdds_105, dX6_findOdds_107, dX6_findOdds_108, dX6_findOdds_110, dX6_findOdds_113, dX6_findOdds_116, dX6_findOdds_119, dX6_findOdds_120, dX6_findOdds_121, dX6_findOdds_124, dX6_findOdds_125, dX6_findOdds_127, dX6_findOdds_130, dX6_findOdds_131, dX6_findOdds_132, dX6_findOdds_133, dX6_findOdds_136, dX6_findOdds_138, dX6_findOdds_141, dX6_findOdds_143, dX6_findOdds_146, dX6_findOdds_147, dX6_findOdds_148, dX6_findOdds_151, dX6_findOdds_152, dX6_findOdds_153, dX6_findOdds_156, dX6_findOdds_158, dX6_findOdds_159, dX6_findOdds_162, dX6_findOdds_163, dX6_findOdds_164, dX6_findOdds_165, dX6_findOdds_168, dX6_findOdds_171, dX6_findOdds_174, FX6_238, FX6_242, FX6_245, CX6_248, FX6_132, G_X6_findOdds_174, G_X6_findOdds_170, G_X6_findOdds_145, kd_66]
    repeat' (first | exact trivial | omega | (with_reducible assumption) | exact absurd trivial (by with_reducible assumption) | contradiction | apply And.intro | intro _)
  | succ m ih =>
    intro n hn ν hG x
    obtain ⟨p1, p2, p3, p4, p5, p6, p7⟩ := mpreP (bt_congr F) hQ (by omega) hG
    simp only [InR] at p5
    have eb : (F : Int) / 2 ^ n % 2 = bF F n := rfl
    have em := bm_id (a := (F : Int)) ⟨by omega, by omega⟩
    rcases bF_in F n with z | z
    · have key := fun ρ hρ => ih (n + 1) (by omega) ρ (mstepP (b := 0) hQ hG (by show decide (bF F n = 0) = _; rw [z]) hρ) (some (.inl 0))
      rw [show ((n + 1 : Nat) : Int) = (n : Int) + 1 by omega] at key
      simp only [chW, z, Int.reduceEq, if_false] at key
      rw [z] at eb
      apply hV [63, 119] 40
      simp only [InR, InL, inb, Int.toNat_natCast, wp1, wpc_z, wpc_s, stp_iconst, stp_bipush, stp_sipush, stp_lconst, stp_iload_n, stp_iload, stp_lload_n, stp_lload, stp_aload_n, stp_aload, stp_istore_n, stp_istore, stp_lstore_n, stp_lstore, stp_astore_n, stp_astore, stp_iinc, stp_iadd, stp_isub, stp_imul, stp_ineg, stp_idiv, stp_irem, stp_ladd, stp_lmul, stp_ldiv, stp_lrem, stp_ishl, stp_ishr, stp_iushr, stp_iand, stp_ior, stp_i2l, stp_i2b, stp_i2s, stp_lcmp, stp_dup, stp_dup2, stp_pop, stp_ifCond, stp_if_icmp, stp_goto, stp_tableswitch, stp_lookupswitch, stp_ldc, stp_ldc_w, stp_ldc2_w, stp_getstatic, stp_getfield, stp_putfield, stp_iaload, stp_baload, stp_iastore, stp_bastore, stp_aaload, stp_aastore, stp_invokevirtual, stp_invokestatic, stp_ireturn, stp_lreturn, stp_return_, lg, lset, okl, spl, wd, c1, cnd, tg, swT, swL, f4_0, f4_1, f4_2, f4_3, f2_0, f2_1, List.mem_cons, List.not_mem_nil, List.length_cons, List.length_nil, List.cons_append, List.nil_append, Nat.reduceAdd, Nat.reduceMul, Nat.reduceLT, Nat.reduceEqDiff, Nat.reduceLeDiff, Int.reduceAdd, Int.reduceNeg, Int.reduceToNat, Int.cast_ofNat_Int, Int.reduceNatCast, Int.toNat_zero, Int.toNat_one, Int.reduceLE, Int.reduceLT, Int.reduceEq, Int.zero_add, Int.add_zero, or_false, false_or, or_true, true_or, and_true, true_and, and_false, false_and, reduceIte, not_true_eq_false, not_false_eq_true, forall_const, false_implies, true_implies, implies_true, ne_eq, reduceCtorEq, List.all_cons, List.all_nil, Bool.and_true, Bool.and_self, decide_eq_true_eq, decide_true, dX6_findOdds_0, dX6_findOdds_1, dX6_findOdds_2, dX6_findOdds_5, dX6_findOdds_6, dX6_findOdds_7, dX6_findOdds_10, dX6_findOdds_11, dX6_findOdds_12, dX6_findOdds_15, dX6_findOdds_16, dX6_findOdds_18, dX6_findOdds_20, dX6_findOdds_21, dX6_findOdds_24, dX6_findOdds_25, dX6_findOdds_26, dX6_findOdds_29, dX6_findOdds_32, dX6_findOdds_33, dX6_findOdds_36, dX6_findOdds_39, dX6_findOdds_42, dX6_findOdds_43, dX6_findOdds_45, dX6_findOdds_47, dX6_findOdds_48, dX6_findOdds_49, dX6_findOdds_50, dX6_findOdds_53, dX6_findOdds_54, dX6_findOdds_56, dX6_findOdds_57, dX6_findOdds_60, dX6_findOdds_61, dX6_findOdds_63, dX6_findOdds_65, dX6_findOdds_66, dX6_findOdds_69, dX6_findOdds_71, dX6_findOdds_73, dX6_findOdds_74, dX6_findOdds_75, dX6_findOdds_76, dX6_findOdds_77, dX6_findOdds_80, dX6_findOdds_81, dX6_findOdds_84, dX6_findOdds_85, dX6_findOdds_87, dX6_findOdds_89, dX6_findOdds_91, dX6_findOdds_94, dX6_findOdds_95, dX6_findOdds_96, dX6_findOdds_99, dX6_findOdds_101, dX6_findOdds_102, dX6_findOdds_103, dX6_findOdds_104, dX6_findOdds_105, dX6_findOdds_107, dX6_findOdds_108, dX6_findOdds_110, dX6_findOdds_113, dX6_findOdds_116, dX6_findOdds_119, dX6_findOdds_120, dX6_findOdds_121, dX6_findOdds_124, dX6_findOdds_125, dX6_findOdds_127, dX6_findOdds_130, dX6_findOdds_131, dX6_findOdds_132, dX6_findOdds_133, dX6_findOdds_136, dX6_findOdds_138, dX6_findOdds_141, dX6_findOdds_143, dX6_findOdds_146, dX6_findOdds_147, dX6_findOdds_148, dX6_findOdds_151, dX6_findOdds_152, dX6_findOdds_153, dX6_findOdds_156, dX6_findOdds_158, dX6_findOdds_159, dX6_findOdds_162, dX6_findOdds_163, dX6_findOdds_164, dX6_findOdds_165, dX6_findOdds_168, dX6_findOdds_171, dX6_findOdds_174, FX6_238, FX6_242, FX6_245, CX6_248, FX6_132, G_X6_findOdds_174, G_X6_findOdds_170, G_X6_findOdds_145, kd_66, em, eb, T6_visitGoes]
      clear eb em
      simp only [true_and, ne_eq] at key
      repeat' (first | exact trivial | omega | (with_reducible assumption) | exact absurd trivial (by with_reducible assumption) | contradiction | apply And.intro | intro _)
      all_goals exact key _ (by assumption)
    · have key := fun ρ hρ => ih (n + 1) (by omega) ρ (mstepP (b := 1) hQ hG (by show decide (bF F n = 0) = _; rw [z]) hρ) (some (.inl 1))
      rw [show ((n + 1 : Nat) : Int) = (n : Int) + 1 by omega] at key
      simp only [chW, z, if_true] at key
      rw [z] at eb
      apply hV [63, 119] 40
      simp only [InR, InL, inb, Int.toNat_natCast, wp1, wpc_z, wpc_s, stp_iconst, stp_bipush, stp_sipush, stp_lconst, stp_iload_n, stp_iload, stp_lload_n, stp_lload, stp_aload_n, stp_aload, stp_istore_n, stp_istore, stp_lstore_n, stp_lstore, stp_astore_n, stp_astore, stp_iinc, stp_iadd, stp_isub, stp_imul, stp_ineg, stp_idiv, stp_irem, stp_ladd, stp_lmul, stp_ldiv, stp_lrem, stp_ishl, stp_ishr, stp_iushr, stp_iand, stp_ior, stp_i2l, stp_i2b, stp_i2s, stp_lcmp, stp_dup, stp_dup2, stp_pop, stp_ifCond, stp_if_icmp, stp_goto, stp_tableswitch, stp_lookupswitch, stp_ldc, stp_ldc_w, stp_ldc2_w, stp_getstatic, stp_getfield, stp_putfield, stp_iaload, stp_baload, stp_iastore, stp_bastore, stp_aaload, stp_aastore, stp_invokevirtual, stp_invokestatic, stp_ireturn, stp_lreturn, stp_return_, lg, lset, okl, spl, wd, c1, cnd, tg, swT, swL, f4_0, f4_1, f4_2, f4_3, f2_0, f2_1, List.mem_cons, List.not_mem_nil, List.length_cons, List.length_nil, List.cons_append, List.nil_append, Nat.reduceAdd, Nat.reduceMul, Nat.reduceLT, Nat.reduceEqDiff, Nat.reduceLeDiff, Int.reduceAdd, Int.reduceNeg, Int.reduceToNat, Int.cast_ofNat_Int, Int.reduceNatCast, Int.toNat_zero, Int.toNat_one, Int.reduceLE, Int.reduceLT, Int.reduceEq, Int.zero_add, Int.add_zero, or_false, false_or, or_true, true_or, and_true, true_and, and_false, false_and, reduceIte, not_true_eq_false, not_false_eq_true, forall_const, false_implies, true_implies, implies_true, ne_eq, reduceCtorEq, List.all_cons, List.all_nil, Bool.and_true, Bool.and_self, decide_eq_true_eq, decide_true, dX6_findOdds_0, dX6_findOdds_1, dX6_findOdds_2, dX6_findOdds_5, dX6_findOdds_6, dX6_findOdds_7, dX6_findOdds_10, dX6_findOdds_11, dX6_findOdds_12, dX6_findOdds_15, dX6_findOdds_16, dX6_findOdds_18, dX6_findOdds_20, dX6_findOdds_21, dX6_findOdds_24, dX6_findOdds_25, dX6_findOdds_26, dX6_findOdds_29, dX6_findOdds_32, dX6_findOdds_33, dX6_findOdds_36, dX6_findOdds_39, dX6_findOdds_42, dX6_findOdds_43, dX6_findOdds_45, dX6_findOdds_47, dX6_findOdds_48, dX6_findOdds_49, dX6_findOdds_50, dX6_findOdds_53, dX6_findOdds_54, dX6_findOdds_56, dX6_findOdds_57, dX6_findOdds_60, dX6_findOdds_61, dX6_findOdds_63, dX6_findOdds_65, dX6_findOdds_66, dX6_findOdds_69, dX6_findOdds_71, dX6_findOdds_73, dX6_findOdds_74, dX6_findOdds_75, dX6_findOdds_76, dX6_findOdds_77, dX6_findOdds_80, dX6_findOdds_81, dX6_findOdds_84, dX6_findOdds_85, dX6_findOdds_87, dX6_findOdds_89, dX6_findOdds_91, dX6_findOdds_94, dX6_findOdds_95, dX6_findOdds_96, dX6_findOdds_99, dX6_findOdds_101, dX6_findOdds_102, dX6_findOdds_103, dX6_findOdds_104, dX6_findOdds_105, dX6_findOdds_107, dX6_findOdds_108, dX6_findOdds_110, dX6_findOdds_113, dX6_findOdds_116, dX6_findOdds_119, dX6_findOdds_120, dX6_findOdds_121, dX6_findOdds_124, dX6_findOdds_125, dX6_findOdds_127, dX6_findOdds_130, dX6_findOdds_131, dX6_findOdds_132, dX6_findOdds_133, dX6_findOdds_136, dX6_findOdds_138, dX6_findOdds_141, dX6_findOdds_143, dX6_findOdds_146, dX6_findOdds_147, dX6_findOdds_148, dX6_findOdds_151, dX6_findOdds_152, dX6_findOdds_153, dX6_findOdds_156, dX6_findOdds_158, dX6_findOdds_159, dX6_findOdds_162, dX6_findOdds_163, dX6_findOdds_164, dX6_findOdds_165, dX6_findOdds_168, dX6_findOdds_171, dX6_findOdds_174, FX6_238, FX6_242, FX6_245, CX6_248, FX6_132, G_X6_findOdds_174, G_X6_findOdds_170, G_X6_findOdds_145, kd_66, em, eb, T6_visitGoes]
      clear eb em
      simp only [Int.reduceEq, false_and, decide_false] at key ⊢
      repeat' (first | exact trivial | omega | (with_reducible assumption) | exact absurd trivial (by with_reducible assumption) | contradiction | apply And.intro | intro _)
      all_goals exact key _ (by assumption)
set_option maxRecDepth 20000 in
set_option maxHeartbeats 4000000 in
theorem lp_odds2 (V : Nat → List (Option AV) → List AV → Mem → Prop) (K : List AV → Mem → Prop) (hV : Clos FX6 CX6 G_X6_findOdds 0 K cX6_findOdds V) (μ : Mem) (hQ : MOK μ) (v i q : Int) (hv : 0 ≤ v ∧ v ≤ 10) (hq : 0 ≤ q ∧ q ≤ 99) (hi : i = -4 ∨ (0 ≤ i ∧ i < rI μ 67 35)) (e : Nat) (he : e ≤ 8) (N : Nat) (hN : 2 ^ e = N) (hK : ∀ ν, FO μ ν v i q e N → K [] ν) : ∀ m F : Nat, F + m = N → ∀ ν, FO μ ν v i q e F → ∀ x y z : Option AV, V 45 [some (.inr (.inr 66)), some (.inl v), some (.inl i), some (.inl (e : Int)), some (.inl q), some (.inl (F : Int)), x, none, y, z] [] ν := by
  have hN2 : N ≤ 256 := by rw [← hN]; exact p2_in e he
  have hp : (2 : Int) ^ e = (N : Int) := by rw [p2_c, hN]
  have hW := hQ.1
  have h35 := hW.1
  intro m
  induction m with
  | zero =>
    intro F hF ν hO x y z
    have en : F = N := by omega
    subst en
    have hk := hK ν hO
    apply hV [45, 53] 20
    simp only [InR, InL, inb, Int.toNat_natCast, wp1, wpc_z, wpc_s, stp_iconst, stp_bipush, stp_sipush, stp_lconst, stp_iload_n, stp_iload, stp_lload_n, stp_lload, stp_aload_n, stp_aload, stp_istore_n, stp_istore, stp_lstore_n, stp_lstore, stp_astore_n, stp_astore, stp_iinc, stp_iadd, stp_isub, stp_imul, stp_ineg, stp_idiv, stp_irem, stp_ladd, stp_lmul, stp_ldiv, stp_lrem, stp_ishl, stp_ishr, stp_iushr, stp_iand, stp_ior, stp_i2l, stp_i2b, stp_i2s, stp_lcmp, stp_dup, stp_dup2, stp_pop, stp_ifCond, stp_if_icmp, stp_goto, stp_tableswitch, stp_lookupswitch, stp_ldc, stp_ldc_w, stp_ldc2_w, stp_getstatic, stp_getfield, stp_putfield, stp_iaload, stp_baload, stp_iastore, stp_bastore, stp_aaload, stp_aastore, stp_invokevirtual, stp_invokestatic, stp_ireturn, stp_lreturn, stp_return_, lg, lset, okl, spl, wd, c1, cnd, tg, swT, swL, f4_0, f4_1, f4_2, f4_3, f2_0, f2_1, List.mem_cons, List.not_mem_nil, List.length_cons, List.length_nil, List.cons_append, List.nil_append, Nat.reduceAdd, Nat.reduceMul, Nat.reduceLT, Nat.reduceEqDiff, Nat.reduceLeDiff, Int.reduceAdd, Int.reduceNeg, Int.reduceToNat, Int.cast_ofNat_Int, Int.reduceNatCast, Int.toNat_zero, Int.toNat_one, Int.reduceLE, Int.reduceLT, Int.reduceEq, Int.zero_add, Int.add_zero, or_false, false_or, or_true, true_or, and_true, true_and, and_false, false_and, reduceIte, not_true_eq_false, not_false_eq_true, forall_const, false_implies, true_implies, implies_true, ne_eq, reduceCtorEq, List.all_cons, List.all_nil, Bool.and_true, Bool.and_self, decide_eq_true_eq, decide_true, dX6_findOdds_0, dX6_findOdds_1, dX6_findOdds_2, dX6_findOdds_5, dX6_findOdds_6, dX6_findOdds_7, dX6_findOdds_10, dX6_findOdds_11, dX6_findOdds_12, dX6_findOdds_15, dX6_findOdds_16, dX6_findOdds_18, dX6_findOdds_20, dX6_findOdds_21, dX6_findOdds_24, dX6_findOdds_25, dX6_findOdds_26, dX6_findOdds_29, dX6_findOdds_32, dX6_findOdds_33, dX6_findOdds_36, dX6_findOdds_39, dX6_findOdds_42, dX6_findOdds_43, dX6_findOdds_45, dX6_findOdds_47, dX6_findOdds_48, dX6_findOdds_49, dX6_findOdds_50, dX6_findOdds_53, dX6_findOdds_54, dX6_findOdds_56, dX6_findOdds_57, dX6_findOdds_60, dX6_findOdds_61, dX6_findOdds_63, dX6_findOdds_65, dX6_findOdds_66, dX6_findOdds_69, dX6_findOdds_71, dX6_findOdds_73, dX6_findOdds_74, dX6_findOdds_75, dX6_findOdds_76, dX6_findOdds_77, dX6_findOdds_80, dX6_findOdds_81, dX6_findOdds_84, dX6_findOdds_85, dX6_findOdds_87, dX6_findOdds_89, dX6_findOdds_91, dX6_findOdds_94, dX6_findOdds_95, dX6_findOdds_96, dX6_findOdds_99, dX6_findOdds_101, dX6_findOdds_102, dX6_findOdds_103, dX6_findOdds_104, dX6_findOdds_105, dX6_findOdds_107, dX6_findOdds_108, dX6_findOdds_110, dX6_findOdds_113, dX6_findOdds_116, dX6_findOdds_119, dX6_findOdds_120, dX6_findOdds_121, dX6_findOdds_124, dX6_findOdds_125, dX6_findOdds_127, dX6_findOdds_130, dX6_findOdds_131, dX6_findOdds_132, dX6_findOdds_133, dX6_findOdds_136, dX6_findOdds_138, dX6_findOdds_141, dX6_findOdds_143, dX6_findOdds_146, dX6_findOdds_147, dX6_findOdds_148, dX6_findOdds_151, dX6_findOdds_152, dX6_findOdds_153, dX6_findOdds_156, dX6_findOdds_158, dX6_findOdds_159, dX6_findOdds_162, dX6_findOdds_163, dX6_findOdds_164, dX6_findOdds_165, dX6_findOdds_168, dX6_findOdds_171, dX6_findOdds_174, FX6_238, FX6_242, FX6_245, CX6_248, FX6_132, G_X6_findOdds_174, G_X6_findOdds_170, G_X6_findOdds_145, kd_66, hp, Int.one_mul]
    repeat' (first | exact trivial | omega | (with_reducible assumption) | exact absurd trivial (by with_reducible assumption) | contradiction | apply And.intro | intro _)
  | succ m ih =>
    intro F hF ν hO x y z
    obtain ⟨o1, o2, o3, o4⟩ := hO
    have hQ2 := o1.mq hQ
    have e67 : rI ν 67 = rI μ 67 := funext (fun j => o1.1 67 (by omega) (by omega) (by omega) (by omega) (by omega) j)
    have h3 := lp_odds3 V K hV ν hQ2 v i q hv e he F (by omega) (fun ρ hρ x' => by
      obtain ⟨n1, n2⟩ := mnowP (bt_congr F) hQ2 hρ
      obtain ⟨p1, p2, p3, p4, p5, p6, p7⟩ := mpreP (bt_congr F) hQ2 (by omega) hρ
      rw [e67] at n1 n2
      have hs := (sum_in (p := bt F) hW e).1
      have a8 := hρ.2.2.2.2.2.2.2.1
      have r20 : rI ρ 66 20 = lkX (rI μ 67) v i q e F := by rw [a8 20 (by omega) (by omega) (by omega), st_66]; simp [o2]
      have r21 : rI ρ 66 21 = mnS (rI μ 67) v e F := by rw [a8 21 (by omega) (by omega) (by omega), st_66]; simp [o3]
      have r22 : rI ρ 66 22 = pw e := by rw [a8 22 (by omega) (by omega) (by omega), st_66]; simp [o4]
      have key : ∀ t : Int, t = (if i ≠ -4 ∧ nx (bt F) (rI μ 67) e (7 * i.toNat + 1) ≤ q then chW v F e else 0) → V 45 [some (.inr (.inr 66)), some (.inl v), some (.inl i), some (.inl (e : Int)), some (.inl q), some (.inl ((F : Int) + 1)), some (.inr (.inl (chW v F e))), none, some (.inl (e : Int)), x'] [] (wI (wI ρ 66 20 (lkX (rI μ 67) v i q e F + t)) 66 21 (mnS (rI μ 67) v e F + chW v F e * sS (bt F) (rI μ 67) e)) := by
        intro t ht
        have h := ih (F + 1) (by omega) (wI (wI ρ 66 20 (lkX (rI μ 67) v i q e F + t)) 66 21 (mnS (rI μ 67) v e F + chW v F e * sS (bt F) (rI μ 67) e)) ⟨by
            refine (o1.tr p6).tr ⟨fun k a b c d f j => by rw [rI_wI, if_neg (fun z => a z.1), rI_wI, if_neg (fun z => a z.1)], fun j hj => by rw [rI_wI, if_neg (by omega), rI_wI, if_neg (by omega)], fun _ _ => rfl⟩, by rw [rI_wI, if_neg (by omega), rI_wI, if_pos ⟨rfl, rfl⟩, ht]; rfl, by rw [rI_wI, if_pos ⟨rfl, rfl⟩]; rfl, by rw [rI_wI, if_neg (by omega), rI_wI, if_neg (by omega), r22]⟩ (some (.inr (.inl (chW v F e)))) (some (.inl (e : Int))) x'
        rw [show ((F + 1 : Nat) : Int) = (F : Int) + 1 by omega] at h
        exact h
      rcases hi with rfl | hi
      · have key := key 0 (by simp)
        rw [Int.add_zero] at key
        apply hV [45] 60
        simp only [InR, InL, inb, Int.toNat_natCast, wp1, wpc_z, wpc_s, stp_iconst, stp_bipush, stp_sipush, stp_lconst, stp_iload_n, stp_iload, stp_lload_n, stp_lload, stp_aload_n, stp_aload, stp_istore_n, stp_istore, stp_lstore_n, stp_lstore, stp_astore_n, stp_astore, stp_iinc, stp_iadd, stp_isub, stp_imul, stp_ineg, stp_idiv, stp_irem, stp_ladd, stp_lmul, stp_ldiv, stp_lrem, stp_ishl, stp_ishr, stp_iushr, stp_iand, stp_ior, stp_i2l, stp_i2b, stp_i2s, stp_lcmp, stp_dup, stp_dup2, stp_pop, stp_ifCond, stp_if_icmp, stp_goto, stp_tableswitch, stp_lookupswitch, stp_ldc, stp_ldc_w, stp_ldc2_w, stp_getstatic, stp_getfield, stp_putfield, stp_iaload, stp_baload, stp_iastore, stp_bastore, stp_aaload, stp_aastore, stp_invokevirtual, stp_invokestatic, stp_ireturn, stp_lreturn, stp_return_, lg, lset, okl, spl, wd, c1, cnd, tg, swT, swL, f4_0, f4_1, f4_2, f4_3, f2_0, f2_1, List.mem_cons, List.not_mem_nil, List.length_cons, List.length_nil, List.cons_append, List.nil_append, Nat.reduceAdd, Nat.reduceMul, Nat.reduceLT, Nat.reduceEqDiff, Nat.reduceLeDiff, Int.reduceAdd, Int.reduceNeg, Int.reduceToNat, Int.cast_ofNat_Int, Int.reduceNatCast, Int.toNat_zero, Int.toNat_one, Int.reduceLE, Int.reduceLT, Int.reduceEq, Int.zero_add, Int.add_zero, or_false, false_or, or_true, true_or, and_true, true_and, and_false, false_and, reduceIte, not_true_eq_false, not_false_eq_true, forall_const, false_implies, true_implies, implies_true, ne_eq, reduceCtorEq, List.all_cons, List.all_nil, Bool.and_true, Bool.and_self, decide_eq_true_eq, decide_true, dX6_findOdds_0, dX6_findOdds_1, dX6_findOdds_2, dX6_findOdds_5, dX6_findOdds_6, dX6_findOdds_7, dX6_findOdds_10, dX6_findOdds_11, dX6_findOdds_12, dX6_findOdds_15, dX6_findOdds_16, dX6_findOdds_18, dX6_findOdds_20, dX6_findOdds_21, dX6_findOdds_24, dX6_findOdds_25, dX6_findOdds_26, dX6_findOdds_29, dX6_findOdds_32, dX6_findOdds_33, dX6_findOdds_36, dX6_findOdds_39, dX6_findOdds_42, dX6_findOdds_43, dX6_findOdds_45, dX6_findOdds_47, dX6_findOdds_48, dX6_findOdds_49, dX6_findOdds_50, dX6_findOdds_53, dX6_findOdds_54, dX6_findOdds_56, dX6_findOdds_57, dX6_findOdds_60, dX6_findOdds_61, dX6_findOdds_63, dX6_findOdds_65, dX6_findOdds_66, dX6_findOdds_69, dX6_findOdds_71, dX6_findOdds_73, dX6_findOdds_74, dX6_findOdds_75, dX6_findOdds_76, dX6_findOdds_77, dX6_findOdds_80, dX6_findOdds_81, dX6_findOdds_84, dX6_findOdds_85, dX6_findOdds_87, dX6_findOdds_89, dX6_findOdds_91, dX6_findOdds_94, dX6_findOdds_95, dX6_findOdds_96, dX6_findOdds_99, dX6_findOdds_101, dX6_findOdds_102, dX6_findOdds_103, dX6_findOdds_104, dX6_findOdds_105, dX6_findOdds_107, dX6_findOdds_108, dX6_findOdds_110, dX6_findOdds_113, dX6_findOdds_116, dX6_findOdds_119, dX6_findOdds_120, dX6_findOdds_121, dX6_findOdds_124, dX6_findOdds_125, dX6_findOdds_127, dX6_findOdds_130, dX6_findOdds_131, dX6_findOdds_132, dX6_findOdds_133, dX6_findOdds_136, dX6_findOdds_138, dX6_findOdds_141, dX6_findOdds_143, dX6_findOdds_146, dX6_findOdds_147, dX6_findOdds_148, dX6_findOdds_151, dX6_findOdds_152, dX6_findOdds_153, dX6_findOdds_156, dX6_findOdds_158, dX6_findOdds_159, dX6_findOdds_162, dX6_findOdds_163, dX6_findOdds_164, dX6_findOdds_165, dX6_findOdds_168, dX6_findOdds_171, dX6_findOdds_174, FX6_238, FX6_242, FX6_245, CX6_248, FX6_132, G_X6_findOdds_174, G_X6_findOdds_170, G_X6_findOdds_145, kd_66, r20, r21, n2, rI_wI, T6_of]
        repeat' (first | exact trivial | omega | (with_reducible assumption) | exact absurd trivial (by with_reducible assumption) | contradiction | apply And.intro | intro _)
      · obtain ⟨i', rfl⟩ := Int.eq_ofNat_of_zero_le hi.1
        rw [Int.toNat_natCast] at key
        have v1 : rI ρ 68 (7 * i' + 1) = nx (bt F) (rI μ 67) e (7 * i' + 1) := n1 _ (by omega)
        obtain ⟨x1, x2, x3⟩ := nx_WF (p := bt F) hW e
        have hqq := (x1.2.2.2 i' (by rw [x3]; omega)).2.1
        apply hV [45] 60
        simp only [InR, InL, inb, Int.toNat_natCast, wp1, wpc_z, wpc_s, stp_iconst, stp_bipush, stp_sipush, stp_lconst, stp_iload_n, stp_iload, stp_lload_n, stp_lload, stp_aload_n, stp_aload, stp_istore_n, stp_istore, stp_lstore_n, stp_lstore, stp_astore_n, stp_astore, stp_iinc, stp_iadd, stp_isub, stp_imul, stp_ineg, stp_idiv, stp_irem, stp_ladd, stp_lmul, stp_ldiv, stp_lrem, stp_ishl, stp_ishr, stp_iushr, stp_iand, stp_ior, stp_i2l, stp_i2b, stp_i2s, stp_lcmp, stp_dup, stp_dup2, stp_pop, stp_ifCond, stp_if_icmp, stp_goto, stp_tableswitch, stp_lookupswitch, stp_ldc, stp_ldc_w, stp_ldc2_w, stp_getstatic, stp_getfield, stp_putfield, stp_iaload, stp_baload, stp_iastore, stp_bastore, stp_aaload, stp_aastore, stp_invokevirtual, stp_invokestatic, stp_ireturn, stp_lreturn, stp_return_, lg, lset, okl, spl, wd, c1, cnd, tg, swT, swL, f4_0, f4_1, f4_2, f4_3, f2_0, f2_1, List.mem_cons, List.not_mem_nil, List.length_cons, List.length_nil, List.cons_append, List.nil_append, Nat.reduceAdd, Nat.reduceMul, Nat.reduceLT, Nat.reduceEqDiff, Nat.reduceLeDiff, Int.reduceAdd, Int.reduceNeg, Int.reduceToNat, Int.cast_ofNat_Int, Int.reduceNatCast, Int.toNat_zero, Int.toNat_one, Int.reduceLE, Int.reduceLT, Int.reduceEq, Int.zero_add, Int.add_zero, or_false, false_or, or_true, true_or, and_true, true_and, and_false, false_and, reduceIte, not_true_eq_false, not_false_eq_true, forall_const, false_implies, true_implies, implies_true, ne_eq, reduceCtorEq, List.all_cons, List.all_nil, Bool.and_true, Bool.and_self, decide_eq_true_eq, decide_true, dX6_findOdds_0, dX6_findOdds_1, dX6_findOdds_2, dX6_findOdds_5, dX6_findOdds_6, dX6_findOdds_7, dX6_findOdds_10, dX6_findOdds_11, dX6_findOdds_12, dX6_findOdds_15, dX6_findOdds_16, dX6_findOdds_18, dX6_findOdds_20, dX6_findOdds_21, dX6_findOdds_24, dX6_findOdds_25, dX6_findOdds_26, dX6_findOdds_29, dX6_findOdds_32, dX6_findOdds_33, dX6_findOdds_36, dX6_findOdds_39, dX6_findOdds_42, dX6_findOdds_43, dX6_findOdds_45, dX6_findOdds_47, dX6_findOdds_48, dX6_findOdds_49, dX6_findOdds_50, dX6_findOdds_53, dX6_findOdds_54, dX6_findOdds_56, dX6_findOdds_57, dX6_findOdds_60, dX6_findOdds_61, dX6_findOdds_63, dX6_findOdds_65, dX6_findOdds_66, dX6_findOdds_69, dX6_findOdds_71, dX6_findOdds_73, dX6_findOdds_74, dX6_findOdds_75, dX6_findOdds_76, dX6_findOdds_77, dX6_findOdds_80, dX6_findOdds_81, dX6_findOdds_84, dX6_findOdds_85, dX6_findOdds_87, dX6_findOdds_89, dX6_findOdds_91, dX6_findOdds_94, dX6_findOdds_95, dX6_findOdds_96, dX6_findOdds_99, dX6_findOdds_101, dX6_findOdds_102, dX6_findOdds_103, dX6_findOdds_104, dX6_findOdds_105, dX6_findOdds_107, dX6_findOdds_108, dX6_findOdds_110, dX6_findOdds_113, dX6_findOdds_116, dX6_findOdds_119, dX6_findOdds_120, dX6_findOdds_121, dX6_findOdds_124, dX6_findOdds_125, dX6_findOdds_127, dX6_findOdds_130, dX6_findOdds_131, dX6_findOdds_132, dX6_findOdds_133, dX6_findOdds_136, dX6_findOdds_138, dX6_findOdds_141, dX6_findOdds_143, dX6_findOdds_146, dX6_findOdds_147, dX6_findOdds_148, dX6_findOdds_151, dX6_findOdds_152, dX6_findOdds_153, dX6_findOdds_156, dX6_findOdds_158, dX6_findOdds_159, dX6_findOdds_162, dX6_findOdds_163, dX6_findOdds_164, dX6_findOdds_165, dX6_findOdds_168, dX6_findOdds_171, dX6_findOdds_174, FX6_238, FX6_242, FX6_245, CX6_248, FX6_132, G_X6_findOdds_174, G_X6_findOdds_170, G_X6_findOdds_145, kd_66, r20, r21, n2, rI_wI, T6_of, tn7_1, v1]
        by_cases y : nx (bt F) (rI μ 67) e (7 * i' + 1) ≤ q
        · have key := key (chW v F e) (by rw [if_pos ⟨by omega, y⟩])
          repeat' (first | exact trivial | omega | (with_reducible assumption) | exact absurd trivial (by with_reducible assumption) | contradiction | apply And.intro | intro _)
        · have key := key 0 (by rw [if_neg (fun z => y z.2)])
          rw [Int.add_zero] at key
          repeat' (first | exact trivial | omega | (with_reducible assumption) | exact absurd trivial (by with_reducible assumption) | contradiction | apply And.intro | intro _)) e 0 (by omega) (stM ν) (MGR.rf (by rw [st_68 ν (by omega)]; exact hQ2.2.2.1.2) (by rw [st_68 ν (by omega)]; exact hQ2.2.2.2.2)) z
    simp only [chW] at h3
    apply hV [45, 63] 30
    simp only [InR, InL, inb, Int.toNat_natCast, wp1, wpc_z, wpc_s, stp_iconst, stp_bipush, stp_sipush, stp_lconst, stp_iload_n, stp_iload, stp_lload_n, stp_lload, stp_aload_n, stp_aload, stp_istore_n, stp_istore, stp_lstore_n, stp_lstore, stp_astore_n, stp_astore, stp_iinc, stp_iadd, stp_isub, stp_imul, stp_ineg, stp_idiv, stp_irem, stp_ladd, stp_lmul, stp_ldiv, stp_lrem, stp_ishl, stp_ishr, stp_iushr, stp_iand, stp_ior, stp_i2l, stp_i2b, stp_i2s, stp_lcmp, stp_dup, stp_dup2, stp_pop, stp_ifCond, stp_if_icmp, stp_goto, stp_tableswitch, stp_lookupswitch, stp_ldc, stp_ldc_w, stp_ldc2_w, stp_getstatic, stp_getfield, stp_putfield, stp_iaload, stp_baload, stp_iastore, stp_bastore, stp_aaload, stp_aastore, stp_invokevirtual, stp_invokestatic, stp_ireturn, stp_lreturn, stp_return_, lg, lset, okl, spl, wd, c1, cnd, tg, swT, swL, f4_0, f4_1, f4_2, f4_3, f2_0, f2_1, List.mem_cons, List.not_mem_nil, List.length_cons, List.length_nil, List.cons_append, List.nil_append, Nat.reduceAdd, Nat.reduceMul, Nat.reduceLT, Nat.reduceEqDiff, Nat.reduceLeDiff, Int.reduceAdd, Int.reduceNeg, Int.reduceToNat, Int.cast_ofNat_Int, Int.reduceNatCast, Int.toNat_zero, Int.toNat_one, Int.reduceLE, Int.reduceLT, Int.reduceEq, Int.zero_add, Int.add_zero, or_false, false_or, or_true, true_or, and_true, true_and, and_false, false_and, reduceIte, not_true_eq_false, not_false_eq_true, forall_const, false_implies, true_implies, implies_true, ne_eq, reduceCtorEq, List.all_cons, List.all_nil, Bool.and_true, Bool.and_self, decide_eq_true_eq, decide_true, dX6_findOdds_0, dX6_findOdds_1, dX6_findOdds_2, dX6_findOdds_5, dX6_findOdds_6, dX6_findOdds_7, dX6_findOdds_10, dX6_findOdds_11, dX6_findOdds_12, dX6_findOdds_15, dX6_findOdds_16, dX6_findOdds_18, dX6_findOdds_20, dX6_findOdds_21, dX6_findOdds_24, dX6_findOdds_25, dX6_findOdds_26, dX6_findOdds_29, dX6_findOdds_32, dX6_findOdds_33, dX6_findOdds_36, dX6_findOdds_39, dX6_findOdds_42, dX6_findOdds_43, dX6_findOdds_45, dX6_findOdds_47, dX6_findOdds_48, dX6_findOdds_49, dX6_findOdds_50, dX6_findOdds_53, dX6_findOdds_54, dX6_findOdds_56, dX6_findOdds_57, dX6_findOdds_60, dX6_findOdds_61, dX6_findOdds_63, dX6_findOdds_65, dX6_findOdds_66, dX6_findOdds_69, dX6_findOdds_71, dX6_findOdds_73, dX6_findOdds_74, dX6_findOdds_75, dX6_findOdds_76, dX6_findOdds_77, dX6_findOdds_80, dX6_findOdds_81, dX6_findOdds_84, dX6_findOdds_85, dX6_findOdds_87, dX6_findOdds_89, dX6_findOdds_91, dX6_findOdds_94, dX6_findOdds_95, dX6_findOdds_96, dX6_findOdds_99, dX6_findOdds_101, dX6_findOdds_102, dX6_findOdds_103, dX6_findOdds_104, dX6_findOdds_105, dX6_findOdds_107, dX6_findOdds_108, dX6_findOdds_110, dX6_findOdds_113, dX6_findOdds_116, dX6_findOdds_119, dX6_findOdds_120, dX6_findOdds_121, dX6_findOdds_124, dX6_findOdds_125, dX6_findOdds_127, dX6_findOdds_130, dX6_findOdds_131, dX6_findOdds_132, dX6_findOdds_133, dX6_findOdds_136, dX6_findOdds_138, dX6_findOdds_141, dX6_findOdds_143, dX6_findOdds_146, dX6_findOdds_147, dX6_findOdds_148, dX6_findOdds_151, dX6_findOdds_152, dX6_findOdds_153, dX6_findOdds_156, dX6_findOdds_158, dX6_findOdds_159, dX6_findOdds_162, dX6_findOdds_163, dX6_findOdds_164, dX6_findOdds_165, dX6_findOdds_168, dX6_findOdds_171, dX6_findOdds_174, FX6_238, FX6_242, FX6_245, CX6_248, FX6_132, G_X6_findOdds_174, G_X6_findOdds_170, G_X6_findOdds_145, kd_66, hp, Int.one_mul, T6_starts]
    repeat' (first | exact trivial | omega | (with_reducible assumption) | exact absurd trivial (by with_reducible assumption) | contradiction | apply And.intro | intro _)
def T6_findOdds : TT := fun a μ K => match a with
  | [.inr (.inr o), .inl v, .inl i, .inl n, .inl q] => o = 66 ∧ ((0 ≤ v ∧ v ≤ 10) ∧ (0 ≤ q ∧ q ≤ 99) ∧ (i = -4 ∨ (0 ≤ i ∧ i < rI μ 67 35)) ∧ (0 ≤ n ∧ n ≤ 8) ∧ MOK μ ∧ ∀ ν, FO μ ν v i q n.toNat (2 ^ n.toNat) → K [] ν)
  | _ => False
theorem rec_X6_findOdds : ∀ a μ K, T6_findOdds a μ K → ∃ k r, a = .inr (.inr k) :: r ∧ kd k = 6 := by
  intro a μ K h
  unfold T6_findOdds at h
  split at h
  · exact ⟨_, _, rfl, by rw [h.1]; rfl⟩
  · exact h.elim
theorem gk_X6_findOdds (l : Launch) : ∀ i n b T, G_X6_findOdds i = some (n, b, T) → CallOK l 4 RX6 i n b T := by
  intro i n b T h
  have hm : (i, n, b, T) ∈ GL_X6_findOdds := lk_mem h
  simp only [GL_X6_findOdds, List.mem_cons, List.not_mem_nil, or_false, Prod.mk.injEq] at hm
  rcases hm with ⟨rfl, rfl, rfl, rfl⟩ | ⟨rfl, rfl, rfl, rfl⟩ | ⟨rfl, rfl, rfl, rfl⟩
  · exact CallOK.V (d := 4) (own := RX6) (i := 174) (n := 0) (ci := 6) (good_X6_starts l) (by decide) (by decide) rfl (by decide) rec_X6_starts (mg 769 (by decide +kernel) (by decide +kernel)) (mg 771 (by decide +kernel) (by decide +kernel)) (mgs 33 (by decide +kernel) (by decide +kernel)) (mg 7 (by decide +kernel) (by decide +kernel)) (mg 772 (by decide +kernel) (by decide +kernel)) (by decide +kernel)
  · exact CallOK.V (d := 4) (own := RX6) (i := 170) (n := 1) (ci := 6) (good_X6_visitGoes l) (by decide) (by decide) rfl (by decide) rec_X6_visitGoes (mg 853 (by decide +kernel) (by decide +kernel)) (mg 855 (by decide +kernel) (by decide +kernel)) (mgs 46 (by decide +kernel) (by decide +kernel)) (mg 7 (by decide +kernel) (by decide +kernel)) (mg 856 (by decide +kernel) (by decide +kernel)) (by decide +kernel)
  · exact CallOK.V (d := 4) (own := RX6) (i := 145) (n := 2) (ci := 6) (good_X6_of l) (by decide) (by decide) rfl (by decide) rec_X6_of (mg 777 (by decide +kernel) (by decide +kernel)) (mg 779 (by decide +kernel) (by decide +kernel)) (mgs 35 (by decide +kernel) (by decide +kernel)) (mg 7 (by decide +kernel) (by decide +kernel)) (mg 780 (by decide +kernel) (by decide +kernel)) (by decide +kernel)
set_option maxRecDepth 20000 in
set_option maxHeartbeats 4000000 in
theorem body_X6_findOdds (o : Nat) (v : Int) (i : Int) (n : Int) (q : Int) (μ : Mem) (K : List AV → Mem → Prop) (V : Nat → List (Option AV) → List AV → Mem → Prop) (hV : Clos FX6 CX6 G_X6_findOdds 0 K cX6_findOdds V) (hT : o = 66 ∧ ((0 ≤ v ∧ v ≤ 10) ∧ (0 ≤ q ∧ q ≤ 99) ∧ (i = -4 ∨ (0 ≤ i ∧ i < rI μ 67 35)) ∧ (0 ≤ n ∧ n ≤ 8) ∧ MOK μ ∧ ∀ ν, FO μ ν v i q n.toNat (2 ^ n.toNat) → K [] ν)) : V 0 [some (.inr (.inr o)), some (.inl v), some (.inl i), some (.inl n), some (.inl q), none, none, none, none, none] [] μ := by
  obtain ⟨rfl, hv, hq, hi, hn, hQ, hK⟩ := hT
  obtain ⟨n', rfl⟩ := Int.eq_ofNat_of_zero_le hn.1
  rw [Int.toNat_natCast] at hK
  have hf : ∀ j : Nat, rI (wI (wI (wI (wI μ 66 20 0) 66 21 0) 66 22 1) 66 22 (pw n')) 66 j = if j = 22 then pw n' else if j = 21 then 0 else if j = 20 then 0 else rI μ 66 j := by
    intro j
    simp only [rI_wI, true_and]
    split
    · rfl
    · rfl
  have hMF : MF μ (wI (wI (wI (wI μ 66 20 0) 66 21 0) 66 22 1) 66 22 (pw n')) := ⟨fun k a b c d f j => by simp [rI_wI, a], fun j hj => by rw [hf, if_neg (by omega), if_neg (by omega), if_neg (by omega)], fun _ _ => rfl⟩
  have h2 := lp_odds2 V K hV μ hQ v i q hv hq hi n' (by omega) _ rfl hK (2 ^ n') 0 (by omega) _ ⟨hMF, by rw [hf]; simp [lkX], by rw [hf]; simp [mnS], by rw [hf]; simp⟩ none none none
  have h1 := lp_odds1 V K hV (wI (wI (wI μ 66 20 0) 66 21 0) 66 22 1) v i q n' (by omega) (by
    apply hV [45] 10
    simp only [InR, InL, inb, Int.toNat_natCast, wp1, wpc_z, wpc_s, stp_iconst, stp_bipush, stp_sipush, stp_lconst, stp_iload_n, stp_iload, stp_lload_n, stp_lload, stp_aload_n, stp_aload, stp_istore_n, stp_istore, stp_lstore_n, stp_lstore, stp_astore_n, stp_astore, stp_iinc, stp_iadd, stp_isub, stp_imul, stp_ineg, stp_idiv, stp_irem, stp_ladd, stp_lmul, stp_ldiv, stp_lrem, stp_ishl, stp_ishr, stp_iushr, stp_iand, stp_ior, stp_i2l, stp_i2b, stp_i2s, stp_lcmp, stp_dup, stp_dup2, stp_pop, stp_ifCond, stp_if_icmp, stp_goto, stp_tableswitch, stp_lookupswitch, stp_ldc, stp_ldc_w, stp_ldc2_w, stp_getstatic, stp_getfield, stp_putfield, stp_iaload, stp_baload, stp_iastore, stp_bastore, stp_aaload, stp_aastore, stp_invokevirtual, stp_invokestatic, stp_ireturn, stp_lreturn, stp_return_, lg, lset, okl, spl, wd, c1, cnd, tg, swT, swL, f4_0, f4_1, f4_2, f4_3, f2_0, f2_1, List.mem_cons, List.not_mem_nil, List.length_cons, List.length_nil, List.cons_append, List.nil_append, Nat.reduceAdd, Nat.reduceMul, Nat.reduceLT, Nat.reduceEqDiff, Nat.reduceLeDiff, Int.reduceAdd, Int.reduceNeg, Int.reduceToNat, Int.cast_ofNat_Int, Int.reduceNatCast, Int.toNat_zero, Int.toNat_one, Int.reduceLE, Int.reduceLT, Int.reduceEq, Int.zero_add, Int.add_zero, or_false, false_or, or_true, true_or, and_true, true_and, and_false, false_and, reduceIte, not_true_eq_false, not_false_eq_true, forall_const, false_implies, true_implies, implies_true, ne_eq, reduceCtorEq, List.all_cons, List.all_nil, Bool.and_true, Bool.and_self, decide_eq_true_eq, decide_true, dX6_findOdds_0, dX6_findOdds_1, dX6_findOdds_2, dX6_findOdds_5, dX6_findOdds_6, dX6_findOdds_7, dX6_findOdds_10, dX6_findOdds_11, dX6_findOdds_12, dX6_findOdds_15, dX6_findOdds_16, dX6_findOdds_18, dX6_findOdds_20, dX6_findOdds_21, dX6_findOdds_24, dX6_findOdds_25, dX6_findOdds_26, dX6_findOdds_29, dX6_findOdds_32, dX6_findOdds_33, dX6_findOdds_36, dX6_findOdds_39, dX6_findOdds_42, dX6_findOdds_43, dX6_findOdds_45, dX6_findOdds_47, dX6_findOdds_48, dX6_findOdds_49, dX6_findOdds_50, dX6_findOdds_53, dX6_findOdds_54, dX6_findOdds_56, dX6_findOdds_57, dX6_findOdds_60, dX6_findOdds_61, dX6_findOdds_63, dX6_findOdds_65, dX6_findOdds_66, dX6_findOdds_69, dX6_findOdds_71, dX6_findOdds_73, dX6_findOdds_74, dX6_findOdds_75, dX6_findOdds_76, dX6_findOdds_77, dX6_findOdds_80, dX6_findOdds_81, dX6_findOdds_84, dX6_findOdds_85, dX6_findOdds_87, dX6_findOdds_89, dX6_findOdds_91, dX6_findOdds_94, dX6_findOdds_95, dX6_findOdds_96, dX6_findOdds_99, dX6_findOdds_101, dX6_findOdds_102, dX6_findOdds_103, dX6_findOdds_104, dX6_findOdds_105, dX6_findOdds_107, dX6_findOdds_108, dX6_findOdds_110, dX6_findOdds_113, dX6_findOdds_116, dX6_findOdds_119, dX6_findOdds_120, dX6_findOdds_121, dX6_findOdds_124, dX6_findOdds_125, dX6_findOdds_127, dX6_findOdds_130, dX6_findOdds_131, dX6_findOdds_132, dX6_findOdds_133, dX6_findOdds_136, dX6_findOdds_138, dX6_findOdds_141, dX6_findOdds_143, dX6_findOdds_146, dX6_findOdds_147, dX6_findOdds_148, dX6_findOdds_151, dX6_findOdds_152, dX6_findOdds_153, dX6_findOdds_156, dX6_findOdds_158, dX6_findOdds_159, dX6_findOdds_162, dX6_findOdds_163, dX6_findOdds_164, dX6_findOdds_165, dX6_findOdds_168, dX6_findOdds_171, dX6_findOdds_174, FX6_238, FX6_242, FX6_245, CX6_248, FX6_132, G_X6_findOdds_174, G_X6_findOdds_170, G_X6_findOdds_145]
    exact h2) n' 0 (by omega) (wI (wI (wI μ 66 20 0) 66 21 0) 66 22 1) (by
      refine mem_ext (fun a b => ?_) (fun _ _ => rfl)
      simp only [rI_wI, pw]
      by_cases z : a = 66 ∧ b = 22
      · simp only [if_pos z]
      · simp only [if_neg z])
  apply hV [18] 30
  simp only [InR, InL, inb, Int.toNat_natCast, wp1, wpc_z, wpc_s, stp_iconst, stp_bipush, stp_sipush, stp_lconst, stp_iload_n, stp_iload, stp_lload_n, stp_lload, stp_aload_n, stp_aload, stp_istore_n, stp_istore, stp_lstore_n, stp_lstore, stp_astore_n, stp_astore, stp_iinc, stp_iadd, stp_isub, stp_imul, stp_ineg, stp_idiv, stp_irem, stp_ladd, stp_lmul, stp_ldiv, stp_lrem, stp_ishl, stp_ishr, stp_iushr, stp_iand, stp_ior, stp_i2l, stp_i2b, stp_i2s, stp_lcmp, stp_dup, stp_dup2, stp_pop, stp_ifCond, stp_if_icmp, stp_goto, stp_tableswitch, stp_lookupswitch, stp_ldc, stp_ldc_w, stp_ldc2_w, stp_getstatic, stp_getfield, stp_putfield, stp_iaload, stp_baload, stp_iastore, stp_bastore, stp_aaload, stp_aastore, stp_invokevirtual, stp_invokestatic, stp_ireturn, stp_lreturn, stp_return_, lg, lset, okl, spl, wd, c1, cnd, tg, swT, swL, f4_0, f4_1, f4_2, f4_3, f2_0, f2_1, List.mem_cons, List.not_mem_nil, List.length_cons, List.length_nil, List.cons_append, List.nil_append, Nat.reduceAdd, Nat.reduceMul, Nat.reduceLT, Nat.reduceEqDiff, Nat.reduceLeDiff, Int.reduceAdd, Int.reduceNeg, Int.reduceToNat, Int.cast_ofNat_Int, Int.reduceNatCast, Int.toNat_zero, Int.toNat_one, Int.reduceLE, Int.reduceLT, Int.reduceEq, Int.zero_add, Int.add_zero, or_false, false_or, or_true, true_or, and_true, true_and, and_false, false_and, reduceIte, not_true_eq_false, not_false_eq_true, forall_const, false_implies, true_implies, implies_true, ne_eq, reduceCtorEq, List.all_cons, List.all_nil, Bool.and_true, Bool.and_self, decide_eq_true_eq, decide_true, dX6_findOdds_0, dX6_findOdds_1, dX6_findOdds_2, dX6_findOdds_5, dX6_findOdds_6, dX6_findOdds_7, dX6_findOdds_10, dX6_findOdds_11, dX6_findOdds_12, dX6_findOdds_15, dX6_findOdds_16, dX6_findOdds_18, dX6_findOdds_20, dX6_findOdds_21, dX6_findOdds_24, dX6_findOdds_25, dX6_findOdds_26, dX6_findOdds_29, dX6_findOdds_32, dX6_findOdds_33, dX6_findOdds_36, dX6_findOdds_39, dX6_findOdds_42, dX6_findOdds_43, dX6_findOdds_45, dX6_findOdds_47, dX6_findOdds_48, dX6_findOdds_49, dX6_findOdds_50, dX6_findOdds_53, dX6_findOdds_54, dX6_findOdds_56, dX6_findOdds_57, dX6_findOdds_60, dX6_findOdds_61, dX6_findOdds_63, dX6_findOdds_65, dX6_findOdds_66, dX6_findOdds_69, dX6_findOdds_71, dX6_findOdds_73, dX6_findOdds_74, dX6_findOdds_75, dX6_findOdds_76, dX6_findOdds_77, dX6_findOdds_80, dX6_findOdds_81, dX6_findOdds_84, dX6_findOdds_85, dX6_findOdds_87, dX6_findOdds_89, dX6_findOdds_91, dX6_findOdds_94, dX6_findOdds_95, dX6_findOdds_96, dX6_findOdds_99, dX6_findOdds_101, dX6_findOdds_102, dX6_findOdds_103, dX6_findOdds_104, dX6_findOdds_105, dX6_findOdds_107, dX6_findOdds_108, dX6_findOdds_110, dX6_findOdds_113, dX6_findOdds_116, dX6_findOdds_119, dX6_findOdds_120, dX6_findOdds_121, dX6_findOdds_124, dX6_findOdds_125, dX6_findOdds_127, dX6_findOdds_130, dX6_findOdds_131, dX6_findOdds_132, dX6_findOdds_133, dX6_findOdds_136, dX6_findOdds_138, dX6_findOdds_141, dX6_findOdds_143, dX6_findOdds_146, dX6_findOdds_147, dX6_findOdds_148, dX6_findOdds_151, dX6_findOdds_152, dX6_findOdds_153, dX6_findOdds_156, dX6_findOdds_158, dX6_findOdds_159, dX6_findOdds_162, dX6_findOdds_163, dX6_findOdds_164, dX6_findOdds_165, dX6_findOdds_168, dX6_findOdds_171, dX6_findOdds_174, FX6_238, FX6_242, FX6_245, CX6_248, FX6_132, G_X6_findOdds_174, G_X6_findOdds_170, G_X6_findOdds_145, kd_66]
  exact h1
theorem good_X6_findOdds (l : Launch) : Good l 4 yX6_findOdds cX6_findOdds 10 none T6_findOdds := by
  refine Good.mk 0 (by decide) rfl (by simp [retOK]) FOK6 COK6 (gk_X6_findOdds l) ?_ ?_
  · intro a μ K h
    unfold T6_findOdds at h
    split at h
    · simp [entl]
    · exact h.elim
  · intro a μ K V hV h
    unfold T6_findOdds at h
    split at h
    · exact body_X6_findOdds _ _ _ _ _ μ K V hV h
    · exact h.elim

def T6_luck : TT := fun a μ K => match a with
  | [.inr (.inr o), .inl v, .inl i, .inl n, .inl q, .inl w] => o = 66 ∧ (InR v ∧ InR i ∧ InR n ∧ InR q ∧ InR w ∧ MOK μ ∧ (luckOK (rI μ 67) v i n q w → ∀ ν, MF μ ν → K [.inr (.inl (luckV (rI μ 67) v i n q w))] ν) ∧ (¬ luckOK (rI μ 67) v i n q w → K [.inr (.inl (-1))] μ))
  | _ => False
theorem rec_X6_luck : ∀ a μ K, T6_luck a μ K → ∃ k r, a = .inr (.inr k) :: r ∧ kd k = 6 := by
  intro a μ K h
  unfold T6_luck at h
  split at h
  · exact ⟨_, _, rfl, by rw [h.1]; rfl⟩
  · exact h.elim
def GL_X6_luck : List (Nat × Nat × Bool × TT) := [(59, 3, true, T6_in), (180, 2, false, T6_isStation), (218, 1, true, T6_isPart), (254, 5, false, T6_findOdds), (258, 3, true, T6_lowest)]
def G_X6_luck : Nat → Option (Nat × Bool × TT) := fun i => GL_X6_luck.lookup i
theorem G_X6_luck_59 : G_X6_luck 59 = some (3, true, T6_in) := rfl
theorem G_X6_luck_180 : G_X6_luck 180 = some (2, false, T6_isStation) := rfl
theorem G_X6_luck_218 : G_X6_luck 218 = some (1, true, T6_isPart) := rfl
theorem G_X6_luck_254 : G_X6_luck 254 = some (5, false, T6_findOdds) := rfl
theorem G_X6_luck_258 : G_X6_luck 258 = some (3, true, T6_lowest) := rfl
theorem gk_X6_luck (l : Launch) : ∀ i n b T, G_X6_luck i = some (n, b, T) → CallOK l 5 RX6 i n b T := by
  intro i n b T h
  have hm : (i, n, b, T) ∈ GL_X6_luck := lk_mem h
  simp only [GL_X6_luck, List.mem_cons, List.not_mem_nil, or_false, Prod.mk.injEq] at hm
  rcases hm with ⟨rfl, rfl, rfl, rfl⟩ | ⟨rfl, rfl, rfl, rfl⟩ | ⟨rfl, rfl, rfl, rfl⟩ | ⟨rfl, rfl, rfl, rfl⟩ | ⟨rfl, rfl, rfl, rfl⟩
  · exact CallOK.S (d := 5) (own := RX6) (i := 59) (n := 3) (good_X6_in l) (by decide) (by decide) (mg 708 (by decide +kernel) (by decide +kernel)) (mg 709 (by decide +kernel) (by decide +kernel)) (mg 7 (by decide +kernel) (by decide +kernel)) (mg 710 (by decide +kernel) (by decide +kernel)) (by decide +kernel)
  · exact CallOK.V (d := 5) (own := RX6) (i := 180) (n := 1) (ci := 6) (good_X6_isStation l) (by decide) (by decide) rfl (by decide) rec_X6_isStation (mg 796 (by decide +kernel) (by decide +kernel)) (mg 798 (by decide +kernel) (by decide +kernel)) (mgs 38 (by decide +kernel) (by decide +kernel)) (mg 7 (by decide +kernel) (by decide +kernel)) (mg 799 (by decide +kernel) (by decide +kernel)) (by decide +kernel)
  · exact CallOK.S (d := 5) (own := RX6) (i := 218) (n := 1) (good_X6_isPart l) (by decide) (by decide) (mg 882 (by decide +kernel) (by decide +kernel)) (mg 883 (by decide +kernel) (by decide +kernel)) (mg 7 (by decide +kernel) (by decide +kernel)) (mg 884 (by decide +kernel) (by decide +kernel)) (by decide +kernel)
  · exact CallOK.V (d := 5) (own := RX6) (i := 254) (n := 4) (ci := 6) (good_X6_findOdds l) (by decide) (by decide) rfl (by decide) rec_X6_findOdds (mg 925 (by decide +kernel) (by decide +kernel)) (mg 927 (by decide +kernel) (by decide +kernel)) (mgs 51 (by decide +kernel) (by decide +kernel)) (mg 7 (by decide +kernel) (by decide +kernel)) (mg 928 (by decide +kernel) (by decide +kernel)) (by decide +kernel)
  · exact CallOK.S (d := 5) (own := RX6) (i := 258) (n := 3) (good_X6_lowest l) (by decide) (by decide) (mg 929 (by decide +kernel) (by decide +kernel)) (mg 930 (by decide +kernel) (by decide +kernel)) (mg 7 (by decide +kernel) (by decide +kernel)) (mg 931 (by decide +kernel) (by decide +kernel)) (by decide +kernel)
set_option maxRecDepth 20000 in
set_option maxHeartbeats 4000000 in
theorem body_X6_luck (o : Nat) (v : Int) (i : Int) (n : Int) (q : Int) (w : Int) (μ : Mem) (K : List AV → Mem → Prop) (V : Nat → List (Option AV) → List AV → Mem → Prop) (hV : Clos FX6 CX6 G_X6_luck 3 K cX6_luck V) (hT : o = 66 ∧ (InR v ∧ InR i ∧ InR n ∧ InR q ∧ InR w ∧ MOK μ ∧ (luckOK (rI μ 67) v i n q w → ∀ ν, MF μ ν → K [.inr (.inl (luckV (rI μ 67) v i n q w))] ν) ∧ (¬ luckOK (rI μ 67) v i n q w → K [.inr (.inl (-1))] μ))) : V 0 [some (.inr (.inr o)), some (.inl v), some (.inl i), some (.inl n), some (.inl q), some (.inl w)] [] μ := by
  simp only [InR] at hT
  obtain ⟨rfl, hv, hi, hn, hq, hw, hQ, hK, hB⟩ := hT
  have hQ' := hQ
  obtain ⟨hW, h38, h39, h40⟩ := hQ
  have h35 := hW.1
  by_cases hc : luckOK (rI μ 67) v i n q w
  · have hK := hK hc
    unfold luckOK at hc
    unfold luckV at hK
    obtain ⟨n', rfl⟩ := Int.eq_ofNat_of_zero_le hc.2.2.1.1
    rw [Int.toNat_natCast] at hK
    have h2 := p2_in n' (by omega)
    have hp := pw_in n' (by omega)
    have hl := lkX_in (f := rI μ 67) (v := v) (i := i) (q := q) (n := n') hc.1 (by omega) (2 ^ n')
    have fin : ∀ ν, FO μ ν v i q n' (2 ^ n') → ∃ y x : Nat, rI ν 66 20 = y ∧ rI ν 66 22 = x ∧ y < 2 ^ 60 ∧ 0 < x ∧ x < 2 ^ 60 ∧ K [.inr (.inl (frc y x w))] ν := by
      intro ν hν
      obtain ⟨o1, o2, o3, o4⟩ := hν
      refine ⟨(lkX (rI μ 67) v i q n' (2 ^ n')).toNat, (pw n').toNat, by rw [o2]; omega, by rw [o4]; omega, by omega, by omega, by omega, hK ν o1⟩
    have hmain : (0 ≤ v ∧ v ≤ 10) ∧ (0 ≤ q ∧ q ≤ 99) ∧ (i = -4 ∨ (0 ≤ i ∧ i < rI μ 67 35)) ∧ (0 ≤ (n' : Int) ∧ (n' : Int) ≤ 8) ∧ MOK μ ∧ ∀ ν, FO μ ν v i q n' (2 ^ n') → (-2147483648 ≤ w ∧ w < 2147483648) ∧ ∃ y x : Nat, rI ν 66 20 = y ∧ rI ν 66 22 = x ∧ y < 2 ^ 60 ∧ 0 < x ∧ x < 2 ^ 60 ∧ K [.inr (.inl (frc y x w))] ν := ⟨hc.1, hc.2.2.2.1, Or.inr hc.2.1, by omega, hQ', fun ν hν => ⟨hw, fin ν hν⟩⟩
    clear fin hl hp h2 hK hQ'
    apply hV [] 60
    simp only [InR, InL, inb, Int.toNat_natCast, wp1, wpc_z, wpc_s, stp_iconst, stp_bipush, stp_sipush, stp_lconst, stp_iload_n, stp_iload, stp_lload_n, stp_lload, stp_aload_n, stp_aload, stp_istore_n, stp_istore, stp_lstore_n, stp_lstore, stp_astore_n, stp_astore, stp_iinc, stp_iadd, stp_isub, stp_imul, stp_ineg, stp_idiv, stp_irem, stp_ladd, stp_lmul, stp_ldiv, stp_lrem, stp_ishl, stp_ishr, stp_iushr, stp_iand, stp_ior, stp_i2l, stp_i2b, stp_i2s, stp_lcmp, stp_dup, stp_dup2, stp_pop, stp_ifCond, stp_if_icmp, stp_goto, stp_tableswitch, stp_lookupswitch, stp_ldc, stp_ldc_w, stp_ldc2_w, stp_getstatic, stp_getfield, stp_putfield, stp_iaload, stp_baload, stp_iastore, stp_bastore, stp_aaload, stp_aastore, stp_invokevirtual, stp_invokestatic, stp_ireturn, stp_lreturn, stp_return_, lg, lset, okl, spl, wd, c1, cnd, tg, swT, swL, f4_0, f4_1, f4_2, f4_3, f2_0, f2_1, List.mem_cons, List.not_mem_nil, List.length_cons, List.length_nil, List.cons_append, List.nil_append, Nat.reduceAdd, Nat.reduceMul, Nat.reduceLT, Nat.reduceEqDiff, Nat.reduceLeDiff, Int.reduceAdd, Int.reduceNeg, Int.reduceToNat, Int.cast_ofNat_Int, Int.reduceNatCast, Int.toNat_zero, Int.toNat_one, Int.reduceLE, Int.reduceLT, Int.reduceEq, Int.zero_add, Int.add_zero, or_false, false_or, or_true, true_or, and_true, true_and, and_false, false_and, reduceIte, not_true_eq_false, not_false_eq_true, forall_const, false_implies, true_implies, implies_true, ne_eq, reduceCtorEq, List.all_cons, List.all_nil, Bool.and_true, Bool.and_self, decide_eq_true_eq, decide_true, dX6_luck_0, dX6_luck_1, dX6_luck_2, dX6_luck_3, dX6_luck_6, dX6_luck_9, dX6_luck_12, dX6_luck_13, dX6_luck_14, dX6_luck_17, dX6_luck_20, dX6_luck_21, dX6_luck_22, dX6_luck_23, dX6_luck_26, dX6_luck_29, dX6_luck_32, dX6_luck_34, dX6_luck_35, dX6_luck_36, dX6_luck_39, dX6_luck_42, dX6_luck_45, dX6_luck_47, dX6_luck_50, dX6_luck_53, dX6_luck_56, dX6_luck_57, dX6_luck_58, dX6_luck_59, dX6_luck_60, dX6_luck_61, dX6_luck_63, dX6_luck_66, dX6_luck_67, dX6_luck_70, dX6_luck_71, dX6_luck_74, dX6_luck_76, dX6_luck_79, CX6_248, CX6_250, CX6_190, CX6_252, FX6_238, FX6_245, G_X6_luck_59, G_X6_luck_180, G_X6_luck_218, G_X6_luck_254, G_X6_luck_258, kd_66, T6_isStation, T6_isPart, T6_in, T6_findOdds, T6_lowest]
    generalize hX : ((0 ≤ v ∧ v ≤ 10) ∧ (0 ≤ q ∧ q ≤ 99) ∧ (i = -4 ∨ (0 ≤ i ∧ i < rI μ 67 35)) ∧ (0 ≤ (n' : Int) ∧ (n' : Int) ≤ 8) ∧ MOK μ ∧ ∀ ν, FO μ ν v i q n' (2 ^ n') → (-2147483648 ≤ w ∧ w < 2147483648) ∧ ∃ y x : Nat, rI ν 66 20 = y ∧ rI ν 66 22 = x ∧ y < 2 ^ 60 ∧ 0 < x ∧ x < 2 ^ 60 ∧ K [.inr (.inl (frc y x w))] ν) = X at hmain ⊢
    clear hX
    repeat' (first | exact trivial | omega | (with_reducible assumption) | exact absurd trivial (by with_reducible assumption) | contradiction | apply And.intro | intro _)
  · have hB := hB hc
    unfold luckOK at hc
    apply hV [57] 60
    simp only [InR, InL, inb, Int.toNat_natCast, wp1, wpc_z, wpc_s, stp_iconst, stp_bipush, stp_sipush, stp_lconst, stp_iload_n, stp_iload, stp_lload_n, stp_lload, stp_aload_n, stp_aload, stp_istore_n, stp_istore, stp_lstore_n, stp_lstore, stp_astore_n, stp_astore, stp_iinc, stp_iadd, stp_isub, stp_imul, stp_ineg, stp_idiv, stp_irem, stp_ladd, stp_lmul, stp_ldiv, stp_lrem, stp_ishl, stp_ishr, stp_iushr, stp_iand, stp_ior, stp_i2l, stp_i2b, stp_i2s, stp_lcmp, stp_dup, stp_dup2, stp_pop, stp_ifCond, stp_if_icmp, stp_goto, stp_tableswitch, stp_lookupswitch, stp_ldc, stp_ldc_w, stp_ldc2_w, stp_getstatic, stp_getfield, stp_putfield, stp_iaload, stp_baload, stp_iastore, stp_bastore, stp_aaload, stp_aastore, stp_invokevirtual, stp_invokestatic, stp_ireturn, stp_lreturn, stp_return_, lg, lset, okl, spl, wd, c1, cnd, tg, swT, swL, f4_0, f4_1, f4_2, f4_3, f2_0, f2_1, List.mem_cons, List.not_mem_nil, List.length_cons, List.length_nil, List.cons_append, List.nil_append, Nat.reduceAdd, Nat.reduceMul, Nat.reduceLT, Nat.reduceEqDiff, Nat.reduceLeDiff, Int.reduceAdd, Int.reduceNeg, Int.reduceToNat, Int.cast_ofNat_Int, Int.reduceNatCast, Int.toNat_zero, Int.toNat_one, Int.reduceLE, Int.reduceLT, Int.reduceEq, Int.zero_add, Int.add_zero, or_false, false_or, or_true, true_or, and_true, true_and, and_false, false_and, reduceIte, not_true_eq_false, not_false_eq_true, forall_const, false_implies, true_implies, implies_true, ne_eq, reduceCtorEq, List.all_cons, List.all_nil, Bool.and_true, Bool.and_self, decide_eq_true_eq, decide_true, dX6_luck_0, dX6_luck_1, dX6_luck_2, dX6_luck_3, dX6_luck_6, dX6_luck_9, dX6_luck_12, dX6_luck_13, dX6_luck_14, dX6_luck_17, dX6_luck_20, dX6_luck_21, dX6_luck_22, dX6_luck_23, dX6_luck_26, dX6_luck_29, dX6_luck_32, dX6_luck_34, dX6_luck_35, dX6_luck_36, dX6_luck_39, dX6_luck_42, dX6_luck_45, dX6_luck_47, dX6_luck_50, dX6_luck_53, dX6_luck_56, dX6_luck_57, dX6_luck_58, dX6_luck_59, dX6_luck_60, dX6_luck_61, dX6_luck_63, dX6_luck_66, dX6_luck_67, dX6_luck_70, dX6_luck_71, dX6_luck_74, dX6_luck_76, dX6_luck_79, CX6_248, CX6_250, CX6_190, CX6_252, FX6_238, FX6_245, G_X6_luck_59, G_X6_luck_180, G_X6_luck_218, G_X6_luck_254, G_X6_luck_258, kd_66, T6_isStation, T6_isPart, T6_in]
    repeat' (first | exact trivial | omega | (with_reducible assumption) | exact absurd trivial (by with_reducible assumption) | contradiction | apply And.intro | intro _)
theorem good_X6_luck (l : Launch) : Good l 5 yX6_luck cX6_luck 6 (some .long) T6_luck := by
  refine Good.mk 3 (by decide) rfl (by simp [retOK]) FOK6 COK6 (gk_X6_luck l) ?_ ?_
  · intro a μ K h
    unfold T6_luck at h
    split at h
    · simp [entl]
    · exact h.elim
  · intro a μ K V hV h
    unfold T6_luck at h
    split at h
    · exact body_X6_luck _ _ _ _ _ _ μ K V hV h
    · exact h.elim

def T6_mean : TT := fun a μ K => match a with
  | [.inr (.inr o), .inl v, .inl n, .inl w] => o = 66 ∧ (InR v ∧ InR n ∧ InR w ∧ MOK μ ∧ (meanOK v n w → ∀ ν, MF μ ν → K [.inr (.inl (meanV (rI μ 67) v n w))] ν) ∧ (¬ meanOK v n w → K [.inr (.inl (-1))] μ))
  | _ => False
theorem rec_X6_mean : ∀ a μ K, T6_mean a μ K → ∃ k r, a = .inr (.inr k) :: r ∧ kd k = 6 := by
  intro a μ K h
  unfold T6_mean at h
  split at h
  · exact ⟨_, _, rfl, by rw [h.1]; rfl⟩
  · exact h.elim
def GL_X6_mean : List (Nat × Nat × Bool × TT) := [(59, 3, true, T6_in), (218, 1, true, T6_isPart), (254, 5, false, T6_findOdds), (258, 3, true, T6_lowest)]
def G_X6_mean : Nat → Option (Nat × Bool × TT) := fun i => GL_X6_mean.lookup i
theorem G_X6_mean_59 : G_X6_mean 59 = some (3, true, T6_in) := rfl
theorem G_X6_mean_218 : G_X6_mean 218 = some (1, true, T6_isPart) := rfl
theorem G_X6_mean_254 : G_X6_mean 254 = some (5, false, T6_findOdds) := rfl
theorem G_X6_mean_258 : G_X6_mean 258 = some (3, true, T6_lowest) := rfl
theorem gk_X6_mean (l : Launch) : ∀ i n b T, G_X6_mean i = some (n, b, T) → CallOK l 5 RX6 i n b T := by
  intro i n b T h
  have hm : (i, n, b, T) ∈ GL_X6_mean := lk_mem h
  simp only [GL_X6_mean, List.mem_cons, List.not_mem_nil, or_false, Prod.mk.injEq] at hm
  rcases hm with ⟨rfl, rfl, rfl, rfl⟩ | ⟨rfl, rfl, rfl, rfl⟩ | ⟨rfl, rfl, rfl, rfl⟩ | ⟨rfl, rfl, rfl, rfl⟩
  · exact CallOK.S (d := 5) (own := RX6) (i := 59) (n := 3) (good_X6_in l) (by decide) (by decide) (mg 708 (by decide +kernel) (by decide +kernel)) (mg 709 (by decide +kernel) (by decide +kernel)) (mg 7 (by decide +kernel) (by decide +kernel)) (mg 710 (by decide +kernel) (by decide +kernel)) (by decide +kernel)
  · exact CallOK.S (d := 5) (own := RX6) (i := 218) (n := 1) (good_X6_isPart l) (by decide) (by decide) (mg 882 (by decide +kernel) (by decide +kernel)) (mg 883 (by decide +kernel) (by decide +kernel)) (mg 7 (by decide +kernel) (by decide +kernel)) (mg 884 (by decide +kernel) (by decide +kernel)) (by decide +kernel)
  · exact CallOK.V (d := 5) (own := RX6) (i := 254) (n := 4) (ci := 6) (good_X6_findOdds l) (by decide) (by decide) rfl (by decide) rec_X6_findOdds (mg 925 (by decide +kernel) (by decide +kernel)) (mg 927 (by decide +kernel) (by decide +kernel)) (mgs 51 (by decide +kernel) (by decide +kernel)) (mg 7 (by decide +kernel) (by decide +kernel)) (mg 928 (by decide +kernel) (by decide +kernel)) (by decide +kernel)
  · exact CallOK.S (d := 5) (own := RX6) (i := 258) (n := 3) (good_X6_lowest l) (by decide) (by decide) (mg 929 (by decide +kernel) (by decide +kernel)) (mg 930 (by decide +kernel) (by decide +kernel)) (mg 7 (by decide +kernel) (by decide +kernel)) (mg 931 (by decide +kernel) (by decide +kernel)) (by decide +kernel)
set_option maxRecDepth 20000 in
set_option maxHeartbeats 4000000 in
theorem body_X6_mean (o : Nat) (v : Int) (n : Int) (w : Int) (μ : Mem) (K : List AV → Mem → Prop) (V : Nat → List (Option AV) → List AV → Mem → Prop) (hV : Clos FX6 CX6 G_X6_mean 3 K cX6_mean V) (hT : o = 66 ∧ (InR v ∧ InR n ∧ InR w ∧ MOK μ ∧ (meanOK v n w → ∀ ν, MF μ ν → K [.inr (.inl (meanV (rI μ 67) v n w))] ν) ∧ (¬ meanOK v n w → K [.inr (.inl (-1))] μ))) : V 0 [some (.inr (.inr o)), some (.inl v), some (.inl n), some (.inl w)] [] μ := by
  simp only [InR] at hT
  obtain ⟨rfl, hv, hn, hw, hQ, hK, hB⟩ := hT
  have hQ' := hQ
  obtain ⟨hW, h38, h39, h40⟩ := hQ
  have h35 := hW.1
  by_cases hc : meanOK v n w
  · have hK := hK hc
    unfold meanOK at hc
    unfold meanV at hK
    obtain ⟨n', rfl⟩ := Int.eq_ofNat_of_zero_le hc.2.1.1
    rw [Int.toNat_natCast] at hK
    have h2 := p2_in n' (by omega)
    have hp := pw_in n' (by omega)
    have hl := mnS_in (v := v) (n := n') hW hc.1 (by omega) (2 ^ n')
    have fin : ∀ ν, FO μ ν v (-4) 0 n' (2 ^ n') → ∃ y x : Nat, rI ν 66 21 = y ∧ rI ν 66 22 = x ∧ y < 2 ^ 60 ∧ 0 < x ∧ x < 2 ^ 60 ∧ K [.inr (.inl (frc y x w))] ν := by
      intro ν hν
      obtain ⟨o1, o2, o3, o4⟩ := hν
      refine ⟨(mnS (rI μ 67) v n' (2 ^ n')).toNat, (pw n').toNat, by rw [o3]; omega, by rw [o4]; omega, by omega, by omega, by omega, hK ν o1⟩
    clear hl hp h2 hK
    apply hV [] 60
    simp only [InR, InL, inb, Int.toNat_natCast, wp1, wpc_z, wpc_s, stp_iconst, stp_bipush, stp_sipush, stp_lconst, stp_iload_n, stp_iload, stp_lload_n, stp_lload, stp_aload_n, stp_aload, stp_istore_n, stp_istore, stp_lstore_n, stp_lstore, stp_astore_n, stp_astore, stp_iinc, stp_iadd, stp_isub, stp_imul, stp_ineg, stp_idiv, stp_irem, stp_ladd, stp_lmul, stp_ldiv, stp_lrem, stp_ishl, stp_ishr, stp_iushr, stp_iand, stp_ior, stp_i2l, stp_i2b, stp_i2s, stp_lcmp, stp_dup, stp_dup2, stp_pop, stp_ifCond, stp_if_icmp, stp_goto, stp_tableswitch, stp_lookupswitch, stp_ldc, stp_ldc_w, stp_ldc2_w, stp_getstatic, stp_getfield, stp_putfield, stp_iaload, stp_baload, stp_iastore, stp_bastore, stp_aaload, stp_aastore, stp_invokevirtual, stp_invokestatic, stp_ireturn, stp_lreturn, stp_return_, lg, lset, okl, spl, wd, c1, cnd, tg, swT, swL, f4_0, f4_1, f4_2, f4_3, f2_0, f2_1, List.mem_cons, List.not_mem_nil, List.length_cons, List.length_nil, List.cons_append, List.nil_append, Nat.reduceAdd, Nat.reduceMul, Nat.reduceLT, Nat.reduceEqDiff, Nat.reduceLeDiff, Int.reduceAdd, Int.reduceNeg, Int.reduceToNat, Int.cast_ofNat_Int, Int.reduceNatCast, Int.toNat_zero, Int.toNat_one, Int.reduceLE, Int.reduceLT, Int.reduceEq, Int.zero_add, Int.add_zero, or_false, false_or, or_true, true_or, and_true, true_and, and_false, false_and, reduceIte, not_true_eq_false, not_false_eq_true, forall_const, false_implies, true_implies, implies_true, ne_eq, reduceCtorEq, List.all_cons, List.all_nil, Bool.and_true, Bool.and_self, decide_eq_true_eq, decide_true, dX6_mean_0, dX6_mean_1, dX6_mean_2, dX6_mean_3, dX6_mean_6, dX6_mean_9, dX6_mean_12, dX6_mean_13, dX6_mean_14, dX6_mean_15, dX6_mean_18, dX6_mean_21, dX6_mean_24, dX6_mean_25, dX6_mean_28, dX6_mean_31, dX6_mean_34, dX6_mean_35, dX6_mean_36, dX6_mean_37, dX6_mean_39, dX6_mean_40, dX6_mean_41, dX6_mean_44, dX6_mean_45, dX6_mean_48, dX6_mean_49, dX6_mean_52, dX6_mean_53, dX6_mean_56, CX6_248, CX6_250, CX6_252, FX6_242, FX6_245, G_X6_mean_59, G_X6_mean_218, G_X6_mean_254, G_X6_mean_258, kd_66, T6_isPart, T6_in, T6_findOdds, T6_lowest]
    have hMm : MOK μ := hQ'
    generalize hX : MOK μ = X at hMm ⊢
    clear hX hQ'
    repeat' (first | exact trivial | omega | (with_reducible assumption) | exact absurd trivial (by with_reducible assumption) | contradiction | apply And.intro | intro _)
    all_goals exact fin _ (by assumption)
  · have hB := hB hc
    unfold meanOK at hc
    apply hV [35] 60
    simp only [InR, InL, inb, Int.toNat_natCast, wp1, wpc_z, wpc_s, stp_iconst, stp_bipush, stp_sipush, stp_lconst, stp_iload_n, stp_iload, stp_lload_n, stp_lload, stp_aload_n, stp_aload, stp_istore_n, stp_istore, stp_lstore_n, stp_lstore, stp_astore_n, stp_astore, stp_iinc, stp_iadd, stp_isub, stp_imul, stp_ineg, stp_idiv, stp_irem, stp_ladd, stp_lmul, stp_ldiv, stp_lrem, stp_ishl, stp_ishr, stp_iushr, stp_iand, stp_ior, stp_i2l, stp_i2b, stp_i2s, stp_lcmp, stp_dup, stp_dup2, stp_pop, stp_ifCond, stp_if_icmp, stp_goto, stp_tableswitch, stp_lookupswitch, stp_ldc, stp_ldc_w, stp_ldc2_w, stp_getstatic, stp_getfield, stp_putfield, stp_iaload, stp_baload, stp_iastore, stp_bastore, stp_aaload, stp_aastore, stp_invokevirtual, stp_invokestatic, stp_ireturn, stp_lreturn, stp_return_, lg, lset, okl, spl, wd, c1, cnd, tg, swT, swL, f4_0, f4_1, f4_2, f4_3, f2_0, f2_1, List.mem_cons, List.not_mem_nil, List.length_cons, List.length_nil, List.cons_append, List.nil_append, Nat.reduceAdd, Nat.reduceMul, Nat.reduceLT, Nat.reduceEqDiff, Nat.reduceLeDiff, Int.reduceAdd, Int.reduceNeg, Int.reduceToNat, Int.cast_ofNat_Int, Int.reduceNatCast, Int.toNat_zero, Int.toNat_one, Int.reduceLE, Int.reduceLT, Int.reduceEq, Int.zero_add, Int.add_zero, or_false, false_or, or_true, true_or, and_true, true_and, and_false, false_and, reduceIte, not_true_eq_false, not_false_eq_true, forall_const, false_implies, true_implies, implies_true, ne_eq, reduceCtorEq, List.all_cons, List.all_nil, Bool.and_true, Bool.and_self, decide_eq_true_eq, decide_true, dX6_mean_0, dX6_mean_1, dX6_mean_2, dX6_mean_3, dX6_mean_6, dX6_mean_9, dX6_mean_12, dX6_mean_13, dX6_mean_14, dX6_mean_15, dX6_mean_18, dX6_mean_21, dX6_mean_24, dX6_mean_25, dX6_mean_28, dX6_mean_31, dX6_mean_34, dX6_mean_35, dX6_mean_36, dX6_mean_37, dX6_mean_39, dX6_mean_40, dX6_mean_41, dX6_mean_44, dX6_mean_45, dX6_mean_48, dX6_mean_49, dX6_mean_52, dX6_mean_53, dX6_mean_56, CX6_248, CX6_250, CX6_252, FX6_242, FX6_245, G_X6_mean_59, G_X6_mean_218, G_X6_mean_254, G_X6_mean_258, kd_66, T6_isPart, T6_in]
    repeat' (first | exact trivial | omega | (with_reducible assumption) | exact absurd trivial (by with_reducible assumption) | contradiction | apply And.intro | intro _)
theorem good_X6_mean (l : Launch) : Good l 5 yX6_mean cX6_mean 4 (some .long) T6_mean := by
  refine Good.mk 3 (by decide) rfl (by simp [retOK]) FOK6 COK6 (gk_X6_mean l) ?_ ?_
  · intro a μ K h
    unfold T6_mean at h
    split at h
    · simp [entl]
    · exact h.elim
  · intro a μ K V hV h
    unfold T6_mean at h
    split at h
    · exact body_X6_mean _ _ _ _ μ K V hV h
    · exact h.elim

