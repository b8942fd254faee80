/-! both: told from queues: kinds, gains -/
theorem VP.ys {ρ σ : Mem} {b : Bool} (h : VP ρ σ b) (hb : b = true) : VP ρ σ true := hb ▸ h
def MFq (μ ν : Mem) : Prop := MF μ ν ∧ ∀ j, rI ν 74 j = rI μ 74 j
theorem MFq.rf {μ : Mem} : MFq μ μ := ⟨MF.rf, fun _ => rfl⟩
theorem MFq.tr {μ ν ρ : Mem} (h : MFq μ ν) (h2 : MFq ν ρ) : MFq μ ρ := ⟨h.1.tr h2.1, fun j => (h2.2 j).trans (h.2 j)⟩
/-- the row of queues holds those behind fewer than n visits, and k of them behind n -/
def Q73 (ρ : Mem) (F : Nat → Int) (n k : Nat) : Prop := ∀ a i : Nat, (a < n ∨ (a = n ∧ i < k)) → (i : Int) < F 35 → rI ρ 73 (5 * a + i) = nx yes F a (7 * i + 1)
def SI (μ ρ : Mem) (F : Nat → Int) (n k : Nat) : Prop := Eq39 (rI ρ 68) (nx yes F n) ∧ (0 ≤ rI ρ 68 39 ∧ rI ρ 68 39 ≤ 999999) ∧ (0 ≤ rI ρ 68 40 ∧ rI ρ 68 40 ≤ 999999) ∧ rI ρ 66 13 = -4 ∧ MFq μ ρ ∧ Q73 ρ F n k
theorem SI.wr {μ ρ : Mem} {F : Nat → Int} {n k : Nat} (h : SI μ ρ F n k) (h35 : F 35 ≤ 5) (hk : (k : Int) < F 35) : SI μ (wI ρ 73 (5 * n + k) (nx yes F n (7 * k + 1))) F n (k + 1) := by
  obtain ⟨h1, h2, h3, h4, h5, h6⟩ := h
  refine ⟨fun x hx => by rw [rI_wI, if_neg (by omega)]; exact h1 x hx, by rw [rI_wI, if_neg (by omega)]; exact h2, by rw [rI_wI, if_neg (by omega)]; exact h3, by rw [rI_wI, if_neg (by omega)]; exact h4, h5.tr ⟨⟨fun a _ _ _ e _ j => by rw [rI_wI, if_neg (fun z => e z.1)], fun j _ => by rw [rI_wI, if_neg (by omega)], fun _ _ => rfl⟩, fun j => by rw [rI_wI, if_neg (by omega)]⟩, fun a i h hi => ?_⟩
  rw [rI_wI]
  by_cases e : 5 * a + i = 5 * n + k
  · obtain ⟨e1, e2⟩ : a = n ∧ i = k := by omega
    rw [if_pos ⟨rfl, e⟩, e1, e2]
  · rw [if_neg (fun z => e z.2)]
    exact h6 a i (by omega) hi
theorem SI.vis {μ ρ σ : Mem} {F : Nat → Int} {n k : Nat} (h : SI μ ρ F n k) (hW : WF F) (hk : F 35 ≤ k) (hv : VP ρ σ true) : SI μ σ F (n + 1) 0 := by
  obtain ⟨h1, h2, h3, h4, h5, h6⟩ := h
  obtain ⟨b1, b2, b3, b4, b5, b6, b7, b8, b9, b10, b11⟩ := hv
  have hw := (nx_WF (p := yes) hW n).1.of h1.sy
  have hc := nxt_congr hw h1 true
  have hs := snd_in hw true
  have hl := lst_nn true hw
  refine ⟨fun x hx => (b1 x hx).trans (hc.1 x hx), by rw [b2]; omega, by rw [b3]; omega, by rw [b8 13 (by omega) (by omega) (by omega)]; exact h4, h5.tr ⟨⟨fun a h1 h2 h3 _ _ j => b10 a h1 h2 h3 j, fun j hj => b8 j (by omega) (by omega) (by omega), b11⟩, fun j => b10 74 (by omega) (by omega) (by omega) j⟩, fun a i h hi => ?_⟩
  rw [b10 73 (by omega) (by omega) (by omega)]
  exact h6 a i (by omega) hi
theorem SI.st {μ : Mem} (hQ : MOK μ) {c : Nat} (hc : c < 35) (v : Int) : SI μ (wI (stM μ) 68 c v) (upF (rI μ 67) c v) 0 0 := by
  obtain ⟨hW, h38, h39, h40⟩ := hQ
  refine ⟨fun x hx => ?_, by rw [rI_wI, if_neg (by omega), st_68 μ (by omega)]; exact h39, by rw [rI_wI, if_neg (by omega), st_68 μ (by omega)]; exact h40, by rw [rI_wI, if_neg (by omega), st_66]; simp, ⟨(st_MF μ).tr ⟨fun a _ b _ _ _ j => by rw [rI_wI, if_neg (fun z => b z.1)], fun j _ => by rw [rI_wI, if_neg (by omega)], fun _ _ => rfl⟩, fun j => by rw [rI_wI, if_neg (by omega), st_o μ (by omega) (by omega) (by omega)]⟩, fun a i h _ => by omega⟩
  rw [rI_wI]
  show _ = upF (rI μ 67) c v x
  unfold upF
  by_cases ex : x = c
  · rw [if_pos ⟨rfl, ex⟩, if_pos ex]
  · rw [if_neg (fun z => ex z.2), if_neg ex, st_68 μ (by omega)]
def GL_X6_isSoWith : List (Nat × Nat × Bool × TT) := [(174, 1, false, T6_starts), (145, 3, false, T6_of), (170, 2, false, T6_visitGoes)]
def G_X6_isSoWith : Nat → Option (Nat × Bool × TT) := fun i => GL_X6_isSoWith.lookup i
theorem G_X6_isSoWith_174 : G_X6_isSoWith 174 = some (1, false, T6_starts) := rfl
theorem G_X6_isSoWith_145 : G_X6_isSoWith 145 = some (3, false, T6_of) := rfl
theorem G_X6_isSoWith_170 : G_X6_isSoWith 170 = some (2, false, T6_visitGoes) := rfl

set_option maxRecDepth 20000 in
set_option maxHeartbeats 4000000 in
theorem lp_so1 (V : Nat → List (Option AV) → List AV → Mem → Prop) (K : List AV → Mem → Prop) (hV : Clos FX6 CX6 G_X6_isSoWith 2 K cX6_isSoWith V) (μ : Mem) (F : Nat → Int) (hW : WF F) (h38 : F 38 ≤ 9999) (h0 : F 35 ≠ 0) (c v : Int) (n : Nat) (hn : n ≤ 40) (x : Option AV) (hK : ∀ ρ, SI μ ρ F (n + 1) 0 → ∀ y : Option AV, V 13 [some (.inr (.inr 66)), some (.inl c), some (.inl v), some (.inl ((n : Int) + 1)), y, x] [] ρ) : ∀ m k : Nat, k + m = (F 35).toNat → ∀ ρ, SI μ ρ F n k → V 22 [some (.inr (.inr 66)), some (.inl c), some (.inl v), some (.inl (n : Int)), some (.inl (k : Int)), x] [] ρ := by
  have h35 := hW.1
  obtain ⟨x1, x2, x3⟩ := nx_WF (p := yes) hW n
  intro m
  induction m with
  | zero =>
    intro k hk ρ hS
    have e35 : rI ρ 68 35 = F 35 := by rw [hS.1 35 (by omega), x3]
    have e38 : rI ρ 68 38 = F 38 + n := by rw [hS.1 38 (by omega), x2]
    have e36 := hS.1 36 (by omega)
    have hw36 := x1.2.1 (by rw [x3]; exact h0)
    have hwf := x1.of hS.1.sy
    have h13 := hS.2.2.2.1
    have h39 := hS.2.1
    have h40 := hS.2.2.1
    have key : ∀ σ, VP ρ σ (decide (¬ rI ρ 68 36 = rI ρ 66 13)) → V 13 [some (.inr (.inr 66)), some (.inl c), some (.inl v), some (.inl ((n : Int) + 1)), some (.inl (k : Int)), x] [] σ := fun σ hσ => hK σ (hS.vis hW (by omega) (hσ.ys (decide_eq_true (by omega)))) _
    apply hV [13, 22] 40
    simp only [InR, InL, inb, Int.toNat_natCast, wp1, wpc_z, wpc_s, stp_iconst, stp_bipush, stp_sipush, stp_lconst, stp_iload_n, stp_iload, stp_lload_n, stp_lload, stp_aload_n, stp_aload, stp_istore_n, stp_istore, stp_lstore_n, stp_lstore, stp_astore_n, stp_astore, stp_iinc, stp_iadd, stp_isub, stp_imul, stp_ineg, stp_idiv, stp_irem, stp_ladd, stp_lmul, stp_ldiv, stp_lrem, stp_ishl, stp_ishr, stp_iushr, stp_iand, stp_ior, stp_i2l, stp_i2b, stp_i2s, stp_lcmp, stp_dup, stp_dup2, stp_pop, stp_ifCond, stp_if_icmp, stp_goto, stp_tableswitch, stp_lookupswitch, stp_ldc, stp_ldc_w, stp_ldc2_w, stp_getstatic, stp_getfield, stp_putfield, stp_iaload, stp_baload, stp_iastore, stp_bastore, stp_aaload, stp_aastore, stp_invokevirtual, stp_invokestatic, stp_ireturn, stp_lreturn, stp_return_, lg, lset, okl, spl, wd, c1, cnd, tg, swT, swL, f4_0, f4_1, f4_2, f4_3, f2_0, f2_1, List.mem_cons, List.not_mem_nil, List.length_cons, List.length_nil, List.cons_append, List.nil_append, Nat.reduceAdd, Nat.reduceMul, Nat.reduceLT, Nat.reduceEqDiff, Nat.reduceLeDiff, Int.reduceAdd, Int.reduceNeg, Int.reduceToNat, Int.cast_ofNat_Int, Int.reduceNatCast, Int.toNat_zero, Int.toNat_one, Int.reduceLE, Int.reduceLT, Int.reduceEq, Int.zero_add, Int.add_zero, or_false, false_or, or_true, true_or, and_true, true_and, and_false, false_and, reduceIte, not_true_eq_false, not_false_eq_true, forall_const, false_implies, true_implies, implies_true, ne_eq, reduceCtorEq, List.all_cons, List.all_nil, Bool.and_true, Bool.and_self, decide_eq_true_eq, decide_true, dX6_isSoWith_0, dX6_isSoWith_1, dX6_isSoWith_4, dX6_isSoWith_5, dX6_isSoWith_8, dX6_isSoWith_9, dX6_isSoWith_10, dX6_isSoWith_11, dX6_isSoWith_12, dX6_isSoWith_13, dX6_isSoWith_14, dX6_isSoWith_16, dX6_isSoWith_19, dX6_isSoWith_20, dX6_isSoWith_22, dX6_isSoWith_24, dX6_isSoWith_25, dX6_isSoWith_28, dX6_isSoWith_30, dX6_isSoWith_31, dX6_isSoWith_34, dX6_isSoWith_35, dX6_isSoWith_38, dX6_isSoWith_39, dX6_isSoWith_40, dX6_isSoWith_41, dX6_isSoWith_43, dX6_isSoWith_44, dX6_isSoWith_45, dX6_isSoWith_47, dX6_isSoWith_48, dX6_isSoWith_51, dX6_isSoWith_52, dX6_isSoWith_55, dX6_isSoWith_58, dX6_isSoWith_59, dX6_isSoWith_60, dX6_isSoWith_63, dX6_isSoWith_66, dX6_isSoWith_69, dX6_isSoWith_70, dX6_isSoWith_71, dX6_isSoWith_72, dX6_isSoWith_74, dX6_isSoWith_76, dX6_isSoWith_77, dX6_isSoWith_80, dX6_isSoWith_82, dX6_isSoWith_83, dX6_isSoWith_86, dX6_isSoWith_88, dX6_isSoWith_89, dX6_isSoWith_91, dX6_isSoWith_92, dX6_isSoWith_93, dX6_isSoWith_95, dX6_isSoWith_96, dX6_isSoWith_99, dX6_isSoWith_100, dX6_isSoWith_103, dX6_isSoWith_104, dX6_isSoWith_105, dX6_isSoWith_108, dX6_isSoWith_110, dX6_isSoWith_111, dX6_isSoWith_112, dX6_isSoWith_113, dX6_isSoWith_116, dX6_isSoWith_118, dX6_isSoWith_119, dX6_isSoWith_120, dX6_isSoWith_121, dX6_isSoWith_122, dX6_isSoWith_123, dX6_isSoWith_124, dX6_isSoWith_127, dX6_isSoWith_129, dX6_isSoWith_130, dX6_isSoWith_131, dX6_isSoWith_132, dX6_isSoWith_135, dX6_isSoWith_136, dX6_isSoWith_139, dX6_isSoWith_140, dX6_isSoWith_141, dX6_isSoWith_144, dX6_isSoWith_147, dX6_isSoWith_148, FX6_13, FX6_29, FX6_7, G_X6_isSoWith_174, G_X6_isSoWith_145, G_X6_isSoWith_170, kd_66, kd_68, ln_68, e35, T6_visitGoes]
    repeat' (first | exact trivial | omega | (with_reducible assumption) | exact absurd trivial (by with_reducible assumption) | contradiction | apply And.intro | intro _)
    all_goals exact key _ (by assumption)
  | succ m ih =>
    intro k hk ρ hS
    have e35 : rI ρ 68 35 = F 35 := by rw [hS.1 35 (by omega), x3]
    have e1 : (5 * (n : Int) + (k : Int)).toNat = 5 * n + k := by omega
    have v1 : rI ρ 68 (7 * k + 1) = nx yes F n (7 * k + 1) := hS.1 _ (by omega)
    have h := ih (k + 1) (by omega) _ (hS.wr h35.2 (by omega))
    rw [show ((k + 1 : Nat) : Int) = (k : Int) + 1 by omega] at h
    apply hV [13, 22] 40
    simp only [InR, InL, inb, Int.toNat_natCast, wp1, wpc_z, wpc_s, stp_iconst, stp_bipush, stp_sipush, stp_lconst, stp_iload_n, stp_iload, stp_lload_n, stp_lload, stp_aload_n, stp_aload, stp_istore_n, stp_istore, stp_lstore_n, stp_lstore, stp_astore_n, stp_astore, stp_iinc, stp_iadd, stp_isub, stp_imul, stp_ineg, stp_idiv, stp_irem, stp_ladd, stp_lmul, stp_ldiv, stp_lrem, stp_ishl, stp_ishr, stp_iushr, stp_iand, stp_ior, stp_i2l, stp_i2b, stp_i2s, stp_lcmp, stp_dup, stp_dup2, stp_pop, stp_ifCond, stp_if_icmp, stp_goto, stp_tableswitch, stp_lookupswitch, stp_ldc, stp_ldc_w, stp_ldc2_w, stp_getstatic, stp_getfield, stp_putfield, stp_iaload, stp_baload, stp_iastore, stp_bastore, stp_aaload, stp_aastore, stp_invokevirtual, stp_invokestatic, stp_ireturn, stp_lreturn, stp_return_, lg, lset, okl, spl, wd, c1, cnd, tg, swT, swL, f4_0, f4_1, f4_2, f4_3, f2_0, f2_1, List.mem_cons, List.not_mem_nil, List.length_cons, List.length_nil, List.cons_append, List.nil_append, Nat.reduceAdd, Nat.reduceMul, Nat.reduceLT, Nat.reduceEqDiff, Nat.reduceLeDiff, Int.reduceAdd, Int.reduceNeg, Int.reduceToNat, Int.cast_ofNat_Int, Int.reduceNatCast, Int.toNat_zero, Int.toNat_one, Int.reduceLE, Int.reduceLT, Int.reduceEq, Int.zero_add, Int.add_zero, or_false, false_or, or_true, true_or, and_true, true_and, and_false, false_and, reduceIte, not_true_eq_false, not_false_eq_true, forall_const, false_implies, true_implies, implies_true, ne_eq, reduceCtorEq, List.all_cons, List.all_nil, Bool.and_true, Bool.and_self, decide_eq_true_eq, decide_true, dX6_isSoWith_0, dX6_isSoWith_1, dX6_isSoWith_4, dX6_isSoWith_5, dX6_isSoWith_8, dX6_isSoWith_9, dX6_isSoWith_10, dX6_isSoWith_11, dX6_isSoWith_12, dX6_isSoWith_13, dX6_isSoWith_14, dX6_isSoWith_16, dX6_isSoWith_19, dX6_isSoWith_20, dX6_isSoWith_22, dX6_isSoWith_24, dX6_isSoWith_25, dX6_isSoWith_28, dX6_isSoWith_30, dX6_isSoWith_31, dX6_isSoWith_34, dX6_isSoWith_35, dX6_isSoWith_38, dX6_isSoWith_39, dX6_isSoWith_40, dX6_isSoWith_41, dX6_isSoWith_43, dX6_isSoWith_44, dX6_isSoWith_45, dX6_isSoWith_47, dX6_isSoWith_48, dX6_isSoWith_51, dX6_isSoWith_52, dX6_isSoWith_55, dX6_isSoWith_58, dX6_isSoWith_59, dX6_isSoWith_60, dX6_isSoWith_63, dX6_isSoWith_66, dX6_isSoWith_69, dX6_isSoWith_70, dX6_isSoWith_71, dX6_isSoWith_72, dX6_isSoWith_74, dX6_isSoWith_76, dX6_isSoWith_77, dX6_isSoWith_80, dX6_isSoWith_82, dX6_isSoWith_83, dX6_isSoWith_86, dX6_isSoWith_88, dX6_isSoWith_89, dX6_isSoWith_91, dX6_isSoWith_92, dX6_isSoWith_93, dX6_isSoWith_95, dX6_isSoWith_96, dX6_isSoWith_99, dX6_isSoWith_100, dX6_isSoWith_103, dX6_isSoWith_104, dX6_isSoWith_105, dX6_isSoWith_108, dX6_isSoWith_110, dX6_isSoWith_111, dX6_isSoWith_112, dX6_isSoWith_113, dX6_isSoWith_116, dX6_isSoWith_118, dX6_isSoWith_119, dX6_isSoWith_120, dX6_isSoWith_121, dX6_isSoWith_122, dX6_isSoWith_123, dX6_isSoWith_124, dX6_isSoWith_127, dX6_isSoWith_129, dX6_isSoWith_130, dX6_isSoWith_131, dX6_isSoWith_132, dX6_isSoWith_135, dX6_isSoWith_136, dX6_isSoWith_139, dX6_isSoWith_140, dX6_isSoWith_141, dX6_isSoWith_144, dX6_isSoWith_147, dX6_isSoWith_148, FX6_13, FX6_29, FX6_7, G_X6_isSoWith_174, G_X6_isSoWith_145, G_X6_isSoWith_170, kd_66, kd_68, ln_68, kd_73, ln_73, e35, T6_of, tn7_1, e1, v1]
    repeat' (first | exact trivial | omega | (with_reducible assumption) | exact absurd trivial (by with_reducible assumption) | contradiction | apply And.intro | intro _)
set_option maxRecDepth 20000 in
set_option maxHeartbeats 4000000 in
theorem lp_so2 (V : Nat → List (Option AV) → List AV → Mem → Prop) (K : List AV → Mem → Prop) (hV : Clos FX6 CX6 G_X6_isSoWith 2 K cX6_isSoWith V) (μ : Mem) (F : Nat → Int) (hW : WF F) (h38 : F 38 ≤ 9999) (h0 : F 35 ≠ 0) (c v : Int) (x : Option AV) (hK : ∀ ρ, SI μ ρ F 41 0 → V 74 [some (.inr (.inr 66)), some (.inl c), some (.inl v), some (.inl 1), some (.inl 0), x] [] ρ) : ∀ m n : Nat, n + m = 41 → ∀ ρ, SI μ ρ F n 0 → ∀ y : Option AV, V 13 [some (.inr (.inr 66)), some (.inl c), some (.inl v), some (.inl (n : Int)), y, x] [] ρ := by
  intro m
  induction m with
  | zero =>
    intro n hn ρ hS y
    have en : n = 41 := by omega
    subst en
    have hk := hK ρ hS
    apply hV [13, 22, 74] 40
    simp only [InR, InL, inb, Int.toNat_natCast, wp1, wpc_z, wpc_s, stp_iconst, stp_bipush, stp_sipush, stp_lconst, stp_iload_n, stp_iload, stp_lload_n, stp_lload, stp_aload_n, stp_aload, stp_istore_n, stp_istore, stp_lstore_n, stp_lstore, stp_astore_n, stp_astore, stp_iinc, stp_iadd, stp_isub, stp_imul, stp_ineg, stp_idiv, stp_irem, stp_ladd, stp_lmul, stp_ldiv, stp_lrem, stp_ishl, stp_ishr, stp_iushr, stp_iand, stp_ior, stp_i2l, stp_i2b, stp_i2s, stp_lcmp, stp_dup, stp_dup2, stp_pop, stp_ifCond, stp_if_icmp, stp_goto, stp_tableswitch, stp_lookupswitch, stp_ldc, stp_ldc_w, stp_ldc2_w, stp_getstatic, stp_getfield, stp_putfield, stp_iaload, stp_baload, stp_iastore, stp_bastore, stp_aaload, stp_aastore, stp_invokevirtual, stp_invokestatic, stp_ireturn, stp_lreturn, stp_return_, lg, lset, okl, spl, wd, c1, cnd, tg, swT, swL, f4_0, f4_1, f4_2, f4_3, f2_0, f2_1, List.mem_cons, List.not_mem_nil, List.length_cons, List.length_nil, List.cons_append, List.nil_append, Nat.reduceAdd, Nat.reduceMul, Nat.reduceLT, Nat.reduceEqDiff, Nat.reduceLeDiff, Int.reduceAdd, Int.reduceNeg, Int.reduceToNat, Int.cast_ofNat_Int, Int.reduceNatCast, Int.toNat_zero, Int.toNat_one, Int.reduceLE, Int.reduceLT, Int.reduceEq, Int.zero_add, Int.add_zero, or_false, false_or, or_true, true_or, and_true, true_and, and_false, false_and, reduceIte, not_true_eq_false, not_false_eq_true, forall_const, false_implies, true_implies, implies_true, ne_eq, reduceCtorEq, List.all_cons, List.all_nil, Bool.and_true, Bool.and_self, decide_eq_true_eq, decide_true, dX6_isSoWith_0, dX6_isSoWith_1, dX6_isSoWith_4, dX6_isSoWith_5, dX6_isSoWith_8, dX6_isSoWith_9, dX6_isSoWith_10, dX6_isSoWith_11, dX6_isSoWith_12, dX6_isSoWith_13, dX6_isSoWith_14, dX6_isSoWith_16, dX6_isSoWith_19, dX6_isSoWith_20, dX6_isSoWith_22, dX6_isSoWith_24, dX6_isSoWith_25, dX6_isSoWith_28, dX6_isSoWith_30, dX6_isSoWith_31, dX6_isSoWith_34, dX6_isSoWith_35, dX6_isSoWith_38, dX6_isSoWith_39, dX6_isSoWith_40, dX6_isSoWith_41, dX6_isSoWith_43, dX6_isSoWith_44, dX6_isSoWith_45, dX6_isSoWith_47, dX6_isSoWith_48, dX6_isSoWith_51, dX6_isSoWith_52, dX6_isSoWith_55, dX6_isSoWith_58, dX6_isSoWith_59, dX6_isSoWith_60, dX6_isSoWith_63, dX6_isSoWith_66, dX6_isSoWith_69, dX6_isSoWith_70, dX6_isSoWith_71, dX6_isSoWith_72, dX6_isSoWith_74, dX6_isSoWith_76, dX6_isSoWith_77, dX6_isSoWith_80, dX6_isSoWith_82, dX6_isSoWith_83, dX6_isSoWith_86, dX6_isSoWith_88, dX6_isSoWith_89, dX6_isSoWith_91, dX6_isSoWith_92, dX6_isSoWith_93, dX6_isSoWith_95, dX6_isSoWith_96, dX6_isSoWith_99, dX6_isSoWith_100, dX6_isSoWith_103, dX6_isSoWith_104, dX6_isSoWith_105, dX6_isSoWith_108, dX6_isSoWith_110, dX6_isSoWith_111, dX6_isSoWith_112, dX6_isSoWith_113, dX6_isSoWith_116, dX6_isSoWith_118, dX6_isSoWith_119, dX6_isSoWith_120, dX6_isSoWith_121, dX6_isSoWith_122, dX6_isSoWith_123, dX6_isSoWith_124, dX6_isSoWith_127, dX6_isSoWith_129, dX6_isSoWith_130, dX6_isSoWith_131, dX6_isSoWith_132, dX6_isSoWith_135, dX6_isSoWith_136, dX6_isSoWith_139, dX6_isSoWith_140, dX6_isSoWith_141, dX6_isSoWith_144, dX6_isSoWith_147, dX6_isSoWith_148, FX6_13, FX6_29, FX6_7, G_X6_isSoWith_174, G_X6_isSoWith_145, G_X6_isSoWith_170]
    repeat' (first | exact trivial | omega | (with_reducible assumption) | exact absurd trivial (by with_reducible assumption) | contradiction | apply And.intro | intro _)
  | succ m ih =>
    intro n hn ρ hS y
    have h := lp_so1 V K hV μ F hW h38 h0 c v n (by omega) x (fun σ hσ z => by
      have := ih (n + 1) (by omega) σ hσ z
      rw [show ((n + 1 : Nat) : Int) = (n : Int) + 1 by omega] at this
      exact this) (F 35).toNat 0 (by omega) ρ hS
    apply hV [13, 22, 74] 40
    simp only [InR, InL, inb, Int.toNat_natCast, wp1, wpc_z, wpc_s, stp_iconst, stp_bipush, stp_sipush, stp_lconst, stp_iload_n, stp_iload, stp_lload_n, stp_lload, stp_aload_n, stp_aload, stp_istore_n, stp_istore, stp_lstore_n, stp_lstore, stp_astore_n, stp_astore, stp_iinc, stp_iadd, stp_isub, stp_imul, stp_ineg, stp_idiv, stp_irem, stp_ladd, stp_lmul, stp_ldiv, stp_lrem, stp_ishl, stp_ishr, stp_iushr, stp_iand, stp_ior, stp_i2l, stp_i2b, stp_i2s, stp_lcmp, stp_dup, stp_dup2, stp_pop, stp_ifCond, stp_if_icmp, stp_goto, stp_tableswitch, stp_lookupswitch, stp_ldc, stp_ldc_w, stp_ldc2_w, stp_getstatic, stp_getfield, stp_putfield, stp_iaload, stp_baload, stp_iastore, stp_bastore, stp_aaload, stp_aastore, stp_invokevirtual, stp_invokestatic, stp_ireturn, stp_lreturn, stp_return_, lg, lset, okl, spl, wd, c1, cnd, tg, swT, swL, f4_0, f4_1, f4_2, f4_3, f2_0, f2_1, List.mem_cons, List.not_mem_nil, List.length_cons, List.length_nil, List.cons_append, List.nil_append, Nat.reduceAdd, Nat.reduceMul, Nat.reduceLT, Nat.reduceEqDiff, Nat.reduceLeDiff, Int.reduceAdd, Int.reduceNeg, Int.reduceToNat, Int.cast_ofNat_Int, Int.reduceNatCast, Int.toNat_zero, Int.toNat_one, Int.reduceLE, Int.reduceLT, Int.reduceEq, Int.zero_add, Int.add_zero, or_false, false_or, or_true, true_or, and_true, true_and, and_false, false_and, reduceIte, not_true_eq_false, not_false_eq_true, forall_const, false_implies, true_implies, implies_true, ne_eq, reduceCtorEq, List.all_cons, List.all_nil, Bool.and_true, Bool.and_self, decide_eq_true_eq, decide_true, dX6_isSoWith_0, dX6_isSoWith_1, dX6_isSoWith_4, dX6_isSoWith_5, dX6_isSoWith_8, dX6_isSoWith_9, dX6_isSoWith_10, dX6_isSoWith_11, dX6_isSoWith_12, dX6_isSoWith_13, dX6_isSoWith_14, dX6_isSoWith_16, dX6_isSoWith_19, dX6_isSoWith_20, dX6_isSoWith_22, dX6_isSoWith_24, dX6_isSoWith_25, dX6_isSoWith_28, dX6_isSoWith_30, dX6_isSoWith_31, dX6_isSoWith_34, dX6_isSoWith_35, dX6_isSoWith_38, dX6_isSoWith_39, dX6_isSoWith_40, dX6_isSoWith_41, dX6_isSoWith_43, dX6_isSoWith_44, dX6_isSoWith_45, dX6_isSoWith_47, dX6_isSoWith_48, dX6_isSoWith_51, dX6_isSoWith_52, dX6_isSoWith_55, dX6_isSoWith_58, dX6_isSoWith_59, dX6_isSoWith_60, dX6_isSoWith_63, dX6_isSoWith_66, dX6_isSoWith_69, dX6_isSoWith_70, dX6_isSoWith_71, dX6_isSoWith_72, dX6_isSoWith_74, dX6_isSoWith_76, dX6_isSoWith_77, dX6_isSoWith_80, dX6_isSoWith_82, dX6_isSoWith_83, dX6_isSoWith_86, dX6_isSoWith_88, dX6_isSoWith_89, dX6_isSoWith_91, dX6_isSoWith_92, dX6_isSoWith_93, dX6_isSoWith_95, dX6_isSoWith_96, dX6_isSoWith_99, dX6_isSoWith_100, dX6_isSoWith_103, dX6_isSoWith_104, dX6_isSoWith_105, dX6_isSoWith_108, dX6_isSoWith_110, dX6_isSoWith_111, dX6_isSoWith_112, dX6_isSoWith_113, dX6_isSoWith_116, dX6_isSoWith_118, dX6_isSoWith_119, dX6_isSoWith_120, dX6_isSoWith_121, dX6_isSoWith_122, dX6_isSoWith_123, dX6_isSoWith_124, dX6_isSoWith_127, dX6_isSoWith_129, dX6_isSoWith_130, dX6_isSoWith_131, dX6_isSoWith_132, dX6_isSoWith_135, dX6_isSoWith_136, dX6_isSoWith_139, dX6_isSoWith_140, dX6_isSoWith_141, dX6_isSoWith_144, dX6_isSoWith_147, dX6_isSoWith_148, FX6_13, FX6_29, FX6_7, G_X6_isSoWith_174, G_X6_isSoWith_145, G_X6_isSoWith_170]
    repeat' (first | exact trivial | omega | (with_reducible assumption) | exact absurd trivial (by with_reducible assumption) | contradiction | apply And.intro | intro _)
set_option maxRecDepth 20000 in
set_option maxHeartbeats 4000000 in
theorem lp_so3 (V : Nat → List (Option AV) → List AV → Mem → Prop) (K : List AV → Mem → Prop) (hV : Clos FX6 CX6 G_X6_isSoWith 2 K cX6_isSoWith V) (ρ : Mem) (F f : Nat → Int) (hW : WF F) (h35 : F 35 = f 35) (e67 : ∀ j, rI ρ 67 j = f j) (hS : SW f) (hQ : Q73 ρ F 41 0) (c v : Int) (h1 : fitA F f (f 41).toNat = true → K [.inl 1] ρ) (h2 : ¬ fitA F f (f 41).toNat = true → K [.inl 0] ρ) : ∀ m k : Nat, k + m = (f 41).toNat → ∀ x : Option AV, V 74 [some (.inr (.inr 66)), some (.inl c), some (.inl v), some (.inl (if fitA F f k = true then 1 else 0)), some (.inl (k : Int)), x] [] ρ := by
  have h41 := hS.1
  have hF := hW.1
  intro m
  induction m with
  | zero =>
    intro k hk x
    have ek : (f 41).toNat = k := by omega
    rw [ek] at h1 h2
    apply hV [74] 40
    simp only [InR, InL, inb, Int.toNat_natCast, wp1, wpc_z, wpc_s, stp_iconst, stp_bipush, stp_sipush, stp_lconst, stp_iload_n, stp_iload, stp_lload_n, stp_lload, stp_aload_n, stp_aload, stp_istore_n, stp_istore, stp_lstore_n, stp_lstore, stp_astore_n, stp_astore, stp_iinc, stp_iadd, stp_isub, stp_imul, stp_ineg, stp_idiv, stp_irem, stp_ladd, stp_lmul, stp_ldiv, stp_lrem, stp_ishl, stp_ishr, stp_iushr, stp_iand, stp_ior, stp_i2l, stp_i2b, stp_i2s, stp_lcmp, stp_dup, stp_dup2, stp_pop, stp_ifCond, stp_if_icmp, stp_goto, stp_tableswitch, stp_lookupswitch, stp_ldc, stp_ldc_w, stp_ldc2_w, stp_getstatic, stp_getfield, stp_putfield, stp_iaload, stp_baload, stp_iastore, stp_bastore, stp_aaload, stp_aastore, stp_invokevirtual, stp_invokestatic, stp_ireturn, stp_lreturn, stp_return_, lg, lset, okl, spl, wd, c1, cnd, tg, swT, swL, f4_0, f4_1, f4_2, f4_3, f2_0, f2_1, List.mem_cons, List.not_mem_nil, List.length_cons, List.length_nil, List.cons_append, List.nil_append, Nat.reduceAdd, Nat.reduceMul, Nat.reduceLT, Nat.reduceEqDiff, Nat.reduceLeDiff, Int.reduceAdd, Int.reduceNeg, Int.reduceToNat, Int.cast_ofNat_Int, Int.reduceNatCast, Int.toNat_zero, Int.toNat_one, Int.reduceLE, Int.reduceLT, Int.reduceEq, Int.zero_add, Int.add_zero, or_false, false_or, or_true, true_or, and_true, true_and, and_false, false_and, reduceIte, not_true_eq_false, not_false_eq_true, forall_const, false_implies, true_implies, implies_true, ne_eq, reduceCtorEq, List.all_cons, List.all_nil, Bool.and_true, Bool.and_self, decide_eq_true_eq, decide_true, dX6_isSoWith_0, dX6_isSoWith_1, dX6_isSoWith_4, dX6_isSoWith_5, dX6_isSoWith_8, dX6_isSoWith_9, dX6_isSoWith_10, dX6_isSoWith_11, dX6_isSoWith_12, dX6_isSoWith_13, dX6_isSoWith_14, dX6_isSoWith_16, dX6_isSoWith_19, dX6_isSoWith_20, dX6_isSoWith_22, dX6_isSoWith_24, dX6_isSoWith_25, dX6_isSoWith_28, dX6_isSoWith_30, dX6_isSoWith_31, dX6_isSoWith_34, dX6_isSoWith_35, dX6_isSoWith_38, dX6_isSoWith_39, dX6_isSoWith_40, dX6_isSoWith_41, dX6_isSoWith_43, dX6_isSoWith_44, dX6_isSoWith_45, dX6_isSoWith_47, dX6_isSoWith_48, dX6_isSoWith_51, dX6_isSoWith_52, dX6_isSoWith_55, dX6_isSoWith_58, dX6_isSoWith_59, dX6_isSoWith_60, dX6_isSoWith_63, dX6_isSoWith_66, dX6_isSoWith_69, dX6_isSoWith_70, dX6_isSoWith_71, dX6_isSoWith_72, dX6_isSoWith_74, dX6_isSoWith_76, dX6_isSoWith_77, dX6_isSoWith_80, dX6_isSoWith_82, dX6_isSoWith_83, dX6_isSoWith_86, dX6_isSoWith_88, dX6_isSoWith_89, dX6_isSoWith_91, dX6_isSoWith_92, dX6_isSoWith_93, dX6_isSoWith_95, dX6_isSoWith_96, dX6_isSoWith_99, dX6_isSoWith_100, dX6_isSoWith_103, dX6_isSoWith_104, dX6_isSoWith_105, dX6_isSoWith_108, dX6_isSoWith_110, dX6_isSoWith_111, dX6_isSoWith_112, dX6_isSoWith_113, dX6_isSoWith_116, dX6_isSoWith_118, dX6_isSoWith_119, dX6_isSoWith_120, dX6_isSoWith_121, dX6_isSoWith_122, dX6_isSoWith_123, dX6_isSoWith_124, dX6_isSoWith_127, dX6_isSoWith_129, dX6_isSoWith_130, dX6_isSoWith_131, dX6_isSoWith_132, dX6_isSoWith_135, dX6_isSoWith_136, dX6_isSoWith_139, dX6_isSoWith_140, dX6_isSoWith_141, dX6_isSoWith_144, dX6_isSoWith_147, dX6_isSoWith_148, FX6_13, FX6_29, FX6_7, G_X6_isSoWith_174, G_X6_isSoWith_145, G_X6_isSoWith_170, kd_66, kd_67, ln_67, e67]
    by_cases z : fitA F f k = true
    · have h1 := h1 z
      rw [if_pos z]
      repeat' (first | exact trivial | omega | (with_reducible assumption) | exact absurd trivial (by with_reducible assumption) | contradiction | apply And.intro | intro _)
    · have h2 := h2 z
      rw [if_neg z]
      repeat' (first | exact trivial | omega | (with_reducible assumption) | exact absurd trivial (by with_reducible assumption) | contradiction | apply And.intro | intro _)
  | succ m ih =>
    intro k hk x
    obtain ⟨s1, s2, s3⟩ := hS.2 k (by omega)
    obtain ⟨a, ha⟩ := Int.eq_ofNat_of_zero_le s1.1
    obtain ⟨i, hi⟩ := Int.eq_ofNat_of_zero_le s2.1
    have hq : rI ρ 73 (5 * a + i) = nx yes F a (7 * i + 1) := hQ a i (by omega) (by omega)
    have hqi := q_in hW (i := i) (by omega) a
    have e1 : (42 + 3 * (k : Int)).toNat = 42 + 3 * k := by omega
    have e2 : (42 + 3 * (k : Int) + 1).toNat = 43 + 3 * k := by omega
    have e3 : (42 + 3 * (k : Int) + 2).toNat = 44 + 3 * k := by omega
    have e4 : (5 * (a : Int) + (i : Int)).toNat = 5 * a + i := by omega
    have h := ih (k + 1) (by omega) (some (.inl (42 + 3 * (k : Int))))
    rw [show ((k + 1 : Nat) : Int) = (k : Int) + 1 by omega] at h
    simp only [fitA, ha, hi, Int.toNat_natCast] at h
    apply hV [74] 60
    simp only [InR, InL, inb, Int.toNat_natCast, wp1, wpc_z, wpc_s, stp_iconst, stp_bipush, stp_sipush, stp_lconst, stp_iload_n, stp_iload, stp_lload_n, stp_lload, stp_aload_n, stp_aload, stp_istore_n, stp_istore, stp_lstore_n, stp_lstore, stp_astore_n, stp_astore, stp_iinc, stp_iadd, stp_isub, stp_imul, stp_ineg, stp_idiv, stp_irem, stp_ladd, stp_lmul, stp_ldiv, stp_lrem, stp_ishl, stp_ishr, stp_iushr, stp_iand, stp_ior, stp_i2l, stp_i2b, stp_i2s, stp_lcmp, stp_dup, stp_dup2, stp_pop, stp_ifCond, stp_if_icmp, stp_goto, stp_tableswitch, stp_lookupswitch, stp_ldc, stp_ldc_w, stp_ldc2_w, stp_getstatic, stp_getfield, stp_putfield, stp_iaload, stp_baload, stp_iastore, stp_bastore, stp_aaload, stp_aastore, stp_invokevirtual, stp_invokestatic, stp_ireturn, stp_lreturn, stp_return_, lg, lset, okl, spl, wd, c1, cnd, tg, swT, swL, f4_0, f4_1, f4_2, f4_3, f2_0, f2_1, List.mem_cons, List.not_mem_nil, List.length_cons, List.length_nil, List.cons_append, List.nil_append, Nat.reduceAdd, Nat.reduceMul, Nat.reduceLT, Nat.reduceEqDiff, Nat.reduceLeDiff, Int.reduceAdd, Int.reduceNeg, Int.reduceToNat, Int.cast_ofNat_Int, Int.reduceNatCast, Int.toNat_zero, Int.toNat_one, Int.reduceLE, Int.reduceLT, Int.reduceEq, Int.zero_add, Int.add_zero, or_false, false_or, or_true, true_or, and_true, true_and, and_false, false_and, reduceIte, not_true_eq_false, not_false_eq_true, forall_const, false_implies, true_implies, implies_true, ne_eq, reduceCtorEq, List.all_cons, List.all_nil, Bool.and_true, Bool.and_self, decide_eq_true_eq, decide_true, dX6_isSoWith_0, dX6_isSoWith_1, dX6_isSoWith_4, dX6_isSoWith_5, dX6_isSoWith_8, dX6_isSoWith_9, dX6_isSoWith_10, dX6_isSoWith_11, dX6_isSoWith_12, dX6_isSoWith_13, dX6_isSoWith_14, dX6_isSoWith_16, dX6_isSoWith_19, dX6_isSoWith_20, dX6_isSoWith_22, dX6_isSoWith_24, dX6_isSoWith_25, dX6_isSoWith_28, dX6_isSoWith_30, dX6_isSoWith_31, dX6_isSoWith_34, dX6_isSoWith_35, dX6_isSoWith_38, dX6_isSoWith_39, dX6_isSoWith_40, dX6_isSoWith_41, dX6_isSoWith_43, dX6_isSoWith_44, dX6_isSoWith_45, dX6_isSoWith_47, dX6_isSoWith_48, dX6_isSoWith_51, dX6_isSoWith_52, dX6_isSoWith_55, dX6_isSoWith_58, dX6_isSoWith_59, dX6_isSoWith_60, dX6_isSoWith_63, dX6_isSoWith_66, dX6_isSoWith_69, dX6_isSoWith_70, dX6_isSoWith_71, dX6_isSoWith_72, dX6_isSoWith_74, dX6_isSoWith_76, dX6_isSoWith_77, dX6_isSoWith_80, dX6_isSoWith_82, dX6_isSoWith_83, dX6_isSoWith_86, dX6_isSoWith_88, dX6_isSoWith_89, dX6_isSoWith_91, dX6_isSoWith_92, dX6_isSoWith_93, dX6_isSoWith_95, dX6_isSoWith_96, dX6_isSoWith_99, dX6_isSoWith_100, dX6_isSoWith_103, dX6_isSoWith_104, dX6_isSoWith_105, dX6_isSoWith_108, dX6_isSoWith_110, dX6_isSoWith_111, dX6_isSoWith_112, dX6_isSoWith_113, dX6_isSoWith_116, dX6_isSoWith_118, dX6_isSoWith_119, dX6_isSoWith_120, dX6_isSoWith_121, dX6_isSoWith_122, dX6_isSoWith_123, dX6_isSoWith_124, dX6_isSoWith_127, dX6_isSoWith_129, dX6_isSoWith_130, dX6_isSoWith_131, dX6_isSoWith_132, dX6_isSoWith_135, dX6_isSoWith_136, dX6_isSoWith_139, dX6_isSoWith_140, dX6_isSoWith_141, dX6_isSoWith_144, dX6_isSoWith_147, dX6_isSoWith_148, FX6_13, FX6_29, FX6_7, G_X6_isSoWith_174, G_X6_isSoWith_145, G_X6_isSoWith_170, kd_66, kd_67, ln_67, kd_73, ln_73, e67, e1, e2, e3, ha, hi, e4, hq]
    by_cases z : fitA F f k = true
    · rw [if_pos z]
      by_cases y : nx yes F a (7 * i + 1) = f (44 + 3 * k)
      · rw [if_pos (by simp [z, y])] at h
        repeat' (first | exact trivial | omega | (with_reducible assumption) | exact absurd trivial (by with_reducible assumption) | contradiction | apply And.intro | intro _)
      · rw [if_neg (by simp [y])] at h
        repeat' (first | exact trivial | omega | (with_reducible assumption) | exact absurd trivial (by with_reducible assumption) | contradiction | apply And.intro | intro _)
    · rw [if_neg z]
      rw [if_neg (by simp [z])] at h
      repeat' (first | exact trivial | omega | (with_reducible assumption) | exact absurd trivial (by with_reducible assumption) | contradiction | apply And.intro | intro _)
def T6_isSoWith : TT := fun a μ K => match a with
  | [.inr (.inr o), .inl c, .inl v] => o = 66 ∧ ((0 ≤ c ∧ c < 35) ∧ MOK μ ∧ SW (rI μ 67) ∧ rI μ 67 35 ≠ 0 ∧ WF (upF (rI μ 67) c.toNat v) ∧ ∀ ν, MFq μ ν ∧ Q73 ν (upF (rI μ 67) c.toNat v) 41 0 → (fitA (upF (rI μ 67) c.toNat v) (rI μ 67) (rI μ 67 41).toNat = true → K [.inl 1] ν) ∧ (¬ fitA (upF (rI μ 67) c.toNat v) (rI μ 67) (rI μ 67 41).toNat = true → K [.inl 0] ν))
  | _ => False
theorem rec_X6_isSoWith : ∀ a μ K, T6_isSoWith a μ K → ∃ k r, a = .inr (.inr k) :: r ∧ kd k = 6 := by
  intro a μ K h
  unfold T6_isSoWith at h
  split at h
  · exact ⟨_, _, rfl, by rw [h.1]; rfl⟩
  · exact h.elim
theorem gk_X6_isSoWith (l : Launch) : ∀ i n b T, G_X6_isSoWith i = some (n, b, T) → CallOK l 4 RX6 i n b T := by
  intro i n b T h
  have hm : (i, n, b, T) ∈ GL_X6_isSoWith := lk_mem h
  simp only [GL_X6_isSoWith, List.mem_cons, List.not_mem_nil, or_false, Prod.mk.injEq] at hm
  rcases hm with ⟨rfl, rfl, rfl, rfl⟩ | ⟨rfl, rfl, rfl, rfl⟩ | ⟨rfl, rfl, rfl, rfl⟩
  · exact CallOK.V (d := 4) (own := RX6) (i := 174) (n := 0) (ci := 6) (good_X6_starts l) (by decide) (by decide) rfl (by decide) rec_X6_starts (mg 769 (by decide +kernel) (by decide +kernel)) (mg 771 (by decide +kernel) (by decide +kernel)) (mgs 33 (by decide +kernel) (by decide +kernel)) (mg 7 (by decide +kernel) (by decide +kernel)) (mg 772 (by decide +kernel) (by decide +kernel)) (by decide +kernel)
  · exact CallOK.V (d := 4) (own := RX6) (i := 145) (n := 2) (ci := 6) (good_X6_of l) (by decide) (by decide) rfl (by decide) rec_X6_of (mg 777 (by decide +kernel) (by decide +kernel)) (mg 779 (by decide +kernel) (by decide +kernel)) (mgs 35 (by decide +kernel) (by decide +kernel)) (mg 7 (by decide +kernel) (by decide +kernel)) (mg 780 (by decide +kernel) (by decide +kernel)) (by decide +kernel)
  · exact CallOK.V (d := 4) (own := RX6) (i := 170) (n := 1) (ci := 6) (good_X6_visitGoes l) (by decide) (by decide) rfl (by decide) rec_X6_visitGoes (mg 853 (by decide +kernel) (by decide +kernel)) (mg 855 (by decide +kernel) (by decide +kernel)) (mgs 46 (by decide +kernel) (by decide +kernel)) (mg 7 (by decide +kernel) (by decide +kernel)) (mg 856 (by decide +kernel) (by decide +kernel)) (by decide +kernel)
set_option maxRecDepth 20000 in
set_option maxHeartbeats 4000000 in
theorem body_X6_isSoWith (o : Nat) (c : Int) (v : Int) (μ : Mem) (K : List AV → Mem → Prop) (V : Nat → List (Option AV) → List AV → Mem → Prop) (hV : Clos FX6 CX6 G_X6_isSoWith 2 K cX6_isSoWith V) (hT : o = 66 ∧ ((0 ≤ c ∧ c < 35) ∧ MOK μ ∧ SW (rI μ 67) ∧ rI μ 67 35 ≠ 0 ∧ WF (upF (rI μ 67) c.toNat v) ∧ ∀ ν, MFq μ ν ∧ Q73 ν (upF (rI μ 67) c.toNat v) 41 0 → (fitA (upF (rI μ 67) c.toNat v) (rI μ 67) (rI μ 67 41).toNat = true → K [.inl 1] ν) ∧ (¬ fitA (upF (rI μ 67) c.toNat v) (rI μ 67) (rI μ 67 41).toNat = true → K [.inl 0] ν))) : V 0 [some (.inr (.inr o)), some (.inl c), some (.inl v), none, none, none] [] μ := by
  obtain ⟨rfl, hc, hQ, hS, h0, hW, hK⟩ := hT
  obtain ⟨c', rfl⟩ := Int.eq_ofNat_of_zero_le hc.1
  rw [Int.toNat_natCast] at hW hK
  have e35 : upF (rI μ 67) c' v 35 = rI μ 67 35 := upF_n _ _ (by omega)
  have e38 : upF (rI μ 67) c' v 38 = rI μ 67 38 := upF_n _ _ (by omega)
  have h41 := hS.1
  have h := lp_so2 V K hV μ (upF (rI μ 67) c' v) hW (by rw [e38]; exact hQ.2.1) (by rw [e35]; exact h0) c' v none (fun ρ hρ => by
    have hk := hK ρ ⟨hρ.2.2.2.2.1, hρ.2.2.2.2.2⟩
    have := lp_so3 V K hV ρ (upF (rI μ 67) c' v) (rI μ 67) hW e35 (fun j => hρ.2.2.2.2.1.1.1 67 (by omega) (by omega) (by omega) (by omega) (by omega) j) hS hρ.2.2.2.2.2 c' v hk.1 hk.2 (rI μ 67 41).toNat 0 (by omega) none
    simp only [fitA, if_true] at this
    exact this) 41 0 (by omega) _ (SI.st hQ (by omega) v) none
  apply hV [13] 40
  simp only [InR, InL, inb, Int.toNat_natCast, wp1, wpc_z, wpc_s, stp_iconst, stp_bipush, stp_sipush, stp_lconst, stp_iload_n, stp_iload, stp_lload_n, stp_lload, stp_aload_n, stp_aload, stp_istore_n, stp_istore, stp_lstore_n, stp_lstore, stp_astore_n, stp_astore, stp_iinc, stp_iadd, stp_isub, stp_imul, stp_ineg, stp_idiv, stp_irem, stp_ladd, stp_lmul, stp_ldiv, stp_lrem, stp_ishl, stp_ishr, stp_iushr, stp_iand, stp_ior, stp_i2l, stp_i2b, stp_i2s, stp_lcmp, stp_dup, stp_dup2, stp_pop, stp_ifCond, stp_if_icmp, stp_goto, stp_tableswitch, stp_lookupswitch, stp_ldc, stp_ldc_w, stp_ldc2_w, stp_getstatic, stp_getfield, stp_putfield, stp_iaload, stp_baload, stp_iastore, stp_bastore, stp_aaload, stp_aastore, stp_invokevirtual, stp_invokestatic, stp_ireturn, stp_lreturn, stp_return_, lg, lset, okl, spl, wd, c1, cnd, tg, swT, swL, f4_0, f4_1, f4_2, f4_3, f2_0, f2_1, List.mem_cons, List.not_mem_nil, List.length_cons, List.length_nil, List.cons_append, List.nil_append, Nat.reduceAdd, Nat.reduceMul, Nat.reduceLT, Nat.reduceEqDiff, Nat.reduceLeDiff, Int.reduceAdd, Int.reduceNeg, Int.reduceToNat, Int.cast_ofNat_Int, Int.reduceNatCast, Int.toNat_zero, Int.toNat_one, Int.reduceLE, Int.reduceLT, Int.reduceEq, Int.zero_add, Int.add_zero, or_false, false_or, or_true, true_or, and_true, true_and, and_false, false_and, reduceIte, not_true_eq_false, not_false_eq_true, forall_const, false_implies, true_implies, implies_true, ne_eq, reduceCtorEq, List.all_cons, List.all_nil, Bool.and_true, Bool.and_self, decide_eq_true_eq, decide_true, dX6_isSoWith_0, dX6_isSoWith_1, dX6_isSoWith_4, dX6_isSoWith_5, dX6_isSoWith_8, dX6_isSoWith_9, dX6_isSoWith_10, dX6_isSoWith_11, dX6_isSoWith_12, dX6_isSoWith_13, dX6_isSoWith_14, dX6_isSoWith_16, dX6_isSoWith_19, dX6_isSoWith_20, dX6_isSoWith_22, dX6_isSoWith_24, dX6_isSoWith_25, dX6_isSoWith_28, dX6_isSoWith_30, dX6_isSoWith_31, dX6_isSoWith_34, dX6_isSoWith_35, dX6_isSoWith_38, dX6_isSoWith_39, dX6_isSoWith_40, dX6_isSoWith_41, dX6_isSoWith_43, dX6_isSoWith_44, dX6_isSoWith_45, dX6_isSoWith_47, dX6_isSoWith_48, dX6_isSoWith_51, dX6_isSoWith_52, dX6_isSoWith_55, dX6_isSoWith_58, dX6_isSoWith_59, dX6_isSoWith_60, dX6_isSoWith_63, dX6_isSoWith_66, dX6_isSoWith_69, dX6_isSoWith_70, dX6_isSoWith_71, dX6_isSoWith_72, dX6_isSoWith_74, dX6_isSoWith_76, dX6_isSoWith_77, dX6_isSoWith_80, dX6_isSoWith_82, dX6_isSoWith_83, dX6_isSoWith_86, dX6_isSoWith_88, dX6_isSoWith_89, dX6_isSoWith_91, dX6_isSoWith_92, dX6_isSoWith_93, dX6_isSoWith_95, dX6_isSoWith_96, dX6_isSoWith_99, dX6_isSoWith_100, dX6_isSoWith_103, dX6_isSoWith_104, dX6_isSoWith_105, dX6_isSoWith_108, dX6_isSoWith_110, dX6_isSoWith_111, dX6_isSoWith_112, dX6_isSoWith_113, dX6_isSoWith_116, dX6_isSoWith_118, dX6_isSoWith_119, dX6_isSoWith_120, dX6_isSoWith_121, dX6_isSoWith_122, dX6_isSoWith_123, dX6_isSoWith_124, dX6_isSoWith_127, dX6_isSoWith_129, dX6_isSoWith_130, dX6_isSoWith_131, dX6_isSoWith_132, dX6_isSoWith_135, dX6_isSoWith_136, dX6_isSoWith_139, dX6_isSoWith_140, dX6_isSoWith_141, dX6_isSoWith_144, dX6_isSoWith_147, dX6_isSoWith_148, FX6_13, FX6_29, FX6_7, G_X6_isSoWith_174, G_X6_isSoWith_145, G_X6_isSoWith_170, kd_66, kd_68, ln_68, T6_starts]
  repeat' (first | exact trivial | omega | (with_reducible assumption) | exact absurd trivial (by with_reducible assumption) | contradiction | apply And.intro | intro _)
theorem good_X6_isSoWith (l : Launch) : Good l 4 yX6_isSoWith cX6_isSoWith 6 (some .boolean) T6_isSoWith := by
  refine Good.mk 2 (by decide) rfl (by simp [retOK]) FOK6 COK6 (gk_X6_isSoWith l) ?_ ?_
  · intro a μ K h
    unfold T6_isSoWith at h
    split at h
    · simp [entl]
    · exact h.elim
  · intro a μ K V hV h
    unfold T6_isSoWith at h
    split at h
    · exact body_X6_isSoWith _ _ _ μ K V hV h
    · exact h.elim

/-- bits -/
def bitsN (p : Nat → Bool) : Nat → Nat
  | 0 => 0
  | n + 1 => bitsN p n + (if p n = true then 2 ^ n else 0)
theorem bitsN_lt (p : Nat → Bool) : ∀ n, bitsN p n < 2 ^ n
  | 0 => by simp [bitsN]
  | n + 1 => by
    have h := bitsN_lt p n
    simp only [bitsN, Nat.pow_succ]
    split <;> omega
theorem bits_or (p : Nat → Bool) (n : Nat) : bitsN p n ||| 2 ^ n = bitsN p n + 2 ^ n := by
  have h := Nat.two_pow_add_eq_or_of_lt (bitsN_lt p n) 1
  rw [Nat.mul_one] at h
  rw [Nat.or_comm, ← h, Nat.add_comm]
theorem p2_lt (n : Nat) (h : n < 10) : 2 ^ n ≤ 512 := by
  have : ∀ n, n < 10 → 2 ^ n ≤ 512 := by decide +kernel
  exact this n h
theorem bitsN_b (p : Nat → Bool) : ∀ n, n ≤ 10 → bitsN p n < 1024
  | n, h => Nat.lt_of_lt_of_le (bitsN_lt p n) (by have : ∀ n, n ≤ 10 → 2 ^ n ≤ 1024 := by decide +kernel
                                                  exact this n h)
theorem or_step (p : Nat → Bool) (n : Nat) (hn : n < 10) (b : Int) (hb : b = (if p n = true then 1 else 0)) : (((((bitsN p n : Nat) : Int).toNat ||| (b * 2 ^ ((n : Int)).toNat).toNat : Nat)) : Int) = ((bitsN p (n + 1) : Nat) : Int) := by
  rw [Int.toNat_natCast, Int.toNat_natCast]
  simp only [bitsN]
  by_cases z : p n = true
  · rw [if_pos z] at hb ⊢
    rw [hb, Int.one_mul, p2_c, Int.toNat_natCast, bits_or]
  · rw [if_neg z] at hb ⊢
    rw [hb, Int.zero_mul, Int.toNat_zero, Nat.or_zero, Nat.add_zero]
def fitV (f : Nat → Int) (i t : Nat) : Nat → Bool := fun v => fitA (upF f (7 * i + t) v) f (f 41).toNat
def topT (t : Nat) : Nat := if t = 0 then 4 else 10
def whichR (f : Nat → Int) (i : Int) (t : Nat) : Int := if 0 ≤ i ∧ i < f 35 then ((bitsN (fitV f i.toNat t) (topT t) : Nat) : Int) else -1
theorem hiA_t {t : Nat} (h : t = 0 ∨ t = 3) : hiA (t : Int) = (topT t : Int) - 1 ∧ topT t ≤ 10 := by
  rcases h with rfl | rfl <;> decide
theorem WF.setT {f : Nat → Int} (h : WF f) {i t : Nat} (hi : (i : Int) < f 35) (ht : t = 0 ∨ t = 3) {n : Nat} (hn : n < topT t) : WF (upF f (7 * i + t) n) := by
  rcases ht with rfl | rfl
  · have : n < 4 := hn
    exact h.set hi (by omega) ⟨fun _ => by omega, fun z => by omega, fun z => by omega, fun z => by omega, fun z => by omega⟩
  · have : n < 10 := hn
    exact h.set hi (by omega) ⟨fun z => by omega, fun z => by omega, fun z => by omega, fun _ => by omega, fun z => by omega⟩
def GL_X6_which : List (Nat × Nat × Bool × TT) := [(180, 2, false, T6_isStation), (111, 1, true, T6_mostOf), (264, 3, false, T6_isSoWith), (163, 1, true, T6_flag)]
def G_X6_which : Nat → Option (Nat × Bool × TT) := fun i => GL_X6_which.lookup i
theorem G_X6_which_180 : G_X6_which 180 = some (2, false, T6_isStation) := rfl
theorem G_X6_which_111 : G_X6_which 111 = some (1, true, T6_mostOf) := rfl
theorem G_X6_which_264 : G_X6_which 264 = some (3, false, T6_isSoWith) := rfl
theorem G_X6_which_163 : G_X6_which 163 = some (1, true, T6_flag) := rfl

set_option maxRecDepth 20000 in
set_option maxHeartbeats 4000000 in
theorem lp_which (V : Nat → List (Option AV) → List AV → Mem → Prop) (K : List AV → Mem → Prop) (hV : Clos FX6 CX6 G_X6_which 1 K cX6_which V) (μ : Mem) (hQ : MOK μ) (hS : SW (rI μ 67)) (i : Nat) (hi : (i : Int) < rI μ 67 35) (t : Nat) (ht : t = 0 ∨ t = 3) (hK : ∀ ν, MF μ ν → K [.inl ((bitsN (fitV (rI μ 67) i t) (topT t) : Nat) : Int)] ν) : ∀ m n : Nat, n + m = topT t → ∀ ν, MF μ ν → V 15 [some (.inr (.inr 66)), some (.inl (i : Int)), some (.inl (t : Int)), some (.inl ((bitsN (fitV (rI μ 67) i t) n : Nat) : Int)), some (.inl (n : Int))] [] ν := by
  obtain ⟨hh, hT⟩ := hiA_t ht
  have h35 := hQ.1.1
  intro m
  induction m with
  | zero =>
    intro n hn ν hF
    have en : n = topT t := by omega
    subst en
    have hk := hK ν hF
    apply hV [15] 40
    simp only [InR, InL, inb, Int.toNat_natCast, wp1, wpc_z, wpc_s, stp_iconst, stp_bipush, stp_sipush, stp_lconst, stp_iload_n, stp_iload, stp_lload_n, stp_lload, stp_aload_n, stp_aload, stp_istore_n, stp_istore, stp_lstore_n, stp_lstore, stp_astore_n, stp_astore, stp_iinc, stp_iadd, stp_isub, stp_imul, stp_ineg, stp_idiv, stp_irem, stp_ladd, stp_lmul, stp_ldiv, stp_lrem, stp_ishl, stp_ishr, stp_iushr, stp_iand, stp_ior, stp_i2l, stp_i2b, stp_i2s, stp_lcmp, stp_dup, stp_dup2, stp_pop, stp_ifCond, stp_if_icmp, stp_goto, stp_tableswitch, stp_lookupswitch, stp_ldc, stp_ldc_w, stp_ldc2_w, stp_getstatic, stp_getfield, stp_putfield, stp_iaload, stp_baload, stp_iastore, stp_bastore, stp_aaload, stp_aastore, stp_invokevirtual, stp_invokestatic, stp_ireturn, stp_lreturn, stp_return_, lg, lset, okl, spl, wd, c1, cnd, tg, swT, swL, f4_0, f4_1, f4_2, f4_3, f2_0, f2_1, List.mem_cons, List.not_mem_nil, List.length_cons, List.length_nil, List.cons_append, List.nil_append, Nat.reduceAdd, Nat.reduceMul, Nat.reduceLT, Nat.reduceEqDiff, Nat.reduceLeDiff, Int.reduceAdd, Int.reduceNeg, Int.reduceToNat, Int.cast_ofNat_Int, Int.reduceNatCast, Int.toNat_zero, Int.toNat_one, Int.reduceLE, Int.reduceLT, Int.reduceEq, Int.zero_add, Int.add_zero, or_false, false_or, or_true, true_or, and_true, true_and, and_false, false_and, reduceIte, not_true_eq_false, not_false_eq_true, forall_const, false_implies, true_implies, implies_true, ne_eq, reduceCtorEq, List.all_cons, List.all_nil, Bool.and_true, Bool.and_self, decide_eq_true_eq, decide_true, dX6_which_0, dX6_which_1, dX6_which_2, dX6_which_5, dX6_which_8, dX6_which_9, dX6_which_10, dX6_which_11, dX6_which_12, dX6_which_13, dX6_which_15, dX6_which_17, dX6_which_18, dX6_which_21, dX6_which_24, dX6_which_25, dX6_which_26, dX6_which_28, dX6_which_29, dX6_which_30, dX6_which_31, dX6_which_32, dX6_which_34, dX6_which_37, dX6_which_40, dX6_which_42, dX6_which_43, dX6_which_44, dX6_which_45, dX6_which_48, dX6_which_51, dX6_which_52, G_X6_which_180, G_X6_which_111, G_X6_which_264, G_X6_which_163, kd_66, T6_mostOf, hiA_f, hh]
    repeat' (first | exact trivial | omega | (with_reducible assumption) | exact absurd trivial (by with_reducible assumption) | contradiction | apply And.intro | intro _)
  | succ m ih =>
    intro n hn ν hF
    have e67 : rI ν 67 = rI μ 67 := funext (fun j => hF.1 67 (by omega) (by omega) (by omega) (by omega) (by omega) j)
    have e1 : (7 * (i : Int) + (t : Int)).toNat = 7 * i + t := by omega
    have hW2 := hQ.1.setT hi ht (n := n) (by omega)
    have hb := bitsN_b (fitV (rI μ 67) i t) n (by omega)
    have hp := p2_lt n (by omega)
    have hp2 := p2_c n
    have g1 : (0 : Int) ≤ 2 ^ n := by rw [p2_c]; exact Int.natCast_nonneg _
    have g2 : (0 : Int) ≤ ((2 ^ n : Nat) : Int) := Int.natCast_nonneg _
    have hQ2 := hF.mq hQ
    have hS2 : SW (rI ν 67) := by rw [e67]; exact hS
    have key := fun ρ hρ => ih (n + 1) (by omega) ρ hρ
    rw [show ((n + 1 : Nat) : Int) = (n : Int) + 1 by omega] at key
    apply hV [15] 40
    simp only [InR, InL, inb, Int.toNat_natCast, wp1, wpc_z, wpc_s, stp_iconst, stp_bipush, stp_sipush, stp_lconst, stp_iload_n, stp_iload, stp_lload_n, stp_lload, stp_aload_n, stp_aload, stp_istore_n, stp_istore, stp_lstore_n, stp_lstore, stp_astore_n, stp_astore, stp_iinc, stp_iadd, stp_isub, stp_imul, stp_ineg, stp_idiv, stp_irem, stp_ladd, stp_lmul, stp_ldiv, stp_lrem, stp_ishl, stp_ishr, stp_iushr, stp_iand, stp_ior, stp_i2l, stp_i2b, stp_i2s, stp_lcmp, stp_dup, stp_dup2, stp_pop, stp_ifCond, stp_if_icmp, stp_goto, stp_tableswitch, stp_lookupswitch, stp_ldc, stp_ldc_w, stp_ldc2_w, stp_getstatic, stp_getfield, stp_putfield, stp_iaload, stp_baload, stp_iastore, stp_bastore, stp_aaload, stp_aastore, stp_invokevirtual, stp_invokestatic, stp_ireturn, stp_lreturn, stp_return_, lg, lset, okl, spl, wd, c1, cnd, tg, swT, swL, f4_0, f4_1, f4_2, f4_3, f2_0, f2_1, List.mem_cons, List.not_mem_nil, List.length_cons, List.length_nil, List.cons_append, List.nil_append, Nat.reduceAdd, Nat.reduceMul, Nat.reduceLT, Nat.reduceEqDiff, Nat.reduceLeDiff, Int.reduceAdd, Int.reduceNeg, Int.reduceToNat, Int.cast_ofNat_Int, Int.reduceNatCast, Int.toNat_zero, Int.toNat_one, Int.reduceLE, Int.reduceLT, Int.reduceEq, Int.zero_add, Int.add_zero, or_false, false_or, or_true, true_or, and_true, true_and, and_false, false_and, reduceIte, not_true_eq_false, not_false_eq_true, forall_const, false_implies, true_implies, implies_true, ne_eq, reduceCtorEq, List.all_cons, List.all_nil, Bool.and_true, Bool.and_self, decide_eq_true_eq, decide_true, dX6_which_0, dX6_which_1, dX6_which_2, dX6_which_5, dX6_which_8, dX6_which_9, dX6_which_10, dX6_which_11, dX6_which_12, dX6_which_13, dX6_which_15, dX6_which_17, dX6_which_18, dX6_which_21, dX6_which_24, dX6_which_25, dX6_which_26, dX6_which_28, dX6_which_29, dX6_which_30, dX6_which_31, dX6_which_32, dX6_which_34, dX6_which_37, dX6_which_40, dX6_which_42, dX6_which_43, dX6_which_44, dX6_which_45, dX6_which_48, dX6_which_51, dX6_which_52, G_X6_which_180, G_X6_which_111, G_X6_which_264, G_X6_which_163, kd_66, T6_mostOf, hiA_f, hh, T6_isSoWith, T6_flag, e1]
    rw [e67]
    have main : ∀ ρ, MFq ν ρ ∧ Q73 ρ (upF (rI μ 67) (7 * i + t) n) 41 0 → ∀ b : Int, b = (if fitV (rI μ 67) i t n = true then 1 else 0) → V 15 [some (.inr (.inr 66)), some (.inl (i : Int)), some (.inl (t : Int)), some (.inl (((((bitsN (fitV (rI μ 67) i t) n : Nat) : Int).toNat ||| (b * 2 ^ ((n : Int)).toNat).toNat : Nat)) : Int)), some (.inl ((n : Int) + 1))] [] ρ := by
      intro ρ hρ b hb
      rw [or_step _ n (by omega) b hb]
      exact key ρ (hF.tr hρ.1.1)
    simp only [Int.toNat_natCast] at main
    have hQ3 : MOK ν := hQ2
    rw [e67] at hS2
    refine ⟨by omega, by omega, by omega, fun z => absurd z (by omega), fun _ => ⟨by omega, hQ3, hS2, by omega, hW2, fun ρ hρ => ⟨fun z => ?_, fun z => ?_⟩⟩⟩
    · have k1 := main ρ hρ 1 (by rw [if_pos (show fitV (rI μ 67) i t n = true from z)])
      simp only [Int.toNat_natCast, Int.one_mul, Int.zero_mul] at k1 ⊢
      repeat' (first | exact trivial | omega | (with_reducible assumption) | exact absurd trivial (by with_reducible assumption) | contradiction | apply And.intro | intro _)
    · have k1 := main ρ hρ 0 (by rw [if_neg (show ¬ fitV (rI μ 67) i t n = true from z)])
      simp only [Int.toNat_natCast, Int.one_mul, Int.zero_mul] at k1 ⊢
      repeat' (first | exact trivial | omega | (with_reducible assumption) | exact absurd trivial (by with_reducible assumption) | contradiction | apply And.intro | intro _)
def T6_which : TT := fun a μ K => match a with
  | [.inr (.inr o), .inl i, .inl w] => o = 66 ∧ (InR i ∧ ∃ t : Nat, w = t ∧ (t = 0 ∨ t = 3) ∧ MOK μ ∧ SW (rI μ 67) ∧ ∀ ν, MF μ ν → K [.inl (whichR (rI μ 67) i t)] ν)
  | _ => False
theorem rec_X6_which : ∀ a μ K, T6_which a μ K → ∃ k r, a = .inr (.inr k) :: r ∧ kd k = 6 := by
  intro a μ K h
  unfold T6_which at h
  split at h
  · exact ⟨_, _, rfl, by rw [h.1]; rfl⟩
  · exact h.elim
theorem gk_X6_which (l : Launch) : ∀ i n b T, G_X6_which i = some (n, b, T) → CallOK l 5 RX6 i n b T := by
  intro i n b T h
  have hm : (i, n, b, T) ∈ GL_X6_which := lk_mem h
  simp only [GL_X6_which, List.mem_cons, List.not_mem_nil, or_false, Prod.mk.injEq] at hm
  rcases hm with ⟨rfl, rfl, rfl, rfl⟩ | ⟨rfl, rfl, rfl, rfl⟩ | ⟨rfl, rfl, rfl, rfl⟩ | ⟨rfl, rfl, rfl, rfl⟩
  · exact CallOK.V (d := 5) (own := RX6) (i := 180) (n := 1) (ci := 6) (good_X6_isStation l) (by decide) (by decide) rfl (by decide) rec_X6_isStation (mg 796 (by decide +kernel) (by decide +kernel)) (mg 798 (by decide +kernel) (by decide +kernel)) (mgs 38 (by decide +kernel) (by decide +kernel)) (mg 7 (by decide +kernel) (by decide +kernel)) (mg 799 (by decide +kernel) (by decide +kernel)) (by decide +kernel)
  · exact CallOK.S (d := 5) (own := RX6) (i := 111) (n := 1) (good_X6_mostOf l) (by decide) (by decide) (mg 758 (by decide +kernel) (by decide +kernel)) (mg 759 (by decide +kernel) (by decide +kernel)) (mg 7 (by decide +kernel) (by decide +kernel)) (mg 760 (by decide +kernel) (by decide +kernel)) (by decide +kernel)
  · exact CallOK.V (d := 5) (own := RX6) (i := 264) (n := 2) (ci := 6) (good_X6_isSoWith l) (by decide) (by decide) rfl (by decide) rec_X6_isSoWith (mg 956 (by decide +kernel) (by decide +kernel)) (mg 958 (by decide +kernel) (by decide +kernel)) (mgs 53 (by decide +kernel) (by decide +kernel)) (mg 7 (by decide +kernel) (by decide +kernel)) (mg 959 (by decide +kernel) (by decide +kernel)) (by decide +kernel)
  · exact CallOK.S (d := 5) (own := RX6) (i := 163) (n := 1) (good_X6_flag l) (by decide) (by decide) (mg 857 (by decide +kernel) (by decide +kernel)) (mg 858 (by decide +kernel) (by decide +kernel)) (mg 7 (by decide +kernel) (by decide +kernel)) (mg 859 (by decide +kernel) (by decide +kernel)) (by decide +kernel)
set_option maxRecDepth 20000 in
set_option maxHeartbeats 4000000 in
theorem body_X6_which (o : Nat) (i : Int) (w : Int) (μ : Mem) (K : List AV → Mem → Prop) (V : Nat → List (Option AV) → List AV → Mem → Prop) (hV : Clos FX6 CX6 G_X6_which 1 K cX6_which V) (hT : o = 66 ∧ (InR i ∧ ∃ t : Nat, w = t ∧ (t = 0 ∨ t = 3) ∧ MOK μ ∧ SW (rI μ 67) ∧ ∀ ν, MF μ ν → K [.inl (whichR (rI μ 67) i t)] ν)) : V 0 [some (.inr (.inr o)), some (.inl i), some (.inl w), none, none] [] μ := by
  simp only [InR] at hT
  obtain ⟨rfl, hi, t, rfl, ht, hQ, hS, hK⟩ := hT
  have h35 := hQ.1.1
  unfold whichR at hK
  by_cases hc : 0 ≤ i ∧ i < rI μ 67 35
  · obtain ⟨i', rfl⟩ := Int.eq_ofNat_of_zero_le hc.1
    rw [if_pos hc, Int.toNat_natCast] at hK
    have h := lp_which V K hV μ hQ hS i' (by omega) t ht hK (topT t) 0 (by omega) μ MF.rf
    simp only [bitsN] at h
    apply hV [15] 40
    simp only [InR, InL, inb, Int.toNat_natCast, wp1, wpc_z, wpc_s, stp_iconst, stp_bipush, stp_sipush, stp_lconst, stp_iload_n, stp_iload, stp_lload_n, stp_lload, stp_aload_n, stp_aload, stp_istore_n, stp_istore, stp_lstore_n, stp_lstore, stp_astore_n, stp_astore, stp_iinc, stp_iadd, stp_isub, stp_imul, stp_ineg, stp_idiv, stp_irem, stp_ladd, stp_lmul, stp_ldiv, stp_lrem, stp_ishl, stp_ishr, stp_iushr, stp_iand, stp_ior, stp_i2l, stp_i2b, stp_i2s, stp_lcmp, stp_dup, stp_dup2, stp_pop, stp_ifCond, stp_if_icmp, stp_goto, stp_tableswitch, stp_lookupswitch, stp_ldc, stp_ldc_w, stp_ldc2_w, stp_getstatic, stp_getfield, stp_putfield, stp_iaload, stp_baload, stp_iastore, stp_bastore, stp_aaload, stp_aastore, stp_invokevirtual, stp_invokestatic, stp_ireturn, stp_lreturn, stp_return_, lg, lset, okl, spl, wd, c1, cnd, tg, swT, swL, f4_0, f4_1, f4_2, f4_3, f2_0, f2_1, List.mem_cons, List.not_mem_nil, List.length_cons, List.length_nil, List.cons_append, List.nil_append, Nat.reduceAdd, Nat.reduceMul, Nat.reduceLT, Nat.reduceEqDiff, Nat.reduceLeDiff, Int.reduceAdd, Int.reduceNeg, Int.reduceToNat, Int.cast_ofNat_Int, Int.reduceNatCast, Int.toNat_zero, Int.toNat_one, Int.reduceLE, Int.reduceLT, Int.reduceEq, Int.zero_add, Int.add_zero, or_false, false_or, or_true, true_or, and_true, true_and, and_false, false_and, reduceIte, not_true_eq_false, not_false_eq_true, forall_const, false_implies, true_implies, implies_true, ne_eq, reduceCtorEq, List.all_cons, List.all_nil, Bool.and_true, Bool.and_self, decide_eq_true_eq, decide_true, dX6_which_0, dX6_which_1, dX6_which_2, dX6_which_5, dX6_which_8, dX6_which_9, dX6_which_10, dX6_which_11, dX6_which_12, dX6_which_13, dX6_which_15, dX6_which_17, dX6_which_18, dX6_which_21, dX6_which_24, dX6_which_25, dX6_which_26, dX6_which_28, dX6_which_29, dX6_which_30, dX6_which_31, dX6_which_32, dX6_which_34, dX6_which_37, dX6_which_40, dX6_which_42, dX6_which_43, dX6_which_44, dX6_which_45, dX6_which_48, dX6_which_51, dX6_which_52, G_X6_which_180, G_X6_which_111, G_X6_which_264, G_X6_which_163, kd_66, T6_isStation]
    repeat' (first | exact trivial | omega | (with_reducible assumption) | exact absurd trivial (by with_reducible assumption) | contradiction | apply And.intro | intro _)
  · rw [if_neg hc] at hK
    have hk := hK μ MF.rf
    apply hV [10] 40
    simp only [InR, InL, inb, Int.toNat_natCast, wp1, wpc_z, wpc_s, stp_iconst, stp_bipush, stp_sipush, stp_lconst, stp_iload_n, stp_iload, stp_lload_n, stp_lload, stp_aload_n, stp_aload, stp_istore_n, stp_istore, stp_lstore_n, stp_lstore, stp_astore_n, stp_astore, stp_iinc, stp_iadd, stp_isub, stp_imul, stp_ineg, stp_idiv, stp_irem, stp_ladd, stp_lmul, stp_ldiv, stp_lrem, stp_ishl, stp_ishr, stp_iushr, stp_iand, stp_ior, stp_i2l, stp_i2b, stp_i2s, stp_lcmp, stp_dup, stp_dup2, stp_pop, stp_ifCond, stp_if_icmp, stp_goto, stp_tableswitch, stp_lookupswitch, stp_ldc, stp_ldc_w, stp_ldc2_w, stp_getstatic, stp_getfield, stp_putfield, stp_iaload, stp_baload, stp_iastore, stp_bastore, stp_aaload, stp_aastore, stp_invokevirtual, stp_invokestatic, stp_ireturn, stp_lreturn, stp_return_, lg, lset, okl, spl, wd, c1, cnd, tg, swT, swL, f4_0, f4_1, f4_2, f4_3, f2_0, f2_1, List.mem_cons, List.not_mem_nil, List.length_cons, List.length_nil, List.cons_append, List.nil_append, Nat.reduceAdd, Nat.reduceMul, Nat.reduceLT, Nat.reduceEqDiff, Nat.reduceLeDiff, Int.reduceAdd, Int.reduceNeg, Int.reduceToNat, Int.cast_ofNat_Int, Int.reduceNatCast, Int.toNat_zero, Int.toNat_one, Int.reduceLE, Int.reduceLT, Int.reduceEq, Int.zero_add, Int.add_zero, or_false, false_or, or_true, true_or, and_true, true_and, and_false, false_and, reduceIte, not_true_eq_false, not_false_eq_true, forall_const, false_implies, true_implies, implies_true, ne_eq, reduceCtorEq, List.all_cons, List.all_nil, Bool.and_true, Bool.and_self, decide_eq_true_eq, decide_true, dX6_which_0, dX6_which_1, dX6_which_2, dX6_which_5, dX6_which_8, dX6_which_9, dX6_which_10, dX6_which_11, dX6_which_12, dX6_which_13, dX6_which_15, dX6_which_17, dX6_which_18, dX6_which_21, dX6_which_24, dX6_which_25, dX6_which_26, dX6_which_28, dX6_which_29, dX6_which_30, dX6_which_31, dX6_which_32, dX6_which_34, dX6_which_37, dX6_which_40, dX6_which_42, dX6_which_43, dX6_which_44, dX6_which_45, dX6_which_48, dX6_which_51, dX6_which_52, G_X6_which_180, G_X6_which_111, G_X6_which_264, G_X6_which_163, kd_66, T6_isStation]
    repeat' (first | exact trivial | omega | (with_reducible assumption) | exact absurd trivial (by with_reducible assumption) | contradiction | apply And.intro | intro _)
theorem good_X6_which (l : Launch) : Good l 5 yX6_which cX6_which 5 (some .int) T6_which := by
  refine Good.mk 1 (by decide) rfl (by simp [retOK]) FOK6 COK6 (gk_X6_which l) ?_ ?_
  · intro a μ K h
    unfold T6_which at h
    split at h
    · simp [entl]
    · exact h.elim
  · intro a μ K V hV h
    unfold T6_which at h
    split at h
    · exact body_X6_which _ _ _ μ K V hV h
    · exact h.elim

def T6_kinds : TT := fun a μ K => match a with
  | [.inr (.inr o), .inl i] => o = 66 ∧ (InR i ∧ MOK μ ∧ SW (rI μ 67) ∧ ∀ ν, MF μ ν → K [.inl (whichR (rI μ 67) i 0)] ν)
  | _ => False
theorem rec_X6_kinds : ∀ a μ K, T6_kinds a μ K → ∃ k r, a = .inr (.inr k) :: r ∧ kd k = 6 := by
  intro a μ K h
  unfold T6_kinds at h
  split at h
  · exact ⟨_, _, rfl, by rw [h.1]; rfl⟩
  · exact h.elim
def GL_X6_kinds : List (Nat × Nat × Bool × TT) := [(268, 3, false, T6_which)]
def G_X6_kinds : Nat → Option (Nat × Bool × TT) := fun i => GL_X6_kinds.lookup i
theorem G_X6_kinds_268 : G_X6_kinds 268 = some (3, false, T6_which) := rfl
theorem gk_X6_kinds (l : Launch) : ∀ i n b T, G_X6_kinds i = some (n, b, T) → CallOK l 6 RX6 i n b T := by
  intro i n b T h
  have hm : (i, n, b, T) ∈ GL_X6_kinds := lk_mem h
  simp only [GL_X6_kinds, List.mem_cons, List.not_mem_nil, or_false, Prod.mk.injEq] at hm
  rcases hm with ⟨rfl, rfl, rfl, rfl⟩
  · exact CallOK.V (d := 6) (own := RX6) (i := 268) (n := 2) (ci := 6) (good_X6_which l) (by decide) (by decide) rfl (by decide) rec_X6_which (mg 952 (by decide +kernel) (by decide +kernel)) (mg 954 (by decide +kernel) (by decide +kernel)) (mgs 52 (by decide +kernel) (by decide +kernel)) (mg 7 (by decide +kernel) (by decide +kernel)) (mg 955 (by decide +kernel) (by decide +kernel)) (by decide +kernel)
set_option maxRecDepth 20000 in
set_option maxHeartbeats 4000000 in
theorem body_X6_kinds (o : Nat) (i : Int) (μ : Mem) (K : List AV → Mem → Prop) (V : Nat → List (Option AV) → List AV → Mem → Prop) (hV : Clos FX6 CX6 G_X6_kinds 1 K cX6_kinds V) (hT : o = 66 ∧ (InR i ∧ MOK μ ∧ SW (rI μ 67) ∧ ∀ ν, MF μ ν → K [.inl (whichR (rI μ 67) i 0)] ν)) : V 0 [some (.inr (.inr o)), some (.inl i)] [] μ := by
  obtain ⟨rfl, hi, hQ, hS, hK⟩ := hT
  apply hV [] 20
  simp only [InR] at hi
  simp only [InR, InL, inb, Int.toNat_natCast, wp1, wpc_z, wpc_s, stp_iconst, stp_bipush, stp_sipush, stp_lconst, stp_iload_n, stp_iload, stp_lload_n, stp_lload, stp_aload_n, stp_aload, stp_istore_n, stp_istore, stp_lstore_n, stp_lstore, stp_astore_n, stp_astore, stp_iinc, stp_iadd, stp_isub, stp_imul, stp_ineg, stp_idiv, stp_irem, stp_ladd, stp_lmul, stp_ldiv, stp_lrem, stp_ishl, stp_ishr, stp_iushr, stp_iand, stp_ior, stp_i2l, stp_i2b, stp_i2s, stp_lcmp, stp_dup, stp_dup2, stp_pop, stp_ifCond, stp_if_icmp, stp_goto, stp_tableswitch, stp_lookupswitch, stp_ldc, stp_ldc_w, stp_ldc2_w, stp_getstatic, stp_getfield, stp_putfield, stp_iaload, stp_baload, stp_iastore, stp_bastore, stp_aaload, stp_aastore, stp_invokevirtual, stp_invokestatic, stp_ireturn, stp_lreturn, stp_return_, lg, lset, okl, spl, wd, c1, cnd, tg, swT, swL, f4_0, f4_1, f4_2, f4_3, f2_0, f2_1, List.mem_cons, List.not_mem_nil, List.length_cons, List.length_nil, List.cons_append, List.nil_append, Nat.reduceAdd, Nat.reduceMul, Nat.reduceLT, Nat.reduceEqDiff, Nat.reduceLeDiff, Int.reduceAdd, Int.reduceNeg, Int.reduceToNat, Int.cast_ofNat_Int, Int.reduceNatCast, Int.toNat_zero, Int.toNat_one, Int.reduceLE, Int.reduceLT, Int.reduceEq, Int.zero_add, Int.add_zero, or_false, false_or, or_true, true_or, and_true, true_and, and_false, false_and, reduceIte, not_true_eq_false, not_false_eq_true, forall_const, false_implies, true_implies, implies_true, ne_eq, reduceCtorEq, List.all_cons, List.all_nil, Bool.and_true, Bool.and_self, decide_eq_true_eq, decide_true, dX6_kinds_0, dX6_kinds_1, dX6_kinds_2, dX6_kinds_3, dX6_kinds_6, G_X6_kinds_268, kd_66, T6_which]
  exact ⟨hi, 0, rfl, Or.inl rfl, hQ, hS, hK⟩
theorem good_X6_kinds (l : Launch) : Good l 6 yX6_kinds cX6_kinds 2 (some .int) T6_kinds := by
  refine Good.mk 1 (by decide) rfl (by simp [retOK]) FOK6 COK6 (gk_X6_kinds l) ?_ ?_
  · intro a μ K h
    unfold T6_kinds at h
    split at h
    · simp [entl]
    · exact h.elim
  · intro a μ K V hV h
    unfold T6_kinds at h
    split at h
    · exact body_X6_kinds _ _ μ K V hV h
    · exact h.elim

def T6_gains : TT := fun a μ K => match a with
  | [.inr (.inr o), .inl i] => o = 66 ∧ (InR i ∧ MOK μ ∧ SW (rI μ 67) ∧ ∀ ν, MF μ ν → K [.inl (whichR (rI μ 67) i 3)] ν)
  | _ => False
theorem rec_X6_gains : ∀ a μ K, T6_gains a μ K → ∃ k r, a = .inr (.inr k) :: r ∧ kd k = 6 := by
  intro a μ K h
  unfold T6_gains at h
  split at h
  · exact ⟨_, _, rfl, by rw [h.1]; rfl⟩
  · exact h.elim
def GL_X6_gains : List (Nat × Nat × Bool × TT) := [(268, 3, false, T6_which)]
def G_X6_gains : Nat → Option (Nat × Bool × TT) := fun i => GL_X6_gains.lookup i
theorem G_X6_gains_268 : G_X6_gains 268 = some (3, false, T6_which) := rfl
theorem gk_X6_gains (l : Launch) : ∀ i n b T, G_X6_gains i = some (n, b, T) → CallOK l 6 RX6 i n b T := by
  intro i n b T h
  have hm : (i, n, b, T) ∈ GL_X6_gains := lk_mem h
  simp only [GL_X6_gains, List.mem_cons, List.not_mem_nil, or_false, Prod.mk.injEq] at hm
  rcases hm with ⟨rfl, rfl, rfl, rfl⟩
  · exact CallOK.V (d := 6) (own := RX6) (i := 268) (n := 2) (ci := 6) (good_X6_which l) (by decide) (by decide) rfl (by decide) rec_X6_which (mg 952 (by decide +kernel) (by decide +kernel)) (mg 954 (by decide +kernel) (by decide +kernel)) (mgs 52 (by decide +kernel) (by decide +kernel)) (mg 7 (by decide +kernel) (by decide +kernel)) (mg 955 (by decide +kernel) (by decide +kernel)) (by decide +kernel)
set_option maxRecDepth 20000 in
set_option maxHeartbeats 4000000 in
theorem body_X6_gains (o : Nat) (i : Int) (μ : Mem) (K : List AV → Mem → Prop) (V : Nat → List (Option AV) → List AV → Mem → Prop) (hV : Clos FX6 CX6 G_X6_gains 1 K cX6_gains V) (hT : o = 66 ∧ (InR i ∧ MOK μ ∧ SW (rI μ 67) ∧ ∀ ν, MF μ ν → K [.inl (whichR (rI μ 67) i 3)] ν)) : V 0 [some (.inr (.inr o)), some (.inl i)] [] μ := by
  obtain ⟨rfl, hi, hQ, hS, hK⟩ := hT
  apply hV [] 20
  simp only [InR] at hi
  simp only [InR, InL, inb, Int.toNat_natCast, wp1, wpc_z, wpc_s, stp_iconst, stp_bipush, stp_sipush, stp_lconst, stp_iload_n, stp_iload, stp_lload_n, stp_lload, stp_aload_n, stp_aload, stp_istore_n, stp_istore, stp_lstore_n, stp_lstore, stp_astore_n, stp_astore, stp_iinc, stp_iadd, stp_isub, stp_imul, stp_ineg, stp_idiv, stp_irem, stp_ladd, stp_lmul, stp_ldiv, stp_lrem, stp_ishl, stp_ishr, stp_iushr, stp_iand, stp_ior, stp_i2l, stp_i2b, stp_i2s, stp_lcmp, stp_dup, stp_dup2, stp_pop, stp_ifCond, stp_if_icmp, stp_goto, stp_tableswitch, stp_lookupswitch, stp_ldc, stp_ldc_w, stp_ldc2_w, stp_getstatic, stp_getfield, stp_putfield, stp_iaload, stp_baload, stp_iastore, stp_bastore, stp_aaload, stp_aastore, stp_invokevirtual, stp_invokestatic, stp_ireturn, stp_lreturn, stp_return_, lg, lset, okl, spl, wd, c1, cnd, tg, swT, swL, f4_0, f4_1, f4_2, f4_3, f2_0, f2_1, List.mem_cons, List.not_mem_nil, List.length_cons, List.length_nil, List.cons_append, List.nil_append, Nat.reduceAdd, Nat.reduceMul, Nat.reduceLT, Nat.reduceEqDiff, Nat.reduceLeDiff, Int.reduceAdd, Int.reduceNeg, Int.reduceToNat, Int.cast_ofNat_Int, Int.reduceNatCast, Int.toNat_zero, Int.toNat_one, Int.reduceLE, Int.reduceLT, Int.reduceEq, Int.zero_add, Int.add_zero, or_false, false_or, or_true, true_or, and_true, true_and, and_false, false_and, reduceIte, not_true_eq_false, not_false_eq_true, forall_const, false_implies, true_implies, implies_true, ne_eq, reduceCtorEq, List.all_cons, List.all_nil, Bool.and_true, Bool.and_self, decide_eq_true_eq, decide_true, dX6_gains_0, dX6_gains_1, dX6_gains_2, dX6_gains_3, dX6_gains_6, G_X6_gains_268, kd_66, T6_which]
  exact ⟨hi, 3, rfl, Or.inr rfl, hQ, hS, hK⟩
theorem good_X6_gains (l : Launch) : Good l 6 yX6_gains cX6_gains 2 (some .int) T6_gains := by
  refine Good.mk 1 (by decide) rfl (by simp [retOK]) FOK6 COK6 (gk_X6_gains l) ?_ ?_
  · intro a μ K h
    unfold T6_gains at h
    split at h
    · simp [entl]
    · exact h.elim
  · intro a μ K V hV h
    unfold T6_gains at h
    split at h
    · exact body_X6_gains _ _ μ K V hV h
    · exact h.elim

/-! the class -/
def GL_X5_fitting : List (Nat × Nat × Bool × TT) := [(156, 4, false, T5_startTrialWith), (231, 2, false, T2_fits)]
def G_X5_fitting : Nat → Option (Nat × Bool × TT) := fun i => GL_X5_fitting.lookup i
theorem G_X5_fitting_156 : G_X5_fitting 156 = some (4, false, T5_startTrialWith) := rfl
theorem G_X5_fitting_231 : G_X5_fitting 231 = some (2, false, T2_fits) := rfl

theorem SG.fq {μ ν : Mem} {g : Nat → Int} (h : SG μ 15 g) (hF : FQ μ ν) : SG ν 15 g := by
  refine ⟨by rw [hF.1 15 (by omega)]; exact h.1, fun j hj => ?_⟩
  rw [hF.1 (15 + 1) (by omega), hF.1 (15 + 2) (by omega), hF.1 (15 + 3) (by omega)]
  exact h.2 j hj
set_option maxRecDepth 20000 in
set_option maxHeartbeats 4000000 in
theorem lp_fitting (V : Nat → List (Option AV) → List AV → Mem → Prop) (K : List AV → Mem → Prop) (hV : Clos FX5 CX5 G_X5_fitting 1 K cX5_fitting V) (μ : Mem) (f : Nat → Int) (hW : WF f) (h38 : f 38 ≤ 9999) (hP : RP μ 8) (hR : RG μ 1 f) (hG : SG μ 15 f) (hS : SW f) (i : Nat) (hi : (i : Int) < f 35) (t : Nat) (ht : t = 0 ∨ t = 3) (hK : ∀ ν, FQ μ ν → K [.inl ((bitsN (fitV f i t) (topT t) : Nat) : Int)] ν) : ∀ m n : Nat, n + m = topT t → ∀ ν, FQ μ ν → V 9 [some (.inr (.inr 0)), some (.inl (i : Int)), some (.inl (t : Int)), some (.inl ((bitsN (fitV f i t) n : Nat) : Int)), some (.inl (n : Int))] [] ν := by
  obtain ⟨hh, hT⟩ := hiA_t ht
  have h35 := hW.1
  have hst : stv 101 t = (topT t : Int) - 1 := by rw [(stv_lo t (by omega)).2, hh]
  intro m
  induction m with
  | zero =>
    intro n hn ν hF
    have en : n = topT t := by omega
    subst en
    have hk := hK ν hF
    apply hV [9] 40
    simp only [InR, InL, inb, Int.toNat_natCast, wp1, wpc_z, wpc_s, stp_iconst, stp_bipush, stp_sipush, stp_lconst, stp_iload_n, stp_iload, stp_lload_n, stp_lload, stp_aload_n, stp_aload, stp_istore_n, stp_istore, stp_lstore_n, stp_lstore, stp_astore_n, stp_astore, stp_iinc, stp_iadd, stp_isub, stp_imul, stp_ineg, stp_idiv, stp_irem, stp_ladd, stp_lmul, stp_ldiv, stp_lrem, stp_ishl, stp_ishr, stp_iushr, stp_iand, stp_ior, stp_i2l, stp_i2b, stp_i2s, stp_lcmp, stp_dup, stp_dup2, stp_pop, stp_ifCond, stp_if_icmp, stp_goto, stp_tableswitch, stp_lookupswitch, stp_ldc, stp_ldc_w, stp_ldc2_w, stp_getstatic, stp_getfield, stp_putfield, stp_iaload, stp_baload, stp_iastore, stp_bastore, stp_aaload, stp_aastore, stp_invokevirtual, stp_invokestatic, stp_ireturn, stp_lreturn, stp_return_, lg, lset, okl, spl, wd, c1, cnd, tg, swT, swL, f4_0, f4_1, f4_2, f4_3, f2_0, f2_1, List.mem_cons, List.not_mem_nil, List.length_cons, List.length_nil, List.cons_append, List.nil_append, Nat.reduceAdd, Nat.reduceMul, Nat.reduceLT, Nat.reduceEqDiff, Nat.reduceLeDiff, Int.reduceAdd, Int.reduceNeg, Int.reduceToNat, Int.cast_ofNat_Int, Int.reduceNatCast, Int.toNat_zero, Int.toNat_one, Int.reduceLE, Int.reduceLT, Int.reduceEq, Int.zero_add, Int.add_zero, or_false, false_or, or_true, true_or, and_true, true_and, and_false, false_and, reduceIte, not_true_eq_false, not_false_eq_true, forall_const, false_implies, true_implies, implies_true, ne_eq, reduceCtorEq, List.all_cons, List.all_nil, Bool.and_true, Bool.and_self, decide_eq_true_eq, decide_true, dX5_fitting_0, dX5_fitting_1, dX5_fitting_2, dX5_fitting_5, dX5_fitting_6, dX5_fitting_7, dX5_fitting_9, dX5_fitting_11, dX5_fitting_14, dX5_fitting_15, dX5_fitting_16, dX5_fitting_19, dX5_fitting_20, dX5_fitting_21, dX5_fitting_22, dX5_fitting_24, dX5_fitting_27, dX5_fitting_28, dX5_fitting_31, dX5_fitting_32, dX5_fitting_35, dX5_fitting_38, dX5_fitting_41, dX5_fitting_42, dX5_fitting_43, dX5_fitting_45, dX5_fitting_46, dX5_fitting_47, dX5_fitting_48, dX5_fitting_51, dX5_fitting_54, dX5_fitting_55, CX5_118, CX5_122, FX5_22, FX5_16, G_X5_fitting_156, G_X5_fitting_231, kd_0, kd_101, hst]
    repeat' (first | exact trivial | omega | (with_reducible assumption) | exact absurd trivial (by with_reducible assumption) | contradiction | apply And.intro | intro _)
  | succ m ih =>
    intro n hn ν hF
    have hW2 := hW.setT hi ht (n := n) (by omega)
    have e35 : upF f (7 * i + t) (n : Int) 35 = f 35 := upF_n _ _ (by omega)
    have e38 : upF f (7 * i + t) (n : Int) 38 = f 38 := upF_n _ _ (by omega)
    have hb := bitsN_b (fitV f i t) n (by omega)
    have hp := p2_lt n (by omega)
    have hp2 := p2_c n
    have g1 : (0 : Int) ≤ 2 ^ n := by rw [p2_c]; exact Int.natCast_nonneg _
    have g2 : (0 : Int) ≤ ((2 ^ n : Nat) : Int) := Int.natCast_nonneg _
    have key := fun ρ hρ => ih (n + 1) (by omega) ρ hρ
    rw [show ((n + 1 : Nat) : Int) = (n : Int) + 1 by omega] at key
    have hR1 := hF.ring hR h35.2
    apply hV [9] 40
    simp only [InR, InL, inb, Int.toNat_natCast, wp1, wpc_z, wpc_s, stp_iconst, stp_bipush, stp_sipush, stp_lconst, stp_iload_n, stp_iload, stp_lload_n, stp_lload, stp_aload_n, stp_aload, stp_istore_n, stp_istore, stp_lstore_n, stp_lstore, stp_astore_n, stp_astore, stp_iinc, stp_iadd, stp_isub, stp_imul, stp_ineg, stp_idiv, stp_irem, stp_ladd, stp_lmul, stp_ldiv, stp_lrem, stp_ishl, stp_ishr, stp_iushr, stp_iand, stp_ior, stp_i2l, stp_i2b, stp_i2s, stp_lcmp, stp_dup, stp_dup2, stp_pop, stp_ifCond, stp_if_icmp, stp_goto, stp_tableswitch, stp_lookupswitch, stp_ldc, stp_ldc_w, stp_ldc2_w, stp_getstatic, stp_getfield, stp_putfield, stp_iaload, stp_baload, stp_iastore, stp_bastore, stp_aaload, stp_aastore, stp_invokevirtual, stp_invokestatic, stp_ireturn, stp_lreturn, stp_return_, lg, lset, okl, spl, wd, c1, cnd, tg, swT, swL, f4_0, f4_1, f4_2, f4_3, f2_0, f2_1, List.mem_cons, List.not_mem_nil, List.length_cons, List.length_nil, List.cons_append, List.nil_append, Nat.reduceAdd, Nat.reduceMul, Nat.reduceLT, Nat.reduceEqDiff, Nat.reduceLeDiff, Int.reduceAdd, Int.reduceNeg, Int.reduceToNat, Int.cast_ofNat_Int, Int.reduceNatCast, Int.toNat_zero, Int.toNat_one, Int.reduceLE, Int.reduceLT, Int.reduceEq, Int.zero_add, Int.add_zero, or_false, false_or, or_true, true_or, and_true, true_and, and_false, false_and, reduceIte, not_true_eq_false, not_false_eq_true, forall_const, false_implies, true_implies, implies_true, ne_eq, reduceCtorEq, List.all_cons, List.all_nil, Bool.and_true, Bool.and_self, decide_eq_true_eq, decide_true, dX5_fitting_0, dX5_fitting_1, dX5_fitting_2, dX5_fitting_5, dX5_fitting_6, dX5_fitting_7, dX5_fitting_9, dX5_fitting_11, dX5_fitting_14, dX5_fitting_15, dX5_fitting_16, dX5_fitting_19, dX5_fitting_20, dX5_fitting_21, dX5_fitting_22, dX5_fitting_24, dX5_fitting_27, dX5_fitting_28, dX5_fitting_31, dX5_fitting_32, dX5_fitting_35, dX5_fitting_38, dX5_fitting_41, dX5_fitting_42, dX5_fitting_43, dX5_fitting_45, dX5_fitting_46, dX5_fitting_47, dX5_fitting_48, dX5_fitting_51, dX5_fitting_54, dX5_fitting_55, CX5_118, CX5_122, FX5_22, FX5_16, G_X5_fitting_156, G_X5_fitting_231, kd_0, kd_8, kd_15, kd_101, hst, T5_startTrialWith, T2_fits]
    refine ⟨by omega, by omega, by omega, fun z => absurd z (by omega), fun _ => ⟨hF.2.2, by omega, by omega, f, hR1, hi, h35.2, fun ρ hρ => ?_⟩⟩
    obtain ⟨a1, a2, a3, a4⟩ := hρ
    have hF2 : FQ μ ρ := hF.tr (a4.q hF.2.2)
    refine ⟨upF f (7 * i + t) n, f, hG.fq hF2, hS, a1, hW2, e35, by rw [e38]; omega, fun σ hσ => ?_⟩
    have hF3 : FQ μ σ := hF2.tr (hσ.q hF2.2.2)
    have k1 := key σ hF3
    simp only [bitsN] at k1
    refine ⟨fun z => ?_, fun z => ?_⟩
    · rw [if_pos (show fitV f i t n = true from z), ← bits_or] at k1
      simp only [Int.one_mul, p2_c, Int.toNat_natCast]
      repeat' (first | exact trivial | omega | (with_reducible assumption) | exact absurd trivial (by with_reducible assumption) | contradiction | apply And.intro | intro _)
    · rw [if_neg (show ¬ fitV f i t n = true from z), Nat.add_zero] at k1
      repeat' (first | exact trivial | omega | (with_reducible assumption) | exact absurd trivial (by with_reducible assumption) | contradiction | apply And.intro | intro _)
def T5_fitting : TT := fun a μ K => match a with
  | [.inr (.inr o), .inl i, .inl w] => o = 0 ∧ (∃ i' t : Nat, i = i' ∧ w = t ∧ (t = 0 ∨ t = 3) ∧ RP μ 8 ∧ ∃ f, RG μ 1 f ∧ SG μ 15 f ∧ WF f ∧ SW f ∧ f 38 ≤ 9999 ∧ (i' : Int) < f 35 ∧ ∀ ν, FQ μ ν → K [.inl ((bitsN (fitV f i' t) (topT t) : Nat) : Int)] ν)
  | _ => False
theorem rec_X5_fitting : ∀ a μ K, T5_fitting a μ K → ∃ k r, a = .inr (.inr k) :: r ∧ kd k = 5 := by
  intro a μ K h
  unfold T5_fitting at h
  split at h
  · exact ⟨_, _, rfl, by rw [h.1]; rfl⟩
  · exact h.elim
theorem gk_X5_fitting (l : Launch) : ∀ i n b T, G_X5_fitting i = some (n, b, T) → CallOK l 5 RX5 i n b T := by
  intro i n b T h
  have hm : (i, n, b, T) ∈ GL_X5_fitting := lk_mem h
  simp only [GL_X5_fitting, List.mem_cons, List.not_mem_nil, or_false, Prod.mk.injEq] at hm
  rcases hm with ⟨rfl, rfl, rfl, rfl⟩ | ⟨rfl, rfl, rfl, rfl⟩
  · exact CallOK.V (d := 5) (own := RX5) (i := 156) (n := 3) (ci := 5) (good_X5_startTrialWith l) (by decide) (by decide) rfl (by decide) rec_X5_startTrialWith (mg 430 (by decide +kernel) (by decide +kernel)) (mg 432 (by decide +kernel) (by decide +kernel)) (mgs 14 (by decide +kernel) (by decide +kernel)) (mg 1 (by decide +kernel) (by decide +kernel)) (mg 433 (by decide +kernel) (by decide +kernel)) (by decide +kernel)
  · exact CallOK.V (d := 5) (own := RX5) (i := 231) (n := 1) (ci := 2) (good_X2_fits l) (by decide) (by decide) rfl (by decide) rec_X2_fits (mg 496 (by decide +kernel) (by decide +kernel)) (mg 497 (by decide +kernel) (by decide +kernel)) (mg 498 (by decide +kernel) (by decide +kernel)) (mg 3 (by decide +kernel) (by decide +kernel)) (mg 499 (by decide +kernel) (by decide +kernel)) (by decide +kernel)
set_option maxRecDepth 20000 in
set_option maxHeartbeats 4000000 in
theorem body_X5_fitting (o : Nat) (i : Int) (w : Int) (μ : Mem) (K : List AV → Mem → Prop) (V : Nat → List (Option AV) → List AV → Mem → Prop) (hV : Clos FX5 CX5 G_X5_fitting 1 K cX5_fitting V) (hT : o = 0 ∧ (∃ i' t : Nat, i = i' ∧ w = t ∧ (t = 0 ∨ t = 3) ∧ RP μ 8 ∧ ∃ f, RG μ 1 f ∧ SG μ 15 f ∧ WF f ∧ SW f ∧ f 38 ≤ 9999 ∧ (i' : Int) < f 35 ∧ ∀ ν, FQ μ ν → K [.inl ((bitsN (fitV f i' t) (topT t) : Nat) : Int)] ν)) : V 0 [some (.inr (.inr o)), some (.inl i), some (.inl w), none, none] [] μ := by
  obtain ⟨rfl, i', t, rfl, rfl, ht, hP, f, hR, hG, hW, hS, h38, hi, hK⟩ := hT
  have hst : stv 100 t = 0 := by rcases ht with rfl | rfl <;> rfl
  have h := lp_fitting V K hV μ f hW h38 hP hR hG hS i' hi t ht hK (topT t) 0 (by omega) μ (FQ.rf hP)
  simp only [bitsN] at h
  apply hV [9] 40
  simp only [InR, InL, inb, Int.toNat_natCast, wp1, wpc_z, wpc_s, stp_iconst, stp_bipush, stp_sipush, stp_lconst, stp_iload_n, stp_iload, stp_lload_n, stp_lload, stp_aload_n, stp_aload, stp_istore_n, stp_istore, stp_lstore_n, stp_lstore, stp_astore_n, stp_astore, stp_iinc, stp_iadd, stp_isub, stp_imul, stp_ineg, stp_idiv, stp_irem, stp_ladd, stp_lmul, stp_ldiv, stp_lrem, stp_ishl, stp_ishr, stp_iushr, stp_iand, stp_ior, stp_i2l, stp_i2b, stp_i2s, stp_lcmp, stp_dup, stp_dup2, stp_pop, stp_ifCond, stp_if_icmp, stp_goto, stp_tableswitch, stp_lookupswitch, stp_ldc, stp_ldc_w, stp_ldc2_w, stp_getstatic, stp_getfield, stp_putfield, stp_iaload, stp_baload, stp_iastore, stp_bastore, stp_aaload, stp_aastore, stp_invokevirtual, stp_invokestatic, stp_ireturn, stp_lreturn, stp_return_, lg, lset, okl, spl, wd, c1, cnd, tg, swT, swL, f4_0, f4_1, f4_2, f4_3, f2_0, f2_1, List.mem_cons, List.not_mem_nil, List.length_cons, List.length_nil, List.cons_append, List.nil_append, Nat.reduceAdd, Nat.reduceMul, Nat.reduceLT, Nat.reduceEqDiff, Nat.reduceLeDiff, Int.reduceAdd, Int.reduceNeg, Int.reduceToNat, Int.cast_ofNat_Int, Int.reduceNatCast, Int.toNat_zero, Int.toNat_one, Int.reduceLE, Int.reduceLT, Int.reduceEq, Int.zero_add, Int.add_zero, or_false, false_or, or_true, true_or, and_true, true_and, and_false, false_and, reduceIte, not_true_eq_false, not_false_eq_true, forall_const, false_implies, true_implies, implies_true, ne_eq, reduceCtorEq, List.all_cons, List.all_nil, Bool.and_true, Bool.and_self, decide_eq_true_eq, decide_true, dX5_fitting_0, dX5_fitting_1, dX5_fitting_2, dX5_fitting_5, dX5_fitting_6, dX5_fitting_7, dX5_fitting_9, dX5_fitting_11, dX5_fitting_14, dX5_fitting_15, dX5_fitting_16, dX5_fitting_19, dX5_fitting_20, dX5_fitting_21, dX5_fitting_22, dX5_fitting_24, dX5_fitting_27, dX5_fitting_28, dX5_fitting_31, dX5_fitting_32, dX5_fitting_35, dX5_fitting_38, dX5_fitting_41, dX5_fitting_42, dX5_fitting_43, dX5_fitting_45, dX5_fitting_46, dX5_fitting_47, dX5_fitting_48, dX5_fitting_51, dX5_fitting_54, dX5_fitting_55, CX5_118, CX5_122, FX5_22, FX5_16, G_X5_fitting_156, G_X5_fitting_231, kd_0, kd_100, hst]
  repeat' (first | exact trivial | omega | (with_reducible assumption) | exact absurd trivial (by with_reducible assumption) | contradiction | apply And.intro | intro _)
theorem good_X5_fitting (l : Launch) : Good l 5 yX5_fitting cX5_fitting 5 (some .int) T5_fitting := by
  refine Good.mk 1 (by decide) rfl (by simp [retOK]) FOK5 COK5 (gk_X5_fitting l) ?_ ?_
  · intro a μ K h
    unfold T5_fitting at h
    split at h
    · simp [entl]
    · exact h.elim
  · intro a μ K V hV h
    unfold T5_fitting at h
    split at h
    · exact body_X5_fitting _ _ _ μ K V hV h
    · exact h.elim

def T5_kinds : TT := fun a μ K => match a with
  | [.inr (.inr o), .inl i] => o = 0 ∧ (InR i ∧ RP μ 8 ∧ ∃ f, RG μ 1 f ∧ SG μ 15 f ∧ WF f ∧ SW f ∧ f 38 ≤ 9999 ∧ ∀ ν, FQ μ ν → K [.inl (whichR f i 0)] ν)
  | _ => False
theorem rec_X5_kinds : ∀ a μ K, T5_kinds a μ K → ∃ k r, a = .inr (.inr k) :: r ∧ kd k = 5 := by
  intro a μ K h
  unfold T5_kinds at h
  split at h
  · exact ⟨_, _, rfl, by rw [h.1]; rfl⟩
  · exact h.elim
def GL_X5_kinds : List (Nat × Nat × Bool × TT) := [(111, 2, false, T1_has), (175, 3, false, T5_fitting)]
def G_X5_kinds : Nat → Option (Nat × Bool × TT) := fun i => GL_X5_kinds.lookup i
theorem G_X5_kinds_111 : G_X5_kinds 111 = some (2, false, T1_has) := rfl
theorem G_X5_kinds_175 : G_X5_kinds 175 = some (3, false, T5_fitting) := rfl
theorem gk_X5_kinds (l : Launch) : ∀ i n b T, G_X5_kinds i = some (n, b, T) → CallOK l 6 RX5 i n b T := by
  intro i n b T h
  have hm : (i, n, b, T) ∈ GL_X5_kinds := lk_mem h
  simp only [GL_X5_kinds, List.mem_cons, List.not_mem_nil, or_false, Prod.mk.injEq] at hm
  rcases hm with ⟨rfl, rfl, rfl, rfl⟩ | ⟨rfl, rfl, rfl, rfl⟩
  · exact CallOK.V (d := 6) (own := RX5) (i := 111) (n := 1) (ci := 1) (good_X1_has l) (by decide) (by decide) rfl (by decide) rec_X1_has (mg 351 (by decide +kernel) (by decide +kernel)) (mg 313 (by decide +kernel) (by decide +kernel)) (mg 314 (by decide +kernel) (by decide +kernel)) (mg 2 (by decide +kernel) (by decide +kernel)) (mg 315 (by decide +kernel) (by decide +kernel)) (by decide +kernel)
  · exact CallOK.V (d := 6) (own := RX5) (i := 175) (n := 2) (ci := 5) (good_X5_fitting l) (by decide) (by decide) rfl (by decide) rec_X5_fitting (mg 492 (by decide +kernel) (by decide +kernel)) (mg 494 (by decide +kernel) (by decide +kernel)) (mgs 16 (by decide +kernel) (by decide +kernel)) (mg 1 (by decide +kernel) (by decide +kernel)) (mg 495 (by decide +kernel) (by decide +kernel)) (by decide +kernel)
set_option maxRecDepth 20000 in
set_option maxHeartbeats 4000000 in
theorem body_X5_kinds (o : Nat) (i : Int) (μ : Mem) (K : List AV → Mem → Prop) (V : Nat → List (Option AV) → List AV → Mem → Prop) (hV : Clos FX5 CX5 G_X5_kinds 1 K cX5_kinds V) (hT : o = 0 ∧ (InR i ∧ RP μ 8 ∧ ∃ f, RG μ 1 f ∧ SG μ 15 f ∧ WF f ∧ SW f ∧ f 38 ≤ 9999 ∧ ∀ ν, FQ μ ν → K [.inl (whichR f i 0)] ν)) : V 0 [some (.inr (.inr o)), some (.inl i)] [] μ := by
  simp only [InR] at hT
  obtain ⟨rfl, hi, hP, f, hR, hG, hW, hS, h38, hK⟩ := hT
  have h35 := hW.1
  have r35 := hR.2.1
  unfold whichR at hK
  by_cases hc : 0 ≤ i ∧ i < f 35
  · obtain ⟨i', rfl⟩ := Int.eq_ofNat_of_zero_le hc.1
    rw [if_pos hc, Int.toNat_natCast] at hK
    apply hV [] 20
    simp only [InR, InL, inb, Int.toNat_natCast, wp1, wpc_z, wpc_s, stp_iconst, stp_bipush, stp_sipush, stp_lconst, stp_iload_n, stp_iload, stp_lload_n, stp_lload, stp_aload_n, stp_aload, stp_istore_n, stp_istore, stp_lstore_n, stp_lstore, stp_astore_n, stp_astore, stp_iinc, stp_iadd, stp_isub, stp_imul, stp_ineg, stp_idiv, stp_irem, stp_ladd, stp_lmul, stp_ldiv, stp_lrem, stp_ishl, stp_ishr, stp_iushr, stp_iand, stp_ior, stp_i2l, stp_i2b, stp_i2s, stp_lcmp, stp_dup, stp_dup2, stp_pop, stp_ifCond, stp_if_icmp, stp_goto, stp_tableswitch, stp_lookupswitch, stp_ldc, stp_ldc_w, stp_ldc2_w, stp_getstatic, stp_getfield, stp_putfield, stp_iaload, stp_baload, stp_iastore, stp_bastore, stp_aaload, stp_aastore, stp_invokevirtual, stp_invokestatic, stp_ireturn, stp_lreturn, stp_return_, lg, lset, okl, spl, wd, c1, cnd, tg, swT, swL, f4_0, f4_1, f4_2, f4_3, f2_0, f2_1, List.mem_cons, List.not_mem_nil, List.length_cons, List.length_nil, List.cons_append, List.nil_append, Nat.reduceAdd, Nat.reduceMul, Nat.reduceLT, Nat.reduceEqDiff, Nat.reduceLeDiff, Int.reduceAdd, Int.reduceNeg, Int.reduceToNat, Int.cast_ofNat_Int, Int.reduceNatCast, Int.toNat_zero, Int.toNat_one, Int.reduceLE, Int.reduceLT, Int.reduceEq, Int.zero_add, Int.add_zero, or_false, false_or, or_true, true_or, and_true, true_and, and_false, false_and, reduceIte, not_true_eq_false, not_false_eq_true, forall_const, false_implies, true_implies, implies_true, ne_eq, reduceCtorEq, List.all_cons, List.all_nil, Bool.and_true, Bool.and_self, decide_eq_true_eq, decide_true, dX5_kinds_0, dX5_kinds_1, dX5_kinds_4, dX5_kinds_5, dX5_kinds_8, dX5_kinds_11, dX5_kinds_12, dX5_kinds_13, dX5_kinds_14, dX5_kinds_17, dX5_kinds_20, dX5_kinds_21, FX5_10, G_X5_kinds_111, G_X5_kinds_175, kd_0, kd_1, T1_has, T5_fitting, r35]
    have main : ∃ i_1 t : Nat, (i' : Int) = i_1 ∧ (0 : Int) = t ∧ (t = 0 ∨ t = 3) ∧ RP μ 8 ∧ ∃ f, RG μ 1 f ∧ SG μ 15 f ∧ WF f ∧ SW f ∧ f 38 ≤ 9999 ∧ (i_1 : Int) < f 35 ∧ ∀ ν, FQ μ ν → K [.inl ((bitsN (fitV f i_1 t) (topT t) : Nat) : Int)] ν := ⟨i', 0, rfl, rfl, Or.inl rfl, hP, f, hR, hG, hW, hS, h38, by omega, hK⟩
    refine ⟨by omega, by omega, fun _ => ?_, fun z => absurd hc (by omega)⟩
    first | exact main | exact ⟨fun z => absurd z (by omega), fun _ => main⟩ | exact ⟨fun _ => main, fun z => absurd z (by omega)⟩ | exact ⟨by omega, fun z => absurd z (by omega), fun _ => main⟩ | exact ⟨by omega, fun _ => main, fun z => absurd z (by omega)⟩
  · rw [if_neg hc] at hK
    have hk := hK μ (FQ.rf hP)
    apply hV [11] 20
    simp only [InR, InL, inb, Int.toNat_natCast, wp1, wpc_z, wpc_s, stp_iconst, stp_bipush, stp_sipush, stp_lconst, stp_iload_n, stp_iload, stp_lload_n, stp_lload, stp_aload_n, stp_aload, stp_istore_n, stp_istore, stp_lstore_n, stp_lstore, stp_astore_n, stp_astore, stp_iinc, stp_iadd, stp_isub, stp_imul, stp_ineg, stp_idiv, stp_irem, stp_ladd, stp_lmul, stp_ldiv, stp_lrem, stp_ishl, stp_ishr, stp_iushr, stp_iand, stp_ior, stp_i2l, stp_i2b, stp_i2s, stp_lcmp, stp_dup, stp_dup2, stp_pop, stp_ifCond, stp_if_icmp, stp_goto, stp_tableswitch, stp_lookupswitch, stp_ldc, stp_ldc_w, stp_ldc2_w, stp_getstatic, stp_getfield, stp_putfield, stp_iaload, stp_baload, stp_iastore, stp_bastore, stp_aaload, stp_aastore, stp_invokevirtual, stp_invokestatic, stp_ireturn, stp_lreturn, stp_return_, lg, lset, okl, spl, wd, c1, cnd, tg, swT, swL, f4_0, f4_1, f4_2, f4_3, f2_0, f2_1, List.mem_cons, List.not_mem_nil, List.length_cons, List.length_nil, List.cons_append, List.nil_append, Nat.reduceAdd, Nat.reduceMul, Nat.reduceLT, Nat.reduceEqDiff, Nat.reduceLeDiff, Int.reduceAdd, Int.reduceNeg, Int.reduceToNat, Int.cast_ofNat_Int, Int.reduceNatCast, Int.toNat_zero, Int.toNat_one, Int.reduceLE, Int.reduceLT, Int.reduceEq, Int.zero_add, Int.add_zero, or_false, false_or, or_true, true_or, and_true, true_and, and_false, false_and, reduceIte, not_true_eq_false, not_false_eq_true, forall_const, false_implies, true_implies, implies_true, ne_eq, reduceCtorEq, List.all_cons, List.all_nil, Bool.and_true, Bool.and_self, decide_eq_true_eq, decide_true, dX5_kinds_0, dX5_kinds_1, dX5_kinds_4, dX5_kinds_5, dX5_kinds_8, dX5_kinds_11, dX5_kinds_12, dX5_kinds_13, dX5_kinds_14, dX5_kinds_17, dX5_kinds_20, dX5_kinds_21, FX5_10, G_X5_kinds_111, G_X5_kinds_175, kd_0, kd_1, T1_has, r35]
    repeat' (first | exact trivial | omega | (with_reducible assumption) | exact absurd trivial (by with_reducible assumption) | contradiction | apply And.intro | intro _)
theorem good_X5_kinds (l : Launch) : Good l 6 yX5_kinds cX5_kinds 2 (some .int) T5_kinds := by
  refine Good.mk 1 (by decide) rfl (by simp [retOK]) FOK5 COK5 (gk_X5_kinds l) ?_ ?_
  · intro a μ K h
    unfold T5_kinds at h
    split at h
    · simp [entl]
    · exact h.elim
  · intro a μ K V hV h
    unfold T5_kinds at h
    split at h
    · exact body_X5_kinds _ _ μ K V hV h
    · exact h.elim

def T5_gains : TT := fun a μ K => match a with
  | [.inr (.inr o), .inl i] => o = 0 ∧ (InR i ∧ RP μ 8 ∧ ∃ f, RG μ 1 f ∧ SG μ 15 f ∧ WF f ∧ SW f ∧ f 38 ≤ 9999 ∧ ∀ ν, FQ μ ν → K [.inl (whichR f i 3)] ν)
  | _ => False
theorem rec_X5_gains : ∀ a μ K, T5_gains a μ K → ∃ k r, a = .inr (.inr k) :: r ∧ kd k = 5 := by
  intro a μ K h
  unfold T5_gains at h
  split at h
  · exact ⟨_, _, rfl, by rw [h.1]; rfl⟩
  · exact h.elim
def GL_X5_gains : List (Nat × Nat × Bool × TT) := [(111, 2, false, T1_has), (175, 3, false, T5_fitting)]
def G_X5_gains : Nat → Option (Nat × Bool × TT) := fun i => GL_X5_gains.lookup i
theorem G_X5_gains_111 : G_X5_gains 111 = some (2, false, T1_has) := rfl
theorem G_X5_gains_175 : G_X5_gains 175 = some (3, false, T5_fitting) := rfl
theorem gk_X5_gains (l : Launch) : ∀ i n b T, G_X5_gains i = some (n, b, T) → CallOK l 6 RX5 i n b T := by
  intro i n b T h
  have hm : (i, n, b, T) ∈ GL_X5_gains := lk_mem h
  simp only [GL_X5_gains, List.mem_cons, List.not_mem_nil, or_false, Prod.mk.injEq] at hm
  rcases hm with ⟨rfl, rfl, rfl, rfl⟩ | ⟨rfl, rfl, rfl, rfl⟩
  · exact CallOK.V (d := 6) (own := RX5) (i := 111) (n := 1) (ci := 1) (good_X1_has l) (by decide) (by decide) rfl (by decide) rec_X1_has (mg 351 (by decide +kernel) (by decide +kernel)) (mg 313 (by decide +kernel) (by decide +kernel)) (mg 314 (by decide +kernel) (by decide +kernel)) (mg 2 (by decide +kernel) (by decide +kernel)) (mg 315 (by decide +kernel) (by decide +kernel)) (by decide +kernel)
  · exact CallOK.V (d := 6) (own := RX5) (i := 175) (n := 2) (ci := 5) (good_X5_fitting l) (by decide) (by decide) rfl (by decide) rec_X5_fitting (mg 492 (by decide +kernel) (by decide +kernel)) (mg 494 (by decide +kernel) (by decide +kernel)) (mgs 16 (by decide +kernel) (by decide +kernel)) (mg 1 (by decide +kernel) (by decide +kernel)) (mg 495 (by decide +kernel) (by decide +kernel)) (by decide +kernel)
set_option maxRecDepth 20000 in
set_option maxHeartbeats 4000000 in
theorem body_X5_gains (o : Nat) (i : Int) (μ : Mem) (K : List AV → Mem → Prop) (V : Nat → List (Option AV) → List AV → Mem → Prop) (hV : Clos FX5 CX5 G_X5_gains 1 K cX5_gains V) (hT : o = 0 ∧ (InR i ∧ RP μ 8 ∧ ∃ f, RG μ 1 f ∧ SG μ 15 f ∧ WF f ∧ SW f ∧ f 38 ≤ 9999 ∧ ∀ ν, FQ μ ν → K [.inl (whichR f i 3)] ν)) : V 0 [some (.inr (.inr o)), some (.inl i)] [] μ := by
  simp only [InR] at hT
  obtain ⟨rfl, hi, hP, f, hR, hG, hW, hS, h38, hK⟩ := hT
  have h35 := hW.1
  have r35 := hR.2.1
  unfold whichR at hK
  by_cases hc : 0 ≤ i ∧ i < f 35
  · obtain ⟨i', rfl⟩ := Int.eq_ofNat_of_zero_le hc.1
    rw [if_pos hc, Int.toNat_natCast] at hK
    apply hV [] 20
    simp only [InR, InL, inb, Int.toNat_natCast, wp1, wpc_z, wpc_s, stp_iconst, stp_bipush, stp_sipush, stp_lconst, stp_iload_n, stp_iload, stp_lload_n, stp_lload, stp_aload_n, stp_aload, stp_istore_n, stp_istore, stp_lstore_n, stp_lstore, stp_astore_n, stp_astore, stp_iinc, stp_iadd, stp_isub, stp_imul, stp_ineg, stp_idiv, stp_irem, stp_ladd, stp_lmul, stp_ldiv, stp_lrem, stp_ishl, stp_ishr, stp_iushr, stp_iand, stp_ior, stp_i2l, stp_i2b, stp_i2s, stp_lcmp, stp_dup, stp_dup2, stp_pop, stp_ifCond, stp_if_icmp, stp_goto, stp_tableswitch, stp_lookupswitch, stp_ldc, stp_ldc_w, stp_ldc2_w, stp_getstatic, stp_getfield, stp_putfield, stp_iaload, stp_baload, stp_iastore, stp_bastore, stp_aaload, stp_aastore, stp_invokevirtual, stp_invokestatic, stp_ireturn, stp_lreturn, stp_return_, lg, lset, okl, spl, wd, c1, cnd, tg, swT, swL, f4_0, f4_1, f4_2, f4_3, f2_0, f2_1, List.mem_cons, List.not_mem_nil, List.length_cons, List.length_nil, List.cons_append, List.nil_append, Nat.reduceAdd, Nat.reduceMul, Nat.reduceLT, Nat.reduceEqDiff, Nat.reduceLeDiff, Int.reduceAdd, Int.reduceNeg, Int.reduceToNat, Int.cast_ofNat_Int, Int.reduceNatCast, Int.toNat_zero, Int.toNat_one, Int.reduceLE, Int.reduceLT, Int.reduceEq, Int.zero_add, Int.add_zero, or_false, false_or, or_true, true_or, and_true, true_and, and_false, false_and, reduceIte, not_true_eq_false, not_false_eq_true, forall_const, false_implies, true_implies, implies_true, ne_eq, reduceCtorEq, List.all_cons, List.all_nil, Bool.and_true, Bool.and_self, decide_eq_true_eq, decide_true, dX5_gains_0, dX5_gains_1, dX5_gains_4, dX5_gains_5, dX5_gains_8, dX5_gains_11, dX5_gains_12, dX5_gains_13, dX5_gains_14, dX5_gains_17, dX5_gains_20, dX5_gains_21, FX5_10, G_X5_gains_111, G_X5_gains_175, kd_0, kd_1, T1_has, T5_fitting, r35]
    have main : ∃ i_1 t : Nat, (i' : Int) = i_1 ∧ (3 : Int) = t ∧ (t = 0 ∨ t = 3) ∧ RP μ 8 ∧ ∃ f, RG μ 1 f ∧ SG μ 15 f ∧ WF f ∧ SW f ∧ f 38 ≤ 9999 ∧ (i_1 : Int) < f 35 ∧ ∀ ν, FQ μ ν → K [.inl ((bitsN (fitV f i_1 t) (topT t) : Nat) : Int)] ν := ⟨i', 3, rfl, rfl, Or.inr rfl, hP, f, hR, hG, hW, hS, h38, by omega, hK⟩
    refine ⟨by omega, by omega, fun _ => ?_, fun z => absurd hc (by omega)⟩
    first | exact main | exact ⟨fun z => absurd z (by omega), fun _ => main⟩ | exact ⟨fun _ => main, fun z => absurd z (by omega)⟩ | exact ⟨by omega, fun z => absurd z (by omega), fun _ => main⟩ | exact ⟨by omega, fun _ => main, fun z => absurd z (by omega)⟩
  · rw [if_neg hc] at hK
    have hk := hK μ (FQ.rf hP)
    apply hV [11] 20
    simp only [InR, InL, inb, Int.toNat_natCast, wp1, wpc_z, wpc_s, stp_iconst, stp_bipush, stp_sipush, stp_lconst, stp_iload_n, stp_iload, stp_lload_n, stp_lload, stp_aload_n, stp_aload, stp_istore_n, stp_istore, stp_lstore_n, stp_lstore, stp_astore_n, stp_astore, stp_iinc, stp_iadd, stp_isub, stp_imul, stp_ineg, stp_idiv, stp_irem, stp_ladd, stp_lmul, stp_ldiv, stp_lrem, stp_ishl, stp_ishr, stp_iushr, stp_iand, stp_ior, stp_i2l, stp_i2b, stp_i2s, stp_lcmp, stp_dup, stp_dup2, stp_pop, stp_ifCond, stp_if_icmp, stp_goto, stp_tableswitch, stp_lookupswitch, stp_ldc, stp_ldc_w, stp_ldc2_w, stp_getstatic, stp_getfield, stp_putfield, stp_iaload, stp_baload, stp_iastore, stp_bastore, stp_aaload, stp_aastore, stp_invokevirtual, stp_invokestatic, stp_ireturn, stp_lreturn, stp_return_, lg, lset, okl, spl, wd, c1, cnd, tg, swT, swL, f4_0, f4_1, f4_2, f4_3, f2_0, f2_1, List.mem_cons, List.not_mem_nil, List.length_cons, List.length_nil, List.cons_append, List.nil_append, Nat.reduceAdd, Nat.reduceMul, Nat.reduceLT, Nat.reduceEqDiff, Nat.reduceLeDiff, Int.reduceAdd, Int.reduceNeg, Int.reduceToNat, Int.cast_ofNat_Int, Int.reduceNatCast, Int.toNat_zero, Int.toNat_one, Int.reduceLE, Int.reduceLT, Int.reduceEq, Int.zero_add, Int.add_zero, or_false, false_or, or_true, true_or, and_true, true_and, and_false, false_and, reduceIte, not_true_eq_false, not_false_eq_true, forall_const, false_implies, true_implies, implies_true, ne_eq, reduceCtorEq, List.all_cons, List.all_nil, Bool.and_true, Bool.and_self, decide_eq_true_eq, decide_true, dX5_gains_0, dX5_gains_1, dX5_gains_4, dX5_gains_5, dX5_gains_8, dX5_gains_11, dX5_gains_12, dX5_gains_13, dX5_gains_14, dX5_gains_17, dX5_gains_20, dX5_gains_21, FX5_10, G_X5_gains_111, G_X5_gains_175, kd_0, kd_1, T1_has, r35]
    repeat' (first | exact trivial | omega | (with_reducible assumption) | exact absurd trivial (by with_reducible assumption) | contradiction | apply And.intro | intro _)
theorem good_X5_gains (l : Launch) : Good l 6 yX5_gains cX5_gains 2 (some .int) T5_gains := by
  refine Good.mk 1 (by decide) rfl (by simp [retOK]) FOK5 COK5 (gk_X5_gains l) ?_ ?_
  · intro a μ K h
    unfold T5_gains at h
    split at h
    · simp [entl]
    · exact h.elim
  · intro a μ K V hV h
    unfold T5_gains at h
    split at h
    · exact body_X5_gains _ _ μ K V hV h
    · exact h.elim

