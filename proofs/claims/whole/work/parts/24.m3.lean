/-! the reference: a visit -/
theorem SOK_congr {f f' : Nat → Int} (h : ∀ x, x < 35 → f' x = f x) (h38 : f 38 ≤ f' 38) {k : Nat} (hk : k < 5) (hs : SOK f k) : SOK f' k := by
  unfold SOK at hs ⊢
  rw [h (7 * k) (by omega), h (7 * k + 1) (by omega), h (7 * k + 2) (by omega), h (7 * k + 3) (by omega), h (7 * k + 4) (by omega), h (7 * k + 5) (by omega), h (7 * k + 6) (by omega)]
  omega
theorem outB_congr {f f' : Nat → Int} (h : ∀ x, x < 35 → f' x = f x) (q : Int) : ∀ n, n ≤ 5 → outB f' q n = outB f q n
  | 0, _ => rfl
  | n + 1, hn => by
    simp only [outB]
    rw [outB_congr h q n (by omega), h _ (by omega)]
theorem due_congr {f f' : Nat → Int} (h : ∀ x, x ≤ 35 → f' x = f x) (h5 : f 35 ≤ 5) {i : Nat} (hi : i < 5) : due f' i = due f i := by
  unfold due dm
  rw [h 35 (by omega), h (7 * i) (by omega), h (7 * i + 1) (by omega), h (7 * i + 2) (by omega), h (7 * i + 6) (by omega), outB_congr (fun x hx => h x (by omega)) _ _ (by omega)]
theorem cmG_congr {f f' : Nat → Int} {t : Int} (h : ∀ x, x < 39 → f x = f' x) {k : Nat} (hk : k < 5) : cmG f t k = cmG f' t k := by
  unfold cmG
  rw [h _ (by omega), h _ (by omega)]
theorem cmF_congr {f f' : Nat → Int} {t : Int} (h : ∀ x, x < 39 → f x = f' x) : ∀ n, n ≤ 5 → ∀ x, x < 39 → cmF f t n x = cmF f' t n x
  | 0, _, x, hx => h x hx
  | n + 1, hn, x, hx => by
    simp only [cmF, upF]
    rw [cmF_congr h n (by omega) x hx, cmG_congr h (by omega), h (7 * n + 1) (by omega)]
theorem cmL_congr {f f' : Nat → Int} {t : Int} (h : ∀ x, x < 39 → f x = f' x) : ∀ n, n ≤ 5 → cmL f t n = cmL f' t n
  | 0, _ => rfl
  | n + 1, hn => by
    simp only [cmL]
    rw [cmL_congr h n (by omega), cmG_congr h (by omega), h (7 * n + 3) (by omega)]
/-- what a visit does to the state at hand and its counts -/
def VP (μ μ' : Mem) (may : Bool) : Prop :=
  (∀ j, j < 39 → rI μ' 68 j = nxt (rI μ 68) may j) ∧ rI μ' 68 39 = min 999999 (rI μ 68 39 + sndI (rI μ 68) may) ∧ rI μ' 68 40 = min 999999 (rI μ 68 40 + lstI (rI μ 68) may) ∧ (∀ j, 41 ≤ j → rI μ' 68 j = rI μ 68 j) ∧
  rI μ' 66 14 = rI μ 66 14 + sndI (rI μ 68) may ∧ rI μ' 66 15 = rI μ 66 15 + (nxt (rI μ 68) may 37 - rI μ 68 37) ∧ rI μ' 66 16 = rI μ 66 16 + lstI (rI μ 68) may ∧ (∀ j, j ≠ 14 → j ≠ 15 → j ≠ 16 → rI μ' 66 j = rI μ 66 j) ∧
  (∀ j, j < 5 → rI μ' 72 j = rI μ 72 j + (if rI μ 68 35 ≠ 0 ∧ j = (rI μ 68 36).toNat then sndI (rI μ 68) may else 0)) ∧
  (∀ a, a ≠ 66 → a ≠ 68 → a ≠ 72 → ∀ j, rI μ' a j = rI μ a j) ∧ ∀ a j, rR μ' a j = rR μ a j
/-- while letters come -/
def LI (μ ν : Mem) (t : Int) (k : Nat) : Prop :=
  (∀ j, j ≠ 40 → rI ν 68 j = cmF (rI μ 68) t k j) ∧ rI ν 68 40 = min 999999 (rI μ 68 40 + cmL (rI μ 68) t k) ∧ rI ν 66 16 = rI μ 66 16 + cmL (rI μ 68) t k ∧ (∀ j, j ≠ 16 → rI ν 66 j = rI μ 66 j) ∧ (∀ a, a ≠ 66 → a ≠ 68 → ∀ j, rI ν a j = rI μ a j) ∧ ∀ a j, rR ν a j = rR μ a j
theorem cmL_nn {f : Nat → Int} {t : Int} (ht : 0 ≤ t ∧ t ≤ 3) : ∀ n : Nat, (∀ k : Nat, k < n → SOK f k) → 0 ≤ cmL f t n ∧ cmL f t n ≤ 27 * n
  | 0, _ => by simp [cmL]
  | n + 1, h => by
    have h1 := cmL_nn ht n (fun k hk => h k (by omega))
    have h2 := cmG_in (h n (by omega)) ht
    simp only [cmL]
    omega
def GL_X6_visitGoes : List (Nat × Nat × Bool × TT) := [(160, 2, false, T6_sendsNow), (145, 3, false, T6_of), (152, 4, false, T6_becomesOf), (163, 1, true, T6_flag), (142, 2, true, T6_lesser), (156, 3, false, T6_growsTo), (167, 3, false, T6_comesTo)]
def G_X6_visitGoes : Nat → Option (Nat × Bool × TT) := fun i => GL_X6_visitGoes.lookup i
theorem G_X6_visitGoes_160 : G_X6_visitGoes 160 = some (2, false, T6_sendsNow) := rfl
theorem G_X6_visitGoes_145 : G_X6_visitGoes 145 = some (3, false, T6_of) := rfl
theorem G_X6_visitGoes_152 : G_X6_visitGoes 152 = some (4, false, T6_becomesOf) := rfl
theorem G_X6_visitGoes_163 : G_X6_visitGoes 163 = some (1, true, T6_flag) := rfl
theorem G_X6_visitGoes_142 : G_X6_visitGoes 142 = some (2, true, T6_lesser) := rfl
theorem G_X6_visitGoes_156 : G_X6_visitGoes 156 = some (3, false, T6_growsTo) := rfl
theorem G_X6_visitGoes_167 : G_X6_visitGoes 167 = some (3, false, T6_comesTo) := rfl

set_option maxRecDepth 20000 in
set_option maxHeartbeats 4000000 in
theorem lp_visit (V : Nat → List (Option AV) → List AV → Mem → Prop) (K : List AV → Mem → Prop) (hV : Clos FX6 CX6 G_X6_visitGoes 0 K cX6_visitGoes V) (μ : Mem) (t : Int) (b i s f : AV) (hi : i = .inl (rI μ 68 36)) (ht : 0 ≤ t ∧ t ≤ 3) (hm : 0 < rI μ 68 35 ∧ rI μ 68 35 ≤ 5) (hw : 0 ≤ rI μ 68 36 ∧ rI μ 68 36 < rI μ 68 35) (hs : ∀ k : Nat, (k : Int) < rI μ 68 35 → SOK (rI μ 68) k) (h40 : 0 ≤ rI μ 68 40 ∧ rI μ 68 40 ≤ 999999)
    (hK : ∀ ν, LI μ ν t (rI μ 68 35).toNat → K [] (wI ν 68 36 (if rI μ 68 36 + 1 < rI μ 68 35 then rI μ 68 36 + 1 else 0))) : ∀ m n : Nat, n + m = (rI μ 68 35).toNat → ∀ ν, LI μ ν t n → V 192 [some (.inr (.inr 66)), some b, some i, some s, some f, some (.inl t), some (.inl (n : Int))] [] ν := by
  intro m
  subst hi
  induction m with
  | zero =>
    intro n hn ν hL
    have hL' := hL
    obtain ⟨l1, l2, l3, l4, l5, l6⟩ := hL
    have e35 : rI ν 68 35 = rI μ 68 35 := by rw [l1 35 (by omega), cmF_out _ _ _ _ (fun k hk => by omega)]
    apply hV [192] 60
    simp only [InR, InL, inb, Int.toNat_natCast, wp1, wpc_z, wpc_s, stp_iconst, stp_bipush, stp_sipush, stp_lconst, stp_iload_n, stp_iload, stp_lload_n, stp_lload, stp_aload_n, stp_aload, stp_istore_n, stp_istore, stp_lstore_n, stp_lstore, stp_astore_n, stp_astore, stp_iinc, stp_iadd, stp_isub, stp_imul, stp_ineg, stp_idiv, stp_irem, stp_ladd, stp_lmul, stp_ldiv, stp_lrem, stp_ishl, stp_ishr, stp_iushr, stp_iand, stp_ior, stp_i2l, stp_i2b, stp_i2s, stp_lcmp, stp_dup, stp_dup2, stp_pop, stp_ifCond, stp_if_icmp, stp_goto, stp_tableswitch, stp_lookupswitch, stp_ldc, stp_ldc_w, stp_ldc2_w, stp_getstatic, stp_getfield, stp_putfield, stp_iaload, stp_baload, stp_iastore, stp_bastore, stp_aaload, stp_aastore, stp_invokevirtual, stp_invokestatic, stp_ireturn, stp_lreturn, stp_return_, lg, lset, okl, spl, wd, c1, cnd, tg, swT, swL, f4_0, f4_1, f4_2, f4_3, f2_0, f2_1, List.mem_cons, List.not_mem_nil, List.length_cons, List.length_nil, List.cons_append, List.nil_append, Nat.reduceAdd, Nat.reduceMul, Nat.reduceLT, Nat.reduceEqDiff, Nat.reduceLeDiff, Int.reduceAdd, Int.reduceNeg, Int.reduceToNat, Int.cast_ofNat_Int, Int.reduceNatCast, Int.toNat_zero, Int.toNat_one, Int.reduceLE, Int.reduceLT, Int.reduceEq, Int.zero_add, Int.add_zero, or_false, false_or, or_true, true_or, and_true, true_and, and_false, false_and, reduceIte, not_true_eq_false, not_false_eq_true, forall_const, false_implies, true_implies, implies_true, ne_eq, reduceCtorEq, List.all_cons, List.all_nil, Bool.and_true, Bool.and_self, decide_eq_true_eq, decide_true, dX6_visitGoes_0, dX6_visitGoes_1, dX6_visitGoes_4, dX6_visitGoes_6, dX6_visitGoes_7, dX6_visitGoes_8, dX6_visitGoes_9, dX6_visitGoes_10, dX6_visitGoes_11, dX6_visitGoes_12, dX6_visitGoes_15, dX6_visitGoes_17, dX6_visitGoes_18, dX6_visitGoes_21, dX6_visitGoes_22, dX6_visitGoes_23, dX6_visitGoes_26, dX6_visitGoes_28, dX6_visitGoes_29, dX6_visitGoes_30, dX6_visitGoes_31, dX6_visitGoes_34, dX6_visitGoes_35, dX6_visitGoes_36, dX6_visitGoes_39, dX6_visitGoes_42, dX6_visitGoes_43, dX6_visitGoes_46, dX6_visitGoes_47, dX6_visitGoes_48, dX6_visitGoes_51, dX6_visitGoes_52, dX6_visitGoes_53, dX6_visitGoes_56, dX6_visitGoes_58, dX6_visitGoes_59, dX6_visitGoes_61, dX6_visitGoes_62, dX6_visitGoes_63, dX6_visitGoes_64, dX6_visitGoes_65, dX6_visitGoes_66, dX6_visitGoes_67, dX6_visitGoes_70, dX6_visitGoes_71, dX6_visitGoes_72, dX6_visitGoes_75, dX6_visitGoes_76, dX6_visitGoes_77, dX6_visitGoes_79, dX6_visitGoes_80, dX6_visitGoes_83, dX6_visitGoes_84, dX6_visitGoes_87, dX6_visitGoes_88, dX6_visitGoes_91, dX6_visitGoes_94, dX6_visitGoes_95, dX6_visitGoes_96, dX6_visitGoes_97, dX6_visitGoes_99, dX6_visitGoes_100, dX6_visitGoes_101, dX6_visitGoes_102, dX6_visitGoes_105, dX6_visitGoes_106, dX6_visitGoes_107, dX6_visitGoes_110, dX6_visitGoes_113, dX6_visitGoes_114, dX6_visitGoes_117, dX6_visitGoes_118, dX6_visitGoes_119, dX6_visitGoes_120, dX6_visitGoes_121, dX6_visitGoes_122, dX6_visitGoes_123, dX6_visitGoes_124, dX6_visitGoes_125, dX6_visitGoes_128, dX6_visitGoes_129, dX6_visitGoes_130, dX6_visitGoes_133, dX6_visitGoes_134, dX6_visitGoes_135, dX6_visitGoes_138, dX6_visitGoes_139, dX6_visitGoes_140, dX6_visitGoes_141, dX6_visitGoes_142, dX6_visitGoes_145, dX6_visitGoes_146, dX6_visitGoes_147, dX6_visitGoes_150, dX6_visitGoes_151, dX6_visitGoes_153, dX6_visitGoes_154, dX6_visitGoes_157, dX6_visitGoes_158, dX6_visitGoes_160, dX6_visitGoes_161, dX6_visitGoes_162, dX6_visitGoes_163, dX6_visitGoes_164, dX6_visitGoes_167, dX6_visitGoes_168, dX6_visitGoes_171, dX6_visitGoes_172, dX6_visitGoes_175, dX6_visitGoes_177, dX6_visitGoes_178, dX6_visitGoes_180, dX6_visitGoes_181, dX6_visitGoes_183, dX6_visitGoes_185, dX6_visitGoes_186, dX6_visitGoes_187, dX6_visitGoes_189, dX6_visitGoes_190, dX6_visitGoes_192, dX6_visitGoes_194, dX6_visitGoes_195, dX6_visitGoes_198, dX6_visitGoes_200, dX6_visitGoes_201, dX6_visitGoes_204, dX6_visitGoes_205, dX6_visitGoes_207, dX6_visitGoes_209, dX6_visitGoes_210, dX6_visitGoes_212, dX6_visitGoes_213, dX6_visitGoes_216, dX6_visitGoes_217, dX6_visitGoes_220, dX6_visitGoes_221, dX6_visitGoes_224, dX6_visitGoes_227, dX6_visitGoes_228, dX6_visitGoes_231, dX6_visitGoes_233, dX6_visitGoes_234, dX6_visitGoes_235, dX6_visitGoes_236, dX6_visitGoes_237, dX6_visitGoes_240, dX6_visitGoes_242, dX6_visitGoes_243, dX6_visitGoes_244, dX6_visitGoes_245, FX6_13, FX6_129, CX6_141, FX6_26, FX6_132, FX6_135, G_X6_visitGoes_160, G_X6_visitGoes_145, G_X6_visitGoes_152, G_X6_visitGoes_163, G_X6_visitGoes_142, G_X6_visitGoes_156, G_X6_visitGoes_167, kd_66, kd_67, kd_68, kd_69, kd_70, kd_71, kd_72, kd_73, kd_74, kd_75, kd_76, kd_77, kd_78, ln_66, ln_67, ln_68, ln_69, ln_70, ln_71, ln_72, ln_73, ln_74, ln_75, ln_76, ln_77, ln_78, e35]
    have e : (rI μ 68 36 + 1) % rI μ 68 35 = (if rI μ 68 36 + 1 < rI μ 68 35 then rI μ 68 36 + 1 else 0) := by
      split
      · exact Int.emod_eq_of_lt (by omega) (by omega)
      · rw [show rI μ 68 36 + 1 = rI μ 68 35 by omega, Int.emod_self]
    have := hK ν (by rw [show (rI μ 68 35).toNat = n by omega]; exact hL')
    rw [← e] at this
    repeat' (first | exact trivial | omega | (with_reducible assumption) | exact absurd trivial (by with_reducible assumption) | contradiction | apply And.intro | intro _)
  | succ m ih =>
    intro n hn ν hL
    obtain ⟨l1, l2, l3, l4, l5, l6⟩ := hL
    have hn5 : n < 5 := by omega
    have e35 : rI ν 68 35 = rI μ 68 35 := by rw [l1 35 (by omega), cmF_out _ _ _ _ (fun k hk => by omega)]
    have eg : rI ν 68 (7 * n + 3) = rI μ 68 (7 * n + 3) := by rw [l1 _ (by omega), cmF_out _ _ _ _ (fun k hk => by omega)]
    have eq : rI ν 68 (7 * n + 1) = rI μ 68 (7 * n + 1) := by rw [l1 _ (by omega), cmF_out _ _ _ _ (fun k hk => by omega)]
    have hsn := hs n (by omega)
    have hc := cmG_in hsn ht
    have hl := cmL_nn ht n (fun k hk => hs k (by omega))
    have hq := hsn.2.1
    apply hV [192] 60
    simp only [InR, InL, inb, Int.toNat_natCast, wp1, wpc_z, wpc_s, stp_iconst, stp_bipush, stp_sipush, stp_lconst, stp_iload_n, stp_iload, stp_lload_n, stp_lload, stp_aload_n, stp_aload, stp_istore_n, stp_istore, stp_lstore_n, stp_lstore, stp_astore_n, stp_astore, stp_iinc, stp_iadd, stp_isub, stp_imul, stp_ineg, stp_idiv, stp_irem, stp_ladd, stp_lmul, stp_ldiv, stp_lrem, stp_ishl, stp_ishr, stp_iushr, stp_iand, stp_ior, stp_i2l, stp_i2b, stp_i2s, stp_lcmp, stp_dup, stp_dup2, stp_pop, stp_ifCond, stp_if_icmp, stp_goto, stp_tableswitch, stp_lookupswitch, stp_ldc, stp_ldc_w, stp_ldc2_w, stp_getstatic, stp_getfield, stp_putfield, stp_iaload, stp_baload, stp_iastore, stp_bastore, stp_aaload, stp_aastore, stp_invokevirtual, stp_invokestatic, stp_ireturn, stp_lreturn, stp_return_, lg, lset, okl, spl, wd, c1, cnd, tg, swT, swL, f4_0, f4_1, f4_2, f4_3, f2_0, f2_1, List.mem_cons, List.not_mem_nil, List.length_cons, List.length_nil, List.cons_append, List.nil_append, Nat.reduceAdd, Nat.reduceMul, Nat.reduceLT, Nat.reduceEqDiff, Nat.reduceLeDiff, Int.reduceAdd, Int.reduceNeg, Int.reduceToNat, Int.cast_ofNat_Int, Int.reduceNatCast, Int.toNat_zero, Int.toNat_one, Int.reduceLE, Int.reduceLT, Int.reduceEq, Int.zero_add, Int.add_zero, or_false, false_or, or_true, true_or, and_true, true_and, and_false, false_and, reduceIte, not_true_eq_false, not_false_eq_true, forall_const, false_implies, true_implies, implies_true, ne_eq, reduceCtorEq, List.all_cons, List.all_nil, Bool.and_true, Bool.and_self, decide_eq_true_eq, decide_true, dX6_visitGoes_0, dX6_visitGoes_1, dX6_visitGoes_4, dX6_visitGoes_6, dX6_visitGoes_7, dX6_visitGoes_8, dX6_visitGoes_9, dX6_visitGoes_10, dX6_visitGoes_11, dX6_visitGoes_12, dX6_visitGoes_15, dX6_visitGoes_17, dX6_visitGoes_18, dX6_visitGoes_21, dX6_visitGoes_22, dX6_visitGoes_23, dX6_visitGoes_26, dX6_visitGoes_28, dX6_visitGoes_29, dX6_visitGoes_30, dX6_visitGoes_31, dX6_visitGoes_34, dX6_visitGoes_35, dX6_visitGoes_36, dX6_visitGoes_39, dX6_visitGoes_42, dX6_visitGoes_43, dX6_visitGoes_46, dX6_visitGoes_47, dX6_visitGoes_48, dX6_visitGoes_51, dX6_visitGoes_52, dX6_visitGoes_53, dX6_visitGoes_56, dX6_visitGoes_58, dX6_visitGoes_59, dX6_visitGoes_61, dX6_visitGoes_62, dX6_visitGoes_63, dX6_visitGoes_64, dX6_visitGoes_65, dX6_visitGoes_66, dX6_visitGoes_67, dX6_visitGoes_70, dX6_visitGoes_71, dX6_visitGoes_72, dX6_visitGoes_75, dX6_visitGoes_76, dX6_visitGoes_77, dX6_visitGoes_79, dX6_visitGoes_80, dX6_visitGoes_83, dX6_visitGoes_84, dX6_visitGoes_87, dX6_visitGoes_88, dX6_visitGoes_91, dX6_visitGoes_94, dX6_visitGoes_95, dX6_visitGoes_96, dX6_visitGoes_97, dX6_visitGoes_99, dX6_visitGoes_100, dX6_visitGoes_101, dX6_visitGoes_102, dX6_visitGoes_105, dX6_visitGoes_106, dX6_visitGoes_107, dX6_visitGoes_110, dX6_visitGoes_113, dX6_visitGoes_114, dX6_visitGoes_117, dX6_visitGoes_118, dX6_visitGoes_119, dX6_visitGoes_120, dX6_visitGoes_121, dX6_visitGoes_122, dX6_visitGoes_123, dX6_visitGoes_124, dX6_visitGoes_125, dX6_visitGoes_128, dX6_visitGoes_129, dX6_visitGoes_130, dX6_visitGoes_133, dX6_visitGoes_134, dX6_visitGoes_135, dX6_visitGoes_138, dX6_visitGoes_139, dX6_visitGoes_140, dX6_visitGoes_141, dX6_visitGoes_142, dX6_visitGoes_145, dX6_visitGoes_146, dX6_visitGoes_147, dX6_visitGoes_150, dX6_visitGoes_151, dX6_visitGoes_153, dX6_visitGoes_154, dX6_visitGoes_157, dX6_visitGoes_158, dX6_visitGoes_160, dX6_visitGoes_161, dX6_visitGoes_162, dX6_visitGoes_163, dX6_visitGoes_164, dX6_visitGoes_167, dX6_visitGoes_168, dX6_visitGoes_171, dX6_visitGoes_172, dX6_visitGoes_175, dX6_visitGoes_177, dX6_visitGoes_178, dX6_visitGoes_180, dX6_visitGoes_181, dX6_visitGoes_183, dX6_visitGoes_185, dX6_visitGoes_186, dX6_visitGoes_187, dX6_visitGoes_189, dX6_visitGoes_190, dX6_visitGoes_192, dX6_visitGoes_194, dX6_visitGoes_195, dX6_visitGoes_198, dX6_visitGoes_200, dX6_visitGoes_201, dX6_visitGoes_204, dX6_visitGoes_205, dX6_visitGoes_207, dX6_visitGoes_209, dX6_visitGoes_210, dX6_visitGoes_212, dX6_visitGoes_213, dX6_visitGoes_216, dX6_visitGoes_217, dX6_visitGoes_220, dX6_visitGoes_221, dX6_visitGoes_224, dX6_visitGoes_227, dX6_visitGoes_228, dX6_visitGoes_231, dX6_visitGoes_233, dX6_visitGoes_234, dX6_visitGoes_235, dX6_visitGoes_236, dX6_visitGoes_237, dX6_visitGoes_240, dX6_visitGoes_242, dX6_visitGoes_243, dX6_visitGoes_244, dX6_visitGoes_245, FX6_13, FX6_129, CX6_141, FX6_26, FX6_132, FX6_135, G_X6_visitGoes_160, G_X6_visitGoes_145, G_X6_visitGoes_152, G_X6_visitGoes_163, G_X6_visitGoes_142, G_X6_visitGoes_156, G_X6_visitGoes_167, kd_66, kd_67, kd_68, kd_69, kd_70, kd_71, kd_72, kd_73, kd_74, kd_75, kd_76, kd_77, kd_78, ln_66, ln_67, ln_68, ln_69, ln_70, ln_71, ln_72, ln_73, ln_74, ln_75, ln_76, ln_77, ln_78, T6_of, T6_comesTo, tn7_3, e35, eg, eq]
    have h := ih (n + 1) (by omega) (wI (wI (wI ν 68 (7 * n + 1) (rI μ 68 (7 * n + 1) + min (t * rI μ 68 (7 * n + 3)) (99 - rI μ 68 (7 * n + 1)))) 66 16 (rI ν 66 16 + (t * rI μ 68 (7 * n + 3) - min (t * rI μ 68 (7 * n + 3)) (99 - rI μ 68 (7 * n + 1))))) 68 40 (min 999999 (rI ν 68 40 + (t * rI μ 68 (7 * n + 3) - min (t * rI μ 68 (7 * n + 3)) (99 - rI μ 68 (7 * n + 1)))))) (by
      refine ⟨?_, ?_, ?_, ?_, ?_, ?_⟩
      · intro j hj
        simp only [rI_wI, cmF, upF, cmG]
        rw [if_neg (by omega), if_neg (by omega)]
        by_cases ej : j = 7 * n + 1
        · rw [if_pos ⟨trivial, ej⟩, if_pos ej]
        · rw [if_neg (by omega), if_neg ej]; exact l1 j hj
      · simp only [rI_wI, and_self, if_true, cmL]
        rw [l2]
        unfold cmG at hc ⊢
        omega
      · simp only [rI_wI, cmL, cmG]
        rw [if_neg (by omega), if_pos ⟨trivial, trivial⟩, l3]
        omega
      · intro j hj
        simp only [rI_wI]
        rw [if_neg (by omega), if_neg (by omega), if_neg (by omega)]
        exact l4 j hj
      · intro a h1 h2 j
        simp only [rI_wI]
        rw [if_neg (by omega), if_neg (by omega), if_neg (by omega)]
        exact l5 a h1 h2 j
      · intro a j
        simp only [rR_wI]
        exact l6 a j)
    rw [show ((n + 1 : Nat) : Int) = (n : Int) + 1 by omega] at h
    repeat' (first | exact trivial | omega | (with_reducible assumption) | exact absurd trivial (by with_reducible assumption) | contradiction | apply And.intro | intro _)
set_option maxRecDepth 20000 in
set_option maxHeartbeats 4000000 in
theorem b_visit51 (V : Nat → List (Option AV) → List AV → Mem → Prop) (K : List AV → Mem → Prop) (hV : Clos FX6 CX6 G_X6_visitGoes 0 K cX6_visitGoes V) (μ : Mem) (b : Int) (s : Int) (may : Bool) (hs : s = sndI (rI μ 68) may) (hW : WF (rI μ 68)) (h0 : rI μ 68 35 ≠ 0) (h38 : rI μ 68 38 ≤ 20000) (h39 : 0 ≤ rI μ 68 39 ∧ rI μ 68 39 ≤ 999999) (h40 : 0 ≤ rI μ 68 40 ∧ rI μ 68 40 ≤ 999999) (hK : ∀ μ', VP μ μ' may → K [] μ') : V 51 [some (.inr (.inr 66)), some (.inl b), some (.inl (rI μ 68 36)), none, none, none, none] [.inl s] (wI μ 68 38 (rI μ 68 38 + 1)) := by
  have hW' := hW
  obtain ⟨w1, w2, w3, w4⟩ := hW
  have w2 := w2 h0
  obtain ⟨i, hi⟩ := Int.eq_ofNat_of_zero_le w2.1
  have hi5 : i < 5 := by omega
  have hsn := snd_in hW' may
  have hS := w4 i (by omega)
  have hS' := hS
  unfold SOK at hS
  obtain ⟨s1, s2, s3, s4, s5, s6, s7⟩ := hS
  rw [← hs] at hsn
  have hs3 := hsn.2.2 h0
  rw [hi, Int.toNat_natCast] at hs3
  have ne1 : ¬ (7 * i + 1 = 38) := by omega
  have ne2 : ¬ (7 * i + 5 = 38) := by omega
  have ne3 : ¬ (7 * i + 4 = 38) := by omega
  have ne4 : ¬ (7 * i + 5 = 7 * i + 1) := by omega
  have ne5 : ¬ (7 * i + 5 = 7 * i + 6) := by omega
  have ne6 : ¬ (7 * i + 4 = 7 * i + 1) := by omega
  have ne7 : ¬ (7 * i + 4 = 7 * i + 6) := by omega
  have ne8 : ¬ (7 * i + 4 = 7 * i + 5) := by omega
  have ne9 : ¬ (39 = 7 * i + 1) := by omega
  have ne10 : ¬ (39 = 7 * i + 5) := by omega
  have ne11 : ¬ (39 = 7 * i + 6) := by omega
  have ne12 : ¬ (37 = 7 * i + 1) := by omega
  have ne13 : ¬ (37 = 7 * i + 5) := by omega
  have ne14 : ¬ (37 = 7 * i + 6) := by omega
  have ne15 : ¬ (7 * i + 4 = 39) := by omega
  have m1 : min 999999 (rI μ 68 (7 * i + 5) + s) = rI μ 68 (7 * i + 5) + s := by omega
  have m2 : min 999999 (rI μ 68 37 + (s + rI μ 68 (7 * i + 4))) = rI μ 68 37 + (s + rI μ 68 (7 * i + 4)) := by omega
  have ht := tms_in (i := i) (s := s) hS' w3.2.1 ⟨hsn.1, hsn.2.1⟩
  have key : ∀ fl : Int, fl = (if 0 < s then 1 else 0) → V 192 [some (.inr (.inr 66)), some (.inl b), some (.inl (i : Int)), some (.inl s), some (.inl (rI μ 68 37)), some (.inl (tms (rI μ 68) i s)), some (.inl 0)] [] (wI (wI (wI (wI (wI (wI (wI (wI (wI μ 68 38 (rI μ 68 38 + 1)) 68 (7 * i + 1) (rI μ 68 (7 * i + 1) - s)) 68 (7 * i + 6) fl) 68 (7 * i + 5) (rI μ 68 (7 * i + 5) + s)) 72 i (rI μ 72 i + s)) 66 14 (rI μ 66 14 + s)) 66 15 (rI μ 66 15 + (s + rI μ 68 (7 * i + 4)))) 68 39 (min 999999 (rI μ 68 39 + s))) 68 37 (rI μ 68 37 + (s + rI μ 68 (7 * i + 4)))) := by
    intro fl hfl
    generalize hν : (wI (wI (wI (wI (wI (wI (wI (wI (wI μ 68 38 (rI μ 68 38 + 1)) 68 (7 * i + 1) (rI μ 68 (7 * i + 1) - s)) 68 (7 * i + 6) fl) 68 (7 * i + 5) (rI μ 68 (7 * i + 5) + s)) 72 i (rI μ 72 i + s)) 66 14 (rI μ 66 14 + s)) 66 15 (rI μ 66 15 + (s + rI μ 68 (7 * i + 4)))) 68 39 (min 999999 (rI μ 68 39 + s))) 68 37 (rI μ 68 37 + (s + rI μ 68 (7 * i + 4)))) = ν
    have c68 : ∀ j, j < 39 → rI ν 68 j = mid (rI μ 68) i s j := by
      intro j hj
      rw [← hν]
      simp only [rI_wI, mid, upF, ← hfl, true_and]
      have z1 : ¬ ((68 : Nat) = 72) := by omega
      have z2 : ¬ ((68 : Nat) = 66) := by omega
      simp only [z1, z2, false_and, if_false, show ¬ j = 39 by omega]
    have c39 : rI ν 68 39 = min 999999 (rI μ 68 39 + s) := by
      rw [← hν]; simp [rI_wI]
    have cge : ∀ j, 40 ≤ j → rI ν 68 j = rI μ 68 j := by
      intro j hj
      rw [← hν]
      simp only [rI_wI]
      rw [if_neg (by omega), if_neg (by omega), if_neg (by omega), if_neg (by omega), if_neg (by omega), if_neg (by omega), if_neg (by omega), if_neg (by omega), if_neg (by omega)]
    have c66 : ∀ j, rI ν 66 j = if j = 15 then rI μ 66 15 + (s + rI μ 68 (7 * i + 4)) else if j = 14 then rI μ 66 14 + s else rI μ 66 j := by
      intro j
      rw [← hν]
      simp [rI_wI]
    have c72 : ∀ j, rI ν 72 j = if j = i then rI μ 72 i + s else rI μ 72 j := by
      intro j
      rw [← hν]
      simp [rI_wI]
    have cR : ∀ a j, rR ν a j = rR μ a j := by
      intro a j
      rw [← hν]
      rfl
    have coth : ∀ a, a ≠ 66 → a ≠ 68 → a ≠ 72 → ∀ j, rI ν a j = rI μ a j := by
      intro a h1 h2 h3 j
      rw [← hν]
      simp [rI_wI, h1, h2, h3]
    have i35 : rI ν 68 35 = rI μ 68 35 := by rw [c68 35 (by omega), mid_o _ _ _ _ hi5 (by omega)]; simp
    have i36 : rI ν 68 36 = rI μ 68 36 := by rw [c68 36 (by omega), mid_o _ _ _ _ hi5 (by omega)]; simp
    have e36 : (rI μ 68 36).toNat = i := by omega
    have hSν : ∀ k : Nat, (k : Int) < rI ν 68 35 → SOK (rI ν 68) k := by
      intro k hk
      rw [i35] at hk
      have := mid_SOK (may := may) hW' h0 hk
      rw [e36, ← hs] at this
      unfold SOK at this ⊢
      rw [c68 _ (by omega), c68 _ (by omega), c68 _ (by omega), c68 _ (by omega), c68 _ (by omega), c68 _ (by omega), c68 _ (by omega), c68 _ (by omega)]
      exact this
    have h := lp_visit V K hV ν (tms (rI μ 68) i s) (.inl b) (.inl (i : Int)) (.inl s) (.inl (rI μ 68 37)) (by rw [i36, hi]) ht (by rw [i35]; omega) (by rw [i35, i36]; exact w2) hSν (by rw [cge 40 (by omega)]; exact h40) (fun ρ hρ => ?_) (rI ν 68 35).toNat 0 (by omega) ν ?_
    · exact h
    · obtain ⟨l1, l2, l3, l4, l5, l6⟩ := hρ
      rw [i35, i36]
      have n5 : (rI μ 68 35).toNat ≤ 5 := by omega
      have hnx : ∀ j, nxt (rI μ 68) may j = upF (cmF (mid (rI μ 68) i s) (tms (rI μ 68) i s) (rI μ 68 35).toNat) 36 (if rI μ 68 36 + 1 < rI μ 68 35 then rI μ 68 36 + 1 else 0) j := by
        intro j
        unfold nxt
        rw [if_neg h0, e36, ← hs]
      have hls : lstI (rI μ 68) may = cmL (mid (rI μ 68) i s) (tms (rI μ 68) i s) (rI μ 68 35).toNat := by
        unfold lstI
        rw [if_neg h0, e36, ← hs]
      rw [i35] at l1 l2 l3
      have hcl := cmL_congr (t := tms (rI μ 68) i s) (fun x hx => c68 x hx) (rI μ 68 35).toNat n5
      refine hK _ ⟨?_, ?_, ?_, ?_, ?_, ?_, ?_, ?_, ?_, ?_, ?_⟩
      · intro j hj
        rw [hnx j]
        simp only [rI_wI, upF]
        by_cases e : j = 36
        · rw [if_pos ⟨trivial, e⟩, if_pos e]
        · rw [if_neg (fun z => e z.2), if_neg e, l1 j (by omega)]
          exact cmF_congr (fun x hx => c68 x hx) _ n5 j hj
      · rw [← hs]
        simp only [rI_wI]
        rw [if_neg (by omega), l1 39 (by omega), cmF_out _ _ _ _ (fun k hk => by omega), c39]
      · rw [hls]
        simp only [rI_wI]
        rw [if_neg (by omega), l2, cge 40 (by omega), hcl]
      · intro j hj
        simp only [rI_wI]
        rw [if_neg (by omega), l1 j (by omega), cmF_out _ _ _ _ (fun k hk => by omega), cge j (by omega)]
      · rw [← hs]
        simp only [rI_wI]
        rw [if_neg (by omega), l4 14 (by omega), c66 14]
        simp
      · rw [(nxt_t (rI μ 68) may hW' h0).1, e36, ← hs]
        simp only [rI_wI]
        rw [if_neg (by omega), l4 15 (by omega), c66 15]
        simp only [if_true]
        omega
      · rw [hls]
        simp only [rI_wI]
        rw [if_neg (by omega), l3, hcl, c66 16]
        simp
      · intro j j1 j2 j3
        simp only [rI_wI]
        rw [if_neg (by omega), l4 j j3, c66 j, if_neg j2, if_neg j1]
      · intro j hj
        simp only [rI_wI]
        rw [if_neg (by omega), l5 72 (by omega) (by omega), c72 j, e36, ← hs]
        by_cases e : j = i
        · subst e; simp [h0]
        · simp [e]
      · intro a h1 h2 h3 j
        simp only [rI_wI]
        rw [if_neg (by omega), l5 a h1 h2 j, coth a h1 h2 h3 j]
      · intro a j
        rw [rR_wI, l6, cR]
    · refine ⟨fun j _ => rfl, ?_, ?_, fun j _ => rfl, fun a _ _ j => rfl, fun a j => rfl⟩
      · simp only [cmL, Int.add_zero]
        rw [cge 40 (by omega)]
        omega
      · simp only [cmL, Int.add_zero]
  rw [hi]
  apply hV [192] 100
  simp only [InR, InL, inb, Int.toNat_natCast, wp1, wpc_z, wpc_s, stp_iconst, stp_bipush, stp_sipush, stp_lconst, stp_iload_n, stp_iload, stp_lload_n, stp_lload, stp_aload_n, stp_aload, stp_istore_n, stp_istore, stp_lstore_n, stp_lstore, stp_astore_n, stp_astore, stp_iinc, stp_iadd, stp_isub, stp_imul, stp_ineg, stp_idiv, stp_irem, stp_ladd, stp_lmul, stp_ldiv, stp_lrem, stp_ishl, stp_ishr, stp_iushr, stp_iand, stp_ior, stp_i2l, stp_i2b, stp_i2s, stp_lcmp, stp_dup, stp_dup2, stp_pop, stp_ifCond, stp_if_icmp, stp_goto, stp_tableswitch, stp_lookupswitch, stp_ldc, stp_ldc_w, stp_ldc2_w, stp_getstatic, stp_getfield, stp_putfield, stp_iaload, stp_baload, stp_iastore, stp_bastore, stp_aaload, stp_aastore, stp_invokevirtual, stp_invokestatic, stp_ireturn, stp_lreturn, stp_return_, lg, lset, okl, spl, wd, c1, cnd, tg, swT, swL, f4_0, f4_1, f4_2, f4_3, f2_0, f2_1, List.mem_cons, List.not_mem_nil, List.length_cons, List.length_nil, List.cons_append, List.nil_append, Nat.reduceAdd, Nat.reduceMul, Nat.reduceLT, Nat.reduceEqDiff, Nat.reduceLeDiff, Int.reduceAdd, Int.reduceNeg, Int.reduceToNat, Int.cast_ofNat_Int, Int.reduceNatCast, Int.toNat_zero, Int.toNat_one, Int.reduceLE, Int.reduceLT, Int.reduceEq, Int.zero_add, Int.add_zero, or_false, false_or, or_true, true_or, and_true, true_and, and_false, false_and, reduceIte, not_true_eq_false, not_false_eq_true, forall_const, false_implies, true_implies, implies_true, ne_eq, reduceCtorEq, List.all_cons, List.all_nil, Bool.and_true, Bool.and_self, decide_eq_true_eq, decide_true, dX6_visitGoes_0, dX6_visitGoes_1, dX6_visitGoes_4, dX6_visitGoes_6, dX6_visitGoes_7, dX6_visitGoes_8, dX6_visitGoes_9, dX6_visitGoes_10, dX6_visitGoes_11, dX6_visitGoes_12, dX6_visitGoes_15, dX6_visitGoes_17, dX6_visitGoes_18, dX6_visitGoes_21, dX6_visitGoes_22, dX6_visitGoes_23, dX6_visitGoes_26, dX6_visitGoes_28, dX6_visitGoes_29, dX6_visitGoes_30, dX6_visitGoes_31, dX6_visitGoes_34, dX6_visitGoes_35, dX6_visitGoes_36, dX6_visitGoes_39, dX6_visitGoes_42, dX6_visitGoes_43, dX6_visitGoes_46, dX6_visitGoes_47, dX6_visitGoes_48, dX6_visitGoes_51, dX6_visitGoes_52, dX6_visitGoes_53, dX6_visitGoes_56, dX6_visitGoes_58, dX6_visitGoes_59, dX6_visitGoes_61, dX6_visitGoes_62, dX6_visitGoes_63, dX6_visitGoes_64, dX6_visitGoes_65, dX6_visitGoes_66, dX6_visitGoes_67, dX6_visitGoes_70, dX6_visitGoes_71, dX6_visitGoes_72, dX6_visitGoes_75, dX6_visitGoes_76, dX6_visitGoes_77, dX6_visitGoes_79, dX6_visitGoes_80, dX6_visitGoes_83, dX6_visitGoes_84, dX6_visitGoes_87, dX6_visitGoes_88, dX6_visitGoes_91, dX6_visitGoes_94, dX6_visitGoes_95, dX6_visitGoes_96, dX6_visitGoes_97, dX6_visitGoes_99, dX6_visitGoes_100, dX6_visitGoes_101, dX6_visitGoes_102, dX6_visitGoes_105, dX6_visitGoes_106, dX6_visitGoes_107, dX6_visitGoes_110, dX6_visitGoes_113, dX6_visitGoes_114, dX6_visitGoes_117, dX6_visitGoes_118, dX6_visitGoes_119, dX6_visitGoes_120, dX6_visitGoes_121, dX6_visitGoes_122, dX6_visitGoes_123, dX6_visitGoes_124, dX6_visitGoes_125, dX6_visitGoes_128, dX6_visitGoes_129, dX6_visitGoes_130, dX6_visitGoes_133, dX6_visitGoes_134, dX6_visitGoes_135, dX6_visitGoes_138, dX6_visitGoes_139, dX6_visitGoes_140, dX6_visitGoes_141, dX6_visitGoes_142, dX6_visitGoes_145, dX6_visitGoes_146, dX6_visitGoes_147, dX6_visitGoes_150, dX6_visitGoes_151, dX6_visitGoes_153, dX6_visitGoes_154, dX6_visitGoes_157, dX6_visitGoes_158, dX6_visitGoes_160, dX6_visitGoes_161, dX6_visitGoes_162, dX6_visitGoes_163, dX6_visitGoes_164, dX6_visitGoes_167, dX6_visitGoes_168, dX6_visitGoes_171, dX6_visitGoes_172, dX6_visitGoes_175, dX6_visitGoes_177, dX6_visitGoes_178, dX6_visitGoes_180, dX6_visitGoes_181, dX6_visitGoes_183, dX6_visitGoes_185, dX6_visitGoes_186, dX6_visitGoes_187, dX6_visitGoes_189, dX6_visitGoes_190, dX6_visitGoes_192, dX6_visitGoes_194, dX6_visitGoes_195, dX6_visitGoes_198, dX6_visitGoes_200, dX6_visitGoes_201, dX6_visitGoes_204, dX6_visitGoes_205, dX6_visitGoes_207, dX6_visitGoes_209, dX6_visitGoes_210, dX6_visitGoes_212, dX6_visitGoes_213, dX6_visitGoes_216, dX6_visitGoes_217, dX6_visitGoes_220, dX6_visitGoes_221, dX6_visitGoes_224, dX6_visitGoes_227, dX6_visitGoes_228, dX6_visitGoes_231, dX6_visitGoes_233, dX6_visitGoes_234, dX6_visitGoes_235, dX6_visitGoes_236, dX6_visitGoes_237, dX6_visitGoes_240, dX6_visitGoes_242, dX6_visitGoes_243, dX6_visitGoes_244, dX6_visitGoes_245, FX6_13, FX6_129, CX6_141, FX6_26, FX6_132, FX6_135, G_X6_visitGoes_160, G_X6_visitGoes_145, G_X6_visitGoes_152, G_X6_visitGoes_163, G_X6_visitGoes_142, G_X6_visitGoes_156, G_X6_visitGoes_167, kd_66, kd_67, kd_68, kd_69, kd_70, kd_71, kd_72, kd_73, kd_74, kd_75, kd_76, kd_77, kd_78, ln_66, ln_67, ln_68, ln_69, ln_70, ln_71, ln_72, ln_73, ln_74, ln_75, ln_76, ln_77, ln_78, T6_of, T6_becomesOf, T6_flag, T6_growsTo, T6_lesser, tn7_1, tn7_4, tn7_5, tn7_6, rI_wI, ne1, ne2, ne3, ne4, ne5, ne6, ne7, ne8, ne9, ne10, ne11, ne12, ne13, ne14, ne15, m1, m2]
  have k1 := key 1
  have k0 := key 0
  unfold tms at k1 k0
  by_cases e : 0 < s
  · have k1 := k1 (by rw [if_pos e])
    repeat' (first | exact trivial | omega | (with_reducible assumption) | exact absurd trivial (by with_reducible assumption) | contradiction | apply And.intro | intro _)
  · have k0 := k0 (by rw [if_neg e])
    repeat' (first | exact trivial | omega | (with_reducible assumption) | exact absurd trivial (by with_reducible assumption) | contradiction | apply And.intro | intro _)
def T6_visitGoes : TT := fun a μ K => match a with
  | [.inr (.inr o), .inl b] => o = 66 ∧ ((b = 0 ∨ b = 1) ∧ WF (rI μ 68) ∧ rI μ 68 38 ≤ 20000 ∧ (0 ≤ rI μ 68 39 ∧ rI μ 68 39 ≤ 999999) ∧ (0 ≤ rI μ 68 40 ∧ rI μ 68 40 ≤ 999999) ∧ InR (rI μ 66 13) ∧ ∀ μ', VP μ μ' (decide (b = 0 ∧ rI μ 68 36 ≠ rI μ 66 13)) → K [] μ')
  | _ => False
theorem rec_X6_visitGoes : ∀ a μ K, T6_visitGoes a μ K → ∃ k r, a = .inr (.inr k) :: r ∧ kd k = 6 := by
  intro a μ K h
  unfold T6_visitGoes at h
  split at h
  · exact ⟨_, _, rfl, by rw [h.1]; rfl⟩
  · exact h.elim
theorem gk_X6_visitGoes (l : Launch) : ∀ i n b T, G_X6_visitGoes i = some (n, b, T) → CallOK l 3 RX6 i n b T := by
  intro i n b T h
  have hm : (i, n, b, T) ∈ GL_X6_visitGoes := lk_mem h
  simp only [GL_X6_visitGoes, List.mem_cons, List.not_mem_nil, or_false, Prod.mk.injEq] at hm
  rcases hm with ⟨rfl, rfl, rfl, rfl⟩ | ⟨rfl, rfl, rfl, rfl⟩ | ⟨rfl, rfl, rfl, rfl⟩ | ⟨rfl, rfl, rfl, rfl⟩ | ⟨rfl, rfl, rfl, rfl⟩ | ⟨rfl, rfl, rfl, rfl⟩ | ⟨rfl, rfl, rfl, rfl⟩
  · exact CallOK.V (d := 3) (own := RX6) (i := 160) (n := 1) (ci := 6) (good_X6_sendsNow l) (by decide) (by decide) rfl (by decide) rec_X6_sendsNow (mg 781 (by decide +kernel) (by decide +kernel)) (mg 783 (by decide +kernel) (by decide +kernel)) (mgs 36 (by decide +kernel) (by decide +kernel)) (mg 7 (by decide +kernel) (by decide +kernel)) (mg 784 (by decide +kernel) (by decide +kernel)) (by decide +kernel)
  · exact CallOK.V (d := 3) (own := RX6) (i := 145) (n := 2) (ci := 6) (good_X6_of l) (by decide) (by decide) rfl (by decide) rec_X6_of (mg 777 (by decide +kernel) (by decide +kernel)) (mg 779 (by decide +kernel) (by decide +kernel)) (mgs 35 (by decide +kernel) (by decide +kernel)) (mg 7 (by decide +kernel) (by decide +kernel)) (mg 780 (by decide +kernel) (by decide +kernel)) (by decide +kernel)
  · exact CallOK.V (d := 3) (own := RX6) (i := 152) (n := 3) (ci := 6) (good_X6_becomesOf l) (by decide) (by decide) rfl (by decide) rec_X6_becomesOf (mg 823 (by decide +kernel) (by decide +kernel)) (mg 825 (by decide +kernel) (by decide +kernel)) (mgs 41 (by decide +kernel) (by decide +kernel)) (mg 7 (by decide +kernel) (by decide +kernel)) (mg 826 (by decide +kernel) (by decide +kernel)) (by decide +kernel)
  · exact CallOK.S (d := 3) (own := RX6) (i := 163) (n := 1) (good_X6_flag l) (by decide) (by decide) (mg 857 (by decide +kernel) (by decide +kernel)) (mg 858 (by decide +kernel) (by decide +kernel)) (mg 7 (by decide +kernel) (by decide +kernel)) (mg 859 (by decide +kernel) (by decide +kernel)) (by decide +kernel)
  · exact CallOK.S (d := 3) (own := RX6) (i := 142) (n := 2) (good_X6_lesser l) (by decide) (by decide) (mg 785 (by decide +kernel) (by decide +kernel)) (mg 786 (by decide +kernel) (by decide +kernel)) (mg 7 (by decide +kernel) (by decide +kernel)) (mg 787 (by decide +kernel) (by decide +kernel)) (by decide +kernel)
  · exact CallOK.V (d := 3) (own := RX6) (i := 156) (n := 2) (ci := 6) (good_X6_growsTo l) (by decide) (by decide) rfl (by decide) rec_X6_growsTo (mg 827 (by decide +kernel) (by decide +kernel)) (mg 829 (by decide +kernel) (by decide +kernel)) (mgs 42 (by decide +kernel) (by decide +kernel)) (mg 7 (by decide +kernel) (by decide +kernel)) (mg 830 (by decide +kernel) (by decide +kernel)) (by decide +kernel)
  · exact CallOK.V (d := 3) (own := RX6) (i := 167) (n := 2) (ci := 6) (good_X6_comesTo l) (by decide) (by decide) rfl (by decide) rec_X6_comesTo (mg 819 (by decide +kernel) (by decide +kernel)) (mg 821 (by decide +kernel) (by decide +kernel)) (mgs 40 (by decide +kernel) (by decide +kernel)) (mg 7 (by decide +kernel) (by decide +kernel)) (mg 822 (by decide +kernel) (by decide +kernel)) (by decide +kernel)
set_option maxRecDepth 20000 in
set_option maxHeartbeats 4000000 in
theorem body_X6_visitGoes (o : Nat) (b : Int) (μ : Mem) (K : List AV → Mem → Prop) (V : Nat → List (Option AV) → List AV → Mem → Prop) (hV : Clos FX6 CX6 G_X6_visitGoes 0 K cX6_visitGoes V) (hT : o = 66 ∧ ((b = 0 ∨ b = 1) ∧ WF (rI μ 68) ∧ rI μ 68 38 ≤ 20000 ∧ (0 ≤ rI μ 68 39 ∧ rI μ 68 39 ≤ 999999) ∧ (0 ≤ rI μ 68 40 ∧ rI μ 68 40 ≤ 999999) ∧ InR (rI μ 66 13) ∧ ∀ μ', VP μ μ' (decide (b = 0 ∧ rI μ 68 36 ≠ rI μ 66 13)) → K [] μ')) : V 0 [some (.inr (.inr o)), some (.inl b), none, none, none, none, none] [] μ := by
  obtain ⟨rfl, hb, hW, h38, h39, h40, hp, hK⟩ := hT
  simp only [InR] at hp
  have hW' := hW
  obtain ⟨w1, w2, w3, w4⟩ := hW
  apply hV [51] 60
  simp only [InR, InL, inb, Int.toNat_natCast, wp1, wpc_z, wpc_s, stp_iconst, stp_bipush, stp_sipush, stp_lconst, stp_iload_n, stp_iload, stp_lload_n, stp_lload, stp_aload_n, stp_aload, stp_istore_n, stp_istore, stp_lstore_n, stp_lstore, stp_astore_n, stp_astore, stp_iinc, stp_iadd, stp_isub, stp_imul, stp_ineg, stp_idiv, stp_irem, stp_ladd, stp_lmul, stp_ldiv, stp_lrem, stp_ishl, stp_ishr, stp_iushr, stp_iand, stp_ior, stp_i2l, stp_i2b, stp_i2s, stp_lcmp, stp_dup, stp_dup2, stp_pop, stp_ifCond, stp_if_icmp, stp_goto, stp_tableswitch, stp_lookupswitch, stp_ldc, stp_ldc_w, stp_ldc2_w, stp_getstatic, stp_getfield, stp_putfield, stp_iaload, stp_baload, stp_iastore, stp_bastore, stp_aaload, stp_aastore, stp_invokevirtual, stp_invokestatic, stp_ireturn, stp_lreturn, stp_return_, lg, lset, okl, spl, wd, c1, cnd, tg, swT, swL, f4_0, f4_1, f4_2, f4_3, f2_0, f2_1, List.mem_cons, List.not_mem_nil, List.length_cons, List.length_nil, List.cons_append, List.nil_append, Nat.reduceAdd, Nat.reduceMul, Nat.reduceLT, Nat.reduceEqDiff, Nat.reduceLeDiff, Int.reduceAdd, Int.reduceNeg, Int.reduceToNat, Int.cast_ofNat_Int, Int.reduceNatCast, Int.toNat_zero, Int.toNat_one, Int.reduceLE, Int.reduceLT, Int.reduceEq, Int.zero_add, Int.add_zero, or_false, false_or, or_true, true_or, and_true, true_and, and_false, false_and, reduceIte, not_true_eq_false, not_false_eq_true, forall_const, false_implies, true_implies, implies_true, ne_eq, reduceCtorEq, List.all_cons, List.all_nil, Bool.and_true, Bool.and_self, decide_eq_true_eq, decide_true, dX6_visitGoes_0, dX6_visitGoes_1, dX6_visitGoes_4, dX6_visitGoes_6, dX6_visitGoes_7, dX6_visitGoes_8, dX6_visitGoes_9, dX6_visitGoes_10, dX6_visitGoes_11, dX6_visitGoes_12, dX6_visitGoes_15, dX6_visitGoes_17, dX6_visitGoes_18, dX6_visitGoes_21, dX6_visitGoes_22, dX6_visitGoes_23, dX6_visitGoes_26, dX6_visitGoes_28, dX6_visitGoes_29, dX6_visitGoes_30, dX6_visitGoes_31, dX6_visitGoes_34, dX6_visitGoes_35, dX6_visitGoes_36, dX6_visitGoes_39, dX6_visitGoes_42, dX6_visitGoes_43, dX6_visitGoes_46, dX6_visitGoes_47, dX6_visitGoes_48, dX6_visitGoes_51, dX6_visitGoes_52, dX6_visitGoes_53, dX6_visitGoes_56, dX6_visitGoes_58, dX6_visitGoes_59, dX6_visitGoes_61, dX6_visitGoes_62, dX6_visitGoes_63, dX6_visitGoes_64, dX6_visitGoes_65, dX6_visitGoes_66, dX6_visitGoes_67, dX6_visitGoes_70, dX6_visitGoes_71, dX6_visitGoes_72, dX6_visitGoes_75, dX6_visitGoes_76, dX6_visitGoes_77, dX6_visitGoes_79, dX6_visitGoes_80, dX6_visitGoes_83, dX6_visitGoes_84, dX6_visitGoes_87, dX6_visitGoes_88, dX6_visitGoes_91, dX6_visitGoes_94, dX6_visitGoes_95, dX6_visitGoes_96, dX6_visitGoes_97, dX6_visitGoes_99, dX6_visitGoes_100, dX6_visitGoes_101, dX6_visitGoes_102, dX6_visitGoes_105, dX6_visitGoes_106, dX6_visitGoes_107, dX6_visitGoes_110, dX6_visitGoes_113, dX6_visitGoes_114, dX6_visitGoes_117, dX6_visitGoes_118, dX6_visitGoes_119, dX6_visitGoes_120, dX6_visitGoes_121, dX6_visitGoes_122, dX6_visitGoes_123, dX6_visitGoes_124, dX6_visitGoes_125, dX6_visitGoes_128, dX6_visitGoes_129, dX6_visitGoes_130, dX6_visitGoes_133, dX6_visitGoes_134, dX6_visitGoes_135, dX6_visitGoes_138, dX6_visitGoes_139, dX6_visitGoes_140, dX6_visitGoes_141, dX6_visitGoes_142, dX6_visitGoes_145, dX6_visitGoes_146, dX6_visitGoes_147, dX6_visitGoes_150, dX6_visitGoes_151, dX6_visitGoes_153, dX6_visitGoes_154, dX6_visitGoes_157, dX6_visitGoes_158, dX6_visitGoes_160, dX6_visitGoes_161, dX6_visitGoes_162, dX6_visitGoes_163, dX6_visitGoes_164, dX6_visitGoes_167, dX6_visitGoes_168, dX6_visitGoes_171, dX6_visitGoes_172, dX6_visitGoes_175, dX6_visitGoes_177, dX6_visitGoes_178, dX6_visitGoes_180, dX6_visitGoes_181, dX6_visitGoes_183, dX6_visitGoes_185, dX6_visitGoes_186, dX6_visitGoes_187, dX6_visitGoes_189, dX6_visitGoes_190, dX6_visitGoes_192, dX6_visitGoes_194, dX6_visitGoes_195, dX6_visitGoes_198, dX6_visitGoes_200, dX6_visitGoes_201, dX6_visitGoes_204, dX6_visitGoes_205, dX6_visitGoes_207, dX6_visitGoes_209, dX6_visitGoes_210, dX6_visitGoes_212, dX6_visitGoes_213, dX6_visitGoes_216, dX6_visitGoes_217, dX6_visitGoes_220, dX6_visitGoes_221, dX6_visitGoes_224, dX6_visitGoes_227, dX6_visitGoes_228, dX6_visitGoes_231, dX6_visitGoes_233, dX6_visitGoes_234, dX6_visitGoes_235, dX6_visitGoes_236, dX6_visitGoes_237, dX6_visitGoes_240, dX6_visitGoes_242, dX6_visitGoes_243, dX6_visitGoes_244, dX6_visitGoes_245, FX6_13, FX6_129, CX6_141, FX6_26, FX6_132, FX6_135, G_X6_visitGoes_160, G_X6_visitGoes_145, G_X6_visitGoes_152, G_X6_visitGoes_163, G_X6_visitGoes_142, G_X6_visitGoes_156, G_X6_visitGoes_167, kd_66, kd_67, kd_68, kd_69, kd_70, kd_71, kd_72, kd_73, kd_74, kd_75, kd_76, kd_77, kd_78, ln_66, ln_67, ln_68, ln_69, ln_70, ln_71, ln_72, ln_73, ln_74, ln_75, ln_76, ln_77, ln_78, T6_sendsNow, rI_wI]
  by_cases h0 : rI μ 68 35 = 0
  · have h := hK (wI μ 68 38 (rI μ 68 38 + 1)) (by
      refine ⟨?_, ?_, ?_, ?_, ?_, ?_, ?_, ?_, ?_, ?_, ?_⟩
      · intro j hj
        simp only [rI_wI, nxt, if_pos h0, upF]
        by_cases e : j = 38 <;> simp [e]
      · simp only [rI_wI, sndI, if_pos h0]; simp; omega
      · simp only [rI_wI, lstI, if_pos h0]; simp; omega
      · intro j hj
        simp only [rI_wI]
        rw [if_neg (by omega)]
      · simp only [rI_wI, sndI, if_pos h0]; simp
      · simp only [rI_wI, nxt, if_pos h0, upF]; simp
      · simp only [rI_wI, lstI, if_pos h0]; simp
      · intro j _ _ _; simp [rI_wI]
      · intro j _; simp [rI_wI, h0]
      · intro a _ h2 _ j; simp [rI_wI, h2]
      · intro a j; rfl)
    repeat' (first | exact trivial | omega | (with_reducible assumption) | exact absurd trivial (by with_reducible assumption) | contradiction | apply And.intro | intro _)
  · have w2 := w2 h0
    obtain ⟨i, hi⟩ := Int.eq_ofNat_of_zero_le w2.1
    have hSv : ∀ k : Nat, (k : Int) < rI μ 68 35 → SOK (rI (wI μ 68 38 (rI μ 68 38 + 1)) 68) k := by
      intro k hk
      exact SOK_congr (fun x hx => by rw [rI_wI, if_neg (by omega)]) (by rw [rI_wI, if_pos ⟨rfl, rfl⟩]; omega) (by omega) (w4 k hk)
    have k51 := fun (s : Int) (hs : s = sndI (rI μ 68) (decide (b = 0 ∧ rI μ 68 36 ≠ rI μ 66 13))) => b_visit51 V K hV μ b s _ hs hW' h0 h38 h39 h40 hK
    by_cases eb : b = 0
    · by_cases ep : rI μ 68 36 = rI μ 66 13
      · have k := k51 0 (by simp [sndI, ep])
        subst eb
        repeat' (first | exact trivial | omega | (with_reducible assumption) | exact absurd trivial (by with_reducible assumption) | contradiction | apply And.intro | intro _)
      · have k := k51 (due (rI μ 68) i) (by
          simp only [sndI, if_neg h0]
          rw [if_pos (by simp [eb, ep]), hi, Int.toNat_natCast])
        have ed : due (rI (wI μ 68 38 (rI μ 68 38 + 1)) 68) i = due (rI μ 68) i := by
          exact due_congr (fun x hx => by rw [rI_wI, if_neg (by omega)]) (by omega) (by omega)
        subst eb
        simp only [hi, Int.toNat_natCast, ed]
        rw [hi] at ep k
        repeat' (first | exact trivial | omega | (with_reducible assumption) | exact absurd trivial (by with_reducible assumption) | contradiction | apply And.intro | intro _)
        all_goals first | exact hSv _ (by omega) | (rw [← hi]; assumption) | omega
    · have eb1 : b = 1 := by omega
      have k := k51 0 (by simp [sndI, eb])
      subst eb1
      repeat' (first | exact trivial | omega | (with_reducible assumption) | exact absurd trivial (by with_reducible assumption) | contradiction | apply And.intro | intro _)
theorem good_X6_visitGoes (l : Launch) : Good l 3 yX6_visitGoes cX6_visitGoes 7 none T6_visitGoes := by
  refine Good.mk 0 (by decide) rfl (by simp [retOK]) FOK6 COK6 (gk_X6_visitGoes l) ?_ ?_
  · intro a μ K h
    unfold T6_visitGoes at h
    split at h
    · simp [entl]
    · exact h.elim
  · intro a μ K V hV h
    unfold T6_visitGoes at h
    split at h
    · exact body_X6_visitGoes _ _ μ K V hV h
    · exact h.elim

