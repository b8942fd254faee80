/-! the class: a line, the whole text -/
def adN (b : Nat → Int) (len : Nat) : Nat → Nat → Nat
  | 0, p => p
  | k + 1, p => adN b len k (tkN b len p)
theorem ck_nf (b : Nat → Int) (len : Nat) : ∀ (L : List (Int × Int)) (p : Nat), ckL b len L p = if (nfL b len L p).1 ≠ 0 then nfL b len L p else (sfC b len (adN b len L.length p), (tkF b len (adN b len L.length p) : Int))
  | [], p => by simp [ckL, nfL, adN]
  | q :: r, p => by
    simp only [ckL, nfL, List.length_cons, adN]
    by_cases z : nfC b len p q.1 q.2 ≠ 0
    · rw [if_pos z, if_pos z, if_pos z]
    · rw [if_neg z, if_neg z, ck_nf b len r (tkN b len p)]
/-- a line: its FAULT and where, or the next place, what is told then -/
def lnR (b : Nat → Int) (len p : Nat) (D : Nat → Int) (hw : Bool) : Int × Int × Nat × (Nat → Int) × Bool :=
  if tkK b len p = -4 then (2, (tkF b len p : Int), 0, D, hw)
  else if tkK b len p = 4 then (if hw = true then (4, (tkF b len p : Int), 0, D, hw) else ((ckL b len [(0, 4)] (tkN b len p)).1, (ckL b len [(0, 4)] (tkN b len p)).2, tkN b len (n2 b len p), wdD b len D (tkN b len p), true))
  else if ¬ D 35 < 5 then (5, (tkF b len p : Int), 0, D, hw)
  else ((ckL b len bds (tkN b len p)).1, (ckL b len bds (tkN b len p)).2, n2 b len (n2 b len (n2 b len p)), stD b len D (tkK b len p) (tkN b len p), hw)
theorem plN_s {b : Nat → Int} {len p m n : Nat} {D : Nat → Int} {hw : Bool} (he : tkE b len p = false) (hs : tkS b len p ≠ 0) : plN b len (m + 1) p D hw n = if (lnR b len p D hw).1 ≠ 0 then ((lnR b len p D hw).1, (lnR b len p D hw).2.1, (n : Int), D) else plN b len m (lnR b len p D hw).2.2.1 (lnR b len p D hw).2.2.2.1 (lnR b len p D hw).2.2.2.2 (n + 1) := by
  simp only [plN]
  rw [if_neg (by simp [he]), if_neg hs]
  unfold lnR
  by_cases k1 : tkK b len p = -4
  · rw [if_pos k1, if_pos k1]; simp
  · rw [if_neg k1, if_neg k1]
    by_cases k2 : tkK b len p = 4
    · rw [if_pos k2, if_pos k2]
      by_cases k3 : hw = true
      · rw [if_pos k3, if_pos k3]; simp
      · rw [if_neg k3, if_neg k3]
    · rw [if_neg k2, if_neg k2]
      by_cases k3 : ¬ D 35 < 5
      · rw [if_pos k3, if_pos k3]; simp
      · rw [if_neg k3, if_neg k3]
theorem lnR_DW {b : Nat → Int} {len p n : Nat} {D : Nat → Int} {hw : Bool} (h : DW D hw n) (he : (lnR b len p D hw).1 = 0) : DW (lnR b len p D hw).2.2.2.1 (lnR b len p D hw).2.2.2.2 (n + 1) := by
  have hk := tkK_in b len p
  unfold lnR at he ⊢
  by_cases k1 : tkK b len p = -4
  · rw [if_pos k1] at he; cases he
  · rw [if_neg k1] at he ⊢
    by_cases k2 : tkK b len p = 4
    · rw [if_pos k2] at he ⊢
      by_cases k3 : hw = true
      · rw [if_pos k3] at he; cases he
      · rw [if_neg k3] at he ⊢
        have e : hw = false := by simpa using k3
        subst e
        exact h.w he
    · rw [if_neg k2] at he ⊢
      by_cases k3 : ¬ D 35 < 5
      · rw [if_pos k3] at he; cases he
      · rw [if_neg k3] at he ⊢
        exact h.s (Classical.not_not.mp k3) (by omega) he
theorem lnR_in {b : Nat → Int} {len p : Nat} (hb : ∀ j, j < 160 → 0 ≤ b j ∧ b j ≤ 127) (hl : len ≤ 160) (hp : p ≤ len) (D : Nat → Int) (hw : Bool) : (lnR b len p D hw).2.2.1 ≤ len := by
  have t := fun q (h : q ≤ len) => (tkN_in hb hl h).2.1
  unfold lnR
  split
  · exact Nat.zero_le _
  · split
    · split
      · exact Nat.zero_le _
      · exact t _ (t _ (t _ hp))
    · split
      · exact Nat.zero_le _
      · exact t _ (t _ (t _ (t _ (t _ (t _ hp)))))
theorem LN.ne {μ ν : Mem} {e pl : Int} {q q' : Nat} {D D' : Nat → Int} {hw hw' : Bool} (h : LN μ ν e pl q D hw) (he : e ≠ 0) : LN μ ν e pl q' D' hw' := by
  obtain ⟨h1, h2, h3, h4, h5, h6, h7⟩ := h
  exact ⟨h1, h2, h3, fun z => absurd z he, h5, h6, h7⟩
def GL_X4_takeLine : List (Nat × Nat × Bool × TT) := [(57, 1, false, T4_lineBegun), (53, 3, false, T4_blame), (64, 2, false, T4_takeWord), (67, 3, false, T4_takeStation), (27, 1, false, T4_advance), (71, 2, false, T4_require)]
def G_X4_takeLine : Nat → Option (Nat × Bool × TT) := fun i => GL_X4_takeLine.lookup i
theorem G_X4_takeLine_57 : G_X4_takeLine 57 = some (1, false, T4_lineBegun) := rfl
theorem G_X4_takeLine_53 : G_X4_takeLine 53 = some (3, false, T4_blame) := rfl
theorem G_X4_takeLine_64 : G_X4_takeLine 64 = some (2, false, T4_takeWord) := rfl
theorem G_X4_takeLine_67 : G_X4_takeLine 67 = some (3, false, T4_takeStation) := rfl
theorem G_X4_takeLine_27 : G_X4_takeLine 27 = some (1, false, T4_advance) := rfl
theorem G_X4_takeLine_71 : G_X4_takeLine 71 = some (2, false, T4_require) := rfl

set_option maxRecDepth 20000 in
set_option maxHeartbeats 4000000 in
theorem b_tl42 (V : Nat → List (Option AV) → List AV → Mem → Prop) (K : List AV → Mem → Prop) (hV : Clos FX4 CX4 G_X4_takeLine 0 K cX4_takeLine V) (μ ν : Mem) (b : Nat → Int) (len : Nat) (ht : TP μ b len) (k : Int) (e pl : Int) (he : 0 ≤ e ∧ e ≤ 6) (q : Nat) (hq : e = 0 → q ≤ len) (D : Nat → Int) (hw : Bool) (h35 : e = 0 → D 35 ≤ 5) (hL : LN μ ν e pl q D hw) (hK1 : e ≠ 0 → K [] ν) (hK0 : e = 0 → ∀ ρ, LN μ ρ (sfC b len q) (tkF b len q) (tkN b len q) D hw → K [] ρ) : V 42 [some (.inr (.inr 19)), some (.inr (.inr 8)), some (.inl k)] [] ν := by
  obtain ⟨l1, l2, l3, l4, l5, l6, l7⟩ := hL
  by_cases z : e = 0
  · have hq := hq z
    have h35 := h35 z
    obtain ⟨g1, g2⟩ := l4 z
    have htp := l1.tp ht
    have hs := tkS_in (b := b) (len := len) q
    have k53 : ∀ ρ, TA ν ρ b len q (if tkE b len q = true then 1 else 0) → V 53 [some (.inr (.inr 19)), some (.inr (.inr 8)), some (.inl k)] [] ρ := by
      intro ρ hρ
      have fin : ∀ ρ', TA ν ρ' b len q (sfC b len q) → K [] ρ' := by
        intro ρ' h
        obtain ⟨a4, a6, a5, a2, a3, aF⟩ := h
        have e8 := aF.2.1 8 (by omega)
        refine hK0 z ρ' ⟨l1.tr aF.q, a2, a3, fun _ => ⟨g1.tf h35 aF, a4⟩, l5.of (aF.2.2 _), by rw [e8]; exact l6, by rw [e8]; exact l7⟩
      have hρ' := hρ
      obtain ⟨a4, a6, a5, a2, a3, aF⟩ := hρ
      by_cases y : tkE b len q = true
      · rw [if_pos y] at a2 hρ'
        have kk := fin ρ (by unfold sfC; rw [if_pos y]; exact hρ')
        apply hV [] 20
        simp only [InR, InL, inb, Int.toNat_natCast, wp1, wpc_z, wpc_s, stp_iconst, stp_bipush, stp_sipush, stp_lconst, stp_iload_n, stp_iload, stp_lload_n, stp_lload, stp_aload_n, stp_aload, stp_istore_n, stp_istore, stp_lstore_n, stp_lstore, stp_astore_n, stp_astore, stp_iinc, stp_iadd, stp_isub, stp_imul, stp_ineg, stp_idiv, stp_irem, stp_ladd, stp_lmul, stp_ldiv, stp_lrem, stp_ishl, stp_ishr, stp_iushr, stp_iand, stp_ior, stp_i2l, stp_i2b, stp_i2s, stp_lcmp, stp_dup, stp_dup2, stp_pop, stp_ifCond, stp_if_icmp, stp_goto, stp_tableswitch, stp_lookupswitch, stp_ldc, stp_ldc_w, stp_ldc2_w, stp_getstatic, stp_getfield, stp_putfield, stp_iaload, stp_baload, stp_iastore, stp_bastore, stp_aaload, stp_aastore, stp_invokevirtual, stp_invokestatic, stp_ireturn, stp_lreturn, stp_return_, lg, lset, okl, spl, wd, c1, cnd, tg, swT, swL, f4_0, f4_1, f4_2, f4_3, f2_0, f2_1, List.mem_cons, List.not_mem_nil, List.length_cons, List.length_nil, List.cons_append, List.nil_append, Nat.reduceAdd, Nat.reduceMul, Nat.reduceLT, Nat.reduceEqDiff, Nat.reduceLeDiff, Int.reduceAdd, Int.reduceNeg, Int.reduceToNat, Int.cast_ofNat_Int, Int.reduceNatCast, Int.toNat_zero, Int.toNat_one, Int.reduceLE, Int.reduceLT, Int.reduceEq, Int.zero_add, Int.add_zero, or_false, false_or, or_true, true_or, and_true, true_and, and_false, false_and, reduceIte, not_true_eq_false, not_false_eq_true, forall_const, false_implies, true_implies, implies_true, ne_eq, reduceCtorEq, List.all_cons, List.all_nil, Bool.and_true, Bool.and_self, decide_eq_true_eq, decide_true, dX4_takeLine_0, dX4_takeLine_1, dX4_takeLine_4, dX4_takeLine_5, dX4_takeLine_6, dX4_takeLine_8, dX4_takeLine_11, dX4_takeLine_12, dX4_takeLine_13, dX4_takeLine_14, dX4_takeLine_17, dX4_takeLine_20, dX4_takeLine_23, dX4_takeLine_24, dX4_takeLine_25, dX4_takeLine_28, dX4_takeLine_29, dX4_takeLine_30, dX4_takeLine_33, dX4_takeLine_36, dX4_takeLine_37, dX4_takeLine_38, dX4_takeLine_39, dX4_takeLine_42, dX4_takeLine_43, dX4_takeLine_46, dX4_takeLine_49, dX4_takeLine_50, dX4_takeLine_53, dX4_takeLine_54, dX4_takeLine_55, dX4_takeLine_58, FX4_61, FX4_20, G_X4_takeLine_57, G_X4_takeLine_53, G_X4_takeLine_64, G_X4_takeLine_67, G_X4_takeLine_27, G_X4_takeLine_71, kd_19, T4_require, a2, a5, a6]
        repeat' (first | exact trivial | omega | (with_reducible assumption) | exact absurd trivial (by with_reducible assumption) | contradiction | apply And.intro | intro _)
      · rw [if_neg y] at a2 hρ'
        by_cases x : tkS b len q = 3
        · have kk := fin ρ (by unfold sfC; rw [if_neg y, if_neg (by simp [x])]; exact hρ')
          apply hV [] 20
          simp only [InR, InL, inb, Int.toNat_natCast, wp1, wpc_z, wpc_s, stp_iconst, stp_bipush, stp_sipush, stp_lconst, stp_iload_n, stp_iload, stp_lload_n, stp_lload, stp_aload_n, stp_aload, stp_istore_n, stp_istore, stp_lstore_n, stp_lstore, stp_astore_n, stp_astore, stp_iinc, stp_iadd, stp_isub, stp_imul, stp_ineg, stp_idiv, stp_irem, stp_ladd, stp_lmul, stp_ldiv, stp_lrem, stp_ishl, stp_ishr, stp_iushr, stp_iand, stp_ior, stp_i2l, stp_i2b, stp_i2s, stp_lcmp, stp_dup, stp_dup2, stp_pop, stp_ifCond, stp_if_icmp, stp_goto, stp_tableswitch, stp_lookupswitch, stp_ldc, stp_ldc_w, stp_ldc2_w, stp_getstatic, stp_getfield, stp_putfield, stp_iaload, stp_baload, stp_iastore, stp_bastore, stp_aaload, stp_aastore, stp_invokevirtual, stp_invokestatic, stp_ireturn, stp_lreturn, stp_return_, lg, lset, okl, spl, wd, c1, cnd, tg, swT, swL, f4_0, f4_1, f4_2, f4_3, f2_0, f2_1, List.mem_cons, List.not_mem_nil, List.length_cons, List.length_nil, List.cons_append, List.nil_append, Nat.reduceAdd, Nat.reduceMul, Nat.reduceLT, Nat.reduceEqDiff, Nat.reduceLeDiff, Int.reduceAdd, Int.reduceNeg, Int.reduceToNat, Int.cast_ofNat_Int, Int.reduceNatCast, Int.toNat_zero, Int.toNat_one, Int.reduceLE, Int.reduceLT, Int.reduceEq, Int.zero_add, Int.add_zero, or_false, false_or, or_true, true_or, and_true, true_and, and_false, false_and, reduceIte, not_true_eq_false, not_false_eq_true, forall_const, false_implies, true_implies, implies_true, ne_eq, reduceCtorEq, List.all_cons, List.all_nil, Bool.and_true, Bool.and_self, decide_eq_true_eq, decide_true, dX4_takeLine_0, dX4_takeLine_1, dX4_takeLine_4, dX4_takeLine_5, dX4_takeLine_6, dX4_takeLine_8, dX4_takeLine_11, dX4_takeLine_12, dX4_takeLine_13, dX4_takeLine_14, dX4_takeLine_17, dX4_takeLine_20, dX4_takeLine_23, dX4_takeLine_24, dX4_takeLine_25, dX4_takeLine_28, dX4_takeLine_29, dX4_takeLine_30, dX4_takeLine_33, dX4_takeLine_36, dX4_takeLine_37, dX4_takeLine_38, dX4_takeLine_39, dX4_takeLine_42, dX4_takeLine_43, dX4_takeLine_46, dX4_takeLine_49, dX4_takeLine_50, dX4_takeLine_53, dX4_takeLine_54, dX4_takeLine_55, dX4_takeLine_58, FX4_61, FX4_20, G_X4_takeLine_57, G_X4_takeLine_53, G_X4_takeLine_64, G_X4_takeLine_67, G_X4_takeLine_27, G_X4_takeLine_71, kd_19, T4_require, a2, a5, a6, x]
          repeat' (first | exact trivial | omega | (with_reducible assumption) | exact absurd trivial (by with_reducible assumption) | contradiction | apply And.intro | intro _)
        · have kk := fin _ (by unfold sfC; rw [if_neg y, if_pos x]; exact hρ'.bl 2)
          apply hV [] 20
          simp only [InR, InL, inb, Int.toNat_natCast, wp1, wpc_z, wpc_s, stp_iconst, stp_bipush, stp_sipush, stp_lconst, stp_iload_n, stp_iload, stp_lload_n, stp_lload, stp_aload_n, stp_aload, stp_istore_n, stp_istore, stp_lstore_n, stp_lstore, stp_astore_n, stp_astore, stp_iinc, stp_iadd, stp_isub, stp_imul, stp_ineg, stp_idiv, stp_irem, stp_ladd, stp_lmul, stp_ldiv, stp_lrem, stp_ishl, stp_ishr, stp_iushr, stp_iand, stp_ior, stp_i2l, stp_i2b, stp_i2s, stp_lcmp, stp_dup, stp_dup2, stp_pop, stp_ifCond, stp_if_icmp, stp_goto, stp_tableswitch, stp_lookupswitch, stp_ldc, stp_ldc_w, stp_ldc2_w, stp_getstatic, stp_getfield, stp_putfield, stp_iaload, stp_baload, stp_iastore, stp_bastore, stp_aaload, stp_aastore, stp_invokevirtual, stp_invokestatic, stp_ireturn, stp_lreturn, stp_return_, lg, lset, okl, spl, wd, c1, cnd, tg, swT, swL, f4_0, f4_1, f4_2, f4_3, f2_0, f2_1, List.mem_cons, List.not_mem_nil, List.length_cons, List.length_nil, List.cons_append, List.nil_append, Nat.reduceAdd, Nat.reduceMul, Nat.reduceLT, Nat.reduceEqDiff, Nat.reduceLeDiff, Int.reduceAdd, Int.reduceNeg, Int.reduceToNat, Int.cast_ofNat_Int, Int.reduceNatCast, Int.toNat_zero, Int.toNat_one, Int.reduceLE, Int.reduceLT, Int.reduceEq, Int.zero_add, Int.add_zero, or_false, false_or, or_true, true_or, and_true, true_and, and_false, false_and, reduceIte, not_true_eq_false, not_false_eq_true, forall_const, false_implies, true_implies, implies_true, ne_eq, reduceCtorEq, List.all_cons, List.all_nil, Bool.and_true, Bool.and_self, decide_eq_true_eq, decide_true, dX4_takeLine_0, dX4_takeLine_1, dX4_takeLine_4, dX4_takeLine_5, dX4_takeLine_6, dX4_takeLine_8, dX4_takeLine_11, dX4_takeLine_12, dX4_takeLine_13, dX4_takeLine_14, dX4_takeLine_17, dX4_takeLine_20, dX4_takeLine_23, dX4_takeLine_24, dX4_takeLine_25, dX4_takeLine_28, dX4_takeLine_29, dX4_takeLine_30, dX4_takeLine_33, dX4_takeLine_36, dX4_takeLine_37, dX4_takeLine_38, dX4_takeLine_39, dX4_takeLine_42, dX4_takeLine_43, dX4_takeLine_46, dX4_takeLine_49, dX4_takeLine_50, dX4_takeLine_53, dX4_takeLine_54, dX4_takeLine_55, dX4_takeLine_58, FX4_61, FX4_20, G_X4_takeLine_57, G_X4_takeLine_53, G_X4_takeLine_64, G_X4_takeLine_67, G_X4_takeLine_27, G_X4_takeLine_71, kd_19, T4_require, a2, a5, a6]
          repeat' (first | exact trivial | omega | (with_reducible assumption) | exact absurd trivial (by with_reducible assumption) | contradiction | apply And.intro | intro _)
    apply hV [53] 20
    simp only [InR, InL, inb, Int.toNat_natCast, wp1, wpc_z, wpc_s, stp_iconst, stp_bipush, stp_sipush, stp_lconst, stp_iload_n, stp_iload, stp_lload_n, stp_lload, stp_aload_n, stp_aload, stp_istore_n, stp_istore, stp_lstore_n, stp_lstore, stp_astore_n, stp_astore, stp_iinc, stp_iadd, stp_isub, stp_imul, stp_ineg, stp_idiv, stp_irem, stp_ladd, stp_lmul, stp_ldiv, stp_lrem, stp_ishl, stp_ishr, stp_iushr, stp_iand, stp_ior, stp_i2l, stp_i2b, stp_i2s, stp_lcmp, stp_dup, stp_dup2, stp_pop, stp_ifCond, stp_if_icmp, stp_goto, stp_tableswitch, stp_lookupswitch, stp_ldc, stp_ldc_w, stp_ldc2_w, stp_getstatic, stp_getfield, stp_putfield, stp_iaload, stp_baload, stp_iastore, stp_bastore, stp_aaload, stp_aastore, stp_invokevirtual, stp_invokestatic, stp_ireturn, stp_lreturn, stp_return_, lg, lset, okl, spl, wd, c1, cnd, tg, swT, swL, f4_0, f4_1, f4_2, f4_3, f2_0, f2_1, List.mem_cons, List.not_mem_nil, List.length_cons, List.length_nil, List.cons_append, List.nil_append, Nat.reduceAdd, Nat.reduceMul, Nat.reduceLT, Nat.reduceEqDiff, Nat.reduceLeDiff, Int.reduceAdd, Int.reduceNeg, Int.reduceToNat, Int.cast_ofNat_Int, Int.reduceNatCast, Int.toNat_zero, Int.toNat_one, Int.reduceLE, Int.reduceLT, Int.reduceEq, Int.zero_add, Int.add_zero, or_false, false_or, or_true, true_or, and_true, true_and, and_false, false_and, reduceIte, not_true_eq_false, not_false_eq_true, forall_const, false_implies, true_implies, implies_true, ne_eq, reduceCtorEq, List.all_cons, List.all_nil, Bool.and_true, Bool.and_self, decide_eq_true_eq, decide_true, dX4_takeLine_0, dX4_takeLine_1, dX4_takeLine_4, dX4_takeLine_5, dX4_takeLine_6, dX4_takeLine_8, dX4_takeLine_11, dX4_takeLine_12, dX4_takeLine_13, dX4_takeLine_14, dX4_takeLine_17, dX4_takeLine_20, dX4_takeLine_23, dX4_takeLine_24, dX4_takeLine_25, dX4_takeLine_28, dX4_takeLine_29, dX4_takeLine_30, dX4_takeLine_33, dX4_takeLine_36, dX4_takeLine_37, dX4_takeLine_38, dX4_takeLine_39, dX4_takeLine_42, dX4_takeLine_43, dX4_takeLine_46, dX4_takeLine_49, dX4_takeLine_50, dX4_takeLine_53, dX4_takeLine_54, dX4_takeLine_55, dX4_takeLine_58, FX4_61, FX4_20, G_X4_takeLine_57, G_X4_takeLine_53, G_X4_takeLine_64, G_X4_takeLine_67, G_X4_takeLine_27, G_X4_takeLine_71, kd_19, l2, T4_advance]
    have main : ∃ (b_1 : Nat → Int) (len_1 p_1 : Nat), TP ν b_1 len_1 ∧ rI ν 19 4 = p_1 ∧ p_1 ≤ len_1 ∧ rI ν 19 2 = 0 ∧ ∀ ρ, TA ν ρ b_1 len_1 p_1 (if tkE b_1 len_1 p_1 = true then 1 else 0) → V 53 [some (.inr (.inr 19)), some (.inr (.inr 8)), some (.inl k)] [] ρ := ⟨b, len, q, htp, g2, hq, by rw [l2, z], k53⟩
    rw [l2] at main
    clear k53 hK0 hK1
    subst z
    repeat' (first | exact trivial | omega | (with_reducible assumption) | exact absurd trivial (by with_reducible assumption) | contradiction | apply And.intro | intro _)
  · have hk := hK1 z
    clear hK0 hK1 l4
    apply hV [] 20
    simp only [InR, InL, inb, Int.toNat_natCast, wp1, wpc_z, wpc_s, stp_iconst, stp_bipush, stp_sipush, stp_lconst, stp_iload_n, stp_iload, stp_lload_n, stp_lload, stp_aload_n, stp_aload, stp_istore_n, stp_istore, stp_lstore_n, stp_lstore, stp_astore_n, stp_astore, stp_iinc, stp_iadd, stp_isub, stp_imul, stp_ineg, stp_idiv, stp_irem, stp_ladd, stp_lmul, stp_ldiv, stp_lrem, stp_ishl, stp_ishr, stp_iushr, stp_iand, stp_ior, stp_i2l, stp_i2b, stp_i2s, stp_lcmp, stp_dup, stp_dup2, stp_pop, stp_ifCond, stp_if_icmp, stp_goto, stp_tableswitch, stp_lookupswitch, stp_ldc, stp_ldc_w, stp_ldc2_w, stp_getstatic, stp_getfield, stp_putfield, stp_iaload, stp_baload, stp_iastore, stp_bastore, stp_aaload, stp_aastore, stp_invokevirtual, stp_invokestatic, stp_ireturn, stp_lreturn, stp_return_, lg, lset, okl, spl, wd, c1, cnd, tg, swT, swL, f4_0, f4_1, f4_2, f4_3, f2_0, f2_1, List.mem_cons, List.not_mem_nil, List.length_cons, List.length_nil, List.cons_append, List.nil_append, Nat.reduceAdd, Nat.reduceMul, Nat.reduceLT, Nat.reduceEqDiff, Nat.reduceLeDiff, Int.reduceAdd, Int.reduceNeg, Int.reduceToNat, Int.cast_ofNat_Int, Int.reduceNatCast, Int.toNat_zero, Int.toNat_one, Int.reduceLE, Int.reduceLT, Int.reduceEq, Int.zero_add, Int.add_zero, or_false, false_or, or_true, true_or, and_true, true_and, and_false, false_and, reduceIte, not_true_eq_false, not_false_eq_true, forall_const, false_implies, true_implies, implies_true, ne_eq, reduceCtorEq, List.all_cons, List.all_nil, Bool.and_true, Bool.and_self, decide_eq_true_eq, decide_true, dX4_takeLine_0, dX4_takeLine_1, dX4_takeLine_4, dX4_takeLine_5, dX4_takeLine_6, dX4_takeLine_8, dX4_takeLine_11, dX4_takeLine_12, dX4_takeLine_13, dX4_takeLine_14, dX4_takeLine_17, dX4_takeLine_20, dX4_takeLine_23, dX4_takeLine_24, dX4_takeLine_25, dX4_takeLine_28, dX4_takeLine_29, dX4_takeLine_30, dX4_takeLine_33, dX4_takeLine_36, dX4_takeLine_37, dX4_takeLine_38, dX4_takeLine_39, dX4_takeLine_42, dX4_takeLine_43, dX4_takeLine_46, dX4_takeLine_49, dX4_takeLine_50, dX4_takeLine_53, dX4_takeLine_54, dX4_takeLine_55, dX4_takeLine_58, FX4_61, FX4_20, G_X4_takeLine_57, G_X4_takeLine_53, G_X4_takeLine_64, G_X4_takeLine_67, G_X4_takeLine_27, G_X4_takeLine_71, kd_19, l2]
    repeat' (first | exact trivial | omega | (with_reducible assumption) | exact absurd trivial (by with_reducible assumption) | contradiction | apply And.intro | intro _)
def T4_takeLine : TT := fun a μ K => match a with
  | [.inr (.inr o), .inr (.inr R)] => o = 19 ∧ (R = 8 ∧ ∃ (b : Nat → Int) (len p n : Nat) (D : Nat → Int) (hw : Bool), TP μ b len ∧ p ≤ len ∧ rI μ 19 4 = tkN b len p ∧ rI μ 19 6 = tkF b len p ∧ rI μ 19 5 = tkS b len p ∧ rI μ 19 2 = 0 ∧ RD μ D hw ∧ DW D hw n ∧ ∀ ν, LN μ ν (lnR b len p D hw).1 (lnR b len p D hw).2.1 (lnR b len p D hw).2.2.1 (lnR b len p D hw).2.2.2.1 (lnR b len p D hw).2.2.2.2 → K [] ν)
  | _ => False
theorem rec_X4_takeLine : ∀ a μ K, T4_takeLine a μ K → ∃ k r, a = .inr (.inr k) :: r ∧ kd k = 4 := by
  intro a μ K h
  unfold T4_takeLine at h
  split at h
  · exact ⟨_, _, rfl, by rw [h.1]; rfl⟩
  · exact h.elim
theorem gk_X4_takeLine (l : Launch) : ∀ i n b T, G_X4_takeLine i = some (n, b, T) → CallOK l 7 RX4 i n b T := by
  intro i n b T h
  have hm : (i, n, b, T) ∈ GL_X4_takeLine := lk_mem h
  simp only [GL_X4_takeLine, List.mem_cons, List.not_mem_nil, or_false, Prod.mk.injEq] at hm
  rcases hm with ⟨rfl, rfl, rfl, rfl⟩ | ⟨rfl, rfl, rfl, rfl⟩ | ⟨rfl, rfl, rfl, rfl⟩ | ⟨rfl, rfl, rfl, rfl⟩ | ⟨rfl, rfl, rfl, rfl⟩ | ⟨rfl, rfl, rfl, rfl⟩
  · exact CallOK.V (d := 7) (own := RX4) (i := 57) (n := 0) (ci := 4) (good_X4_lineBegun l) (by decide) (by decide) rfl (by decide) rec_X4_lineBegun (mg 226 (by decide +kernel) (by decide +kernel)) (mg 228 (by decide +kernel) (by decide +kernel)) (mgs 4 (by decide +kernel) (by decide +kernel)) (mg 4 (by decide +kernel) (by decide +kernel)) (mg 229 (by decide +kernel) (by decide +kernel)) (by decide +kernel)
  · exact CallOK.V (d := 7) (own := RX4) (i := 53) (n := 2) (ci := 4) (good_X4_blame l) (by decide) (by decide) rfl (by decide) rec_X4_blame (mg 218 (by decide +kernel) (by decide +kernel)) (mg 220 (by decide +kernel) (by decide +kernel)) (mgs 2 (by decide +kernel) (by decide +kernel)) (mg 4 (by decide +kernel) (by decide +kernel)) (mg 221 (by decide +kernel) (by decide +kernel)) (by decide +kernel)
  · exact CallOK.V (d := 7) (own := RX4) (i := 64) (n := 1) (ci := 4) (good_X4_takeWord l) (by decide) (by decide) rfl (by decide) rec_X4_takeWord (mg 287 (by decide +kernel) (by decide +kernel)) (mg 289 (by decide +kernel) (by decide +kernel)) (mgs 6 (by decide +kernel) (by decide +kernel)) (mg 4 (by decide +kernel) (by decide +kernel)) (mg 290 (by decide +kernel) (by decide +kernel)) (by decide +kernel)
  · exact CallOK.V (d := 7) (own := RX4) (i := 67) (n := 2) (ci := 4) (good_X4_takeStation l) (by decide) (by decide) rfl (by decide) rec_X4_takeStation (mg 300 (by decide +kernel) (by decide +kernel)) (mg 302 (by decide +kernel) (by decide +kernel)) (mgs 9 (by decide +kernel) (by decide +kernel)) (mg 4 (by decide +kernel) (by decide +kernel)) (mg 303 (by decide +kernel) (by decide +kernel)) (by decide +kernel)
  · exact CallOK.V (d := 7) (own := RX4) (i := 27) (n := 0) (ci := 4) (good_X4_advance l) (by decide) (by decide) rfl (by decide) rec_X4_advance (mg 210 (by decide +kernel) (by decide +kernel)) (mg 212 (by decide +kernel) (by decide +kernel)) (mgs 0 (by decide +kernel) (by decide +kernel)) (mg 4 (by decide +kernel) (by decide +kernel)) (mg 213 (by decide +kernel) (by decide +kernel)) (by decide +kernel)
  · exact CallOK.V (d := 7) (own := RX4) (i := 71) (n := 1) (ci := 4) (good_X4_require l) (by decide) (by decide) rfl (by decide) rec_X4_require (mg 295 (by decide +kernel) (by decide +kernel)) (mg 297 (by decide +kernel) (by decide +kernel)) (mgs 8 (by decide +kernel) (by decide +kernel)) (mg 4 (by decide +kernel) (by decide +kernel)) (mg 298 (by decide +kernel) (by decide +kernel)) (by decide +kernel)
set_option maxRecDepth 20000 in
set_option maxHeartbeats 4000000 in
theorem body_X4_takeLine (o : Nat) (R : Nat) (μ : Mem) (K : List AV → Mem → Prop) (V : Nat → List (Option AV) → List AV → Mem → Prop) (hV : Clos FX4 CX4 G_X4_takeLine 0 K cX4_takeLine V) (hT : o = 19 ∧ (R = 8 ∧ ∃ (b : Nat → Int) (len p n : Nat) (D : Nat → Int) (hw : Bool), TP μ b len ∧ p ≤ len ∧ rI μ 19 4 = tkN b len p ∧ rI μ 19 6 = tkF b len p ∧ rI μ 19 5 = tkS b len p ∧ rI μ 19 2 = 0 ∧ RD μ D hw ∧ DW D hw n ∧ ∀ ν, LN μ ν (lnR b len p D hw).1 (lnR b len p D hw).2.1 (lnR b len p D hw).2.2.1 (lnR b len p D hw).2.2.2.1 (lnR b len p D hw).2.2.2.2 → K [] ν)) : V 0 [some (.inr (.inr o)), some (.inr (.inr R)), none] [] μ := by
  obtain ⟨rfl, rfl, b, len, p, n, D, hw, ht, hp, h4, h6, h5, h2, hR, hD, hK⟩ := hT
  have hD' := hD
  obtain ⟨w1, w2, w3, w4, w5, w6, w7⟩ := hD
  have hR' := hR
  obtain ⟨r0, r1, r2, r3, r4, r5, r6, r7⟩ := hR
  have ht2 := ht.2.1
  have hb := ht.2.2.2
  have hn := tkN_in hb ht2 hp
  have hf := tkF_in (b := b) hp
  have hs := tkS_in (b := b) (len := len) p
  have q1 : tkN b len p ≤ len := hn.2.1
  have q2 := (tkN_in hb ht2 q1).2.1
  have q3 := (tkN_in hb ht2 q2).2.1
  have q4 := (tkN_in hb ht2 q3).2.1
  have q5 := (tkN_in hb ht2 q4).2.1
  have w36 : 0 ≤ D 36 ∧ D 36 ≤ 4 := by
    cases hw with
    | true => exact w3 rfl
    | false => have := w4 rfl; omega
  have i2 : InR (rI μ 8 2) := by
    rw [r2]
    split
    · exact ⟨by omega, by omega⟩
    · exact ⟨by omega, by omega⟩
  have hkk := tkK_in b len p
  have k5 : ∀ k : Int, k = tkK b len p → V 5 [some (.inr (.inr 19)), some (.inr (.inr 8)), some (.inl k)] [] μ := by
    intro k hk
    rw [← hk] at hkk
    unfold lnR at hK
    rw [← hk] at hK
    by_cases z1 : k = -4
    · rw [if_pos z1] at hK
      have hL : LN μ (wI (wI μ 19 2 2) 19 3 (tkF b len p)) 2 (tkF b len p) 0 D hw := ⟨((TFr.w μ (by omega) 2).tr (TFr.w _ (by omega) _)).q, by simp [rI_wI], fun _ => by simp [rI_wI], fun z => absurd z (by omega), r0.of (fun _ => rfl), by simp only [rI_wI]; rw [if_neg (by omega), if_neg (by omega)]; exact i2, by simp only [rI_wI]; rw [if_neg (by omega), if_neg (by omega), r1]; exact ⟨by omega, by omega⟩⟩
      have kk := b_tl42 V K hV μ _ b len ht k 2 (tkF b len p) (by omega) 0 (fun z => absurd z (by omega)) D hw (fun z => absurd z (by omega)) hL (fun _ => hK _ hL) (fun z => absurd z (by omega))
      apply hV [42] 20
      simp only [InR, InL, inb, Int.toNat_natCast, wp1, wpc_z, wpc_s, stp_iconst, stp_bipush, stp_sipush, stp_lconst, stp_iload_n, stp_iload, stp_lload_n, stp_lload, stp_aload_n, stp_aload, stp_istore_n, stp_istore, stp_lstore_n, stp_lstore, stp_astore_n, stp_astore, stp_iinc, stp_iadd, stp_isub, stp_imul, stp_ineg, stp_idiv, stp_irem, stp_ladd, stp_lmul, stp_ldiv, stp_lrem, stp_ishl, stp_ishr, stp_iushr, stp_iand, stp_ior, stp_i2l, stp_i2b, stp_i2s, stp_lcmp, stp_dup, stp_dup2, stp_pop, stp_ifCond, stp_if_icmp, stp_goto, stp_tableswitch, stp_lookupswitch, stp_ldc, stp_ldc_w, stp_ldc2_w, stp_getstatic, stp_getfield, stp_putfield, stp_iaload, stp_baload, stp_iastore, stp_bastore, stp_aaload, stp_aastore, stp_invokevirtual, stp_invokestatic, stp_ireturn, stp_lreturn, stp_return_, lg, lset, okl, spl, wd, c1, cnd, tg, swT, swL, f4_0, f4_1, f4_2, f4_3, f2_0, f2_1, List.mem_cons, List.not_mem_nil, List.length_cons, List.length_nil, List.cons_append, List.nil_append, Nat.reduceAdd, Nat.reduceMul, Nat.reduceLT, Nat.reduceEqDiff, Nat.reduceLeDiff, Int.reduceAdd, Int.reduceNeg, Int.reduceToNat, Int.cast_ofNat_Int, Int.reduceNatCast, Int.toNat_zero, Int.toNat_one, Int.reduceLE, Int.reduceLT, Int.reduceEq, Int.zero_add, Int.add_zero, or_false, false_or, or_true, true_or, and_true, true_and, and_false, false_and, reduceIte, not_true_eq_false, not_false_eq_true, forall_const, false_implies, true_implies, implies_true, ne_eq, reduceCtorEq, List.all_cons, List.all_nil, Bool.and_true, Bool.and_self, decide_eq_true_eq, decide_true, dX4_takeLine_0, dX4_takeLine_1, dX4_takeLine_4, dX4_takeLine_5, dX4_takeLine_6, dX4_takeLine_8, dX4_takeLine_11, dX4_takeLine_12, dX4_takeLine_13, dX4_takeLine_14, dX4_takeLine_17, dX4_takeLine_20, dX4_takeLine_23, dX4_takeLine_24, dX4_takeLine_25, dX4_takeLine_28, dX4_takeLine_29, dX4_takeLine_30, dX4_takeLine_33, dX4_takeLine_36, dX4_takeLine_37, dX4_takeLine_38, dX4_takeLine_39, dX4_takeLine_42, dX4_takeLine_43, dX4_takeLine_46, dX4_takeLine_49, dX4_takeLine_50, dX4_takeLine_53, dX4_takeLine_54, dX4_takeLine_55, dX4_takeLine_58, FX4_61, FX4_20, G_X4_takeLine_57, G_X4_takeLine_53, G_X4_takeLine_64, G_X4_takeLine_67, G_X4_takeLine_27, G_X4_takeLine_71, kd_19, h6, T4_blame]
      clear hK
      repeat' (first | exact trivial | omega | (with_reducible assumption) | exact absurd trivial (by with_reducible assumption) | contradiction | apply And.intro | intro _)
    · rw [if_neg z1] at hK
      by_cases z2 : k = 4
      · rw [if_pos z2] at hK
        have main : ∃ (b_1 : Nat → Int) (len_1 p_1 : Nat) (D_1 : Nat → Int) (hw_1 : Bool), TP μ b_1 len_1 ∧ p_1 ≤ len_1 ∧ rI μ 19 4 = tkN b_1 len_1 p_1 ∧ rI μ 19 6 = tkF b_1 len_1 p_1 ∧ rI μ 19 2 = 0 ∧ RD μ D_1 hw_1 ∧ (0 ≤ D_1 35 ∧ D_1 35 ≤ 5) ∧ (0 ≤ D_1 36 ∧ D_1 36 ≤ 4) ∧ ∀ ν, (hw_1 = true → LN μ ν 4 (tkF b_1 len_1 p_1) 0 D_1 hw_1) → (hw_1 = false → LN μ ν (nfC b_1 len_1 (tkN b_1 len_1 p_1) 0 4) (tkF b_1 len_1 (tkN b_1 len_1 p_1)) (n2 b_1 len_1 p_1) (wdD b_1 len_1 D_1 (tkN b_1 len_1 p_1)) true) → V 42 [some (.inr (.inr 19)), some (.inr (.inr 8)), some (.inl k)] [] ν := by
          refine ⟨b, len, p, D, hw, ht, hp, h4, h6, h2, hR', w1, w36, fun ν g1 g2 => ?_⟩
          cases hw with
          | true =>
            rw [if_pos rfl] at hK
            have hL := g1 rfl
            exact b_tl42 V K hV μ ν b len ht k 4 (tkF b len p) (by omega) 0 (fun z => absurd z (by omega)) D true (fun z => absurd z (by omega)) hL (fun _ => hK _ hL) (fun z => absurd z (by omega))
          | false =>
            rw [if_neg (by simp)] at hK
            have hL := g2 rfl
            have hnf := nf_in (b := b) (len := len) (tkN b len p) 0 4
            refine b_tl42 V K hV μ ν b len ht k _ _ (by omega) (n2 b len p) (fun _ => q2) _ true (fun _ => by unfold wdD; rw [upF_n _ _ (by omega)]; exact w1.2) hL (fun z => ?_) (fun z ρ hρ => ?_)
            · refine hK ν ?_
              simp only [ckL]
              rw [if_pos z]
              exact hL.ne z
            · refine hK ρ ?_
              simp only [ckL]
              rw [if_neg (fun y => y z)]
              exact hρ
        clear hK
        apply hV [42] 20
        simp only [InR, InL, inb, Int.toNat_natCast, wp1, wpc_z, wpc_s, stp_iconst, stp_bipush, stp_sipush, stp_lconst, stp_iload_n, stp_iload, stp_lload_n, stp_lload, stp_aload_n, stp_aload, stp_istore_n, stp_istore, stp_lstore_n, stp_lstore, stp_astore_n, stp_astore, stp_iinc, stp_iadd, stp_isub, stp_imul, stp_ineg, stp_idiv, stp_irem, stp_ladd, stp_lmul, stp_ldiv, stp_lrem, stp_ishl, stp_ishr, stp_iushr, stp_iand, stp_ior, stp_i2l, stp_i2b, stp_i2s, stp_lcmp, stp_dup, stp_dup2, stp_pop, stp_ifCond, stp_if_icmp, stp_goto, stp_tableswitch, stp_lookupswitch, stp_ldc, stp_ldc_w, stp_ldc2_w, stp_getstatic, stp_getfield, stp_putfield, stp_iaload, stp_baload, stp_iastore, stp_bastore, stp_aaload, stp_aastore, stp_invokevirtual, stp_invokestatic, stp_ireturn, stp_lreturn, stp_return_, lg, lset, okl, spl, wd, c1, cnd, tg, swT, swL, f4_0, f4_1, f4_2, f4_3, f2_0, f2_1, List.mem_cons, List.not_mem_nil, List.length_cons, List.length_nil, List.cons_append, List.nil_append, Nat.reduceAdd, Nat.reduceMul, Nat.reduceLT, Nat.reduceEqDiff, Nat.reduceLeDiff, Int.reduceAdd, Int.reduceNeg, Int.reduceToNat, Int.cast_ofNat_Int, Int.reduceNatCast, Int.toNat_zero, Int.toNat_one, Int.reduceLE, Int.reduceLT, Int.reduceEq, Int.zero_add, Int.add_zero, or_false, false_or, or_true, true_or, and_true, true_and, and_false, false_and, reduceIte, not_true_eq_false, not_false_eq_true, forall_const, false_implies, true_implies, implies_true, ne_eq, reduceCtorEq, List.all_cons, List.all_nil, Bool.and_true, Bool.and_self, decide_eq_true_eq, decide_true, dX4_takeLine_0, dX4_takeLine_1, dX4_takeLine_4, dX4_takeLine_5, dX4_takeLine_6, dX4_takeLine_8, dX4_takeLine_11, dX4_takeLine_12, dX4_takeLine_13, dX4_takeLine_14, dX4_takeLine_17, dX4_takeLine_20, dX4_takeLine_23, dX4_takeLine_24, dX4_takeLine_25, dX4_takeLine_28, dX4_takeLine_29, dX4_takeLine_30, dX4_takeLine_33, dX4_takeLine_36, dX4_takeLine_37, dX4_takeLine_38, dX4_takeLine_39, dX4_takeLine_42, dX4_takeLine_43, dX4_takeLine_46, dX4_takeLine_49, dX4_takeLine_50, dX4_takeLine_53, dX4_takeLine_54, dX4_takeLine_55, dX4_takeLine_58, FX4_61, FX4_20, G_X4_takeLine_57, G_X4_takeLine_53, G_X4_takeLine_64, G_X4_takeLine_67, G_X4_takeLine_27, G_X4_takeLine_71, kd_19, T4_blame, T4_takeWord]
        subst z2
        repeat' (first | exact trivial | omega | (with_reducible assumption) | exact absurd trivial (by with_reducible assumption) | contradiction | apply And.intro | intro _)
      · rw [if_neg z2] at hK
        have main : ∃ (b_1 : Nat → Int) (len_1 p_1 : Nat) (D_1 : Nat → Int) (hw_1 : Bool), TP μ b_1 len_1 ∧ p_1 ≤ len_1 ∧ rI μ 19 4 = tkN b_1 len_1 p_1 ∧ rI μ 19 6 = tkF b_1 len_1 p_1 ∧ rI μ 19 2 = 0 ∧ RD μ D_1 hw_1 ∧ (0 ≤ D_1 35 ∧ D_1 35 ≤ 5) ∧ (hw_1 = true → 0 ≤ D_1 36 ∧ D_1 36 ≤ 4) ∧ (0 ≤ k ∧ k ≤ 3) ∧ (∀ x, 7 * (D_1 35).toNat ≤ x → x < 35 → D_1 x = 0) ∧ ∀ ν, (¬ D_1 35 < 5 → LN μ ν 5 (tkF b_1 len_1 p_1) 0 D_1 hw_1) → (D_1 35 < 5 → LN μ ν (nfL b_1 len_1 bds (tkN b_1 len_1 p_1)).1 (nfL b_1 len_1 bds (tkN b_1 len_1 p_1)).2 (tkN b_1 len_1 (n2 b_1 len_1 (n2 b_1 len_1 p_1))) (stD b_1 len_1 D_1 k (tkN b_1 len_1 p_1)) hw_1) → V 42 [some (.inr (.inr 19)), some (.inr (.inr 8)), some (.inl k)] [] ν := by
          refine ⟨b, len, p, D, hw, ht, hp, h4, h6, h2, hR', w1, w3, by omega, w7, fun ν g1 g2 => ?_⟩
          by_cases z3 : ¬ D 35 < 5
          · rw [if_pos z3] at hK
            have hL := g1 z3
            exact b_tl42 V K hV μ ν b len ht k 5 (tkF b len p) (by omega) 0 (fun z => absurd z (by omega)) D hw (fun z => absurd z (by omega)) hL (fun _ => hK _ hL) (fun z => absurd z (by omega))
          · rw [if_neg z3] at hK
            have hL := g2 (Classical.not_not.mp z3)
            have hnf : 0 ≤ (nfL b len bds (tkN b len p)).1 ∧ (nfL b len bds (tkN b len p)).1 ≤ 3 := by
              have n1 := fun q lo hi => nf_in (b := b) (len := len) q lo hi
              simp only [bds, nfL]
              split
              · exact n1 _ _ _
              · split
                · exact n1 _ _ _
                · split
                  · exact n1 _ _ _
                  · split
                    · exact n1 _ _ _
                    · exact ⟨by decide, by decide⟩
            have hck := ck_nf b len bds (tkN b len p)
            refine b_tl42 V K hV μ ν b len ht k _ _ (by omega) (tkN b len (n2 b len (n2 b len p))) (fun _ => q5) _ hw (fun _ => by rw [stD_35]; omega) hL (fun z => ?_) (fun z ρ hρ => ?_)
            · refine hK ν ?_
              rw [hck, if_pos z]
              exact hL.ne z
            · refine hK ρ ?_
              rw [hck, if_neg (fun y => y z)]
              exact hρ
        clear hK
        apply hV [42] 20
        simp only [InR, InL, inb, Int.toNat_natCast, wp1, wpc_z, wpc_s, stp_iconst, stp_bipush, stp_sipush, stp_lconst, stp_iload_n, stp_iload, stp_lload_n, stp_lload, stp_aload_n, stp_aload, stp_istore_n, stp_istore, stp_lstore_n, stp_lstore, stp_astore_n, stp_astore, stp_iinc, stp_iadd, stp_isub, stp_imul, stp_ineg, stp_idiv, stp_irem, stp_ladd, stp_lmul, stp_ldiv, stp_lrem, stp_ishl, stp_ishr, stp_iushr, stp_iand, stp_ior, stp_i2l, stp_i2b, stp_i2s, stp_lcmp, stp_dup, stp_dup2, stp_pop, stp_ifCond, stp_if_icmp, stp_goto, stp_tableswitch, stp_lookupswitch, stp_ldc, stp_ldc_w, stp_ldc2_w, stp_getstatic, stp_getfield, stp_putfield, stp_iaload, stp_baload, stp_iastore, stp_bastore, stp_aaload, stp_aastore, stp_invokevirtual, stp_invokestatic, stp_ireturn, stp_lreturn, stp_return_, lg, lset, okl, spl, wd, c1, cnd, tg, swT, swL, f4_0, f4_1, f4_2, f4_3, f2_0, f2_1, List.mem_cons, List.not_mem_nil, List.length_cons, List.length_nil, List.cons_append, List.nil_append, Nat.reduceAdd, Nat.reduceMul, Nat.reduceLT, Nat.reduceEqDiff, Nat.reduceLeDiff, Int.reduceAdd, Int.reduceNeg, Int.reduceToNat, Int.cast_ofNat_Int, Int.reduceNatCast, Int.toNat_zero, Int.toNat_one, Int.reduceLE, Int.reduceLT, Int.reduceEq, Int.zero_add, Int.add_zero, or_false, false_or, or_true, true_or, and_true, true_and, and_false, false_and, reduceIte, not_true_eq_false, not_false_eq_true, forall_const, false_implies, true_implies, implies_true, ne_eq, reduceCtorEq, List.all_cons, List.all_nil, Bool.and_true, Bool.and_self, decide_eq_true_eq, decide_true, dX4_takeLine_0, dX4_takeLine_1, dX4_takeLine_4, dX4_takeLine_5, dX4_takeLine_6, dX4_takeLine_8, dX4_takeLine_11, dX4_takeLine_12, dX4_takeLine_13, dX4_takeLine_14, dX4_takeLine_17, dX4_takeLine_20, dX4_takeLine_23, dX4_takeLine_24, dX4_takeLine_25, dX4_takeLine_28, dX4_takeLine_29, dX4_takeLine_30, dX4_takeLine_33, dX4_takeLine_36, dX4_takeLine_37, dX4_takeLine_38, dX4_takeLine_39, dX4_takeLine_42, dX4_takeLine_43, dX4_takeLine_46, dX4_takeLine_49, dX4_takeLine_50, dX4_takeLine_53, dX4_takeLine_54, dX4_takeLine_55, dX4_takeLine_58, FX4_61, FX4_20, G_X4_takeLine_57, G_X4_takeLine_53, G_X4_takeLine_64, G_X4_takeLine_67, G_X4_takeLine_27, G_X4_takeLine_71, kd_19, T4_blame, T4_takeStation]
        repeat' (first | exact trivial | omega | (with_reducible assumption) | exact absurd trivial (by with_reducible assumption) | contradiction | apply And.intro | intro _)
  clear hK
  apply hV [5] 10
  simp only [InR, InL, inb, Int.toNat_natCast, wp1, wpc_z, wpc_s, stp_iconst, stp_bipush, stp_sipush, stp_lconst, stp_iload_n, stp_iload, stp_lload_n, stp_lload, stp_aload_n, stp_aload, stp_istore_n, stp_istore, stp_lstore_n, stp_lstore, stp_astore_n, stp_astore, stp_iinc, stp_iadd, stp_isub, stp_imul, stp_ineg, stp_idiv, stp_irem, stp_ladd, stp_lmul, stp_ldiv, stp_lrem, stp_ishl, stp_ishr, stp_iushr, stp_iand, stp_ior, stp_i2l, stp_i2b, stp_i2s, stp_lcmp, stp_dup, stp_dup2, stp_pop, stp_ifCond, stp_if_icmp, stp_goto, stp_tableswitch, stp_lookupswitch, stp_ldc, stp_ldc_w, stp_ldc2_w, stp_getstatic, stp_getfield, stp_putfield, stp_iaload, stp_baload, stp_iastore, stp_bastore, stp_aaload, stp_aastore, stp_invokevirtual, stp_invokestatic, stp_ireturn, stp_lreturn, stp_return_, lg, lset, okl, spl, wd, c1, cnd, tg, swT, swL, f4_0, f4_1, f4_2, f4_3, f2_0, f2_1, List.mem_cons, List.not_mem_nil, List.length_cons, List.length_nil, List.cons_append, List.nil_append, Nat.reduceAdd, Nat.reduceMul, Nat.reduceLT, Nat.reduceEqDiff, Nat.reduceLeDiff, Int.reduceAdd, Int.reduceNeg, Int.reduceToNat, Int.cast_ofNat_Int, Int.reduceNatCast, Int.toNat_zero, Int.toNat_one, Int.reduceLE, Int.reduceLT, Int.reduceEq, Int.zero_add, Int.add_zero, or_false, false_or, or_true, true_or, and_true, true_and, and_false, false_and, reduceIte, not_true_eq_false, not_false_eq_true, forall_const, false_implies, true_implies, implies_true, ne_eq, reduceCtorEq, List.all_cons, List.all_nil, Bool.and_true, Bool.and_self, decide_eq_true_eq, decide_true, dX4_takeLine_0, dX4_takeLine_1, dX4_takeLine_4, dX4_takeLine_5, dX4_takeLine_6, dX4_takeLine_8, dX4_takeLine_11, dX4_takeLine_12, dX4_takeLine_13, dX4_takeLine_14, dX4_takeLine_17, dX4_takeLine_20, dX4_takeLine_23, dX4_takeLine_24, dX4_takeLine_25, dX4_takeLine_28, dX4_takeLine_29, dX4_takeLine_30, dX4_takeLine_33, dX4_takeLine_36, dX4_takeLine_37, dX4_takeLine_38, dX4_takeLine_39, dX4_takeLine_42, dX4_takeLine_43, dX4_takeLine_46, dX4_takeLine_49, dX4_takeLine_50, dX4_takeLine_53, dX4_takeLine_54, dX4_takeLine_55, dX4_takeLine_58, FX4_61, FX4_20, G_X4_takeLine_57, G_X4_takeLine_53, G_X4_takeLine_64, G_X4_takeLine_67, G_X4_takeLine_27, G_X4_takeLine_71, kd_19, T4_lineBegun]
  exact ⟨tkF b len p, tkN b len p, b, tkS b len p, h6, h4, h5, hs, hn.1, by omega, ht.2.2.1, hb, k5 _ rfl⟩
theorem good_X4_takeLine (l : Launch) : Good l 7 yX4_takeLine cX4_takeLine 3 none T4_takeLine := by
  refine Good.mk 0 (by decide) rfl (by simp [retOK]) FOK4 COK4 (gk_X4_takeLine l) ?_ ?_
  · intro a μ K h
    unfold T4_takeLine at h
    split at h
    · simp [entl]
    · exact h.elim
  · intro a μ K V hV h
    unfold T4_takeLine at h
    split at h
    · exact body_X4_takeLine _ _ μ K V hV h
    · exact h.elim

/-- behind tellAll() -/
def FIc (μ ν : Mem) (R : Int × Int × Int × (Nat → Int)) : Prop := TFq μ ν ∧ rI ν 19 2 = R.1 ∧ (R.1 ≠ 0 → rI ν 19 3 = R.2.1) ∧ RP ν 8 ∧ (R.1 = 0 → RG ν 8 R.2.2.2 ∧ rI ν 8 5 = 0 ∧ rI ν 8 6 = 0)
def GL_X4_tellAll : List (Nat × Nat × Bool × TT) := [(15, 1, false, T1_clear), (27, 1, false, T4_advance), (33, 2, false, T4_takeLine), (37, 2, false, T4_placeWord)]
def G_X4_tellAll : Nat → Option (Nat × Bool × TT) := fun i => GL_X4_tellAll.lookup i
theorem G_X4_tellAll_15 : G_X4_tellAll 15 = some (1, false, T1_clear) := rfl
theorem G_X4_tellAll_27 : G_X4_tellAll 27 = some (1, false, T4_advance) := rfl
theorem G_X4_tellAll_33 : G_X4_tellAll 33 = some (2, false, T4_takeLine) := rfl
theorem G_X4_tellAll_37 : G_X4_tellAll 37 = some (2, false, T4_placeWord) := rfl

set_option maxRecDepth 20000 in
set_option maxHeartbeats 4000000 in
theorem b_ta63 (V : Nat → List (Option AV) → List AV → Mem → Prop) (K : List AV → Mem → Prop) (hV : Clos FX4 CX4 G_X4_tellAll 1 K cX4_tellAll V) (μ ν : Mem) (R : Int × Int × Int × (Nat → Int)) (hK : ∀ ρ, FIc μ ρ R → (R.1 = 0 → K [.inl R.2.2.1] ρ) ∧ (R.1 ≠ 0 → ∀ r, K [.inl r] ρ)) (n : Int) (h1 : TFq μ ν) (h8 : RP ν 8) (i2 : InR (rI ν 8 2)) (i1 : InR (rI ν 8 1)) (len : Nat) (hl : rI ν 19 1 = len) (hc : (rI ν 19 2 = R.1 ∧ R.1 ≠ 0 ∧ (0 ≤ R.1 ∧ R.1 ≤ 7) ∧ rI ν 19 3 = R.2.1) ∨ (rI ν 19 2 = 0 ∧ ∃ (D : Nat → Int) (hw : Bool) (m : Nat), RD ν D hw ∧ DW D hw m ∧ R = (if hw = true ∧ ¬ D 36 < D 35 then (6, (len : Int), n, D) else (0, 0, n, D)))) : V 63 [some (.inr (.inr 19)), some (.inr (.inr 8)), some (.inl n)] [] ν := by
  have i1' := i1
  have i2' := i2
  simp only [InR] at i1 i2
  have main : ∃ (D : Nat → Int) (hw : Bool) (len_1 : Nat), (0 ≤ D 35 ∧ D 35 ≤ 5) ∧ (0 ≤ D 36 ∧ D 36 ≤ 4) ∧ (-2147483648 ≤ rI ν 19 2 ∧ rI ν 19 2 < 2147483648) ∧ rI ν 19 1 = len_1 ∧ (rI ν 19 2 = 0 → RD ν D hw) ∧ (-2147483648 ≤ rI ν 8 2 ∧ rI ν 8 2 < 2147483648) ∧ (-2147483648 ≤ rI ν 8 1 ∧ rI ν 8 1 < 2147483648) ∧ (rI ν 19 2 ≠ 0 → ∀ ρ, TFq ν ρ → rI ρ 19 2 = rI ν 19 2 → rI ρ 19 3 = rI ν 19 3 → K [.inl n] ρ) ∧ (rI ν 19 2 = 0 → hw = false → K [.inl n] (wI ν 8 2 (if D 35 = 0 then -4 else 0))) ∧ (rI ν 19 2 = 0 → hw = true → (D 36 < D 35 → K [.inl n] ν) ∧ (¬ D 36 < D 35 → K [.inl n] (wI (wI ν 19 2 6) 19 3 len_1))) := by
    rcases hc with ⟨c1, c2, c3, c4⟩ | ⟨c1, D, hw, m, c2, c3, c4⟩
    · refine ⟨fun _ => 0, false, len, by simp, by simp, by omega, hl, fun z => absurd (c1.symm.trans z) c2, i2, i1, fun _ ρ g1 g2 g3 => ?_, fun z => absurd (c1.symm.trans z) c2, fun z => absurd (c1.symm.trans z) c2⟩
      exact (hK ρ ⟨h1.tr g1, by rw [g2, c1], fun _ => by rw [g3, c4], h8.of (g1.2.2 _), fun z => absurd z c2⟩).2 c2 n
    · have c3' := c3
      obtain ⟨w1, w2, w3, w4, w5, w6, w7⟩ := c3
      obtain ⟨r0, r1, r2, r3, r4, r5, r6, r7⟩ := c2
      have w36 : 0 ≤ D 36 ∧ D 36 ≤ 4 := by
        cases hw with
        | true => exact w3 rfl
        | false => have := w4 rfl; omega
      have mkRG : ∀ ρ : Mem, (∀ k, k ≠ 8 → ∀ j, rI ρ k j = rI ν k j) → (∀ k j, rR ρ k j = rR ν k j) → (∀ j, j ≠ 2 → rI ρ 8 j = rI ν 8 j) → rI ρ 8 2 = (if D 35 = 0 then -4 else D 36) → RG ρ 8 D ∧ rI ρ 8 5 = 0 ∧ rI ρ 8 6 = 0 := by
        intro ρ g1 g2 g3 g4
        refine ⟨⟨r0.of (g2 _), by rw [g3 1 (by omega)]; exact r1, g4, by rw [g3 3 (by omega), r3, w5 37 (by omega) (by omega)], by rw [g3 4 (by omega), r4, w5 38 (by omega) (by omega)], fun i t hi ht => ?_⟩, by rw [g3 5 (by omega)]; exact r5, by rw [g3 6 (by omega)]; exact r6⟩
        have hr : 10 ≤ rR ν 9 i ∧ rR ν 9 i ≤ 14 := r0.1 i (by omega)
        rw [g2, g1 _ (by show rR ν 9 i ≠ 8; omega)]
        exact r7 i t hi ht
      refine ⟨D, hw, len, w1, w36, by omega, hl, fun _ => ⟨r0, r1, r2, r3, r4, r5, r6, r7⟩, i2, i1, fun z => absurd c1 z, fun _ hh => ?_, fun _ hh => ⟨fun z => ?_, fun z => ?_⟩⟩
      · rw [if_neg (by simp [hh])] at c4
        subst c4
        refine (hK _ ⟨h1.tr (TFq.w ν (by omega) 2 _), by rw [rI_wI, if_neg (by omega)]; exact c1, fun z => absurd rfl z, r0.of (fun _ => rfl), fun _ => mkRG _ (fun k hk j => by rw [rI_wI, if_neg (fun z => hk z.1)]) (fun _ _ => rfl) (fun j hj => by rw [rI_wI, if_neg (fun z => hj z.2)]) (by rw [rI_wI, if_pos ⟨rfl, rfl⟩, w4 hh])⟩).1 rfl
      · rw [if_neg (fun y => y.2 z)] at c4
        subst c4
        refine (hK _ ⟨h1, c1, fun z => absurd rfl z, r0, fun _ => mkRG _ (fun _ _ _ => rfl) (fun _ _ => rfl) (fun _ _ => rfl) (by rw [r2, if_pos hh, if_neg (by omega)])⟩).1 rfl
      · rw [if_pos ⟨hh, z⟩] at c4
        subst c4
        refine (hK _ ⟨h1.tr ((TFr.w ν (by omega) 6).tr (TFr.w _ (by omega) _)).q, by simp [rI_wI], fun _ => by simp [rI_wI], r0.of (fun _ => rfl), fun y => absurd y (by simp)⟩).2 (by simp) n
  clear hK
  obtain ⟨D, hw, l1, m1, m2, m3, m4, m5, m6, m7, m8, m9, m10⟩ := main
  apply hV [] 10
  simp only [InR, InL, inb, Int.toNat_natCast, wp1, wpc_z, wpc_s, stp_iconst, stp_bipush, stp_sipush, stp_lconst, stp_iload_n, stp_iload, stp_lload_n, stp_lload, stp_aload_n, stp_aload, stp_istore_n, stp_istore, stp_lstore_n, stp_lstore, stp_astore_n, stp_astore, stp_iinc, stp_iadd, stp_isub, stp_imul, stp_ineg, stp_idiv, stp_irem, stp_ladd, stp_lmul, stp_ldiv, stp_lrem, stp_ishl, stp_ishr, stp_iushr, stp_iand, stp_ior, stp_i2l, stp_i2b, stp_i2s, stp_lcmp, stp_dup, stp_dup2, stp_pop, stp_ifCond, stp_if_icmp, stp_goto, stp_tableswitch, stp_lookupswitch, stp_ldc, stp_ldc_w, stp_ldc2_w, stp_getstatic, stp_getfield, stp_putfield, stp_iaload, stp_baload, stp_iastore, stp_bastore, stp_aaload, stp_aastore, stp_invokevirtual, stp_invokestatic, stp_ireturn, stp_lreturn, stp_return_, lg, lset, okl, spl, wd, c1, cnd, tg, swT, swL, f4_0, f4_1, f4_2, f4_3, f2_0, f2_1, List.mem_cons, List.not_mem_nil, List.length_cons, List.length_nil, List.cons_append, List.nil_append, Nat.reduceAdd, Nat.reduceMul, Nat.reduceLT, Nat.reduceEqDiff, Nat.reduceLeDiff, Int.reduceAdd, Int.reduceNeg, Int.reduceToNat, Int.cast_ofNat_Int, Int.reduceNatCast, Int.toNat_zero, Int.toNat_one, Int.reduceLE, Int.reduceLT, Int.reduceEq, Int.zero_add, Int.add_zero, or_false, false_or, or_true, true_or, and_true, true_and, and_false, false_and, reduceIte, not_true_eq_false, not_false_eq_true, forall_const, false_implies, true_implies, implies_true, ne_eq, reduceCtorEq, List.all_cons, List.all_nil, Bool.and_true, Bool.and_self, decide_eq_true_eq, decide_true, dX4_tellAll_0, dX4_tellAll_1, dX4_tellAll_4, dX4_tellAll_5, dX4_tellAll_6, dX4_tellAll_9, dX4_tellAll_10, dX4_tellAll_11, dX4_tellAll_14, dX4_tellAll_15, dX4_tellAll_16, dX4_tellAll_17, dX4_tellAll_20, dX4_tellAll_21, dX4_tellAll_24, dX4_tellAll_27, dX4_tellAll_28, dX4_tellAll_31, dX4_tellAll_34, dX4_tellAll_35, dX4_tellAll_38, dX4_tellAll_41, dX4_tellAll_42, dX4_tellAll_43, dX4_tellAll_46, dX4_tellAll_49, dX4_tellAll_50, dX4_tellAll_53, dX4_tellAll_56, dX4_tellAll_57, dX4_tellAll_60, dX4_tellAll_63, dX4_tellAll_64, dX4_tellAll_65, dX4_tellAll_68, dX4_tellAll_69, FX4_20, FX4_24, FX4_30, G_X4_tellAll_15, G_X4_tellAll_27, G_X4_tellAll_33, G_X4_tellAll_37, kd_19, T4_placeWord]
  exact ⟨D, hw, l1, m1, m2, m3, m4, m5, m6, m7, m8, m9, m10⟩
