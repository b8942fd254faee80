/-! the class: a ring's visit -/
theorem RG.row {μ : Mem} {B : Nat} {f : Nat → Int} (h : RG μ B f) {i t : Nat} (hi : (i : Int) < f 35) (ht : t < 7) : rI μ (rR μ (B + 1) i) t = f (7 * i + t) := h.2.2.2.2.2 i t hi ht
def T1_due : TT := fun a μ K => match a with
  | [.inr (.inr B)] => kd B = 1 ∧ (∃ f, RG μ B f ∧ WF f ∧ K [.inl (if f 35 = 0 then 0 else due f (f 36).toNat)] μ)
  | _ => False
theorem rec_X1_due : ∀ a μ K, T1_due a μ K → ∃ k r, a = .inr (.inr k) :: r ∧ kd k = 1 := by
  intro a μ K h
  unfold T1_due at h
  split at h
  · exact ⟨_, _, rfl, h.1⟩
  · exact h.elim
def GL_X1_due : List (Nat × Nat × Bool × TT) := [(41, 2, false, T1_has), (49, 2, true, T_min), (55, 2, false, T1_isLonger)]
def G_X1_due : Nat → Option (Nat × Bool × TT) := fun i => GL_X1_due.lookup i
theorem G_X1_due_41 : G_X1_due 41 = some (2, false, T1_has) := rfl
theorem G_X1_due_49 : G_X1_due 49 = some (2, true, T_min) := rfl
theorem G_X1_due_55 : G_X1_due 55 = some (2, false, T1_isLonger) := rfl
theorem gk_X1_due (l : Launch) : ∀ i n b T, G_X1_due i = some (n, b, T) → CallOK l 1 RX1 i n b T := by
  intro i n b T h
  have hm : (i, n, b, T) ∈ GL_X1_due := lk_mem h
  simp only [GL_X1_due, List.mem_cons, List.not_mem_nil, or_false, Prod.mk.injEq] at hm
  rcases hm with ⟨rfl, rfl, rfl, rfl⟩ | ⟨rfl, rfl, rfl, rfl⟩ | ⟨rfl, rfl, rfl, rfl⟩
  · exact CallOK.V (d := 1) (own := RX1) (i := 41) (n := 1) (ci := 1) (good_X1_has l) (by decide) (by decide) rfl (by decide) rec_X1_has (mg 339 (by decide +kernel) (by decide +kernel)) (mg 313 (by decide +kernel) (by decide +kernel)) (mg 314 (by decide +kernel) (by decide +kernel)) (mg 2 (by decide +kernel) (by decide +kernel)) (mg 315 (by decide +kernel) (by decide +kernel)) (by decide +kernel)
  · exact CallOK.min (d := 1) (own := RX1) (i := 49) (by decide) (mg 340 (by decide +kernel) (by decide +kernel)) (mg 341 (by decide +kernel) (by decide +kernel)) (mg 13 (by decide +kernel) (by decide +kernel)) (mg 342 (by decide +kernel) (by decide +kernel))
  · exact CallOK.V (d := 1) (own := RX1) (i := 55) (n := 1) (ci := 1) (good_X1_isLonger l) (by decide) (by decide) rfl (by decide) rec_X1_isLonger (mg 343 (by decide +kernel) (by decide +kernel)) (mg 345 (by decide +kernel) (by decide +kernel)) (mgs 11 (by decide +kernel) (by decide +kernel)) (mg 2 (by decide +kernel) (by decide +kernel)) (mg 346 (by decide +kernel) (by decide +kernel)) (by decide +kernel)
set_option maxRecDepth 20000 in
set_option maxHeartbeats 4000000 in
theorem body_X1_due (B : Nat) (μ : Mem) (K : List AV → Mem → Prop) (V : Nat → List (Option AV) → List AV → Mem → Prop) (hV : Clos FX1 CX1 G_X1_due 1 K cX1_due V) (hT : kd B = 1 ∧ (∃ f, RG μ B f ∧ WF f ∧ K [.inl (if f 35 = 0 then 0 else due f (f 36).toNat)] μ)) : V 0 [some (.inr (.inr B)), none, none, none, none, none] [] μ := by
  obtain ⟨hB, f, hR, hW, hK⟩ := hT
  have hR' := hR
  obtain ⟨r1, r2, r3, r4, r5, r6⟩ := hR
  obtain ⟨w1, w2, w3, w4⟩ := hW
  obtain ⟨k12, l5, k7⟩ := ringk hB
  by_cases h0 : f 35 = 0
  · rw [if_pos h0] at hK r3
    apply hV [] 80
    simp only [InR, InL, inb, Int.toNat_natCast, wp1, wpc_z, wpc_s, stp_iconst, stp_bipush, stp_sipush, stp_lconst, stp_iload_n, stp_iload, stp_lload_n, stp_lload, stp_aload_n, stp_aload, stp_istore_n, stp_istore, stp_lstore_n, stp_lstore, stp_astore_n, stp_astore, stp_iinc, stp_iadd, stp_isub, stp_imul, stp_ineg, stp_idiv, stp_irem, stp_ladd, stp_lmul, stp_ldiv, stp_lrem, stp_ishl, stp_ishr, stp_iushr, stp_iand, stp_ior, stp_i2l, stp_i2b, stp_i2s, stp_lcmp, stp_dup, stp_dup2, stp_pop, stp_ifCond, stp_if_icmp, stp_goto, stp_tableswitch, stp_lookupswitch, stp_ldc, stp_ldc_w, stp_ldc2_w, stp_getstatic, stp_getfield, stp_putfield, stp_iaload, stp_baload, stp_iastore, stp_bastore, stp_aaload, stp_aastore, stp_invokevirtual, stp_invokestatic, stp_ireturn, stp_lreturn, stp_return_, lg, lset, okl, spl, wd, c1, cnd, tg, swT, swL, f4_0, f4_1, f4_2, f4_3, f2_0, f2_1, List.mem_cons, List.not_mem_nil, List.length_cons, List.length_nil, List.cons_append, List.nil_append, Nat.reduceAdd, Nat.reduceMul, Nat.reduceLT, Nat.reduceEqDiff, Nat.reduceLeDiff, Int.reduceAdd, Int.reduceNeg, Int.reduceToNat, Int.cast_ofNat_Int, Int.reduceNatCast, Int.toNat_zero, Int.toNat_one, Int.reduceLE, Int.reduceLT, Int.reduceEq, Int.zero_add, Int.add_zero, or_false, false_or, or_true, true_or, and_true, true_and, and_false, false_and, reduceIte, not_true_eq_false, not_false_eq_true, forall_const, false_implies, true_implies, implies_true, ne_eq, reduceCtorEq, List.all_cons, List.all_nil, Bool.and_true, Bool.and_self, decide_eq_true_eq, decide_true, dX1_due_0, dX1_due_1, dX1_due_2, dX1_due_5, dX1_due_8, dX1_due_11, dX1_due_12, dX1_due_13, dX1_due_14, dX1_due_17, dX1_due_18, dX1_due_21, dX1_due_22, dX1_due_23, dX1_due_24, dX1_due_25, dX1_due_26, dX1_due_27, dX1_due_28, dX1_due_29, dX1_due_32, dX1_due_33, dX1_due_35, dX1_due_36, dX1_due_37, dX1_due_40, dX1_due_41, dX1_due_42, dX1_due_43, dX1_due_44, dX1_due_47, dX1_due_48, dX1_due_49, dX1_due_50, dX1_due_51, dX1_due_52, dX1_due_55, dX1_due_56, dX1_due_57, dX1_due_58, dX1_due_59, dX1_due_60, dX1_due_61, dX1_due_62, dX1_due_63, dX1_due_66, dX1_due_68, dX1_due_69, dX1_due_70, dX1_due_73, dX1_due_74, dX1_due_75, dX1_due_78, dX1_due_79, dX1_due_82, dX1_due_83, dX1_due_85, dX1_due_87, dX1_due_90, dX1_due_92, dX1_due_95, dX1_due_96, dX1_due_97, dX1_due_98, dX1_due_99, dX1_due_102, dX1_due_105, dX1_due_107, dX1_due_108, dX1_due_109, dX1_due_112, dX1_due_114, FX1_16, FX1_11, G_X1_due_41, G_X1_due_49, G_X1_due_55, hB, r2, r3, T1_has]
    repeat' (first | exact trivial | omega | (with_reducible assumption) | exact absurd trivial (by with_reducible assumption) | contradiction | apply And.intro | intro _)
  · rw [if_neg h0] at hK r3
    have w2 := w2 h0
    obtain ⟨n, hn⟩ := Int.eq_ofNat_of_zero_le w2.1
    rw [hn, Int.toNat_natCast] at hK
    have hs := w4 n (by omega)
    unfold SOK at hs
    obtain ⟨s1, s2, s3, s4, s5, s6, s7⟩ := hs
    have hr := r1.1 n (by omega)
    obtain ⟨a1, a2⟩ := k7 _ hr.1 hr.2
    have v0 : rI μ (rR μ (B + 1) n) 0 = f (7 * n) := r6 n 0 (by omega) (by omega)
    have v1 := r6 n 1 (by omega) (by omega)
    have v2 := r6 n 2 (by omega) (by omega)
    have v6 := r6 n 6 (by omega) (by omega)
    have hlong : ∀ k : Nat, (k : Int) < f 35 → InR (f (7 * k + 1)) := fun k hk => by
      have := (w4 k hk).2.1
      exact ⟨by omega, by omega⟩
    simp only [InR] at hlong
    have ex : (∀ P : (Nat → Int) → Prop, P f → ∃ g, P g) := fun P h => ⟨f, h⟩
    apply hV [] 90
    simp only [InR, InL, inb, Int.toNat_natCast, wp1, wpc_z, wpc_s, stp_iconst, stp_bipush, stp_sipush, stp_lconst, stp_iload_n, stp_iload, stp_lload_n, stp_lload, stp_aload_n, stp_aload, stp_istore_n, stp_istore, stp_lstore_n, stp_lstore, stp_astore_n, stp_astore, stp_iinc, stp_iadd, stp_isub, stp_imul, stp_ineg, stp_idiv, stp_irem, stp_ladd, stp_lmul, stp_ldiv, stp_lrem, stp_ishl, stp_ishr, stp_iushr, stp_iand, stp_ior, stp_i2l, stp_i2b, stp_i2s, stp_lcmp, stp_dup, stp_dup2, stp_pop, stp_ifCond, stp_if_icmp, stp_goto, stp_tableswitch, stp_lookupswitch, stp_ldc, stp_ldc_w, stp_ldc2_w, stp_getstatic, stp_getfield, stp_putfield, stp_iaload, stp_baload, stp_iastore, stp_bastore, stp_aaload, stp_aastore, stp_invokevirtual, stp_invokestatic, stp_ireturn, stp_lreturn, stp_return_, lg, lset, okl, spl, wd, c1, cnd, tg, swT, swL, f4_0, f4_1, f4_2, f4_3, f2_0, f2_1, List.mem_cons, List.not_mem_nil, List.length_cons, List.length_nil, List.cons_append, List.nil_append, Nat.reduceAdd, Nat.reduceMul, Nat.reduceLT, Nat.reduceEqDiff, Nat.reduceLeDiff, Int.reduceAdd, Int.reduceNeg, Int.reduceToNat, Int.cast_ofNat_Int, Int.reduceNatCast, Int.toNat_zero, Int.toNat_one, Int.reduceLE, Int.reduceLT, Int.reduceEq, Int.zero_add, Int.add_zero, or_false, false_or, or_true, true_or, and_true, true_and, and_false, false_and, reduceIte, not_true_eq_false, not_false_eq_true, forall_const, false_implies, true_implies, implies_true, ne_eq, reduceCtorEq, List.all_cons, List.all_nil, Bool.and_true, Bool.and_self, decide_eq_true_eq, decide_true, dX1_due_0, dX1_due_1, dX1_due_2, dX1_due_5, dX1_due_8, dX1_due_11, dX1_due_12, dX1_due_13, dX1_due_14, dX1_due_17, dX1_due_18, dX1_due_21, dX1_due_22, dX1_due_23, dX1_due_24, dX1_due_25, dX1_due_26, dX1_due_27, dX1_due_28, dX1_due_29, dX1_due_32, dX1_due_33, dX1_due_35, dX1_due_36, dX1_due_37, dX1_due_40, dX1_due_41, dX1_due_42, dX1_due_43, dX1_due_44, dX1_due_47, dX1_due_48, dX1_due_49, dX1_due_50, dX1_due_51, dX1_due_52, dX1_due_55, dX1_due_56, dX1_due_57, dX1_due_58, dX1_due_59, dX1_due_60, dX1_due_61, dX1_due_62, dX1_due_63, dX1_due_66, dX1_due_68, dX1_due_69, dX1_due_70, dX1_due_73, dX1_due_74, dX1_due_75, dX1_due_78, dX1_due_79, dX1_due_82, dX1_due_83, dX1_due_85, dX1_due_87, dX1_due_90, dX1_due_92, dX1_due_95, dX1_due_96, dX1_due_97, dX1_due_98, dX1_due_99, dX1_due_102, dX1_due_105, dX1_due_107, dX1_due_108, dX1_due_109, dX1_due_112, dX1_due_114, FX1_16, FX1_11, G_X1_due_41, G_X1_due_49, G_X1_due_55, hB, r2, r3, hn, k12, l5, elr k12, a1, a2, v0, v1, v2, v6, T1_has, T_min, T1_isLonger]
    unfold due dm at hK
    rw [Int.min_comm] at hK
    by_cases e1 : f (7 * n) = 1
    · have e3 : ¬ f (7 * n) = 3 := by omega
      have e2 : ¬ f (7 * n) = 2 := by omega
      simp only [e1, e2, e3, if_true, false_and, if_false, or_self, false_or, Int.reduceEq] at hK
      repeat' (first | exact trivial | omega | (with_reducible assumption) | exact absurd trivial (by with_reducible assumption) | contradiction | apply And.intro | intro _)
    · simp only [e1, if_false] at hK
      by_cases e3 : f (7 * n) = 3
      · simp only [e3, true_and, or_true] at hK
        by_cases e6 : f (7 * n + 6) = 1
        · simp only [e6, if_true] at hK
          repeat' (first | exact trivial | omega | (with_reducible assumption) | exact absurd trivial (by with_reducible assumption) | contradiction | apply And.intro | intro _)
        · simp only [e6, if_false] at hK
          by_cases ep : 0 < min (f (7 * n + 2)) (f (7 * n + 1))
          · simp only [ep, true_and] at hK
            by_cases eo : outB f (f (7 * n + 1)) (f 35).toNat = true
            · simp only [eo, if_true] at hK
              repeat' (first | exact trivial | omega | (with_reducible assumption) | exact absurd trivial (by with_reducible assumption) | contradiction | apply And.intro | intro _)
              all_goals exact ⟨f, hR', by omega, hlong, fun _ => hK, fun z => absurd eo z⟩
            · simp only [eo, Bool.false_eq_true, if_false] at hK
              repeat' (first | exact trivial | omega | (with_reducible assumption) | exact absurd trivial (by with_reducible assumption) | contradiction | apply And.intro | intro _)
              all_goals exact ⟨f, hR', by omega, hlong, fun z => absurd z eo, fun _ => hK⟩
          · simp only [ep, false_and, if_false] at hK
            repeat' (first | exact trivial | omega | (with_reducible assumption) | exact absurd trivial (by with_reducible assumption) | contradiction | apply And.intro | intro _)
      · simp only [e3, false_and, if_false, or_false] at hK
        by_cases e2 : f (7 * n) = 2
        · simp only [e2, true_and] at hK
          by_cases ep : 0 < min (f (7 * n + 2)) (f (7 * n + 1))
          · simp only [ep, true_and] at hK
            by_cases eo : outB f (f (7 * n + 1)) (f 35).toNat = true
            · simp only [eo, if_true] at hK
              repeat' (first | exact trivial | omega | (with_reducible assumption) | exact absurd trivial (by with_reducible assumption) | contradiction | apply And.intro | intro _)
              all_goals exact ⟨f, hR', by omega, hlong, fun _ => hK, fun z => absurd eo z⟩
            · simp only [eo, Bool.false_eq_true, if_false] at hK
              repeat' (first | exact trivial | omega | (with_reducible assumption) | exact absurd trivial (by with_reducible assumption) | contradiction | apply And.intro | intro _)
              all_goals exact ⟨f, hR', by omega, hlong, fun z => absurd z eo, fun _ => hK⟩
          · simp only [ep, false_and, if_false] at hK
            repeat' (first | exact trivial | omega | (with_reducible assumption) | exact absurd trivial (by with_reducible assumption) | contradiction | apply And.intro | intro _)
        · simp only [e2, false_and, if_false] at hK
          repeat' (first | exact trivial | omega | (with_reducible assumption) | exact absurd trivial (by with_reducible assumption) | contradiction | apply And.intro | intro _)
theorem good_X1_due (l : Launch) : Good l 1 yX1_due cX1_due 6 (some .int) T1_due := by
  refine Good.mk 1 (by decide) rfl (by simp [retOK]) FOK1 COK1 (gk_X1_due l) ?_ ?_
  · intro a μ K h
    unfold T1_due at h
    split at h
    · simp [entl]
    · exact h.elim
  · intro a μ K V hV h
    unfold T1_due at h
    split at h
    · exact body_X1_due _ μ K V hV h
    · exact h.elim

/-- while letters come to a ring -/
def CI (μ ν : Mem) (B : Nat) (f : Nat → Int) (t : Int) (n : Nat) : Prop := (∀ i c : Nat, (i : Int) < f 35 → c < 7 → rI ν (rR μ (B + 1) i) c = cmF f t n (7 * i + c)) ∧ rI ν B 6 = rI μ B 6 + cmL f t n ∧ (∀ j, j ≠ 6 → rI ν B j = rI μ B j) ∧ FR B μ ν
theorem CI.RG {μ ν : Mem} {B : Nat} {f : Nat → Int} {t : Int} {n : Nat} (hR : RG μ B f) (hn : n ≤ 5) (h : CI μ ν B f t n) : RG ν B (cmF f t n) := by
  obtain ⟨r1, r2, r3, r4, r5, r6⟩ := hR
  obtain ⟨c1, c2, c3, c4⟩ := h
  have e : ∀ x, 35 ≤ x → x ≠ 36 → cmF f t n x = f x := fun x hx _ => cmF_out _ _ _ _ (fun k hk => by omega)
  have e36 : cmF f t n 36 = f 36 := cmF_out _ _ _ _ (fun k hk => by omega)
  refine ⟨r1.of (c4.2 _), ?_, ?_, ?_, ?_, ?_⟩
  · rw [c3 1 (by omega), e 35 (by omega) (by omega)]; exact r2
  · rw [c3 2 (by omega), e 35 (by omega) (by omega), e36]; exact r3
  · rw [c3 3 (by omega), e 37 (by omega) (by omega)]; exact r4
  · rw [c3 4 (by omega), e 38 (by omega) (by omega)]; exact r5
  · intro i c hi hc
    rw [e 35 (by omega) (by omega)] at hi
    rw [c4.2]
    exact c1 i c hi hc
def GL_X1_come : List (Nat × Nat × Bool × TT) := [(70, 3, false, T1_add)]
def G_X1_come : Nat → Option (Nat × Bool × TT) := fun i => GL_X1_come.lookup i
theorem G_X1_come_70 : G_X1_come 70 = some (3, false, T1_add) := rfl

set_option maxRecDepth 20000 in
set_option maxHeartbeats 4000000 in
theorem lp_come (V : Nat → List (Option AV) → List AV → Mem → Prop) (K : List AV → Mem → Prop) (hV : Clos FX1 CX1 G_X1_come 0 K cX1_come V) (μ : Mem) (B : Nat) (hB : kd B = 1) (f : Nat → Int) (hR : RG μ B f) (t : Int) (ht : 0 ≤ t ∧ t ≤ 3) (hm : 0 ≤ f 35 ∧ f 35 ≤ 5) (hs : ∀ k : Nat, (k : Int) < f 35 → SOK f k) (hK : ∀ ν, CI μ ν B f t (f 35).toNat → K [] ν) : ∀ m n : Nat, n + m = (f 35).toNat → ∀ ν, CI μ ν B f t n → V 6 [some (.inr (.inr B)), some (.inl t), some (.inl (n : Int))] [] ν := by
  have hR' := hR
  obtain ⟨r1, r2, r3, r4, r5, r6⟩ := hR
  obtain ⟨k12, l5, k7⟩ := ringk hB
  intro m
  induction m with
  | zero =>
    intro n hn ν hC
    have hC' := hC
    obtain ⟨c1, c2, c3, c4⟩ := hC
    have e1 : rI ν B 1 = f 35 := by rw [c3 1 (by omega)]; exact r2
    apply hV [6] 40
    simp only [InR, InL, inb, Int.toNat_natCast, wp1, wpc_z, wpc_s, stp_iconst, stp_bipush, stp_sipush, stp_lconst, stp_iload_n, stp_iload, stp_lload_n, stp_lload, stp_aload_n, stp_aload, stp_istore_n, stp_istore, stp_lstore_n, stp_lstore, stp_astore_n, stp_astore, stp_iinc, stp_iadd, stp_isub, stp_imul, stp_ineg, stp_idiv, stp_irem, stp_ladd, stp_lmul, stp_ldiv, stp_lrem, stp_ishl, stp_ishr, stp_iushr, stp_iand, stp_ior, stp_i2l, stp_i2b, stp_i2s, stp_lcmp, stp_dup, stp_dup2, stp_pop, stp_ifCond, stp_if_icmp, stp_goto, stp_tableswitch, stp_lookupswitch, stp_ldc, stp_ldc_w, stp_ldc2_w, stp_getstatic, stp_getfield, stp_putfield, stp_iaload, stp_baload, stp_iastore, stp_bastore, stp_aaload, stp_aastore, stp_invokevirtual, stp_invokestatic, stp_ireturn, stp_lreturn, stp_return_, lg, lset, okl, spl, wd, c1, cnd, tg, swT, swL, f4_0, f4_1, f4_2, f4_3, f2_0, f2_1, List.mem_cons, List.not_mem_nil, List.length_cons, List.length_nil, List.cons_append, List.nil_append, Nat.reduceAdd, Nat.reduceMul, Nat.reduceLT, Nat.reduceEqDiff, Nat.reduceLeDiff, Int.reduceAdd, Int.reduceNeg, Int.reduceToNat, Int.cast_ofNat_Int, Int.reduceNatCast, Int.toNat_zero, Int.toNat_one, Int.reduceLE, Int.reduceLT, Int.reduceEq, Int.zero_add, Int.add_zero, or_false, false_or, or_true, true_or, and_true, true_and, and_false, false_and, reduceIte, not_true_eq_false, not_false_eq_true, forall_const, false_implies, true_implies, implies_true, ne_eq, reduceCtorEq, List.all_cons, List.all_nil, Bool.and_true, Bool.and_self, decide_eq_true_eq, decide_true, dX1_come_0, dX1_come_1, dX1_come_4, dX1_come_5, dX1_come_6, dX1_come_7, dX1_come_8, dX1_come_11, dX1_come_14, dX1_come_15, dX1_come_16, dX1_come_17, dX1_come_18, dX1_come_21, dX1_come_22, dX1_come_23, dX1_come_24, dX1_come_25, dX1_come_26, dX1_come_29, dX1_come_30, dX1_come_33, dX1_come_36, FX1_20, FX1_11, G_X1_come_70, hB, e1]
    have := hK ν (by rw [show (f 35).toNat = n by omega]; exact hC')
    repeat' (first | exact trivial | omega | (with_reducible assumption) | exact absurd trivial (by with_reducible assumption) | contradiction | apply And.intro | intro _)
  | succ m ih =>
    intro n hn ν hC
    obtain ⟨c1, c2, c3, c4⟩ := hC
    have e1 : rI ν B 1 = f 35 := by rw [c3 1 (by omega)]; exact r2
    have hr := r1.1 n (by omega)
    obtain ⟨a1, a2⟩ := k7 _ hr.1 hr.2
    have eg : rI ν (rR μ (B + 1) n) 3 = f (7 * n + 3) := by rw [c1 n 3 (by omega) (by omega), cmF_out _ _ _ _ (fun k hk => by omega)]
    have eq : rI ν (rR μ (B + 1) n) 1 = f (7 * n + 1) := by rw [c1 n 1 (by omega) (by omega), cmF_out _ _ _ _ (fun k hk => by omega)]
    have hsn := hs n (by omega)
    have hc := cmG_in hsn ht
    have hq := hsn.2.1
    have er : ∀ j, rR ν (B + 1) j = rR μ (B + 1) j := c4.2 _
    have hRP := r1.of er
    have h := ih (n + 1) (by omega) (wI (wI ν (rR μ (B + 1) n) 1 (f (7 * n + 1) + min (t * f (7 * n + 3)) (99 - f (7 * n + 1)))) B 6 (rI ν B 6 + (t * f (7 * n + 3) - min (t * f (7 * n + 3)) (99 - f (7 * n + 1))))) (by
      refine ⟨?_, ?_, ?_, ?_, ?_⟩
      · intro i c hi hcc
        have hri := r1.1 i (by omega)
        simp only [rI_wI, cmF, upF, cmG]
        rw [if_neg (by omega)]
        by_cases ei : i = n
        · subst ei
          by_cases ec : c = 1
          · rw [if_pos ⟨rfl, ec⟩, if_pos (by omega)]
          · rw [if_neg (fun z => ec z.2), if_neg (by omega)]; exact c1 i c hi hcc
        · rw [if_neg (fun z => ei (r1.2 i n (by omega) (by omega) z.1)), if_neg (by omega)]; exact c1 i c hi hcc
      · simp only [rI_wI, cmL, cmG]
        rw [if_pos ⟨trivial, trivial⟩, c2]
        omega
      · intro j hj
        simp only [rI_wI]
        rw [if_neg (fun z => hj z.2), if_neg (by omega)]
        exact c3 j hj
      · intro k hk j
        simp only [rI_wI]
        rw [if_neg (by omega), if_neg (by omega)]
        exact c4.1 k hk j
      · intro k j
        exact c4.2 k j)
    rw [show ((n + 1 : Nat) : Int) = (n : Int) + 1 by omega] at h
    apply hV [6] 40
    simp only [InR, InL, inb, Int.toNat_natCast, wp1, wpc_z, wpc_s, stp_iconst, stp_bipush, stp_sipush, stp_lconst, stp_iload_n, stp_iload, stp_lload_n, stp_lload, stp_aload_n, stp_aload, stp_istore_n, stp_istore, stp_lstore_n, stp_lstore, stp_astore_n, stp_astore, stp_iinc, stp_iadd, stp_isub, stp_imul, stp_ineg, stp_idiv, stp_irem, stp_ladd, stp_lmul, stp_ldiv, stp_lrem, stp_ishl, stp_ishr, stp_iushr, stp_iand, stp_ior, stp_i2l, stp_i2b, stp_i2s, stp_lcmp, stp_dup, stp_dup2, stp_pop, stp_ifCond, stp_if_icmp, stp_goto, stp_tableswitch, stp_lookupswitch, stp_ldc, stp_ldc_w, stp_ldc2_w, stp_getstatic, stp_getfield, stp_putfield, stp_iaload, stp_baload, stp_iastore, stp_bastore, stp_aaload, stp_aastore, stp_invokevirtual, stp_invokestatic, stp_ireturn, stp_lreturn, stp_return_, lg, lset, okl, spl, wd, c1, cnd, tg, swT, swL, f4_0, f4_1, f4_2, f4_3, f2_0, f2_1, List.mem_cons, List.not_mem_nil, List.length_cons, List.length_nil, List.cons_append, List.nil_append, Nat.reduceAdd, Nat.reduceMul, Nat.reduceLT, Nat.reduceEqDiff, Nat.reduceLeDiff, Int.reduceAdd, Int.reduceNeg, Int.reduceToNat, Int.cast_ofNat_Int, Int.reduceNatCast, Int.toNat_zero, Int.toNat_one, Int.reduceLE, Int.reduceLT, Int.reduceEq, Int.zero_add, Int.add_zero, or_false, false_or, or_true, true_or, and_true, true_and, and_false, false_and, reduceIte, not_true_eq_false, not_false_eq_true, forall_const, false_implies, true_implies, implies_true, ne_eq, reduceCtorEq, List.all_cons, List.all_nil, Bool.and_true, Bool.and_self, decide_eq_true_eq, decide_true, dX1_come_0, dX1_come_1, dX1_come_4, dX1_come_5, dX1_come_6, dX1_come_7, dX1_come_8, dX1_come_11, dX1_come_14, dX1_come_15, dX1_come_16, dX1_come_17, dX1_come_18, dX1_come_21, dX1_come_22, dX1_come_23, dX1_come_24, dX1_come_25, dX1_come_26, dX1_come_29, dX1_come_30, dX1_come_33, dX1_come_36, FX1_20, FX1_11, G_X1_come_70, hB, e1, k12, l5, elr k12, er, a1, a2, eg, eq, T1_add]
    repeat' (first | exact trivial | omega | (with_reducible assumption) | exact absurd trivial (by with_reducible assumption) | contradiction | apply And.intro | intro _)
def T1_come : TT := fun a μ K => match a with
  | [.inr (.inr B), .inl t] => kd B = 1 ∧ ((0 ≤ t ∧ t ≤ 3) ∧ ∃ f, RG μ B f ∧ (0 ≤ f 35 ∧ f 35 ≤ 5) ∧ (∀ k : Nat, (k : Int) < f 35 → SOK f k) ∧ ∀ ν, CI μ ν B f t (f 35).toNat → K [] ν)
  | _ => False
theorem rec_X1_come : ∀ a μ K, T1_come a μ K → ∃ k r, a = .inr (.inr k) :: r ∧ kd k = 1 := by
  intro a μ K h
  unfold T1_come at h
  split at h
  · exact ⟨_, _, rfl, h.1⟩
  · exact h.elim
theorem gk_X1_come (l : Launch) : ∀ i n b T, G_X1_come i = some (n, b, T) → CallOK l 2 RX1 i n b T := by
  intro i n b T h
  have hm : (i, n, b, T) ∈ GL_X1_come := lk_mem h
  simp only [GL_X1_come, List.mem_cons, List.not_mem_nil, or_false, Prod.mk.injEq] at hm
  rcases hm with ⟨rfl, rfl, rfl, rfl⟩
  · exact CallOK.V (d := 2) (own := RX1) (i := 70) (n := 2) (ci := 1) (good_X1_add l) (by decide) (by decide) rfl (by decide) rec_X1_add (mg 401 (by decide +kernel) (by decide +kernel)) (mg 372 (by decide +kernel) (by decide +kernel)) (mg 373 (by decide +kernel) (by decide +kernel)) (mg 2 (by decide +kernel) (by decide +kernel)) (mg 374 (by decide +kernel) (by decide +kernel)) (by decide +kernel)
set_option maxRecDepth 20000 in
set_option maxHeartbeats 4000000 in
theorem body_X1_come (B : Nat) (t : Int) (μ : Mem) (K : List AV → Mem → Prop) (V : Nat → List (Option AV) → List AV → Mem → Prop) (hV : Clos FX1 CX1 G_X1_come 0 K cX1_come V) (hT : kd B = 1 ∧ ((0 ≤ t ∧ t ≤ 3) ∧ ∃ f, RG μ B f ∧ (0 ≤ f 35 ∧ f 35 ≤ 5) ∧ (∀ k : Nat, (k : Int) < f 35 → SOK f k) ∧ ∀ ν, CI μ ν B f t (f 35).toNat → K [] ν)) : V 0 [some (.inr (.inr B)), some (.inl t), none] [] μ := by
  obtain ⟨hB, ht, f, hR, h35, hs, hK⟩ := hT
  have c0 : CI μ μ B f t 0 := ⟨fun i c hi hc => hR.row hi hc, by simp [cmL], fun _ _ => rfl, FR.rf⟩
  have h := lp_come V K hV μ B hB f hR t ht h35 hs hK (f 35).toNat 0 (by omega) μ c0
  apply hV [6] 40
  simp only [InR, InL, inb, Int.toNat_natCast, wp1, wpc_z, wpc_s, stp_iconst, stp_bipush, stp_sipush, stp_lconst, stp_iload_n, stp_iload, stp_lload_n, stp_lload, stp_aload_n, stp_aload, stp_istore_n, stp_istore, stp_lstore_n, stp_lstore, stp_astore_n, stp_astore, stp_iinc, stp_iadd, stp_isub, stp_imul, stp_ineg, stp_idiv, stp_irem, stp_ladd, stp_lmul, stp_ldiv, stp_lrem, stp_ishl, stp_ishr, stp_iushr, stp_iand, stp_ior, stp_i2l, stp_i2b, stp_i2s, stp_lcmp, stp_dup, stp_dup2, stp_pop, stp_ifCond, stp_if_icmp, stp_goto, stp_tableswitch, stp_lookupswitch, stp_ldc, stp_ldc_w, stp_ldc2_w, stp_getstatic, stp_getfield, stp_putfield, stp_iaload, stp_baload, stp_iastore, stp_bastore, stp_aaload, stp_aastore, stp_invokevirtual, stp_invokestatic, stp_ireturn, stp_lreturn, stp_return_, lg, lset, okl, spl, wd, c1, cnd, tg, swT, swL, f4_0, f4_1, f4_2, f4_3, f2_0, f2_1, List.mem_cons, List.not_mem_nil, List.length_cons, List.length_nil, List.cons_append, List.nil_append, Nat.reduceAdd, Nat.reduceMul, Nat.reduceLT, Nat.reduceEqDiff, Nat.reduceLeDiff, Int.reduceAdd, Int.reduceNeg, Int.reduceToNat, Int.cast_ofNat_Int, Int.reduceNatCast, Int.toNat_zero, Int.toNat_one, Int.reduceLE, Int.reduceLT, Int.reduceEq, Int.zero_add, Int.add_zero, or_false, false_or, or_true, true_or, and_true, true_and, and_false, false_and, reduceIte, not_true_eq_false, not_false_eq_true, forall_const, false_implies, true_implies, implies_true, ne_eq, reduceCtorEq, List.all_cons, List.all_nil, Bool.and_true, Bool.and_self, decide_eq_true_eq, decide_true, dX1_come_0, dX1_come_1, dX1_come_4, dX1_come_5, dX1_come_6, dX1_come_7, dX1_come_8, dX1_come_11, dX1_come_14, dX1_come_15, dX1_come_16, dX1_come_17, dX1_come_18, dX1_come_21, dX1_come_22, dX1_come_23, dX1_come_24, dX1_come_25, dX1_come_26, dX1_come_29, dX1_come_30, dX1_come_33, dX1_come_36, FX1_20, FX1_11, G_X1_come_70, hB]
  repeat' (first | exact trivial | omega | (with_reducible assumption) | exact absurd trivial (by with_reducible assumption) | contradiction | apply And.intro | intro _)
  all_goals try exact h
  have et : t = 0 := by omega
  subst et
  have z : ∀ n : Nat, (n : Int) ≤ f 35 → CI μ μ B f 0 n := by
    intro n
    induction n with
    | zero => intro _; exact c0
    | succ n ih =>
      intro hn
      obtain ⟨c1, c2, c3, c4⟩ := ih (by omega)
      have hq := (hs n (by omega)).2.1
      have hz : cmG f 0 n = 0 := by unfold cmG; rw [Int.zero_mul]; omega
      refine ⟨?_, ?_, c3, c4⟩
      · intro i c hi hc
        simp only [cmF, upF, hz]
        by_cases e : 7 * i + c = 7 * n + 1
        · rw [if_pos e]
          have h1 : i = n := by omega
          have h2 : c = 1 := by omega
          subst h1; subst h2
          rw [hR.row hi hc]; omega
        · rw [if_neg e]; exact c1 i c hi hc
      · simp only [cmL, hz, Int.zero_mul]; omega
  exact hK μ (z _ (by omega))
theorem good_X1_come (l : Launch) : Good l 2 yX1_come cX1_come 3 none T1_come := by
  refine Good.mk 0 (by decide) rfl (by simp [retOK]) FOK1 COK1 (gk_X1_come l) ?_ ?_
  · intro a μ K h
    unfold T1_come at h
    split at h
    · simp [entl]
    · exact h.elim
  · intro a μ K V hV h
    unfold T1_come at h
    split at h
    · exact body_X1_come _ _ μ K V hV h
    · exact h.elim

