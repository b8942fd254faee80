/-! the class: trials -/
theorem sum_in {p : Nat → (Nat → Int) → Bool} {f : Nat → Int} (h : WF f) : ∀ n : Nat, (0 ≤ sS p f n ∧ sS p f n ≤ 18 * n) ∧ (0 ≤ sL p f n ∧ sL p f n ≤ 135 * n) ∧ (0 ≤ nx p f n 37 - f 37 ∧ nx p f n 37 - f 37 ≤ 27 * n)
  | 0 => by simp [sS, sL, nx]
  | n + 1 => by
    obtain ⟨h1, h2, h3⟩ := sum_in (p := p) h n
    obtain ⟨x1, x2, x3⟩ := nx_WF (p := p) h n
    have hs := snd_in x1 (p n (nx p f n))
    have hl := lst_nn (p n (nx p f n)) x1
    have ht : 0 ≤ nxt (nx p f n) (p n (nx p f n)) 37 - nx p f n 37 ∧ nxt (nx p f n) (p n (nx p f n)) 37 - nx p f n 37 ≤ 27 := by
      by_cases h0 : nx p f n 35 = 0
      · unfold nxt; rw [if_pos h0, upF_n _ _ (by omega)]; omega
      · have h2 := x1.2.1 h0
        have := (x1.2.2.2 (nx p f n 36).toNat (by omega)).2.2.2.2.1
        rw [(nxt_t _ _ x1 h0).1]
        omega
    simp only [sS, sL, nx]
    omega
/-- nothing but what trials use has changed -/
def FQ (μ ν : Mem) : Prop := (∀ k, (k < 8 ∨ (14 < k ∧ k < 56) ∨ 65 < k) → ∀ j, rI ν k j = rI μ k j) ∧ (∀ k j, k ≠ 9 → rR ν k j = rR μ k j) ∧ RP ν 8
theorem FQ.rf {μ : Mem} (h : RP μ 8) : FQ μ μ := ⟨fun _ _ _ => rfl, fun _ _ _ => rfl, h⟩
theorem FQ.tr {μ ν ρ : Mem} (h : FQ μ ν) (h2 : FQ ν ρ) : FQ μ ρ := ⟨fun k hk j => (h2.1 k hk j).trans (h.1 k hk j), fun k j hk => (h2.2.1 k j hk).trans (h.2.1 k j hk), h2.2.2⟩
theorem FR.q {μ ν : Mem} (h : FR 8 μ ν) (hp : RP μ 8) : FQ μ ν := ⟨fun k hk j => h.1 k (by omega) j, fun k j _ => h.2 k j, hp.of (h.2 _)⟩
theorem FQ.ring {μ ν : Mem} (h : FQ μ ν) {f : Nat → Int} (hR : RG μ 1 f) (h35 : f 35 ≤ 5) : RG ν 1 f := by
  obtain ⟨r1, r2, r3, r4, r5, r6⟩ := hR
  have e : ∀ j, rR ν (1 + 1) j = rR μ (1 + 1) j := fun j => h.2.1 _ j (by omega)
  refine ⟨r1.of e, by rw [h.1 1 (by omega)]; exact r2, by rw [h.1 1 (by omega)]; exact r3, by rw [h.1 1 (by omega)]; exact r4, by rw [h.1 1 (by omega)]; exact r5, fun i t hi ht => ?_⟩
  have := r1.1 i (by omega)
  rw [e, h.1 _ (by omega)]
  exact r6 i t hi ht
def T5_startTrial : TT := fun a μ K => match a with
  | [.inr (.inr o)] => o = 0 ∧ (RP μ 8 ∧ ∃ f, RG μ 1 f ∧ (0 ≤ f 35 ∧ f 35 ≤ 5) ∧ ∀ ν, RG ν 8 f ∧ rI ν 8 5 = 0 ∧ rI ν 8 6 = 0 ∧ FR 8 μ ν → K [] ν)
  | _ => False
theorem rec_X5_startTrial : ∀ a μ K, T5_startTrial a μ K → ∃ k r, a = .inr (.inr k) :: r ∧ kd k = 5 := by
  intro a μ K h
  unfold T5_startTrial at h
  split at h
  · exact ⟨_, _, rfl, by rw [h.1]; rfl⟩
  · exact h.elim
def GL_X5_startTrial : List (Nat × Nat × Bool × TT) := [(74, 2, false, T1_copyFrom)]
def G_X5_startTrial : Nat → Option (Nat × Bool × TT) := fun i => GL_X5_startTrial.lookup i
theorem G_X5_startTrial_74 : G_X5_startTrial 74 = some (2, false, T1_copyFrom) := rfl
theorem gk_X5_startTrial (l : Launch) : ∀ i n b T, G_X5_startTrial i = some (n, b, T) → CallOK l 2 RX5 i n b T := by
  intro i n b T h
  have hm : (i, n, b, T) ∈ GL_X5_startTrial := lk_mem h
  simp only [GL_X5_startTrial, List.mem_cons, List.not_mem_nil, or_false, Prod.mk.injEq] at hm
  rcases hm with ⟨rfl, rfl, rfl, rfl⟩
  · exact CallOK.V (d := 2) (own := RX5) (i := 74) (n := 1) (ci := 1) (good_X1_copyFrom l) (by decide) (by decide) rfl (by decide) rec_X1_copyFrom (mg 316 (by decide +kernel) (by decide +kernel)) (mg 317 (by decide +kernel) (by decide +kernel)) (mg 318 (by decide +kernel) (by decide +kernel)) (mg 2 (by decide +kernel) (by decide +kernel)) (mg 319 (by decide +kernel) (by decide +kernel)) (by decide +kernel)
set_option maxRecDepth 20000 in
set_option maxHeartbeats 4000000 in
theorem body_X5_startTrial (o : Nat) (μ : Mem) (K : List AV → Mem → Prop) (V : Nat → List (Option AV) → List AV → Mem → Prop) (hV : Clos FX5 CX5 G_X5_startTrial 0 K cX5_startTrial V) (hT : o = 0 ∧ (RP μ 8 ∧ ∃ f, RG μ 1 f ∧ (0 ≤ f 35 ∧ f 35 ≤ 5) ∧ ∀ ν, RG ν 8 f ∧ rI ν 8 5 = 0 ∧ rI ν 8 6 = 0 ∧ FR 8 μ ν → K [] ν)) : V 0 [some (.inr (.inr o))] [] μ := by
  obtain ⟨rfl, hP, f, hR, h35, hK⟩ := hT
  apply hV [] 60
  simp only [InR, InL, inb, Int.toNat_natCast, wp1, wpc_z, wpc_s, stp_iconst, stp_bipush, stp_sipush, stp_lconst, stp_iload_n, stp_iload, stp_lload_n, stp_lload, stp_aload_n, stp_aload, stp_istore_n, stp_istore, stp_lstore_n, stp_lstore, stp_astore_n, stp_astore, stp_iinc, stp_iadd, stp_isub, stp_imul, stp_ineg, stp_idiv, stp_irem, stp_ladd, stp_lmul, stp_ldiv, stp_lrem, stp_ishl, stp_ishr, stp_iushr, stp_iand, stp_ior, stp_i2l, stp_i2b, stp_i2s, stp_lcmp, stp_dup, stp_dup2, stp_pop, stp_ifCond, stp_if_icmp, stp_goto, stp_tableswitch, stp_lookupswitch, stp_ldc, stp_ldc_w, stp_ldc2_w, stp_getstatic, stp_getfield, stp_putfield, stp_iaload, stp_baload, stp_iastore, stp_bastore, stp_aaload, stp_aastore, stp_invokevirtual, stp_invokestatic, stp_ireturn, stp_lreturn, stp_return_, lg, lset, okl, spl, wd, c1, cnd, tg, swT, swL, f4_0, f4_1, f4_2, f4_3, f2_0, f2_1, List.mem_cons, List.not_mem_nil, List.length_cons, List.length_nil, List.cons_append, List.nil_append, Nat.reduceAdd, Nat.reduceMul, Nat.reduceLT, Nat.reduceEqDiff, Nat.reduceLeDiff, Int.reduceAdd, Int.reduceNeg, Int.reduceToNat, Int.cast_ofNat_Int, Int.reduceNatCast, Int.toNat_zero, Int.toNat_one, Int.reduceLE, Int.reduceLT, Int.reduceEq, Int.zero_add, Int.add_zero, or_false, false_or, or_true, true_or, and_true, true_and, and_false, false_and, reduceIte, not_true_eq_false, not_false_eq_true, forall_const, false_implies, true_implies, implies_true, ne_eq, reduceCtorEq, List.all_cons, List.all_nil, Bool.and_true, Bool.and_self, decide_eq_true_eq, decide_true, dX5_startTrial_0, dX5_startTrial_1, dX5_startTrial_4, dX5_startTrial_5, dX5_startTrial_8, dX5_startTrial_11, dX5_startTrial_12, dX5_startTrial_15, dX5_startTrial_16, dX5_startTrial_19, dX5_startTrial_20, dX5_startTrial_23, dX5_startTrial_24, dX5_startTrial_27, FX5_16, FX5_10, FX5_97, FX5_100, G_X5_startTrial_74, kd_0, kd_1, kd_2, kd_3, kd_4, kd_5, kd_6, kd_7, kd_8, kd_9, kd_10, kd_11, kd_12, kd_13, kd_14, kd_15, kd_16, kd_17, kd_18, kd_19, kd_20, kd_21, kd_22, kd_23, kd_24, kd_25, kd_26, kd_27, kd_28, kd_29, kd_30, kd_31, kd_32, kd_33, kd_34, kd_35, kd_36, kd_37, kd_38, kd_39, kd_40, kd_41, kd_42, kd_43, kd_44, kd_45, kd_46, kd_47, kd_48, kd_49, kd_50, kd_51, kd_52, kd_53, kd_54, kd_55, kd_56, kd_57, kd_58, kd_59, kd_60, kd_61, kd_62, kd_63, kd_64, kd_65, T1_copyFrom]
  refine ⟨hP, f, hR, h35, fun ν hν => ?_⟩
  obtain ⟨a1, a2, a3, a4⟩ := hν
  refine hK _ ⟨?_, ?_, ?_, ?_⟩
  · obtain ⟨r1, r2, r3, r4, r5, r6⟩ := a1
    refine ⟨r1.of (fun _ => rfl), by simp [rI_wI, r2], by simp [rI_wI, r3], by simp [rI_wI, r4], by simp [rI_wI, r5], fun i t hi ht => ?_⟩
    have := r1.1 i (by omega)
    rw [rR_wI, rR_wI, rI_wI, rI_wI, if_neg (by omega), if_neg (by omega)]
    exact r6 i t hi ht
  · simp [rI_wI]
  · simp [rI_wI]
  · refine ⟨fun k hk j => ?_, fun k j => a4.2 k j⟩
    rw [rI_wI, rI_wI, if_neg (by omega), if_neg (by omega)]
    exact a4.1 k hk j
theorem good_X5_startTrial (l : Launch) : Good l 2 yX5_startTrial cX5_startTrial 1 none T5_startTrial := by
  refine Good.mk 0 (by decide) rfl (by simp [retOK]) FOK5 COK5 (gk_X5_startTrial l) ?_ ?_
  · intro a μ K h
    unfold T5_startTrial at h
    split at h
    · simp [entl]
    · exact h.elim
  · intro a μ K V hV h
    unfold T5_startTrial at h
    split at h
    · exact body_X5_startTrial _ μ K V hV h
    · exact h.elim

theorem RG.set {μ : Mem} {B : Nat} {f : Nat → Int} (h : RG μ B f) (h35 : f 35 ≤ 5) {i t : Nat} (hi : (i : Int) < f 35) (ht : t < 7) (v : Int) : RG (wI μ (rR μ (B + 1) i) t v) B (upF f (7 * i + t) v) := by
  obtain ⟨r1, r2, r3, r4, r5, r6⟩ := h
  have hr := r1.1 i (by omega)
  refine ⟨r1.of (fun _ => rfl), ?_, ?_, ?_, ?_, ?_⟩
  · rw [rI_wI, if_neg (by omega), upF_n _ _ (by omega)]; exact r2
  · rw [rI_wI, if_neg (by omega), upF_n _ _ (by omega), upF_n _ _ (by omega)]; exact r3
  · rw [rI_wI, if_neg (by omega), upF_n _ _ (by omega)]; exact r4
  · rw [rI_wI, if_neg (by omega), upF_n _ _ (by omega)]; exact r5
  · intro k c hk hc
    rw [upF_n _ _ (by omega)] at hk
    rw [rR_wI, rI_wI]
    by_cases e : k = i
    · subst e
      by_cases ec : c = t
      · subst ec; rw [if_pos ⟨rfl, rfl⟩, upF_s]
      · rw [if_neg (fun z => ec z.2), upF_n _ _ (by omega)]; exact r6 k c hk hc
    · rw [if_neg (fun z => e (r1.2 k i (by omega) (by omega) z.1)), upF_n _ _ (by omega)]
      exact r6 k c hk hc
def T5_startTrialWith : TT := fun a μ K => match a with
  | [.inr (.inr o), .inl i, .inl t, .inl v] => o = 0 ∧ (RP μ 8 ∧ (0 ≤ t ∧ t < 7) ∧ 0 ≤ i ∧ ∃ f, RG μ 1 f ∧ i < f 35 ∧ f 35 ≤ 5 ∧ ∀ ν, RG ν 8 (upF f (7 * i.toNat + t.toNat) v) ∧ rI ν 8 5 = 0 ∧ rI ν 8 6 = 0 ∧ FR 8 μ ν → K [] ν)
  | _ => False
theorem rec_X5_startTrialWith : ∀ a μ K, T5_startTrialWith a μ K → ∃ k r, a = .inr (.inr k) :: r ∧ kd k = 5 := by
  intro a μ K h
  unfold T5_startTrialWith at h
  split at h
  · exact ⟨_, _, rfl, by rw [h.1]; rfl⟩
  · exact h.elim
def GL_X5_startTrialWith : List (Nat × Nat × Bool × TT) := [(144, 1, false, T5_startTrial)]
def G_X5_startTrialWith : Nat → Option (Nat × Bool × TT) := fun i => GL_X5_startTrialWith.lookup i
theorem G_X5_startTrialWith_144 : G_X5_startTrialWith 144 = some (1, false, T5_startTrial) := rfl
theorem gk_X5_startTrialWith (l : Launch) : ∀ i n b T, G_X5_startTrialWith i = some (n, b, T) → CallOK l 3 RX5 i n b T := by
  intro i n b T h
  have hm : (i, n, b, T) ∈ GL_X5_startTrialWith := lk_mem h
  simp only [GL_X5_startTrialWith, List.mem_cons, List.not_mem_nil, or_false, Prod.mk.injEq] at hm
  rcases hm with ⟨rfl, rfl, rfl, rfl⟩
  · exact CallOK.V (d := 3) (own := RX5) (i := 144) (n := 0) (ci := 5) (good_X5_startTrial l) (by decide) (by decide) rfl (by decide) rec_X5_startTrial (mg 406 (by decide +kernel) (by decide +kernel)) (mg 408 (by decide +kernel) (by decide +kernel)) (mgs 13 (by decide +kernel) (by decide +kernel)) (mg 1 (by decide +kernel) (by decide +kernel)) (mg 409 (by decide +kernel) (by decide +kernel)) (by decide +kernel)
set_option maxRecDepth 20000 in
set_option maxHeartbeats 4000000 in
theorem body_X5_startTrialWith (o : Nat) (i : Int) (t : Int) (v : Int) (μ : Mem) (K : List AV → Mem → Prop) (V : Nat → List (Option AV) → List AV → Mem → Prop) (hV : Clos FX5 CX5 G_X5_startTrialWith 0 K cX5_startTrialWith V) (hT : o = 0 ∧ (RP μ 8 ∧ (0 ≤ t ∧ t < 7) ∧ 0 ≤ i ∧ ∃ f, RG μ 1 f ∧ i < f 35 ∧ f 35 ≤ 5 ∧ ∀ ν, RG ν 8 (upF f (7 * i.toNat + t.toNat) v) ∧ rI ν 8 5 = 0 ∧ rI ν 8 6 = 0 ∧ FR 8 μ ν → K [] ν)) : V 0 [some (.inr (.inr o)), some (.inl i), some (.inl t), some (.inl v)] [] μ := by
  obtain ⟨rfl, hP, ht, hi, f, hR, h1, h35, hK⟩ := hT
  obtain ⟨i', rfl⟩ := Int.eq_ofNat_of_zero_le hi
  obtain ⟨t', rfl⟩ := Int.eq_ofNat_of_zero_le ht.1
  obtain ⟨k12, l5, k7⟩ := ringk kd_8
  apply hV [] 60
  simp only [InR, InL, inb, Int.toNat_natCast, wp1, wpc_z, wpc_s, stp_iconst, stp_bipush, stp_sipush, stp_lconst, stp_iload_n, stp_iload, stp_lload_n, stp_lload, stp_aload_n, stp_aload, stp_istore_n, stp_istore, stp_lstore_n, stp_lstore, stp_astore_n, stp_astore, stp_iinc, stp_iadd, stp_isub, stp_imul, stp_ineg, stp_idiv, stp_irem, stp_ladd, stp_lmul, stp_ldiv, stp_lrem, stp_ishl, stp_ishr, stp_iushr, stp_iand, stp_ior, stp_i2l, stp_i2b, stp_i2s, stp_lcmp, stp_dup, stp_dup2, stp_pop, stp_ifCond, stp_if_icmp, stp_goto, stp_tableswitch, stp_lookupswitch, stp_ldc, stp_ldc_w, stp_ldc2_w, stp_getstatic, stp_getfield, stp_putfield, stp_iaload, stp_baload, stp_iastore, stp_bastore, stp_aaload, stp_aastore, stp_invokevirtual, stp_invokestatic, stp_ireturn, stp_lreturn, stp_return_, lg, lset, okl, spl, wd, c1, cnd, tg, swT, swL, f4_0, f4_1, f4_2, f4_3, f2_0, f2_1, List.mem_cons, List.not_mem_nil, List.length_cons, List.length_nil, List.cons_append, List.nil_append, Nat.reduceAdd, Nat.reduceMul, Nat.reduceLT, Nat.reduceEqDiff, Nat.reduceLeDiff, Int.reduceAdd, Int.reduceNeg, Int.reduceToNat, Int.cast_ofNat_Int, Int.reduceNatCast, Int.toNat_zero, Int.toNat_one, Int.reduceLE, Int.reduceLT, Int.reduceEq, Int.zero_add, Int.add_zero, or_false, false_or, or_true, true_or, and_true, true_and, and_false, false_and, reduceIte, not_true_eq_false, not_false_eq_true, forall_const, false_implies, true_implies, implies_true, ne_eq, reduceCtorEq, List.all_cons, List.all_nil, Bool.and_true, Bool.and_self, decide_eq_true_eq, decide_true, dX5_startTrialWith_0, dX5_startTrialWith_1, dX5_startTrialWith_4, dX5_startTrialWith_5, dX5_startTrialWith_8, dX5_startTrialWith_11, dX5_startTrialWith_12, dX5_startTrialWith_13, dX5_startTrialWith_14, dX5_startTrialWith_15, dX5_startTrialWith_16, FX5_16, FX5_115, G_X5_startTrialWith_144, kd_0, kd_1, kd_2, kd_3, kd_4, kd_5, kd_6, kd_7, kd_8, kd_9, kd_10, kd_11, kd_12, kd_13, kd_14, kd_15, kd_16, kd_17, kd_18, kd_19, kd_20, kd_21, kd_22, kd_23, kd_24, kd_25, kd_26, kd_27, kd_28, kd_29, kd_30, kd_31, kd_32, kd_33, kd_34, kd_35, kd_36, kd_37, kd_38, kd_39, kd_40, kd_41, kd_42, kd_43, kd_44, kd_45, kd_46, kd_47, kd_48, kd_49, kd_50, kd_51, kd_52, kd_53, kd_54, kd_55, kd_56, kd_57, kd_58, kd_59, kd_60, kd_61, kd_62, kd_63, kd_64, kd_65, ln_0, ln_1, ln_2, ln_3, ln_4, ln_5, ln_6, ln_7, ln_8, ln_9, ln_10, ln_11, ln_12, ln_13, ln_14, ln_15, ln_16, ln_17, ln_18, ln_19, ln_20, ln_21, ln_22, ln_23, ln_24, ln_25, ln_26, ln_27, ln_28, ln_29, ln_30, ln_31, ln_32, ln_33, ln_34, ln_35, ln_36, ln_37, ln_38, ln_39, ln_40, ln_41, ln_42, ln_43, ln_44, ln_45, ln_46, ln_47, ln_48, ln_49, ln_50, ln_51, ln_52, ln_53, ln_54, ln_55, ln_56, ln_57, ln_58, ln_59, ln_60, ln_61, ln_62, ln_63, ln_64, ln_65, T5_startTrial]
  refine ⟨hP, f, hR, by omega, fun ν hν => ?_⟩
  obtain ⟨a1, a2, a3, a4⟩ := hν
  have hr : 10 ≤ rR ν 9 i' ∧ rR ν 9 i' ≤ 14 := a1.1.1 i' (by omega)
  obtain ⟨c1, c2⟩ := k7 _ hr.1 hr.2
  have ee : el ν 9 i' = rR ν 9 i' := elr (B := 8) k12 i'
  rw [ee]
  simp only [c1, c2]
  simp only [Nat.reduceEqDiff, if_false, true_and]
  refine ⟨by omega, by omega, ?_⟩
  refine hK _ ⟨a1.set h35 (by omega) (by omega) v, ?_, ?_, ?_⟩
  · show rI (wI ν (rR ν 9 i') t' v) 8 5 = 0
    rw [rI_wI, if_neg (by omega)]; exact a2
  · show rI (wI ν (rR ν 9 i') t' v) 8 6 = 0
    rw [rI_wI, if_neg (by omega)]; exact a3
  · refine ⟨fun k hk j => ?_, fun k j => a4.2 k j⟩
    show rI (wI ν (rR ν 9 i') t' v) k j = _
    rw [rI_wI, if_neg (by omega)]
    exact a4.1 k hk j
theorem good_X5_startTrialWith (l : Launch) : Good l 3 yX5_startTrialWith cX5_startTrialWith 4 none T5_startTrialWith := by
  refine Good.mk 0 (by decide) rfl (by simp [retOK]) FOK5 COK5 (gk_X5_startTrialWith l) ?_ ?_
  · intro a μ K h
    unfold T5_startTrialWith at h
    split at h
    · simp [entl]
    · exact h.elim
  · intro a μ K V hV h
    unfold T5_startTrialWith at h
    split at h
    · exact body_X5_startTrialWith _ _ _ _ μ K V hV h
    · exact h.elim

theorem sumF_congr {f f' : Nat → Int} (e : Eq39 f f') {w : Nat} (hw : w < 7) : ∀ n, n ≤ 5 → sumF f w n = sumF f' w n
  | 0, _ => rfl
  | n + 1, hn => by
    simp only [sumF]
    rw [sumF_congr e hw n (by omega), e (7 * n + w) (by omega)]
def runsV (f : Nat → Int) (n : Nat) (w : Int) : Int := if w = 0 then sS yes f n else if w = 1 then nx yes f n 37 - f 37 else if w = 2 then sL yes f n else sumF (nx yes f n) 1 (f 35).toNat
def runsR (f : Nat → Int) (n w : Int) : Int := if (0 ≤ n ∧ n ≤ 200) ∧ 0 ≤ w ∧ w ≤ 3 then runsV f n.toNat w else -1
def T5_runs : TT := fun a μ K => match a with
  | [.inr (.inr o), .inl n, .inl w] => o = 0 ∧ (InR n ∧ InR w ∧ RP μ 8 ∧ ∃ f, RG μ 1 f ∧ WF f ∧ f 38 ≤ 9999 ∧ ∀ ν, FQ μ ν → K [.inl (runsR f n w)] ν)
  | _ => False
theorem rec_X5_runs : ∀ a μ K, T5_runs a μ K → ∃ k r, a = .inr (.inr k) :: r ∧ kd k = 5 := by
  intro a μ K h
  unfold T5_runs at h
  split at h
  · exact ⟨_, _, rfl, by rw [h.1]; rfl⟩
  · exact h.elim
def GL_X5_runs : List (Nat × Nat × Bool × TT) := [(52, 3, true, T5_isOutside), (144, 1, false, T5_startTrial), (147, 2, false, T1_go), (103, 2, false, T1_total)]
def G_X5_runs : Nat → Option (Nat × Bool × TT) := fun i => GL_X5_runs.lookup i
theorem G_X5_runs_52 : G_X5_runs 52 = some (3, true, T5_isOutside) := rfl
theorem G_X5_runs_144 : G_X5_runs 144 = some (1, false, T5_startTrial) := rfl
theorem G_X5_runs_147 : G_X5_runs 147 = some (2, false, T1_go) := rfl
theorem G_X5_runs_103 : G_X5_runs 103 = some (2, false, T1_total) := rfl
theorem gk_X5_runs (l : Launch) : ∀ i n b T, G_X5_runs i = some (n, b, T) → CallOK l 5 RX5 i n b T := by
  intro i n b T h
  have hm : (i, n, b, T) ∈ GL_X5_runs := lk_mem h
  simp only [GL_X5_runs, List.mem_cons, List.not_mem_nil, or_false, Prod.mk.injEq] at hm
  rcases hm with ⟨rfl, rfl, rfl, rfl⟩ | ⟨rfl, rfl, rfl, rfl⟩ | ⟨rfl, rfl, rfl, rfl⟩ | ⟨rfl, rfl, rfl, rfl⟩
  · exact CallOK.S (d := 5) (own := RX5) (i := 52) (n := 3) (good_X5_isOutside l) (by decide) (by decide) (mg 191 (by decide +kernel) (by decide +kernel)) (mg 192 (by decide +kernel) (by decide +kernel)) (mg 1 (by decide +kernel) (by decide +kernel)) (mg 193 (by decide +kernel) (by decide +kernel)) (by decide +kernel)
  · exact CallOK.V (d := 5) (own := RX5) (i := 144) (n := 0) (ci := 5) (good_X5_startTrial l) (by decide) (by decide) rfl (by decide) rec_X5_startTrial (mg 406 (by decide +kernel) (by decide +kernel)) (mg 408 (by decide +kernel) (by decide +kernel)) (mgs 13 (by decide +kernel) (by decide +kernel)) (mg 1 (by decide +kernel) (by decide +kernel)) (mg 409 (by decide +kernel) (by decide +kernel)) (by decide +kernel)
  · exact CallOK.V (d := 5) (own := RX5) (i := 147) (n := 1) (ci := 1) (good_X1_go l) (by decide) (by decide) rfl (by decide) rec_X1_go (mg 410 (by decide +kernel) (by decide +kernel)) (mg 411 (by decide +kernel) (by decide +kernel)) (mg 412 (by decide +kernel) (by decide +kernel)) (mg 2 (by decide +kernel) (by decide +kernel)) (mg 413 (by decide +kernel) (by decide +kernel)) (by decide +kernel)
  · exact CallOK.V (d := 5) (own := RX5) (i := 103) (n := 1) (ci := 1) (good_X1_total l) (by decide) (by decide) rfl (by decide) rec_X1_total (mg 331 (by decide +kernel) (by decide +kernel)) (mg 332 (by decide +kernel) (by decide +kernel)) (mg 333 (by decide +kernel) (by decide +kernel)) (mg 2 (by decide +kernel) (by decide +kernel)) (mg 334 (by decide +kernel) (by decide +kernel)) (by decide +kernel)
set_option maxRecDepth 20000 in
set_option maxHeartbeats 4000000 in
theorem body_X5_runs (o : Nat) (n : Int) (w : Int) (μ : Mem) (K : List AV → Mem → Prop) (V : Nat → List (Option AV) → List AV → Mem → Prop) (hV : Clos FX5 CX5 G_X5_runs 1 K cX5_runs V) (hT : o = 0 ∧ (InR n ∧ InR w ∧ RP μ 8 ∧ ∃ f, RG μ 1 f ∧ WF f ∧ f 38 ≤ 9999 ∧ ∀ ν, FQ μ ν → K [.inl (runsR f n w)] ν)) : V 0 [some (.inr (.inr o)), some (.inl n), some (.inl w)] [] μ := by
  simp only [InR] at hT
  obtain ⟨rfl, hn, hw, hP, f, hR, hW, h38, hK⟩ := hT
  by_cases hc : (0 ≤ n ∧ n ≤ 200) ∧ 0 ≤ w ∧ w ≤ 3
  · apply hV [] 80
    simp only [InR, InL, inb, Int.toNat_natCast, wp1, wpc_z, wpc_s, stp_iconst, stp_bipush, stp_sipush, stp_lconst, stp_iload_n, stp_iload, stp_lload_n, stp_lload, stp_aload_n, stp_aload, stp_istore_n, stp_istore, stp_lstore_n, stp_lstore, stp_astore_n, stp_astore, stp_iinc, stp_iadd, stp_isub, stp_imul, stp_ineg, stp_idiv, stp_irem, stp_ladd, stp_lmul, stp_ldiv, stp_lrem, stp_ishl, stp_ishr, stp_iushr, stp_iand, stp_ior, stp_i2l, stp_i2b, stp_i2s, stp_lcmp, stp_dup, stp_dup2, stp_pop, stp_ifCond, stp_if_icmp, stp_goto, stp_tableswitch, stp_lookupswitch, stp_ldc, stp_ldc_w, stp_ldc2_w, stp_getstatic, stp_getfield, stp_putfield, stp_iaload, stp_baload, stp_iastore, stp_bastore, stp_aaload, stp_aastore, stp_invokevirtual, stp_invokestatic, stp_ireturn, stp_lreturn, stp_return_, lg, lset, okl, spl, wd, c1, cnd, tg, swT, swL, f4_0, f4_1, f4_2, f4_3, f2_0, f2_1, List.mem_cons, List.not_mem_nil, List.length_cons, List.length_nil, List.cons_append, List.nil_append, Nat.reduceAdd, Nat.reduceMul, Nat.reduceLT, Nat.reduceEqDiff, Nat.reduceLeDiff, Int.reduceAdd, Int.reduceNeg, Int.reduceToNat, Int.cast_ofNat_Int, Int.reduceNatCast, Int.toNat_zero, Int.toNat_one, Int.reduceLE, Int.reduceLT, Int.reduceEq, Int.zero_add, Int.add_zero, or_false, false_or, or_true, true_or, and_true, true_and, and_false, false_and, reduceIte, not_true_eq_false, not_false_eq_true, forall_const, false_implies, true_implies, implies_true, ne_eq, reduceCtorEq, List.all_cons, List.all_nil, Bool.and_true, Bool.and_self, decide_eq_true_eq, decide_true, dX5_runs_0, dX5_runs_1, dX5_runs_2, dX5_runs_5, dX5_runs_8, dX5_runs_11, dX5_runs_12, dX5_runs_13, dX5_runs_14, dX5_runs_17, dX5_runs_20, dX5_runs_21, dX5_runs_22, dX5_runs_23, dX5_runs_26, dX5_runs_27, dX5_runs_30, dX5_runs_31, dX5_runs_34, dX5_runs_35, dX5_runs_60, dX5_runs_61, dX5_runs_64, dX5_runs_67, dX5_runs_68, dX5_runs_69, dX5_runs_72, dX5_runs_75, dX5_runs_76, dX5_runs_79, dX5_runs_82, dX5_runs_83, dX5_runs_84, dX5_runs_85, dX5_runs_88, dX5_runs_91, dX5_runs_92, dX5_runs_93, dX5_runs_96, dX5_runs_97, dX5_runs_100, FX5_16, FX5_97, FX5_91, FX5_10, FX5_100, G_X5_runs_52, G_X5_runs_144, G_X5_runs_147, G_X5_runs_103, kd_0, kd_1, kd_2, kd_3, kd_4, kd_5, kd_6, kd_7, kd_8, kd_9, kd_10, kd_11, kd_12, kd_13, kd_14, kd_15, kd_16, kd_17, kd_18, kd_19, kd_20, kd_21, kd_22, kd_23, kd_24, kd_25, kd_26, kd_27, kd_28, kd_29, kd_30, kd_31, kd_32, kd_33, kd_34, kd_35, kd_36, kd_37, kd_38, kd_39, kd_40, kd_41, kd_42, kd_43, kd_44, kd_45, kd_46, kd_47, kd_48, kd_49, kd_50, kd_51, kd_52, kd_53, kd_54, kd_55, kd_56, kd_57, kd_58, kd_59, kd_60, kd_61, kd_62, kd_63, kd_64, kd_65, ln_0, ln_1, ln_2, ln_3, ln_4, ln_5, ln_6, ln_7, ln_8, ln_9, ln_10, ln_11, ln_12, ln_13, ln_14, ln_15, ln_16, ln_17, ln_18, ln_19, ln_20, ln_21, ln_22, ln_23, ln_24, ln_25, ln_26, ln_27, ln_28, ln_29, ln_30, ln_31, ln_32, ln_33, ln_34, ln_35, ln_36, ln_37, ln_38, ln_39, ln_40, ln_41, ln_42, ln_43, ln_44, ln_45, ln_46, ln_47, ln_48, ln_49, ln_50, ln_51, ln_52, ln_53, ln_54, ln_55, ln_56, ln_57, ln_58, ln_59, ln_60, ln_61, ln_62, ln_63, ln_64, ln_65, T5_isOutside, T5_startTrial, T1_go, List.size_toArray, Int.reduceSub]
    have main : RP μ 8 ∧ ∃ f, RG μ 1 f ∧ (0 ≤ f 35 ∧ f 35 ≤ 5) ∧ ∀ ν, RG ν 8 f ∧ rI ν 8 5 = 0 ∧ rI ν 8 6 = 0 ∧ FR 8 μ ν → (0 ≤ n ∧ n ≤ 1000) ∧ ∃ f, RG ν 8 f ∧ WF f ∧ f 38 + n ≤ 20000 ∧ ∀ ρ, GR yes ν ρ 8 f n.toNat → (w = 0 → K [.inl (rI ρ 8 5)] ρ) ∧ (w = 1 → K [.inl (rI ρ 8 3 - rI ρ 1 3)] ρ) ∧ (w = 2 → K [.inl (rI ρ 8 6)] ρ) ∧ (w = 3 → ∃ g, RG ρ 8 g ∧ (0 ≤ g 35 ∧ g 35 ≤ 5) ∧ K [.inl (sumF g 1 (g 35).toNat)] ρ) := by
      refine ⟨hP, f, hR, hW.1, fun ν hν => ⟨by omega, f, hν.1, hW, by omega, fun ρ hρ => ?_⟩⟩
      obtain ⟨a1, a2, a3, a4⟩ := hν
      obtain ⟨b1, b2, b3, b4⟩ := hρ
      have hq : FQ μ ρ := (a4.tr b4).q hP
      have hk := hK ρ hq
      have h1 := hq.ring hR hW.1.2
      unfold runsR at hk
      rw [if_pos hc] at hk
      unfold runsV at hk
      obtain ⟨x1, x2, x3⟩ := nx_WF (p := yes) hW n.toNat
      refine ⟨fun z => ?_, fun z => ?_, fun z => ?_, fun z => ?_⟩
      · rw [if_pos z] at hk; rw [b2, a2, Int.zero_add]; exact hk
      · rw [if_neg (by omega), if_pos z] at hk; rw [b1.2.2.2.1, h1.2.2.2.1]; exact hk
      · rw [if_neg (by omega), if_neg (by omega), if_pos z] at hk; rw [b3, a3, Int.zero_add]; exact hk
      · rw [if_neg (by omega), if_neg (by omega), if_neg (by omega)] at hk
        exact ⟨_, b1, by rw [x3]; exact hW.1, by rw [x3]; exact hk⟩
    simp only [T1_total, kd_8, Int.reduceLE, Int.reduceLT, true_and, Int.toNat_one, and_self]
    obtain ⟨m1, f', m2, m3, m4⟩ := main
    repeat' (first | exact trivial | omega | (with_reducible assumption) | exact absurd trivial (by with_reducible assumption) | contradiction | apply And.intro | intro _)
    refine ⟨f', m2, m3, fun ν hν => ?_⟩
    obtain ⟨n1, g, n2, n3, n4, n5⟩ := m4 ν hν
    refine ⟨by omega, g, n2, n3, n4, fun ρ hρ => ?_⟩
    obtain ⟨o1, o2, o3, o4⟩ := n5 ρ hρ
    repeat' (first | exact trivial | omega | (with_reducible assumption) | exact absurd trivial (by with_reducible assumption) | contradiction | apply And.intro | intro _)
    all_goals first | exact o1 (by omega) | exact o2 (by omega) | exact o3 (by omega) | exact o4 (by omega)
  · have hk := hK μ (FQ.rf hP)
    unfold runsR at hk
    rw [if_neg hc] at hk
    apply hV [22] 80
    simp only [InR, InL, inb, Int.toNat_natCast, wp1, wpc_z, wpc_s, stp_iconst, stp_bipush, stp_sipush, stp_lconst, stp_iload_n, stp_iload, stp_lload_n, stp_lload, stp_aload_n, stp_aload, stp_istore_n, stp_istore, stp_lstore_n, stp_lstore, stp_astore_n, stp_astore, stp_iinc, stp_iadd, stp_isub, stp_imul, stp_ineg, stp_idiv, stp_irem, stp_ladd, stp_lmul, stp_ldiv, stp_lrem, stp_ishl, stp_ishr, stp_iushr, stp_iand, stp_ior, stp_i2l, stp_i2b, stp_i2s, stp_lcmp, stp_dup, stp_dup2, stp_pop, stp_ifCond, stp_if_icmp, stp_goto, stp_tableswitch, stp_lookupswitch, stp_ldc, stp_ldc_w, stp_ldc2_w, stp_getstatic, stp_getfield, stp_putfield, stp_iaload, stp_baload, stp_iastore, stp_bastore, stp_aaload, stp_aastore, stp_invokevirtual, stp_invokestatic, stp_ireturn, stp_lreturn, stp_return_, lg, lset, okl, spl, wd, c1, cnd, tg, swT, swL, f4_0, f4_1, f4_2, f4_3, f2_0, f2_1, List.mem_cons, List.not_mem_nil, List.length_cons, List.length_nil, List.cons_append, List.nil_append, Nat.reduceAdd, Nat.reduceMul, Nat.reduceLT, Nat.reduceEqDiff, Nat.reduceLeDiff, Int.reduceAdd, Int.reduceNeg, Int.reduceToNat, Int.cast_ofNat_Int, Int.reduceNatCast, Int.toNat_zero, Int.toNat_one, Int.reduceLE, Int.reduceLT, Int.reduceEq, Int.zero_add, Int.add_zero, or_false, false_or, or_true, true_or, and_true, true_and, and_false, false_and, reduceIte, not_true_eq_false, not_false_eq_true, forall_const, false_implies, true_implies, implies_true, ne_eq, reduceCtorEq, List.all_cons, List.all_nil, Bool.and_true, Bool.and_self, decide_eq_true_eq, decide_true, dX5_runs_0, dX5_runs_1, dX5_runs_2, dX5_runs_5, dX5_runs_8, dX5_runs_11, dX5_runs_12, dX5_runs_13, dX5_runs_14, dX5_runs_17, dX5_runs_20, dX5_runs_21, dX5_runs_22, dX5_runs_23, dX5_runs_26, dX5_runs_27, dX5_runs_30, dX5_runs_31, dX5_runs_34, dX5_runs_35, dX5_runs_60, dX5_runs_61, dX5_runs_64, dX5_runs_67, dX5_runs_68, dX5_runs_69, dX5_runs_72, dX5_runs_75, dX5_runs_76, dX5_runs_79, dX5_runs_82, dX5_runs_83, dX5_runs_84, dX5_runs_85, dX5_runs_88, dX5_runs_91, dX5_runs_92, dX5_runs_93, dX5_runs_96, dX5_runs_97, dX5_runs_100, FX5_16, FX5_97, FX5_91, FX5_10, FX5_100, G_X5_runs_52, G_X5_runs_144, G_X5_runs_147, G_X5_runs_103, T5_isOutside]
    repeat' (first | exact trivial | omega | (with_reducible assumption) | exact absurd trivial (by with_reducible assumption) | contradiction | apply And.intro | intro _)
theorem good_X5_runs (l : Launch) : Good l 5 yX5_runs cX5_runs 3 (some .int) T5_runs := by
  refine Good.mk 1 (by decide) rfl (by simp [retOK]) FOK5 COK5 (gk_X5_runs l) ?_ ?_
  · intro a μ K h
    unfold T5_runs at h
    split at h
    · simp [entl]
    · exact h.elim
  · intro a μ K V hV h
    unfold T5_runs at h
    split at h
    · exact body_X5_runs _ _ _ μ K V hV h
    · exact h.elim

/-- the longest QUEUE -/
def lgst (f : Nat → Int) (i : Nat) : Nat → Int
  | 0 => f (7 * i + 1)
  | n + 1 => max (lgst f i n) (nx yes f (n + 1) (7 * i + 1))
def aheadR (f : Nat → Int) (i n w : Int) : Int := if (0 ≤ i ∧ i < f 35) ∧ (0 ≤ n ∧ n ≤ 200) ∧ 0 ≤ w ∧ w ≤ 2 then (if w = 0 then nx yes f n.toNat (7 * i.toNat + 1) else if w = 1 then nx yes f n.toNat (7 * i.toNat + 5) - f (7 * i.toNat + 5) else lgst f i.toNat n.toNat) else -1
theorem q_in {f : Nat → Int} (h : WF f) {i : Nat} (hi : (i : Int) < f 35) (n : Nat) : 0 ≤ nx yes f n (7 * i + 1) ∧ nx yes f n (7 * i + 1) ≤ 99 := by
  obtain ⟨x1, x2, x3⟩ := nx_WF (p := yes) h n
  exact (x1.2.2.2 i (by rw [x3]; exact hi)).2.1
theorem lgst_in {f : Nat → Int} (h : WF f) {i : Nat} (hi : (i : Int) < f 35) : ∀ n, 0 ≤ lgst f i n ∧ lgst f i n ≤ 99
  | 0 => q_in h hi 0
  | n + 1 => by
    have h1 := lgst_in h hi n
    have h2 := q_in h hi (n + 1)
    simp only [lgst]
    omega
def GL_X5_ahead : List (Nat × Nat × Bool × TT) := [(111, 2, false, T1_has), (52, 3, true, T5_isOutside), (144, 1, false, T5_startTrial), (140, 2, false, T1_visit), (151, 2, true, T_max)]
def G_X5_ahead : Nat → Option (Nat × Bool × TT) := fun i => GL_X5_ahead.lookup i
theorem G_X5_ahead_111 : G_X5_ahead 111 = some (2, false, T1_has) := rfl
theorem G_X5_ahead_52 : G_X5_ahead 52 = some (3, true, T5_isOutside) := rfl
theorem G_X5_ahead_144 : G_X5_ahead 144 = some (1, false, T5_startTrial) := rfl
theorem G_X5_ahead_140 : G_X5_ahead 140 = some (2, false, T1_visit) := rfl
theorem G_X5_ahead_151 : G_X5_ahead 151 = some (2, true, T_max) := rfl

set_option maxRecDepth 20000 in
set_option maxHeartbeats 4000000 in
theorem lp_ahead (V : Nat → List (Option AV) → List AV → Mem → Prop) (K : List AV → Mem → Prop) (hV : Clos FX5 CX5 G_X5_ahead 1 K cX5_ahead V) (μ : Mem) (f : Nat → Int) (hW : WF f) (h38 : f 38 ≤ 9999) (i : Nat) (hi : (i : Int) < f 35) (e : Nat) (he : e ≤ 200) (w : Int) (hw : 0 ≤ w ∧ w ≤ 2) (hR1 : RG μ 1 f) (hK : ∀ ν, GR yes μ ν 8 f e → K [.inl (if w = 0 then nx yes f e (7 * i + 1) else if w = 1 then nx yes f e (7 * i + 5) - f (7 * i + 5) else lgst f i e)] ν) : ∀ m n : Nat, n + m = e → ∀ ν, GR yes μ ν 8 f n → V 57 [some (.inr (.inr 0)), some (.inl (i : Int)), some (.inl (e : Int)), some (.inl w), some (.inr (.inr (rR μ 9 i))), some (.inl (lgst f i n)), some (.inl (n : Int))] [] ν := by
  obtain ⟨k12, l5, k7⟩ := ringk kd_8
  obtain ⟨k12', l5', k7'⟩ := ringk kd_1
  intro m
  induction m with
  | zero =>
    intro n hn ν hG
    have en : e = n := by omega
    subst en
    have hk := hK ν hG
    obtain ⟨b1, b2, b3, b4⟩ := hG
    obtain ⟨x1, x2, x3⟩ := nx_WF (p := yes) hW e
    have e9 : rR ν 9 i = rR μ 9 i := b4.2 9 i
    have h1 := hW.1
    have hr : 10 ≤ rR μ 9 i ∧ rR μ 9 i ≤ 14 := by rw [← e9]; exact b1.1.1 i (by omega)
    obtain ⟨c1, c2⟩ := k7 _ hr.1 hr.2
    have hr' : 3 ≤ rR ν 2 i ∧ rR ν 2 i ≤ 7 := by rw [b4.2 2 i]; exact hR1.1.1 i (by omega)
    obtain ⟨d1, d2⟩ := k7' _ hr'.1 hr'.2
    have v1 : rI ν (rR μ 9 i) 1 = nx yes f e (7 * i + 1) := by rw [← e9]; exact b1.row (by rw [x3]; exact hi) (by omega)
    have v5 : rI ν (rR μ 9 i) 5 = nx yes f e (7 * i + 5) := by rw [← e9]; exact b1.row (by rw [x3]; exact hi) (by omega)
    have v5' : rI ν (rR ν 2 i) 5 = f (7 * i + 5) := by
      rw [b4.1 _ (by omega), b4.2 2 i]
      exact hR1.row hi (by omega)
    have e2 : el ν 2 i = rR ν 2 i := elr (B := 1) k12' i
    apply hV [57] 60
    simp only [InR, InL, inb, Int.toNat_natCast, wp1, wpc_z, wpc_s, stp_iconst, stp_bipush, stp_sipush, stp_lconst, stp_iload_n, stp_iload, stp_lload_n, stp_lload, stp_aload_n, stp_aload, stp_istore_n, stp_istore, stp_lstore_n, stp_lstore, stp_astore_n, stp_astore, stp_iinc, stp_iadd, stp_isub, stp_imul, stp_ineg, stp_idiv, stp_irem, stp_ladd, stp_lmul, stp_ldiv, stp_lrem, stp_ishl, stp_ishr, stp_iushr, stp_iand, stp_ior, stp_i2l, stp_i2b, stp_i2s, stp_lcmp, stp_dup, stp_dup2, stp_pop, stp_ifCond, stp_if_icmp, stp_goto, stp_tableswitch, stp_lookupswitch, stp_ldc, stp_ldc_w, stp_ldc2_w, stp_getstatic, stp_getfield, stp_putfield, stp_iaload, stp_baload, stp_iastore, stp_bastore, stp_aaload, stp_aastore, stp_invokevirtual, stp_invokestatic, stp_ireturn, stp_lreturn, stp_return_, lg, lset, okl, spl, wd, c1, cnd, tg, swT, swL, f4_0, f4_1, f4_2, f4_3, f2_0, f2_1, List.mem_cons, List.not_mem_nil, List.length_cons, List.length_nil, List.cons_append, List.nil_append, Nat.reduceAdd, Nat.reduceMul, Nat.reduceLT, Nat.reduceEqDiff, Nat.reduceLeDiff, Int.reduceAdd, Int.reduceNeg, Int.reduceToNat, Int.cast_ofNat_Int, Int.reduceNatCast, Int.toNat_zero, Int.toNat_one, Int.reduceLE, Int.reduceLT, Int.reduceEq, Int.zero_add, Int.add_zero, or_false, false_or, or_true, true_or, and_true, true_and, and_false, false_and, reduceIte, not_true_eq_false, not_false_eq_true, forall_const, false_implies, true_implies, implies_true, ne_eq, reduceCtorEq, List.all_cons, List.all_nil, Bool.and_true, Bool.and_self, decide_eq_true_eq, decide_true, dX5_ahead_0, dX5_ahead_1, dX5_ahead_4, dX5_ahead_5, dX5_ahead_8, dX5_ahead_11, dX5_ahead_12, dX5_ahead_13, dX5_ahead_16, dX5_ahead_19, dX5_ahead_22, dX5_ahead_23, dX5_ahead_24, dX5_ahead_25, dX5_ahead_28, dX5_ahead_31, dX5_ahead_32, dX5_ahead_33, dX5_ahead_34, dX5_ahead_37, dX5_ahead_38, dX5_ahead_41, dX5_ahead_44, dX5_ahead_45, dX5_ahead_46, dX5_ahead_48, dX5_ahead_50, dX5_ahead_51, dX5_ahead_52, dX5_ahead_54, dX5_ahead_55, dX5_ahead_57, dX5_ahead_59, dX5_ahead_60, dX5_ahead_63, dX5_ahead_64, dX5_ahead_67, dX5_ahead_68, dX5_ahead_71, dX5_ahead_72, dX5_ahead_74, dX5_ahead_76, dX5_ahead_77, dX5_ahead_78, dX5_ahead_81, dX5_ahead_83, dX5_ahead_86, dX5_ahead_89, dX5_ahead_90, dX5_ahead_116, dX5_ahead_118, dX5_ahead_119, dX5_ahead_120, dX5_ahead_121, dX5_ahead_123, dX5_ahead_124, dX5_ahead_125, dX5_ahead_126, dX5_ahead_129, dX5_ahead_132, dX5_ahead_133, dX5_ahead_134, dX5_ahead_135, dX5_ahead_136, dX5_ahead_137, dX5_ahead_138, dX5_ahead_140, FX5_10, FX5_16, FX5_115, G_X5_ahead_111, G_X5_ahead_52, G_X5_ahead_144, G_X5_ahead_140, G_X5_ahead_151, kd_0, kd_1, kd_2, kd_3, kd_4, kd_5, kd_6, kd_7, kd_8, kd_9, kd_10, kd_11, kd_12, kd_13, kd_14, kd_15, kd_16, kd_17, kd_18, kd_19, kd_20, kd_21, kd_22, kd_23, kd_24, kd_25, kd_26, kd_27, kd_28, kd_29, kd_30, kd_31, kd_32, kd_33, kd_34, kd_35, kd_36, kd_37, kd_38, kd_39, kd_40, kd_41, kd_42, kd_43, kd_44, kd_45, kd_46, kd_47, kd_48, kd_49, kd_50, kd_51, kd_52, kd_53, kd_54, kd_55, kd_56, kd_57, kd_58, kd_59, kd_60, kd_61, kd_62, kd_63, kd_64, kd_65, ln_0, ln_1, ln_2, ln_3, ln_4, ln_5, ln_6, ln_7, ln_8, ln_9, ln_10, ln_11, ln_12, ln_13, ln_14, ln_15, ln_16, ln_17, ln_18, ln_19, ln_20, ln_21, ln_22, ln_23, ln_24, ln_25, ln_26, ln_27, ln_28, ln_29, ln_30, ln_31, ln_32, ln_33, ln_34, ln_35, ln_36, ln_37, ln_38, ln_39, ln_40, ln_41, ln_42, ln_43, ln_44, ln_45, ln_46, ln_47, ln_48, ln_49, ln_50, ln_51, ln_52, ln_53, ln_54, ln_55, ln_56, ln_57, ln_58, ln_59, ln_60, ln_61, ln_62, ln_63, ln_64, ln_65, c1, c2, d1, d2, v1, v5, v5', e2, List.zip_cons_cons, List.zip_nil_right, List.drop_succ_cons, List.drop_zero]
    by_cases w0 : w = 0
    · rw [if_pos w0] at hk
      repeat' (first | exact trivial | omega | (with_reducible assumption) | exact absurd trivial (by with_reducible assumption) | contradiction | apply And.intro | intro _)
    · rw [if_neg w0] at hk
      by_cases w1 : w = 1
      · rw [if_pos w1] at hk
        repeat' (first | exact trivial | omega | (with_reducible assumption) | exact absurd trivial (by with_reducible assumption) | contradiction | apply And.intro | intro _)
      · rw [if_neg w1] at hk
        repeat' (first | exact trivial | omega | (with_reducible assumption) | exact absurd trivial (by with_reducible assumption) | contradiction | apply And.intro | intro _)
  | succ m ih =>
    intro n hn ν hG
    obtain ⟨x1, x2, x3⟩ := nx_WF (p := yes) hW n
    obtain ⟨y1, y2, y3⟩ := nx_WF (p := yes) hW (n + 1)
    have h1 := hW.1
    have hl := lgst_in hW hi n
    have hq := q_in hW hi (n + 1)
    have h9 : rR ν 9 i = rR μ 9 i := hG.2.2.2.2 9 i
    have hr : 10 ≤ rR μ 9 i ∧ rR μ 9 i ≤ 14 := by rw [← h9]; exact hG.1.1.1 i (by omega)
    obtain ⟨c1, c2⟩ := k7 _ hr.1 hr.2
    apply hV [57] 60
    simp only [InR, InL, inb, Int.toNat_natCast, wp1, wpc_z, wpc_s, stp_iconst, stp_bipush, stp_sipush, stp_lconst, stp_iload_n, stp_iload, stp_lload_n, stp_lload, stp_aload_n, stp_aload, stp_istore_n, stp_istore, stp_lstore_n, stp_lstore, stp_astore_n, stp_astore, stp_iinc, stp_iadd, stp_isub, stp_imul, stp_ineg, stp_idiv, stp_irem, stp_ladd, stp_lmul, stp_ldiv, stp_lrem, stp_ishl, stp_ishr, stp_iushr, stp_iand, stp_ior, stp_i2l, stp_i2b, stp_i2s, stp_lcmp, stp_dup, stp_dup2, stp_pop, stp_ifCond, stp_if_icmp, stp_goto, stp_tableswitch, stp_lookupswitch, stp_ldc, stp_ldc_w, stp_ldc2_w, stp_getstatic, stp_getfield, stp_putfield, stp_iaload, stp_baload, stp_iastore, stp_bastore, stp_aaload, stp_aastore, stp_invokevirtual, stp_invokestatic, stp_ireturn, stp_lreturn, stp_return_, lg, lset, okl, spl, wd, c1, cnd, tg, swT, swL, f4_0, f4_1, f4_2, f4_3, f2_0, f2_1, List.mem_cons, List.not_mem_nil, List.length_cons, List.length_nil, List.cons_append, List.nil_append, Nat.reduceAdd, Nat.reduceMul, Nat.reduceLT, Nat.reduceEqDiff, Nat.reduceLeDiff, Int.reduceAdd, Int.reduceNeg, Int.reduceToNat, Int.cast_ofNat_Int, Int.reduceNatCast, Int.toNat_zero, Int.toNat_one, Int.reduceLE, Int.reduceLT, Int.reduceEq, Int.zero_add, Int.add_zero, or_false, false_or, or_true, true_or, and_true, true_and, and_false, false_and, reduceIte, not_true_eq_false, not_false_eq_true, forall_const, false_implies, true_implies, implies_true, ne_eq, reduceCtorEq, List.all_cons, List.all_nil, Bool.and_true, Bool.and_self, decide_eq_true_eq, decide_true, dX5_ahead_0, dX5_ahead_1, dX5_ahead_4, dX5_ahead_5, dX5_ahead_8, dX5_ahead_11, dX5_ahead_12, dX5_ahead_13, dX5_ahead_16, dX5_ahead_19, dX5_ahead_22, dX5_ahead_23, dX5_ahead_24, dX5_ahead_25, dX5_ahead_28, dX5_ahead_31, dX5_ahead_32, dX5_ahead_33, dX5_ahead_34, dX5_ahead_37, dX5_ahead_38, dX5_ahead_41, dX5_ahead_44, dX5_ahead_45, dX5_ahead_46, dX5_ahead_48, dX5_ahead_50, dX5_ahead_51, dX5_ahead_52, dX5_ahead_54, dX5_ahead_55, dX5_ahead_57, dX5_ahead_59, dX5_ahead_60, dX5_ahead_63, dX5_ahead_64, dX5_ahead_67, dX5_ahead_68, dX5_ahead_71, dX5_ahead_72, dX5_ahead_74, dX5_ahead_76, dX5_ahead_77, dX5_ahead_78, dX5_ahead_81, dX5_ahead_83, dX5_ahead_86, dX5_ahead_89, dX5_ahead_90, dX5_ahead_116, dX5_ahead_118, dX5_ahead_119, dX5_ahead_120, dX5_ahead_121, dX5_ahead_123, dX5_ahead_124, dX5_ahead_125, dX5_ahead_126, dX5_ahead_129, dX5_ahead_132, dX5_ahead_133, dX5_ahead_134, dX5_ahead_135, dX5_ahead_136, dX5_ahead_137, dX5_ahead_138, dX5_ahead_140, FX5_10, FX5_16, FX5_115, G_X5_ahead_111, G_X5_ahead_52, G_X5_ahead_144, G_X5_ahead_140, G_X5_ahead_151, kd_0, kd_1, kd_2, kd_3, kd_4, kd_5, kd_6, kd_7, kd_8, kd_9, kd_10, kd_11, kd_12, kd_13, kd_14, kd_15, kd_16, kd_17, kd_18, kd_19, kd_20, kd_21, kd_22, kd_23, kd_24, kd_25, kd_26, kd_27, kd_28, kd_29, kd_30, kd_31, kd_32, kd_33, kd_34, kd_35, kd_36, kd_37, kd_38, kd_39, kd_40, kd_41, kd_42, kd_43, kd_44, kd_45, kd_46, kd_47, kd_48, kd_49, kd_50, kd_51, kd_52, kd_53, kd_54, kd_55, kd_56, kd_57, kd_58, kd_59, kd_60, kd_61, kd_62, kd_63, kd_64, kd_65, ln_0, ln_1, ln_2, ln_3, ln_4, ln_5, ln_6, ln_7, ln_8, ln_9, ln_10, ln_11, ln_12, ln_13, ln_14, ln_15, ln_16, ln_17, ln_18, ln_19, ln_20, ln_21, ln_22, ln_23, ln_24, ln_25, ln_26, ln_27, ln_28, ln_29, ln_30, ln_31, ln_32, ln_33, ln_34, ln_35, ln_36, ln_37, ln_38, ln_39, ln_40, ln_41, ln_42, ln_43, ln_44, ln_45, ln_46, ln_47, ln_48, ln_49, ln_50, ln_51, ln_52, ln_53, ln_54, ln_55, ln_56, ln_57, ln_58, ln_59, ln_60, ln_61, ln_62, ln_63, ln_64, ln_65, c1, c2, T1_visit, T_max]
    repeat' (first | exact trivial | omega | (with_reducible assumption) | exact absurd trivial (by with_reducible assumption) | contradiction | apply And.intro | intro _)
    refine ⟨nx yes f n, true, hG.1, x1, by omega, by simp, fun ρ hρ => ?_⟩
    have hG2 := hG.st hρ
    have e9 : rR ρ 9 i = rR μ 9 i := hG2.2.2.2.2 9 i
    have v1 : rI ρ (rR μ 9 i) 1 = nx yes f (n + 1) (7 * i + 1) := by rw [← e9]; exact hG2.1.row (by rw [y3]; exact hi) (by omega)
    have h := ih (n + 1) (by omega) ρ hG2
    simp only [lgst] at h
    rw [show ((n + 1 : Nat) : Int) = (n : Int) + 1 by omega] at h
    rw [v1]
    repeat' (first | exact trivial | omega | (with_reducible assumption) | exact absurd trivial (by with_reducible assumption) | contradiction | apply And.intro | intro _)
def T5_ahead : TT := fun a μ K => match a with
  | [.inr (.inr o), .inl i, .inl n, .inl w] => o = 0 ∧ (InR i ∧ InR n ∧ InR w ∧ RP μ 8 ∧ ∃ f, RG μ 1 f ∧ WF f ∧ f 38 ≤ 9999 ∧ ∀ ν, FQ μ ν → K [.inl (aheadR f i n w)] ν)
  | _ => False
theorem rec_X5_ahead : ∀ a μ K, T5_ahead a μ K → ∃ k r, a = .inr (.inr k) :: r ∧ kd k = 5 := by
  intro a μ K h
  unfold T5_ahead at h
  split at h
  · exact ⟨_, _, rfl, by rw [h.1]; rfl⟩
  · exact h.elim
theorem gk_X5_ahead (l : Launch) : ∀ i n b T, G_X5_ahead i = some (n, b, T) → CallOK l 4 RX5 i n b T := by
  intro i n b T h
  have hm : (i, n, b, T) ∈ GL_X5_ahead := lk_mem h
  simp only [GL_X5_ahead, List.mem_cons, List.not_mem_nil, or_false, Prod.mk.injEq] at hm
  rcases hm with ⟨rfl, rfl, rfl, rfl⟩ | ⟨rfl, rfl, rfl, rfl⟩ | ⟨rfl, rfl, rfl, rfl⟩ | ⟨rfl, rfl, rfl, rfl⟩ | ⟨rfl, rfl, rfl, rfl⟩
  · exact CallOK.V (d := 4) (own := RX5) (i := 111) (n := 1) (ci := 1) (good_X1_has l) (by decide) (by decide) rfl (by decide) rec_X1_has (mg 351 (by decide +kernel) (by decide +kernel)) (mg 313 (by decide +kernel) (by decide +kernel)) (mg 314 (by decide +kernel) (by decide +kernel)) (mg 2 (by decide +kernel) (by decide +kernel)) (mg 315 (by decide +kernel) (by decide +kernel)) (by decide +kernel)
  · exact CallOK.S (d := 4) (own := RX5) (i := 52) (n := 3) (good_X5_isOutside l) (by decide) (by decide) (mg 191 (by decide +kernel) (by decide +kernel)) (mg 192 (by decide +kernel) (by decide +kernel)) (mg 1 (by decide +kernel) (by decide +kernel)) (mg 193 (by decide +kernel) (by decide +kernel)) (by decide +kernel)
  · exact CallOK.V (d := 4) (own := RX5) (i := 144) (n := 0) (ci := 5) (good_X5_startTrial l) (by decide) (by decide) rfl (by decide) rec_X5_startTrial (mg 406 (by decide +kernel) (by decide +kernel)) (mg 408 (by decide +kernel) (by decide +kernel)) (mgs 13 (by decide +kernel) (by decide +kernel)) (mg 1 (by decide +kernel) (by decide +kernel)) (mg 409 (by decide +kernel) (by decide +kernel)) (by decide +kernel)
  · exact CallOK.V (d := 4) (own := RX5) (i := 140) (n := 1) (ci := 1) (good_X1_visit l) (by decide) (by decide) rfl (by decide) rec_X1_visit (mg 392 (by decide +kernel) (by decide +kernel)) (mg 393 (by decide +kernel) (by decide +kernel)) (mg 394 (by decide +kernel) (by decide +kernel)) (mg 2 (by decide +kernel) (by decide +kernel)) (mg 395 (by decide +kernel) (by decide +kernel)) (by decide +kernel)
  · exact CallOK.max (d := 4) (own := RX5) (i := 151) (by decide) (mg 419 (by decide +kernel) (by decide +kernel)) (mg 420 (by decide +kernel) (by decide +kernel)) (mg 13 (by decide +kernel) (by decide +kernel)) (mg 421 (by decide +kernel) (by decide +kernel))
set_option maxRecDepth 20000 in
set_option maxHeartbeats 4000000 in
theorem body_X5_ahead (o : Nat) (i : Int) (n : Int) (w : Int) (μ : Mem) (K : List AV → Mem → Prop) (V : Nat → List (Option AV) → List AV → Mem → Prop) (hV : Clos FX5 CX5 G_X5_ahead 1 K cX5_ahead V) (hT : o = 0 ∧ (InR i ∧ InR n ∧ InR w ∧ RP μ 8 ∧ ∃ f, RG μ 1 f ∧ WF f ∧ f 38 ≤ 9999 ∧ ∀ ν, FQ μ ν → K [.inl (aheadR f i n w)] ν)) : V 0 [some (.inr (.inr o)), some (.inl i), some (.inl n), some (.inl w), none, none, none] [] μ := by
  simp only [InR] at hT
  obtain ⟨rfl, hi, hn, hw, hP, f, hR, hW, h38, hK⟩ := hT
  have h35 := hW.1
  have r35 := hR.2.1
  by_cases hc : (0 ≤ i ∧ i < f 35) ∧ (0 ≤ n ∧ n ≤ 200) ∧ 0 ≤ w ∧ w ≤ 2
  · obtain ⟨i', rfl⟩ := Int.eq_ofNat_of_zero_le hc.1.1
    obtain ⟨n', rfl⟩ := Int.eq_ofNat_of_zero_le hc.2.1.1
    obtain ⟨k12, l5, k7⟩ := ringk kd_8
    apply hV [57] 80
    simp only [InR, InL, inb, Int.toNat_natCast, wp1, wpc_z, wpc_s, stp_iconst, stp_bipush, stp_sipush, stp_lconst, stp_iload_n, stp_iload, stp_lload_n, stp_lload, stp_aload_n, stp_aload, stp_istore_n, stp_istore, stp_lstore_n, stp_lstore, stp_astore_n, stp_astore, stp_iinc, stp_iadd, stp_isub, stp_imul, stp_ineg, stp_idiv, stp_irem, stp_ladd, stp_lmul, stp_ldiv, stp_lrem, stp_ishl, stp_ishr, stp_iushr, stp_iand, stp_ior, stp_i2l, stp_i2b, stp_i2s, stp_lcmp, stp_dup, stp_dup2, stp_pop, stp_ifCond, stp_if_icmp, stp_goto, stp_tableswitch, stp_lookupswitch, stp_ldc, stp_ldc_w, stp_ldc2_w, stp_getstatic, stp_getfield, stp_putfield, stp_iaload, stp_baload, stp_iastore, stp_bastore, stp_aaload, stp_aastore, stp_invokevirtual, stp_invokestatic, stp_ireturn, stp_lreturn, stp_return_, lg, lset, okl, spl, wd, c1, cnd, tg, swT, swL, f4_0, f4_1, f4_2, f4_3, f2_0, f2_1, List.mem_cons, List.not_mem_nil, List.length_cons, List.length_nil, List.cons_append, List.nil_append, Nat.reduceAdd, Nat.reduceMul, Nat.reduceLT, Nat.reduceEqDiff, Nat.reduceLeDiff, Int.reduceAdd, Int.reduceNeg, Int.reduceToNat, Int.cast_ofNat_Int, Int.reduceNatCast, Int.toNat_zero, Int.toNat_one, Int.reduceLE, Int.reduceLT, Int.reduceEq, Int.zero_add, Int.add_zero, or_false, false_or, or_true, true_or, and_true, true_and, and_false, false_and, reduceIte, not_true_eq_false, not_false_eq_true, forall_const, false_implies, true_implies, implies_true, ne_eq, reduceCtorEq, List.all_cons, List.all_nil, Bool.and_true, Bool.and_self, decide_eq_true_eq, decide_true, dX5_ahead_0, dX5_ahead_1, dX5_ahead_4, dX5_ahead_5, dX5_ahead_8, dX5_ahead_11, dX5_ahead_12, dX5_ahead_13, dX5_ahead_16, dX5_ahead_19, dX5_ahead_22, dX5_ahead_23, dX5_ahead_24, dX5_ahead_25, dX5_ahead_28, dX5_ahead_31, dX5_ahead_32, dX5_ahead_33, dX5_ahead_34, dX5_ahead_37, dX5_ahead_38, dX5_ahead_41, dX5_ahead_44, dX5_ahead_45, dX5_ahead_46, dX5_ahead_48, dX5_ahead_50, dX5_ahead_51, dX5_ahead_52, dX5_ahead_54, dX5_ahead_55, dX5_ahead_57, dX5_ahead_59, dX5_ahead_60, dX5_ahead_63, dX5_ahead_64, dX5_ahead_67, dX5_ahead_68, dX5_ahead_71, dX5_ahead_72, dX5_ahead_74, dX5_ahead_76, dX5_ahead_77, dX5_ahead_78, dX5_ahead_81, dX5_ahead_83, dX5_ahead_86, dX5_ahead_89, dX5_ahead_90, dX5_ahead_116, dX5_ahead_118, dX5_ahead_119, dX5_ahead_120, dX5_ahead_121, dX5_ahead_123, dX5_ahead_124, dX5_ahead_125, dX5_ahead_126, dX5_ahead_129, dX5_ahead_132, dX5_ahead_133, dX5_ahead_134, dX5_ahead_135, dX5_ahead_136, dX5_ahead_137, dX5_ahead_138, dX5_ahead_140, FX5_10, FX5_16, FX5_115, G_X5_ahead_111, G_X5_ahead_52, G_X5_ahead_144, G_X5_ahead_140, G_X5_ahead_151, kd_0, kd_1, kd_2, kd_3, kd_4, kd_5, kd_6, kd_7, kd_8, kd_9, kd_10, kd_11, kd_12, kd_13, kd_14, kd_15, kd_16, kd_17, kd_18, kd_19, kd_20, kd_21, kd_22, kd_23, kd_24, kd_25, kd_26, kd_27, kd_28, kd_29, kd_30, kd_31, kd_32, kd_33, kd_34, kd_35, kd_36, kd_37, kd_38, kd_39, kd_40, kd_41, kd_42, kd_43, kd_44, kd_45, kd_46, kd_47, kd_48, kd_49, kd_50, kd_51, kd_52, kd_53, kd_54, kd_55, kd_56, kd_57, kd_58, kd_59, kd_60, kd_61, kd_62, kd_63, kd_64, kd_65, ln_0, ln_1, ln_2, ln_3, ln_4, ln_5, ln_6, ln_7, ln_8, ln_9, ln_10, ln_11, ln_12, ln_13, ln_14, ln_15, ln_16, ln_17, ln_18, ln_19, ln_20, ln_21, ln_22, ln_23, ln_24, ln_25, ln_26, ln_27, ln_28, ln_29, ln_30, ln_31, ln_32, ln_33, ln_34, ln_35, ln_36, ln_37, ln_38, ln_39, ln_40, ln_41, ln_42, ln_43, ln_44, ln_45, ln_46, ln_47, ln_48, ln_49, ln_50, ln_51, ln_52, ln_53, ln_54, ln_55, ln_56, ln_57, ln_58, ln_59, ln_60, ln_61, ln_62, ln_63, ln_64, ln_65, T1_has, T5_isOutside, T5_startTrial, r35]
    repeat' (first | exact trivial | omega | (with_reducible assumption) | exact absurd trivial (by with_reducible assumption) | contradiction | apply And.intro | intro _)
    refine ⟨f, hR, h35, fun ν hν => ?_⟩
    obtain ⟨a1, a2, a3, a4⟩ := hν
    have hr : 10 ≤ rR ν 9 i' ∧ rR ν 9 i' ≤ 14 := a1.1.1 i' (by omega)
    obtain ⟨c1, c2⟩ := k7 _ hr.1 hr.2
    have ee : el ν 9 i' = rR ν 9 i' := elr (B := 8) k12 i'
    have v1 : rI ν (rR ν 9 i') 1 = f (7 * i' + 1) := a1.row (by omega) (by omega)
    have hR1 := (a4.q hP).ring hR h35.2
    have h := lp_ahead V K hV ν f hW h38 i' (by omega) n' (by omega) w (by omega) hR1 (fun ρ hρ => by
      have hk := hK ρ ((a4.tr hρ.2.2.2).q hP)
      unfold aheadR at hk
      rw [if_pos hc, Int.toNat_natCast, Int.toNat_natCast] at hk
      exact hk) n' 0 (by omega) ν (GR.rf a1)
    rw [ee]
    simp only [c1, c2, v1, Nat.reduceEqDiff, if_false, true_and]
    simp only [lgst] at h
    repeat' (first | exact trivial | omega | (with_reducible assumption) | exact absurd trivial (by with_reducible assumption) | contradiction | apply And.intro | intro _)
  · have hk := hK μ (FQ.rf hP)
    unfold aheadR at hk
    rw [if_neg hc] at hk
    apply hV [33] 80
    simp only [InR, InL, inb, Int.toNat_natCast, wp1, wpc_z, wpc_s, stp_iconst, stp_bipush, stp_sipush, stp_lconst, stp_iload_n, stp_iload, stp_lload_n, stp_lload, stp_aload_n, stp_aload, stp_istore_n, stp_istore, stp_lstore_n, stp_lstore, stp_astore_n, stp_astore, stp_iinc, stp_iadd, stp_isub, stp_imul, stp_ineg, stp_idiv, stp_irem, stp_ladd, stp_lmul, stp_ldiv, stp_lrem, stp_ishl, stp_ishr, stp_iushr, stp_iand, stp_ior, stp_i2l, stp_i2b, stp_i2s, stp_lcmp, stp_dup, stp_dup2, stp_pop, stp_ifCond, stp_if_icmp, stp_goto, stp_tableswitch, stp_lookupswitch, stp_ldc, stp_ldc_w, stp_ldc2_w, stp_getstatic, stp_getfield, stp_putfield, stp_iaload, stp_baload, stp_iastore, stp_bastore, stp_aaload, stp_aastore, stp_invokevirtual, stp_invokestatic, stp_ireturn, stp_lreturn, stp_return_, lg, lset, okl, spl, wd, c1, cnd, tg, swT, swL, f4_0, f4_1, f4_2, f4_3, f2_0, f2_1, List.mem_cons, List.not_mem_nil, List.length_cons, List.length_nil, List.cons_append, List.nil_append, Nat.reduceAdd, Nat.reduceMul, Nat.reduceLT, Nat.reduceEqDiff, Nat.reduceLeDiff, Int.reduceAdd, Int.reduceNeg, Int.reduceToNat, Int.cast_ofNat_Int, Int.reduceNatCast, Int.toNat_zero, Int.toNat_one, Int.reduceLE, Int.reduceLT, Int.reduceEq, Int.zero_add, Int.add_zero, or_false, false_or, or_true, true_or, and_true, true_and, and_false, false_and, reduceIte, not_true_eq_false, not_false_eq_true, forall_const, false_implies, true_implies, implies_true, ne_eq, reduceCtorEq, List.all_cons, List.all_nil, Bool.and_true, Bool.and_self, decide_eq_true_eq, decide_true, dX5_ahead_0, dX5_ahead_1, dX5_ahead_4, dX5_ahead_5, dX5_ahead_8, dX5_ahead_11, dX5_ahead_12, dX5_ahead_13, dX5_ahead_16, dX5_ahead_19, dX5_ahead_22, dX5_ahead_23, dX5_ahead_24, dX5_ahead_25, dX5_ahead_28, dX5_ahead_31, dX5_ahead_32, dX5_ahead_33, dX5_ahead_34, dX5_ahead_37, dX5_ahead_38, dX5_ahead_41, dX5_ahead_44, dX5_ahead_45, dX5_ahead_46, dX5_ahead_48, dX5_ahead_50, dX5_ahead_51, dX5_ahead_52, dX5_ahead_54, dX5_ahead_55, dX5_ahead_57, dX5_ahead_59, dX5_ahead_60, dX5_ahead_63, dX5_ahead_64, dX5_ahead_67, dX5_ahead_68, dX5_ahead_71, dX5_ahead_72, dX5_ahead_74, dX5_ahead_76, dX5_ahead_77, dX5_ahead_78, dX5_ahead_81, dX5_ahead_83, dX5_ahead_86, dX5_ahead_89, dX5_ahead_90, dX5_ahead_116, dX5_ahead_118, dX5_ahead_119, dX5_ahead_120, dX5_ahead_121, dX5_ahead_123, dX5_ahead_124, dX5_ahead_125, dX5_ahead_126, dX5_ahead_129, dX5_ahead_132, dX5_ahead_133, dX5_ahead_134, dX5_ahead_135, dX5_ahead_136, dX5_ahead_137, dX5_ahead_138, dX5_ahead_140, FX5_10, FX5_16, FX5_115, G_X5_ahead_111, G_X5_ahead_52, G_X5_ahead_144, G_X5_ahead_140, G_X5_ahead_151, kd_0, kd_1, kd_2, kd_3, kd_4, kd_5, kd_6, kd_7, kd_8, kd_9, kd_10, kd_11, kd_12, kd_13, kd_14, kd_15, kd_16, kd_17, kd_18, kd_19, kd_20, kd_21, kd_22, kd_23, kd_24, kd_25, kd_26, kd_27, kd_28, kd_29, kd_30, kd_31, kd_32, kd_33, kd_34, kd_35, kd_36, kd_37, kd_38, kd_39, kd_40, kd_41, kd_42, kd_43, kd_44, kd_45, kd_46, kd_47, kd_48, kd_49, kd_50, kd_51, kd_52, kd_53, kd_54, kd_55, kd_56, kd_57, kd_58, kd_59, kd_60, kd_61, kd_62, kd_63, kd_64, kd_65, ln_0, ln_1, ln_2, ln_3, ln_4, ln_5, ln_6, ln_7, ln_8, ln_9, ln_10, ln_11, ln_12, ln_13, ln_14, ln_15, ln_16, ln_17, ln_18, ln_19, ln_20, ln_21, ln_22, ln_23, ln_24, ln_25, ln_26, ln_27, ln_28, ln_29, ln_30, ln_31, ln_32, ln_33, ln_34, ln_35, ln_36, ln_37, ln_38, ln_39, ln_40, ln_41, ln_42, ln_43, ln_44, ln_45, ln_46, ln_47, ln_48, ln_49, ln_50, ln_51, ln_52, ln_53, ln_54, ln_55, ln_56, ln_57, ln_58, ln_59, ln_60, ln_61, ln_62, ln_63, ln_64, ln_65, T1_has, T5_isOutside, r35]
    repeat' (first | exact trivial | omega | (with_reducible assumption) | exact absurd trivial (by with_reducible assumption) | contradiction | apply And.intro | intro _)
theorem good_X5_ahead (l : Launch) : Good l 4 yX5_ahead cX5_ahead 7 (some .int) T5_ahead := by
  refine Good.mk 1 (by decide) rfl (by simp [retOK]) FOK5 COK5 (gk_X5_ahead l) ?_ ?_
  · intro a μ K h
    unfold T5_ahead at h
    split at h
    · simp [entl]
    · exact h.elim
  · intro a μ K V hV h
    unfold T5_ahead at h
    split at h
    · exact body_X5_ahead _ _ _ _ μ K V hV h
    · exact h.elim

/-- behind how many VISITS a QUEUE is empty first -/
def whF (f : Nat → Int) (i : Nat) : Nat → Nat → Int
  | 0, _ => -4
  | m + 1, n => if nx yes f n (7 * i + 1) = 0 then n else whF f i m (n + 1)
def whenR (f : Nat → Int) (i : Int) : Int := if 0 ≤ i ∧ i < f 35 then whF f i.toNat 201 0 else -1
def GL_X5_when : List (Nat × Nat × Bool × TT) := [(111, 2, false, T1_has), (144, 1, false, T5_startTrial), (140, 2, false, T1_visit)]
def G_X5_when : Nat → Option (Nat × Bool × TT) := fun i => GL_X5_when.lookup i
theorem G_X5_when_111 : G_X5_when 111 = some (2, false, T1_has) := rfl
theorem G_X5_when_144 : G_X5_when 144 = some (1, false, T5_startTrial) := rfl
theorem G_X5_when_140 : G_X5_when 140 = some (2, false, T1_visit) := rfl

set_option maxRecDepth 20000 in
set_option maxHeartbeats 4000000 in
theorem lp_when (V : Nat → List (Option AV) → List AV → Mem → Prop) (K : List AV → Mem → Prop) (hV : Clos FX5 CX5 G_X5_when 1 K cX5_when V) (μ : Mem) (f : Nat → Int) (hW : WF f) (h38 : f 38 ≤ 9999) (i : Nat) (hi : (i : Int) < f 35) (hP : RP μ 8) (r : Int) (hK : ∀ ν, FQ μ ν → K [.inl r] ν) : ∀ m n : Nat, n + m = 201 → whF f i m n = r → ∀ ν, GR yes μ ν 8 f n → V 29 [some (.inr (.inr 0)), some (.inl (i : Int)), some (.inr (.inr (rR μ 9 i))), some (.inl (n : Int))] [] ν := by
  obtain ⟨k12, l5, k7⟩ := ringk kd_8
  intro m
  induction m with
  | zero =>
    intro n hn hr ν hG
    have hk := hK ν (hG.2.2.2.q hP)
    simp only [whF] at hr
    subst hr
    apply hV [29] 60
    simp only [InR, InL, inb, Int.toNat_natCast, wp1, wpc_z, wpc_s, stp_iconst, stp_bipush, stp_sipush, stp_lconst, stp_iload_n, stp_iload, stp_lload_n, stp_lload, stp_aload_n, stp_aload, stp_istore_n, stp_istore, stp_lstore_n, stp_lstore, stp_astore_n, stp_astore, stp_iinc, stp_iadd, stp_isub, stp_imul, stp_ineg, stp_idiv, stp_irem, stp_ladd, stp_lmul, stp_ldiv, stp_lrem, stp_ishl, stp_ishr, stp_iushr, stp_iand, stp_ior, stp_i2l, stp_i2b, stp_i2s, stp_lcmp, stp_dup, stp_dup2, stp_pop, stp_ifCond, stp_if_icmp, stp_goto, stp_tableswitch, stp_lookupswitch, stp_ldc, stp_ldc_w, stp_ldc2_w, stp_getstatic, stp_getfield, stp_putfield, stp_iaload, stp_baload, stp_iastore, stp_bastore, stp_aaload, stp_aastore, stp_invokevirtual, stp_invokestatic, stp_ireturn, stp_lreturn, stp_return_, lg, lset, okl, spl, wd, c1, cnd, tg, swT, swL, f4_0, f4_1, f4_2, f4_3, f2_0, f2_1, List.mem_cons, List.not_mem_nil, List.length_cons, List.length_nil, List.cons_append, List.nil_append, Nat.reduceAdd, Nat.reduceMul, Nat.reduceLT, Nat.reduceEqDiff, Nat.reduceLeDiff, Int.reduceAdd, Int.reduceNeg, Int.reduceToNat, Int.cast_ofNat_Int, Int.reduceNatCast, Int.toNat_zero, Int.toNat_one, Int.reduceLE, Int.reduceLT, Int.reduceEq, Int.zero_add, Int.add_zero, or_false, false_or, or_true, true_or, and_true, true_and, and_false, false_and, reduceIte, not_true_eq_false, not_false_eq_true, forall_const, false_implies, true_implies, implies_true, ne_eq, reduceCtorEq, List.all_cons, List.all_nil, Bool.and_true, Bool.and_self, decide_eq_true_eq, decide_true, dX5_when_0, dX5_when_1, dX5_when_4, dX5_when_5, dX5_when_8, dX5_when_11, dX5_when_12, dX5_when_13, dX5_when_14, dX5_when_17, dX5_when_18, dX5_when_21, dX5_when_24, dX5_when_25, dX5_when_26, dX5_when_27, dX5_when_28, dX5_when_29, dX5_when_30, dX5_when_33, dX5_when_36, dX5_when_37, dX5_when_38, dX5_when_39, dX5_when_42, dX5_when_43, dX5_when_44, dX5_when_45, dX5_when_48, dX5_when_49, dX5_when_52, dX5_when_53, dX5_when_56, dX5_when_59, dX5_when_61, FX5_10, FX5_16, FX5_115, G_X5_when_111, G_X5_when_144, G_X5_when_140, kd_0, kd_1, kd_2, kd_3, kd_4, kd_5, kd_6, kd_7, kd_8, kd_9, kd_10, kd_11, kd_12, kd_13, kd_14, kd_15, kd_16, kd_17, kd_18, kd_19, kd_20, kd_21, kd_22, kd_23, kd_24, kd_25, kd_26, kd_27, kd_28, kd_29, kd_30, kd_31, kd_32, kd_33, kd_34, kd_35, kd_36, kd_37, kd_38, kd_39, kd_40, kd_41, kd_42, kd_43, kd_44, kd_45, kd_46, kd_47, kd_48, kd_49, kd_50, kd_51, kd_52, kd_53, kd_54, kd_55, kd_56, kd_57, kd_58, kd_59, kd_60, kd_61, kd_62, kd_63, kd_64, kd_65, ln_0, ln_1, ln_2, ln_3, ln_4, ln_5, ln_6, ln_7, ln_8, ln_9, ln_10, ln_11, ln_12, ln_13, ln_14, ln_15, ln_16, ln_17, ln_18, ln_19, ln_20, ln_21, ln_22, ln_23, ln_24, ln_25, ln_26, ln_27, ln_28, ln_29, ln_30, ln_31, ln_32, ln_33, ln_34, ln_35, ln_36, ln_37, ln_38, ln_39, ln_40, ln_41, ln_42, ln_43, ln_44, ln_45, ln_46, ln_47, ln_48, ln_49, ln_50, ln_51, ln_52, ln_53, ln_54, ln_55, ln_56, ln_57, ln_58, ln_59, ln_60, ln_61, ln_62, ln_63, ln_64, ln_65]
    repeat' (first | exact trivial | omega | (with_reducible assumption) | exact absurd trivial (by with_reducible assumption) | contradiction | apply And.intro | intro _)
  | succ m ih =>
    intro n hn hr ν hG
    obtain ⟨x1, x2, x3⟩ := nx_WF (p := yes) hW n
    have h1 := hW.1
    have hq := q_in hW hi n
    have h9 : rR ν 9 i = rR μ 9 i := hG.2.2.2.2 9 i
    have hrr : 10 ≤ rR μ 9 i ∧ rR μ 9 i ≤ 14 := by rw [← h9]; exact hG.1.1.1 i (by omega)
    obtain ⟨c1, c2⟩ := k7 _ hrr.1 hrr.2
    have v1 : rI ν (rR μ 9 i) 1 = nx yes f n (7 * i + 1) := by rw [← h9]; exact hG.1.row (by rw [x3]; exact hi) (by omega)
    simp only [whF] at hr
    apply hV [29] 60
    simp only [InR, InL, inb, Int.toNat_natCast, wp1, wpc_z, wpc_s, stp_iconst, stp_bipush, stp_sipush, stp_lconst, stp_iload_n, stp_iload, stp_lload_n, stp_lload, stp_aload_n, stp_aload, stp_istore_n, stp_istore, stp_lstore_n, stp_lstore, stp_astore_n, stp_astore, stp_iinc, stp_iadd, stp_isub, stp_imul, stp_ineg, stp_idiv, stp_irem, stp_ladd, stp_lmul, stp_ldiv, stp_lrem, stp_ishl, stp_ishr, stp_iushr, stp_iand, stp_ior, stp_i2l, stp_i2b, stp_i2s, stp_lcmp, stp_dup, stp_dup2, stp_pop, stp_ifCond, stp_if_icmp, stp_goto, stp_tableswitch, stp_lookupswitch, stp_ldc, stp_ldc_w, stp_ldc2_w, stp_getstatic, stp_getfield, stp_putfield, stp_iaload, stp_baload, stp_iastore, stp_bastore, stp_aaload, stp_aastore, stp_invokevirtual, stp_invokestatic, stp_ireturn, stp_lreturn, stp_return_, lg, lset, okl, spl, wd, c1, cnd, tg, swT, swL, f4_0, f4_1, f4_2, f4_3, f2_0, f2_1, List.mem_cons, List.not_mem_nil, List.length_cons, List.length_nil, List.cons_append, List.nil_append, Nat.reduceAdd, Nat.reduceMul, Nat.reduceLT, Nat.reduceEqDiff, Nat.reduceLeDiff, Int.reduceAdd, Int.reduceNeg, Int.reduceToNat, Int.cast_ofNat_Int, Int.reduceNatCast, Int.toNat_zero, Int.toNat_one, Int.reduceLE, Int.reduceLT, Int.reduceEq, Int.zero_add, Int.add_zero, or_false, false_or, or_true, true_or, and_true, true_and, and_false, false_and, reduceIte, not_true_eq_false, not_false_eq_true, forall_const, false_implies, true_implies, implies_true, ne_eq, reduceCtorEq, List.all_cons, List.all_nil, Bool.and_true, Bool.and_self, decide_eq_true_eq, decide_true, dX5_when_0, dX5_when_1, dX5_when_4, dX5_when_5, dX5_when_8, dX5_when_11, dX5_when_12, dX5_when_13, dX5_when_14, dX5_when_17, dX5_when_18, dX5_when_21, dX5_when_24, dX5_when_25, dX5_when_26, dX5_when_27, dX5_when_28, dX5_when_29, dX5_when_30, dX5_when_33, dX5_when_36, dX5_when_37, dX5_when_38, dX5_when_39, dX5_when_42, dX5_when_43, dX5_when_44, dX5_when_45, dX5_when_48, dX5_when_49, dX5_when_52, dX5_when_53, dX5_when_56, dX5_when_59, dX5_when_61, FX5_10, FX5_16, FX5_115, G_X5_when_111, G_X5_when_144, G_X5_when_140, kd_0, kd_1, kd_2, kd_3, kd_4, kd_5, kd_6, kd_7, kd_8, kd_9, kd_10, kd_11, kd_12, kd_13, kd_14, kd_15, kd_16, kd_17, kd_18, kd_19, kd_20, kd_21, kd_22, kd_23, kd_24, kd_25, kd_26, kd_27, kd_28, kd_29, kd_30, kd_31, kd_32, kd_33, kd_34, kd_35, kd_36, kd_37, kd_38, kd_39, kd_40, kd_41, kd_42, kd_43, kd_44, kd_45, kd_46, kd_47, kd_48, kd_49, kd_50, kd_51, kd_52, kd_53, kd_54, kd_55, kd_56, kd_57, kd_58, kd_59, kd_60, kd_61, kd_62, kd_63, kd_64, kd_65, ln_0, ln_1, ln_2, ln_3, ln_4, ln_5, ln_6, ln_7, ln_8, ln_9, ln_10, ln_11, ln_12, ln_13, ln_14, ln_15, ln_16, ln_17, ln_18, ln_19, ln_20, ln_21, ln_22, ln_23, ln_24, ln_25, ln_26, ln_27, ln_28, ln_29, ln_30, ln_31, ln_32, ln_33, ln_34, ln_35, ln_36, ln_37, ln_38, ln_39, ln_40, ln_41, ln_42, ln_43, ln_44, ln_45, ln_46, ln_47, ln_48, ln_49, ln_50, ln_51, ln_52, ln_53, ln_54, ln_55, ln_56, ln_57, ln_58, ln_59, ln_60, ln_61, ln_62, ln_63, ln_64, ln_65, c1, c2, v1, T1_visit]
    by_cases e : nx yes f n (7 * i + 1) = 0
    · rw [if_pos e] at hr
      have hk := hK ν (hG.2.2.2.q hP)
      subst hr
      repeat' (first | exact trivial | omega | (with_reducible assumption) | exact absurd trivial (by with_reducible assumption) | contradiction | apply And.intro | intro _)
    · rw [if_neg e] at hr
      repeat' (first | exact trivial | omega | (with_reducible assumption) | exact absurd trivial (by with_reducible assumption) | contradiction | apply And.intro | intro _)
      refine ⟨nx yes f n, true, hG.1, x1, by omega, by simp, fun ρ hρ => ?_⟩
      have h := ih (n + 1) (by omega) hr ρ (hG.st hρ)
      rw [show ((n + 1 : Nat) : Int) = (n : Int) + 1 by omega] at h
      exact ⟨trivial, h⟩
def T5_when : TT := fun a μ K => match a with
  | [.inr (.inr o), .inl i] => o = 0 ∧ (InR i ∧ RP μ 8 ∧ ∃ f, RG μ 1 f ∧ WF f ∧ f 38 ≤ 9999 ∧ ∀ ν, FQ μ ν → K [.inl (whenR f i)] ν)
  | _ => False
theorem rec_X5_when : ∀ a μ K, T5_when a μ K → ∃ k r, a = .inr (.inr k) :: r ∧ kd k = 5 := by
  intro a μ K h
  unfold T5_when at h
  split at h
  · exact ⟨_, _, rfl, by rw [h.1]; rfl⟩
  · exact h.elim
theorem gk_X5_when (l : Launch) : ∀ i n b T, G_X5_when i = some (n, b, T) → CallOK l 4 RX5 i n b T := by
  intro i n b T h
  have hm : (i, n, b, T) ∈ GL_X5_when := lk_mem h
  simp only [GL_X5_when, List.mem_cons, List.not_mem_nil, or_false, Prod.mk.injEq] at hm
  rcases hm with ⟨rfl, rfl, rfl, rfl⟩ | ⟨rfl, rfl, rfl, rfl⟩ | ⟨rfl, rfl, rfl, rfl⟩
  · exact CallOK.V (d := 4) (own := RX5) (i := 111) (n := 1) (ci := 1) (good_X1_has l) (by decide) (by decide) rfl (by decide) rec_X1_has (mg 351 (by decide +kernel) (by decide +kernel)) (mg 313 (by decide +kernel) (by decide +kernel)) (mg 314 (by decide +kernel) (by decide +kernel)) (mg 2 (by decide +kernel) (by decide +kernel)) (mg 315 (by decide +kernel) (by decide +kernel)) (by decide +kernel)
  · exact CallOK.V (d := 4) (own := RX5) (i := 144) (n := 0) (ci := 5) (good_X5_startTrial l) (by decide) (by decide) rfl (by decide) rec_X5_startTrial (mg 406 (by decide +kernel) (by decide +kernel)) (mg 408 (by decide +kernel) (by decide +kernel)) (mgs 13 (by decide +kernel) (by decide +kernel)) (mg 1 (by decide +kernel) (by decide +kernel)) (mg 409 (by decide +kernel) (by decide +kernel)) (by decide +kernel)
  · exact CallOK.V (d := 4) (own := RX5) (i := 140) (n := 1) (ci := 1) (good_X1_visit l) (by decide) (by decide) rfl (by decide) rec_X1_visit (mg 392 (by decide +kernel) (by decide +kernel)) (mg 393 (by decide +kernel) (by decide +kernel)) (mg 394 (by decide +kernel) (by decide +kernel)) (mg 2 (by decide +kernel) (by decide +kernel)) (mg 395 (by decide +kernel) (by decide +kernel)) (by decide +kernel)
set_option maxRecDepth 20000 in
set_option maxHeartbeats 4000000 in
theorem body_X5_when (o : Nat) (i : Int) (μ : Mem) (K : List AV → Mem → Prop) (V : Nat → List (Option AV) → List AV → Mem → Prop) (hV : Clos FX5 CX5 G_X5_when 1 K cX5_when V) (hT : o = 0 ∧ (InR i ∧ RP μ 8 ∧ ∃ f, RG μ 1 f ∧ WF f ∧ f 38 ≤ 9999 ∧ ∀ ν, FQ μ ν → K [.inl (whenR f i)] ν)) : V 0 [some (.inr (.inr o)), some (.inl i), none, none] [] μ := by
  simp only [InR] at hT
  obtain ⟨rfl, hi, hP, f, hR, hW, h38, hK⟩ := hT
  have h35 := hW.1
  have r35 := hR.2.1
  by_cases hc : 0 ≤ i ∧ i < f 35
  · obtain ⟨i', rfl⟩ := Int.eq_ofNat_of_zero_le hc.1
    obtain ⟨k12, l5, k7⟩ := ringk kd_8
    apply hV [29] 80
    simp only [InR, InL, inb, Int.toNat_natCast, wp1, wpc_z, wpc_s, stp_iconst, stp_bipush, stp_sipush, stp_lconst, stp_iload_n, stp_iload, stp_lload_n, stp_lload, stp_aload_n, stp_aload, stp_istore_n, stp_istore, stp_lstore_n, stp_lstore, stp_astore_n, stp_astore, stp_iinc, stp_iadd, stp_isub, stp_imul, stp_ineg, stp_idiv, stp_irem, stp_ladd, stp_lmul, stp_ldiv, stp_lrem, stp_ishl, stp_ishr, stp_iushr, stp_iand, stp_ior, stp_i2l, stp_i2b, stp_i2s, stp_lcmp, stp_dup, stp_dup2, stp_pop, stp_ifCond, stp_if_icmp, stp_goto, stp_tableswitch, stp_lookupswitch, stp_ldc, stp_ldc_w, stp_ldc2_w, stp_getstatic, stp_getfield, stp_putfield, stp_iaload, stp_baload, stp_iastore, stp_bastore, stp_aaload, stp_aastore, stp_invokevirtual, stp_invokestatic, stp_ireturn, stp_lreturn, stp_return_, lg, lset, okl, spl, wd, c1, cnd, tg, swT, swL, f4_0, f4_1, f4_2, f4_3, f2_0, f2_1, List.mem_cons, List.not_mem_nil, List.length_cons, List.length_nil, List.cons_append, List.nil_append, Nat.reduceAdd, Nat.reduceMul, Nat.reduceLT, Nat.reduceEqDiff, Nat.reduceLeDiff, Int.reduceAdd, Int.reduceNeg, Int.reduceToNat, Int.cast_ofNat_Int, Int.reduceNatCast, Int.toNat_zero, Int.toNat_one, Int.reduceLE, Int.reduceLT, Int.reduceEq, Int.zero_add, Int.add_zero, or_false, false_or, or_true, true_or, and_true, true_and, and_false, false_and, reduceIte, not_true_eq_false, not_false_eq_true, forall_const, false_implies, true_implies, implies_true, ne_eq, reduceCtorEq, List.all_cons, List.all_nil, Bool.and_true, Bool.and_self, decide_eq_true_eq, decide_true, dX5_when_0, dX5_when_1, dX5_when_4, dX5_when_5, dX5_when_8, dX5_when_11, dX5_when_12, dX5_when_13, dX5_when_14, dX5_when_17, dX5_when_18, dX5_when_21, dX5_when_24, dX5_when_25, dX5_when_26, dX5_when_27, dX5_when_28, dX5_when_29, dX5_when_30, dX5_when_33, dX5_when_36, dX5_when_37, dX5_when_38, dX5_when_39, dX5_when_42, dX5_when_43, dX5_when_44, dX5_when_45, dX5_when_48, dX5_when_49, dX5_when_52, dX5_when_53, dX5_when_56, dX5_when_59, dX5_when_61, FX5_10, FX5_16, FX5_115, G_X5_when_111, G_X5_when_144, G_X5_when_140, kd_0, kd_1, kd_2, kd_3, kd_4, kd_5, kd_6, kd_7, kd_8, kd_9, kd_10, kd_11, kd_12, kd_13, kd_14, kd_15, kd_16, kd_17, kd_18, kd_19, kd_20, kd_21, kd_22, kd_23, kd_24, kd_25, kd_26, kd_27, kd_28, kd_29, kd_30, kd_31, kd_32, kd_33, kd_34, kd_35, kd_36, kd_37, kd_38, kd_39, kd_40, kd_41, kd_42, kd_43, kd_44, kd_45, kd_46, kd_47, kd_48, kd_49, kd_50, kd_51, kd_52, kd_53, kd_54, kd_55, kd_56, kd_57, kd_58, kd_59, kd_60, kd_61, kd_62, kd_63, kd_64, kd_65, ln_0, ln_1, ln_2, ln_3, ln_4, ln_5, ln_6, ln_7, ln_8, ln_9, ln_10, ln_11, ln_12, ln_13, ln_14, ln_15, ln_16, ln_17, ln_18, ln_19, ln_20, ln_21, ln_22, ln_23, ln_24, ln_25, ln_26, ln_27, ln_28, ln_29, ln_30, ln_31, ln_32, ln_33, ln_34, ln_35, ln_36, ln_37, ln_38, ln_39, ln_40, ln_41, ln_42, ln_43, ln_44, ln_45, ln_46, ln_47, ln_48, ln_49, ln_50, ln_51, ln_52, ln_53, ln_54, ln_55, ln_56, ln_57, ln_58, ln_59, ln_60, ln_61, ln_62, ln_63, ln_64, ln_65, T1_has, T5_isOutside, T5_startTrial, r35]
    repeat' (first | exact trivial | omega | (with_reducible assumption) | exact absurd trivial (by with_reducible assumption) | contradiction | apply And.intro | intro _)
    refine ⟨f, hR, h35, fun ν hν => ?_⟩
    obtain ⟨a1, a2, a3, a4⟩ := hν
    have ee : el ν 9 i' = rR ν 9 i' := elr (B := 8) k12 i'
    have h := lp_when V K hV ν f hW h38 i' (by omega) a1.1 (whenR f i') (fun ρ hρ => hK ρ ((a4.q hP).tr hρ)) 201 0 (by omega) (by unfold whenR; rw [if_pos hc, Int.toNat_natCast]) ν (GR.rf a1)
    rw [ee]
    repeat' (first | exact trivial | omega | (with_reducible assumption) | exact absurd trivial (by with_reducible assumption) | contradiction | apply And.intro | intro _)
  · have hk := hK μ (FQ.rf hP)
    unfold whenR at hk
    rw [if_neg hc] at hk
    apply hV [13] 80
    simp only [InR, InL, inb, Int.toNat_natCast, wp1, wpc_z, wpc_s, stp_iconst, stp_bipush, stp_sipush, stp_lconst, stp_iload_n, stp_iload, stp_lload_n, stp_lload, stp_aload_n, stp_aload, stp_istore_n, stp_istore, stp_lstore_n, stp_lstore, stp_astore_n, stp_astore, stp_iinc, stp_iadd, stp_isub, stp_imul, stp_ineg, stp_idiv, stp_irem, stp_ladd, stp_lmul, stp_ldiv, stp_lrem, stp_ishl, stp_ishr, stp_iushr, stp_iand, stp_ior, stp_i2l, stp_i2b, stp_i2s, stp_lcmp, stp_dup, stp_dup2, stp_pop, stp_ifCond, stp_if_icmp, stp_goto, stp_tableswitch, stp_lookupswitch, stp_ldc, stp_ldc_w, stp_ldc2_w, stp_getstatic, stp_getfield, stp_putfield, stp_iaload, stp_baload, stp_iastore, stp_bastore, stp_aaload, stp_aastore, stp_invokevirtual, stp_invokestatic, stp_ireturn, stp_lreturn, stp_return_, lg, lset, okl, spl, wd, c1, cnd, tg, swT, swL, f4_0, f4_1, f4_2, f4_3, f2_0, f2_1, List.mem_cons, List.not_mem_nil, List.length_cons, List.length_nil, List.cons_append, List.nil_append, Nat.reduceAdd, Nat.reduceMul, Nat.reduceLT, Nat.reduceEqDiff, Nat.reduceLeDiff, Int.reduceAdd, Int.reduceNeg, Int.reduceToNat, Int.cast_ofNat_Int, Int.reduceNatCast, Int.toNat_zero, Int.toNat_one, Int.reduceLE, Int.reduceLT, Int.reduceEq, Int.zero_add, Int.add_zero, or_false, false_or, or_true, true_or, and_true, true_and, and_false, false_and, reduceIte, not_true_eq_false, not_false_eq_true, forall_const, false_implies, true_implies, implies_true, ne_eq, reduceCtorEq, List.all_cons, List.all_nil, Bool.and_true, Bool.and_self, decide_eq_true_eq, decide_true, dX5_when_0, dX5_when_1, dX5_when_4, dX5_when_5, dX5_when_8, dX5_when_11, dX5_when_12, dX5_when_13, dX5_when_14, dX5_when_17, dX5_when_18, dX5_when_21, dX5_when_24, dX5_when_25, dX5_when_26, dX5_when_27, dX5_when_28, dX5_when_29, dX5_when_30, dX5_when_33, dX5_when_36, dX5_when_37, dX5_when_38, dX5_when_39, dX5_when_42, dX5_when_43, dX5_when_44, dX5_when_45, dX5_when_48, dX5_when_49, dX5_when_52, dX5_when_53, dX5_when_56, dX5_when_59, dX5_when_61, FX5_10, FX5_16, FX5_115, G_X5_when_111, G_X5_when_144, G_X5_when_140, kd_0, kd_1, kd_2, kd_3, kd_4, kd_5, kd_6, kd_7, kd_8, kd_9, kd_10, kd_11, kd_12, kd_13, kd_14, kd_15, kd_16, kd_17, kd_18, kd_19, kd_20, kd_21, kd_22, kd_23, kd_24, kd_25, kd_26, kd_27, kd_28, kd_29, kd_30, kd_31, kd_32, kd_33, kd_34, kd_35, kd_36, kd_37, kd_38, kd_39, kd_40, kd_41, kd_42, kd_43, kd_44, kd_45, kd_46, kd_47, kd_48, kd_49, kd_50, kd_51, kd_52, kd_53, kd_54, kd_55, kd_56, kd_57, kd_58, kd_59, kd_60, kd_61, kd_62, kd_63, kd_64, kd_65, ln_0, ln_1, ln_2, ln_3, ln_4, ln_5, ln_6, ln_7, ln_8, ln_9, ln_10, ln_11, ln_12, ln_13, ln_14, ln_15, ln_16, ln_17, ln_18, ln_19, ln_20, ln_21, ln_22, ln_23, ln_24, ln_25, ln_26, ln_27, ln_28, ln_29, ln_30, ln_31, ln_32, ln_33, ln_34, ln_35, ln_36, ln_37, ln_38, ln_39, ln_40, ln_41, ln_42, ln_43, ln_44, ln_45, ln_46, ln_47, ln_48, ln_49, ln_50, ln_51, ln_52, ln_53, ln_54, ln_55, ln_56, ln_57, ln_58, ln_59, ln_60, ln_61, ln_62, ln_63, ln_64, ln_65, T1_has, T5_isOutside, r35]
    repeat' (first | exact trivial | omega | (with_reducible assumption) | exact absurd trivial (by with_reducible assumption) | contradiction | apply And.intro | intro _)
theorem good_X5_when (l : Launch) : Good l 4 yX5_when cX5_when 4 (some .int) T5_when := by
  refine Good.mk 1 (by decide) rfl (by simp [retOK]) FOK5 COK5 (gk_X5_when l) ?_ ?_
  · intro a μ K h
    unfold T5_when at h
    split at h
    · simp [entl]
    · exact h.elim
  · intro a μ K V hV h
    unfold T5_when at h
    split at h
    · exact body_X5_when _ _ μ K V hV h
    · exact h.elim

