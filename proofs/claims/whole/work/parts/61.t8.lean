/-! the reference: lines, the text -/
theorem ckL_E {b : Nat → Int} {len : Nat} (L : List (Int × Int)) {p : Nat} (h : tkE b len p = true) : ckL b len L p = (1, (tkF b len p : Int)) := by
  cases L with
  | nil => simp only [ckL, sfC]; rw [if_pos h]
  | cons q r =>
    have e : nfC b len p q.1 q.2 = 1 := by unfold nfC; rw [if_pos h]
    simp only [ckL, e]
    simp
/-- the TOKEN at hand -/
def RS (ν : Mem) (b : Nat → Int) (len p : Nat) : Prop := rI ν 66 7 = tkN b len p ∧ rI ν 66 8 = tkF b len p ∧ rI ν 66 9 = tkS b len p ∧ (tkS b len p = 2 → rI ν 66 10 = tkV b len p) ∧ tkE b len p = false
/-- as yet no FAULT, or that of the line -/
def NI (ν : Mem) (b : Nat → Int) (len : Nat) (L : List (Int × Int)) (p : Nat) (r : Int × Int) : Prop := (rI ν 66 11 = 0 ∧ RS ν b len p ∧ ckL b len L p = r) ∨ (rI ν 66 11 = r.1 ∧ r.1 ≠ 0 ∧ rI ν 66 12 = r.2)
theorem RA.ni {μ ν : Mem} {b : Nat → Int} {len p : Nat} (h : RA μ ν b len p) (L : List (Int × Int)) : NI ν b len L p (ckL b len L p) := by
  obtain ⟨h1, h2, h3, h4, h5, h6⟩ := h
  by_cases z : tkE b len p = true
  · rw [ckL_E L z]
    rw [if_pos z] at h3
    exact Or.inr ⟨h3, by simp, h4 z⟩
  · rw [if_neg z] at h3
    have z' : tkE b len p = false := by simpa using z
    exact Or.inl ⟨h3, ⟨h1, h2, (h5 z').1, (h5 z').2, z'⟩, rfl⟩
def T6_readNumber : TT := fun a μ K => match a with
  | [.inr (.inr o), .inl lo, .inl hi] => o = 66 ∧ ((0 ≤ lo ∧ lo ≤ 1) ∧ (3 ≤ hi ∧ hi ≤ 99) ∧ ∃ (b : Nat → Int) (len p : Nat) (L : List (Int × Int)) (r : Int × Int), TPm μ b len ∧ p ≤ len ∧ (0 ≤ r.1 ∧ r.1 ≤ 6) ∧ NI μ b len ((lo, hi) :: L) p r ∧ ∀ ν v, MFr μ ν → NI ν b len L (tkN b len p) r → (0 ≤ v ∧ v ≤ 99) → (rI ν 66 11 = 0 → rI μ 66 11 = 0 ∧ v = tkV b len p) → K [.inl v] ν)
  | _ => False
theorem rec_X6_readNumber : ∀ a μ K, T6_readNumber a μ K → ∃ k r, a = .inr (.inr k) :: r ∧ kd k = 6 := by
  intro a μ K h
  unfold T6_readNumber at h
  split at h
  · exact ⟨_, _, rfl, by rw [h.1]; rfl⟩
  · exact h.elim
def GL_X6_readNumber : List (Nat × Nat × Bool × TT) := [(101, 3, false, T6_requires), (59, 3, true, T6_in), (105, 1, false, T6_reads)]
def G_X6_readNumber : Nat → Option (Nat × Bool × TT) := fun i => GL_X6_readNumber.lookup i
theorem G_X6_readNumber_101 : G_X6_readNumber 101 = some (3, false, T6_requires) := rfl
theorem G_X6_readNumber_59 : G_X6_readNumber 59 = some (3, true, T6_in) := rfl
theorem G_X6_readNumber_105 : G_X6_readNumber 105 = some (1, false, T6_reads) := rfl
theorem gk_X6_readNumber (l : Launch) : ∀ i n b T, G_X6_readNumber i = some (n, b, T) → CallOK l 2 RX6 i n b T := by
  intro i n b T h
  have hm : (i, n, b, T) ∈ GL_X6_readNumber := lk_mem h
  simp only [GL_X6_readNumber, List.mem_cons, List.not_mem_nil, or_false, Prod.mk.injEq] at hm
  rcases hm with ⟨rfl, rfl, rfl, rfl⟩ | ⟨rfl, rfl, rfl, rfl⟩ | ⟨rfl, rfl, rfl, rfl⟩
  · exact CallOK.V (d := 2) (own := RX6) (i := 101) (n := 2) (ci := 6) (good_X6_requires l) (by decide) (by decide) rfl (by decide) rec_X6_requires (mg 731 (by decide +kernel) (by decide +kernel)) (mg 733 (by decide +kernel) (by decide +kernel)) (mgs 27 (by decide +kernel) (by decide +kernel)) (mg 7 (by decide +kernel) (by decide +kernel)) (mg 734 (by decide +kernel) (by decide +kernel)) (by decide +kernel)
  · exact CallOK.S (d := 2) (own := RX6) (i := 59) (n := 3) (good_X6_in l) (by decide) (by decide) (mg 708 (by decide +kernel) (by decide +kernel)) (mg 709 (by decide +kernel) (by decide +kernel)) (mg 7 (by decide +kernel) (by decide +kernel)) (mg 710 (by decide +kernel) (by decide +kernel)) (by decide +kernel)
  · exact CallOK.V (d := 2) (own := RX6) (i := 105) (n := 0) (ci := 6) (good_X6_reads l) (by decide) (by decide) rfl (by decide) rec_X6_reads (mg 719 (by decide +kernel) (by decide +kernel)) (mg 721 (by decide +kernel) (by decide +kernel)) (mgs 25 (by decide +kernel) (by decide +kernel)) (mg 7 (by decide +kernel) (by decide +kernel)) (mg 722 (by decide +kernel) (by decide +kernel)) (by decide +kernel)
set_option maxRecDepth 20000 in
set_option maxHeartbeats 4000000 in
theorem body_X6_readNumber (o : Nat) (lo : Int) (hi : Int) (μ : Mem) (K : List AV → Mem → Prop) (V : Nat → List (Option AV) → List AV → Mem → Prop) (hV : Clos FX6 CX6 G_X6_readNumber 1 K cX6_readNumber V) (hT : o = 66 ∧ ((0 ≤ lo ∧ lo ≤ 1) ∧ (3 ≤ hi ∧ hi ≤ 99) ∧ ∃ (b : Nat → Int) (len p : Nat) (L : List (Int × Int)) (r : Int × Int), TPm μ b len ∧ p ≤ len ∧ (0 ≤ r.1 ∧ r.1 ≤ 6) ∧ NI μ b len ((lo, hi) :: L) p r ∧ ∀ ν v, MFr μ ν → NI ν b len L (tkN b len p) r → (0 ≤ v ∧ v ≤ 99) → (rI ν 66 11 = 0 → rI μ 66 11 = 0 ∧ v = tkV b len p) → K [.inl v] ν)) : V 0 [some (.inr (.inr o)), some (.inl lo), some (.inl hi), none] [] μ := by
  obtain ⟨rfl, hlo, hhi, b, len, p, L, r, ht, hp, hr, hN, hK⟩ := hT
  have ht2 := ht.2.1
  have hn := tkN_in ht.2.2.2 ht.2.1 hp
  rcases hN with ⟨h0, ⟨s7, s8, s9, s10, se⟩, hck⟩ | ⟨h1, h2, h3⟩
  · have hs := tkS_in (b := b) (len := len) p
    simp only [ckL] at hck
    by_cases z : tkS b len p = 2
    · have hv := tkV_in ht.2.2.2 ht.2.1 hp z se
      have s10 := s10 z
      have hv99 : 0 ≤ tkV b len p ∧ tkV b len p ≤ 99 := by
        have d1 := hv.2 (tkF b len p) (by omega) (by omega)
        unfold tkV
        rcases hv.1 with e | e
        · rw [if_pos e]; omega
        · rw [if_neg (by omega)]
          have d2 := hv.2 (tkF b len p + 1) (by omega) (by omega)
          omega
      rw [z] at s9
      by_cases y : lo ≤ tkV b len p ∧ tkV b len p ≤ hi
      · have en : nfC b len p lo hi = 0 := by unfold nfC; rw [if_neg (by simp [se]), if_neg (by simp [z]), if_pos y]
        rw [en, if_neg (by simp)] at hck
        have hk : ∀ ν, RA μ ν b len (tkN b len p) → K [.inl (tkV b len p)] ν := fun ν hν => hK ν _ hν.2.2.2.2.2 (by rw [← hck]; exact hν.ni L) hv99 (fun _ => ⟨h0, rfl⟩)
        have main : ∃ (b_1 : Nat → Int) (len_1 p_1 : Nat), TPm μ b_1 len_1 ∧ rI μ 66 7 = p_1 ∧ p_1 ≤ len_1 ∧ ∀ ν, RA μ ν b_1 len_1 p_1 → K [.inl (tkV b len p)] ν := ⟨b, len, tkN b len p, ht, s7, hn.2.1, hk⟩
        clear hK hk
        apply hV [] 60
        simp only [InR, InL, inb, Int.toNat_natCast, wp1, wpc_z, wpc_s, stp_iconst, stp_bipush, stp_sipush, stp_lconst, stp_iload_n, stp_iload, stp_lload_n, stp_lload, stp_aload_n, stp_aload, stp_istore_n, stp_istore, stp_lstore_n, stp_lstore, stp_astore_n, stp_astore, stp_iinc, stp_iadd, stp_isub, stp_imul, stp_ineg, stp_idiv, stp_irem, stp_ladd, stp_lmul, stp_ldiv, stp_lrem, stp_ishl, stp_ishr, stp_iushr, stp_iand, stp_ior, stp_i2l, stp_i2b, stp_i2s, stp_lcmp, stp_dup, stp_dup2, stp_pop, stp_ifCond, stp_if_icmp, stp_goto, stp_tableswitch, stp_lookupswitch, stp_ldc, stp_ldc_w, stp_ldc2_w, stp_getstatic, stp_getfield, stp_putfield, stp_iaload, stp_baload, stp_iastore, stp_bastore, stp_aaload, stp_aastore, stp_invokevirtual, stp_invokestatic, stp_ireturn, stp_lreturn, stp_return_, lg, lset, okl, spl, wd, c1, cnd, tg, swT, swL, f4_0, f4_1, f4_2, f4_3, f2_0, f2_1, List.mem_cons, List.not_mem_nil, List.length_cons, List.length_nil, List.cons_append, List.nil_append, Nat.reduceAdd, Nat.reduceMul, Nat.reduceLT, Nat.reduceEqDiff, Nat.reduceLeDiff, Int.reduceAdd, Int.reduceNeg, Int.reduceToNat, Int.cast_ofNat_Int, Int.reduceNatCast, Int.toNat_zero, Int.toNat_one, Int.reduceLE, Int.reduceLT, Int.reduceEq, Int.zero_add, Int.add_zero, or_false, false_or, or_true, true_or, and_true, true_and, and_false, false_and, reduceIte, not_true_eq_false, not_false_eq_true, forall_const, false_implies, true_implies, implies_true, ne_eq, reduceCtorEq, List.all_cons, List.all_nil, Bool.and_true, Bool.and_self, decide_eq_true_eq, decide_true, dX6_readNumber_0, dX6_readNumber_1, dX6_readNumber_4, dX6_readNumber_7, dX6_readNumber_8, dX6_readNumber_9, dX6_readNumber_12, dX6_readNumber_13, dX6_readNumber_16, dX6_readNumber_17, dX6_readNumber_20, dX6_readNumber_21, dX6_readNumber_22, dX6_readNumber_25, dX6_readNumber_26, dX6_readNumber_29, dX6_readNumber_32, dX6_readNumber_33, dX6_readNumber_34, dX6_readNumber_37, dX6_readNumber_38, dX6_readNumber_39, dX6_readNumber_40, dX6_readNumber_41, dX6_readNumber_42, dX6_readNumber_45, dX6_readNumber_46, dX6_readNumber_49, dX6_readNumber_50, dX6_readNumber_53, dX6_readNumber_56, dX6_readNumber_57, dX6_readNumber_60, dX6_readNumber_63, dX6_readNumber_64, dX6_readNumber_65, dX6_readNumber_66, dX6_readNumber_69, dX6_readNumber_70, FX6_67, FX6_87, FX6_98, G_X6_readNumber_101, G_X6_readNumber_59, G_X6_readNumber_105, kd_66, T6_requires, T6_in, T6_reads, h0, s9, s10]
        repeat' (first | exact trivial | omega | (with_reducible assumption) | exact absurd trivial (by with_reducible assumption) | contradiction | apply And.intro | intro _)
      · have en : nfC b len p lo hi = 3 := by unfold nfC; rw [if_neg (by simp [se]), if_neg (by simp [z]), if_neg y]
        rw [en, if_pos (by simp)] at hck
        have hk := hK (wI (wI μ 66 11 3) 66 12 (tkF b len p)) 0 ((MFr.w μ (by omega) 3).tr (MFr.w _ (by omega) _)) (Or.inr ⟨by rw [← hck]; simp [rI_wI], by rw [← hck]; simp, by rw [← hck]; simp [rI_wI]⟩) (by omega) (fun q => absurd q (by simp [rI_wI]))
        clear hK
        apply hV [] 60
        simp only [InR, InL, inb, Int.toNat_natCast, wp1, wpc_z, wpc_s, stp_iconst, stp_bipush, stp_sipush, stp_lconst, stp_iload_n, stp_iload, stp_lload_n, stp_lload, stp_aload_n, stp_aload, stp_istore_n, stp_istore, stp_lstore_n, stp_lstore, stp_astore_n, stp_astore, stp_iinc, stp_iadd, stp_isub, stp_imul, stp_ineg, stp_idiv, stp_irem, stp_ladd, stp_lmul, stp_ldiv, stp_lrem, stp_ishl, stp_ishr, stp_iushr, stp_iand, stp_ior, stp_i2l, stp_i2b, stp_i2s, stp_lcmp, stp_dup, stp_dup2, stp_pop, stp_ifCond, stp_if_icmp, stp_goto, stp_tableswitch, stp_lookupswitch, stp_ldc, stp_ldc_w, stp_ldc2_w, stp_getstatic, stp_getfield, stp_putfield, stp_iaload, stp_baload, stp_iastore, stp_bastore, stp_aaload, stp_aastore, stp_invokevirtual, stp_invokestatic, stp_ireturn, stp_lreturn, stp_return_, lg, lset, okl, spl, wd, c1, cnd, tg, swT, swL, f4_0, f4_1, f4_2, f4_3, f2_0, f2_1, List.mem_cons, List.not_mem_nil, List.length_cons, List.length_nil, List.cons_append, List.nil_append, Nat.reduceAdd, Nat.reduceMul, Nat.reduceLT, Nat.reduceEqDiff, Nat.reduceLeDiff, Int.reduceAdd, Int.reduceNeg, Int.reduceToNat, Int.cast_ofNat_Int, Int.reduceNatCast, Int.toNat_zero, Int.toNat_one, Int.reduceLE, Int.reduceLT, Int.reduceEq, Int.zero_add, Int.add_zero, or_false, false_or, or_true, true_or, and_true, true_and, and_false, false_and, reduceIte, not_true_eq_false, not_false_eq_true, forall_const, false_implies, true_implies, implies_true, ne_eq, reduceCtorEq, List.all_cons, List.all_nil, Bool.and_true, Bool.and_self, decide_eq_true_eq, decide_true, dX6_readNumber_0, dX6_readNumber_1, dX6_readNumber_4, dX6_readNumber_7, dX6_readNumber_8, dX6_readNumber_9, dX6_readNumber_12, dX6_readNumber_13, dX6_readNumber_16, dX6_readNumber_17, dX6_readNumber_20, dX6_readNumber_21, dX6_readNumber_22, dX6_readNumber_25, dX6_readNumber_26, dX6_readNumber_29, dX6_readNumber_32, dX6_readNumber_33, dX6_readNumber_34, dX6_readNumber_37, dX6_readNumber_38, dX6_readNumber_39, dX6_readNumber_40, dX6_readNumber_41, dX6_readNumber_42, dX6_readNumber_45, dX6_readNumber_46, dX6_readNumber_49, dX6_readNumber_50, dX6_readNumber_53, dX6_readNumber_56, dX6_readNumber_57, dX6_readNumber_60, dX6_readNumber_63, dX6_readNumber_64, dX6_readNumber_65, dX6_readNumber_66, dX6_readNumber_69, dX6_readNumber_70, FX6_67, FX6_87, FX6_98, G_X6_readNumber_101, G_X6_readNumber_59, G_X6_readNumber_105, kd_66, T6_requires, T6_in, T6_reads, h0, s9, s10, s8, rI_wI]
        repeat' (first | exact trivial | omega | (with_reducible assumption) | exact absurd trivial (by with_reducible assumption) | contradiction | apply And.intro | intro _)
    · have en : nfC b len p lo hi = 2 := by unfold nfC; rw [if_neg (by simp [se]), if_pos z]
      rw [en, if_pos (by simp)] at hck
      have hk := hK (wI (wI μ 66 11 2) 66 12 (tkF b len p)) 0 ((MFr.w μ (by omega) 2).tr (MFr.w _ (by omega) _)) (Or.inr ⟨by rw [← hck]; simp [rI_wI], by rw [← hck]; simp, by rw [← hck]; simp [rI_wI]⟩) (by omega) (fun q => absurd q (by simp [rI_wI]))
      clear hK
      apply hV [] 60
      simp only [InR, InL, inb, Int.toNat_natCast, wp1, wpc_z, wpc_s, stp_iconst, stp_bipush, stp_sipush, stp_lconst, stp_iload_n, stp_iload, stp_lload_n, stp_lload, stp_aload_n, stp_aload, stp_istore_n, stp_istore, stp_lstore_n, stp_lstore, stp_astore_n, stp_astore, stp_iinc, stp_iadd, stp_isub, stp_imul, stp_ineg, stp_idiv, stp_irem, stp_ladd, stp_lmul, stp_ldiv, stp_lrem, stp_ishl, stp_ishr, stp_iushr, stp_iand, stp_ior, stp_i2l, stp_i2b, stp_i2s, stp_lcmp, stp_dup, stp_dup2, stp_pop, stp_ifCond, stp_if_icmp, stp_goto, stp_tableswitch, stp_lookupswitch, stp_ldc, stp_ldc_w, stp_ldc2_w, stp_getstatic, stp_getfield, stp_putfield, stp_iaload, stp_baload, stp_iastore, stp_bastore, stp_aaload, stp_aastore, stp_invokevirtual, stp_invokestatic, stp_ireturn, stp_lreturn, stp_return_, lg, lset, okl, spl, wd, c1, cnd, tg, swT, swL, f4_0, f4_1, f4_2, f4_3, f2_0, f2_1, List.mem_cons, List.not_mem_nil, List.length_cons, List.length_nil, List.cons_append, List.nil_append, Nat.reduceAdd, Nat.reduceMul, Nat.reduceLT, Nat.reduceEqDiff, Nat.reduceLeDiff, Int.reduceAdd, Int.reduceNeg, Int.reduceToNat, Int.cast_ofNat_Int, Int.reduceNatCast, Int.toNat_zero, Int.toNat_one, Int.reduceLE, Int.reduceLT, Int.reduceEq, Int.zero_add, Int.add_zero, or_false, false_or, or_true, true_or, and_true, true_and, and_false, false_and, reduceIte, not_true_eq_false, not_false_eq_true, forall_const, false_implies, true_implies, implies_true, ne_eq, reduceCtorEq, List.all_cons, List.all_nil, Bool.and_true, Bool.and_self, decide_eq_true_eq, decide_true, dX6_readNumber_0, dX6_readNumber_1, dX6_readNumber_4, dX6_readNumber_7, dX6_readNumber_8, dX6_readNumber_9, dX6_readNumber_12, dX6_readNumber_13, dX6_readNumber_16, dX6_readNumber_17, dX6_readNumber_20, dX6_readNumber_21, dX6_readNumber_22, dX6_readNumber_25, dX6_readNumber_26, dX6_readNumber_29, dX6_readNumber_32, dX6_readNumber_33, dX6_readNumber_34, dX6_readNumber_37, dX6_readNumber_38, dX6_readNumber_39, dX6_readNumber_40, dX6_readNumber_41, dX6_readNumber_42, dX6_readNumber_45, dX6_readNumber_46, dX6_readNumber_49, dX6_readNumber_50, dX6_readNumber_53, dX6_readNumber_56, dX6_readNumber_57, dX6_readNumber_60, dX6_readNumber_63, dX6_readNumber_64, dX6_readNumber_65, dX6_readNumber_66, dX6_readNumber_69, dX6_readNumber_70, FX6_67, FX6_87, FX6_98, G_X6_readNumber_101, G_X6_readNumber_59, G_X6_readNumber_105, kd_66, T6_requires, T6_in, T6_reads, h0, s9, s8, rI_wI]
      repeat' (first | exact trivial | omega | (with_reducible assumption) | exact absurd trivial (by with_reducible assumption) | contradiction | apply And.intro | intro _)
  · have hk := hK μ 0 MFr.rf (Or.inr ⟨h1, h2, h3⟩) (by omega) (fun z => absurd (h1.symm.trans z) h2)
    clear hK
    apply hV [] 60
    simp only [InR, InL, inb, Int.toNat_natCast, wp1, wpc_z, wpc_s, stp_iconst, stp_bipush, stp_sipush, stp_lconst, stp_iload_n, stp_iload, stp_lload_n, stp_lload, stp_aload_n, stp_aload, stp_istore_n, stp_istore, stp_lstore_n, stp_lstore, stp_astore_n, stp_astore, stp_iinc, stp_iadd, stp_isub, stp_imul, stp_ineg, stp_idiv, stp_irem, stp_ladd, stp_lmul, stp_ldiv, stp_lrem, stp_ishl, stp_ishr, stp_iushr, stp_iand, stp_ior, stp_i2l, stp_i2b, stp_i2s, stp_lcmp, stp_dup, stp_dup2, stp_pop, stp_ifCond, stp_if_icmp, stp_goto, stp_tableswitch, stp_lookupswitch, stp_ldc, stp_ldc_w, stp_ldc2_w, stp_getstatic, stp_getfield, stp_putfield, stp_iaload, stp_baload, stp_iastore, stp_bastore, stp_aaload, stp_aastore, stp_invokevirtual, stp_invokestatic, stp_ireturn, stp_lreturn, stp_return_, lg, lset, okl, spl, wd, c1, cnd, tg, swT, swL, f4_0, f4_1, f4_2, f4_3, f2_0, f2_1, List.mem_cons, List.not_mem_nil, List.length_cons, List.length_nil, List.cons_append, List.nil_append, Nat.reduceAdd, Nat.reduceMul, Nat.reduceLT, Nat.reduceEqDiff, Nat.reduceLeDiff, Int.reduceAdd, Int.reduceNeg, Int.reduceToNat, Int.cast_ofNat_Int, Int.reduceNatCast, Int.toNat_zero, Int.toNat_one, Int.reduceLE, Int.reduceLT, Int.reduceEq, Int.zero_add, Int.add_zero, or_false, false_or, or_true, true_or, and_true, true_and, and_false, false_and, reduceIte, not_true_eq_false, not_false_eq_true, forall_const, false_implies, true_implies, implies_true, ne_eq, reduceCtorEq, List.all_cons, List.all_nil, Bool.and_true, Bool.and_self, decide_eq_true_eq, decide_true, dX6_readNumber_0, dX6_readNumber_1, dX6_readNumber_4, dX6_readNumber_7, dX6_readNumber_8, dX6_readNumber_9, dX6_readNumber_12, dX6_readNumber_13, dX6_readNumber_16, dX6_readNumber_17, dX6_readNumber_20, dX6_readNumber_21, dX6_readNumber_22, dX6_readNumber_25, dX6_readNumber_26, dX6_readNumber_29, dX6_readNumber_32, dX6_readNumber_33, dX6_readNumber_34, dX6_readNumber_37, dX6_readNumber_38, dX6_readNumber_39, dX6_readNumber_40, dX6_readNumber_41, dX6_readNumber_42, dX6_readNumber_45, dX6_readNumber_46, dX6_readNumber_49, dX6_readNumber_50, dX6_readNumber_53, dX6_readNumber_56, dX6_readNumber_57, dX6_readNumber_60, dX6_readNumber_63, dX6_readNumber_64, dX6_readNumber_65, dX6_readNumber_66, dX6_readNumber_69, dX6_readNumber_70, FX6_67, FX6_87, FX6_98, G_X6_readNumber_101, G_X6_readNumber_59, G_X6_readNumber_105, kd_66, T6_requires, T6_in, T6_reads, h1]
    repeat' (first | exact trivial | omega | (with_reducible assumption) | exact absurd trivial (by with_reducible assumption) | contradiction | apply And.intro | intro _)
theorem good_X6_readNumber (l : Launch) : Good l 2 yX6_readNumber cX6_readNumber 4 (some .int) T6_readNumber := by
  refine Good.mk 1 (by decide) rfl (by simp [retOK]) FOK6 COK6 (gk_X6_readNumber l) ?_ ?_
  · intro a μ K h
    unfold T6_readNumber at h
    split at h
    · simp [entl]
    · exact h.elim
  · intro a μ K V hV h
    unfold T6_readNumber at h
    split at h
    · exact body_X6_readNumber _ _ _ μ K V hV h
    · exact h.elim

/-- nothing but the reader's own numbers and what is told so far has changed -/
def MFd (μ ν : Mem) : Prop := (∀ k, k ≠ 66 → k ≠ 70 → ∀ j, rI ν k j = rI μ k j) ∧ (∀ j, j ≠ 4 → (j < 7 ∨ 12 < j) → rI ν 66 j = rI μ 66 j) ∧ ∀ k j, rR ν k j = rR μ k j
theorem MFd.rf {μ : Mem} : MFd μ μ := ⟨fun _ _ _ _ => rfl, fun _ _ _ => rfl, fun _ _ => rfl⟩
theorem MFd.tr {μ ν ρ : Mem} (h : MFd μ ν) (h2 : MFd ν ρ) : MFd μ ρ := ⟨fun k a b j => (h2.1 k a b j).trans (h.1 k a b j), fun j a hj => (h2.2.1 j a hj).trans (h.2.1 j a hj), fun k j => (h2.2.2 k j).trans (h.2.2 k j)⟩
theorem MFr.d {μ ν : Mem} (h : MFr μ ν) : MFd μ ν := ⟨fun k a _ j => h.1 k a j, fun j _ hj => h.2.1 j hj, h.2.2⟩
theorem MFd.w (μ : Mem) (j : Nat) (v : Int) : MFd μ (wI μ 70 j v) := ⟨fun k _ a y => by rw [rI_wI, if_neg (fun z => a z.1)], fun y _ _ => by rw [rI_wI, if_neg (by omega)], fun _ _ => rfl⟩
theorem MFd.w4 (μ : Mem) (v : Int) : MFd μ (wI μ 66 4 v) := ⟨fun k a _ y => by rw [rI_wI, if_neg (fun z => a z.1)], fun y h _ => by rw [rI_wI, if_neg (fun z => h z.2)], fun _ _ => rfl⟩
theorem MFd.tp {μ ν : Mem} {b : Nat → Int} {len : Nat} (h : MFd μ ν) (ht : TPm μ b len) : TPm ν b len := ⟨by rw [h.2.1 6 (by omega) (by omega)]; exact ht.1, ht.2.1, by rw [← ht.2.2.1]; exact funext (fun j => h.1 71 (by omega) (by omega) j), ht.2.2.2⟩
theorem NI.w {ν : Mem} {b : Nat → Int} {len : Nat} {L : List (Int × Int)} {p : Nat} {r : Int × Int} (h : NI ν b len L p r) (j : Nat) (v : Int) : NI (wI ν 70 j v) b len L p r := by
  have e : ∀ y, rI (wI ν 70 j v) 66 y = rI ν 66 y := fun y => by rw [rI_wI, if_neg (by omega)]
  unfold NI RS
  simp only [e]
  exact h
def E60 (f g : Nat → Int) : Prop := ∀ x, x < 60 → f x = g x
/-- while a STATION is read: what stands in the draft, while there is no FAULT -/
def SD (μ ν : Mem) (b : Nat → Int) (len : Nat) (L : List (Int × Int)) (q : Nat) (r : Int × Int) (Dt : Nat → Int) : Prop := MFd μ ν ∧ rI ν 66 4 = rI μ 66 4 ∧ NI ν b len L q r ∧ (rI ν 66 11 = 0 → E60 (rI ν 70) Dt) ∧ rI ν 70 35 = rI μ 70 35 ∧ rI ν 70 36 = rI μ 70 36
def GL_X6_readStation : List (Nat × Nat × Bool × TT) := [(108, 1, true, T6_lowOf), (111, 1, true, T6_mostOf), (114, 3, false, T6_readNumber)]
def G_X6_readStation : Nat → Option (Nat × Bool × TT) := fun i => GL_X6_readStation.lookup i
theorem G_X6_readStation_108 : G_X6_readStation 108 = some (1, true, T6_lowOf) := rfl
theorem G_X6_readStation_111 : G_X6_readStation 111 = some (1, true, T6_mostOf) := rfl
theorem G_X6_readStation_114 : G_X6_readStation 114 = some (3, false, T6_readNumber) := rfl

theorem lohi : ∀ t : Nat, t < 5 → (0 ≤ loA (t : Int) ∧ loA (t : Int) ≤ 1) ∧ (3 ≤ hiA (t : Int) ∧ hiA (t : Int) ≤ 99) := by decide +kernel
set_option maxRecDepth 20000 in
set_option maxHeartbeats 4000000 in
theorem lp_st1 (V : Nat → List (Option AV) → List AV → Mem → Prop) (K : List AV → Mem → Prop) (hV : Clos FX6 CX6 G_X6_readStation 0 K cX6_readStation V) (μ ν : Mem) (b : Nat → Int) (len q c : Nat) (hc : c + 4 < 35) (ht : TPm μ b len) (hq : q ≤ len) (k : Int) (t : Nat) (ht4 : 1 ≤ t ∧ t ≤ 4) (L : List (Int × Int)) (r : Int × Int) (hr : 0 ≤ r.1 ∧ r.1 ≤ 6) (Dt : Nat → Int) (hS : SD μ ν b len ((loA (t : Int), hiA (t : Int)) :: L) q r Dt) (hK : ∀ ρ, SD μ ρ b len L (tkN b len q) r (upF Dt (c + t) (tkV b len q)) → V 22 [some (.inr (.inr 66)), some (.inl k), some (.inl (c : Int)), some (.inl ((t : Int) + 1))] [] ρ) : V 22 [some (.inr (.inr 66)), some (.inl k), some (.inl (c : Int)), some (.inl (t : Int))] [] ν := by
  obtain ⟨h1, h2, h3, h4, h5, h6⟩ := hS
  have hlh := lohi t (by omega)
  have e1 : ((c : Int) + (t : Int)).toNat = c + t := by omega
  have main : ∃ (b_1 : Nat → Int) (len_1 p_1 : Nat) (L_1 : List (Int × Int)) (r_1 : Int × Int), TPm ν b_1 len_1 ∧ p_1 ≤ len_1 ∧ (0 ≤ r_1.1 ∧ r_1.1 ≤ 6) ∧ NI ν b_1 len_1 ((loA (t : Int), hiA (t : Int)) :: L_1) p_1 r_1 ∧ ∀ ρ v, MFr ν ρ → NI ρ b_1 len_1 L_1 (tkN b_1 len_1 p_1) r_1 → (0 ≤ v ∧ v ≤ 99) → (rI ρ 66 11 = 0 → rI ν 66 11 = 0 ∧ v = tkV b_1 len_1 p_1) → V 22 [some (.inr (.inr 66)), some (.inl k), some (.inl (c : Int)), some (.inl ((t : Int) + 1))] [] (wI ρ 70 (c + t) v) := by
    refine ⟨b, len, q, L, r, h1.tp ht, hq, hr, h3, fun ρ v g1 g2 g3 g4 => hK _ ⟨(h1.tr g1.d).tr (MFd.w ρ _ _), ?_, g2.w _ _, fun z => ?_, ?_, ?_⟩⟩
    · rw [rI_wI, if_neg (by omega), g1.2.1 4 (by omega)]; exact h2
    · rw [rI_wI, if_neg (by omega)] at z
      obtain ⟨j1, j2⟩ := g4 z
      rw [j2]
      intro y hy
      rw [rI_wI]
      unfold upF
      by_cases e : y = c + t
      · rw [if_pos ⟨rfl, e⟩, if_pos e]
      · rw [if_neg (fun z => e z.2), if_neg e, g1.1 70 (by omega), h4 j1 y hy]
    · rw [rI_wI, if_neg (by omega), g1.1 70 (by omega)]; exact h5
    · rw [rI_wI, if_neg (by omega), g1.1 70 (by omega)]; exact h6
  have k46 : ∀ ρ v, V 22 [some (.inr (.inr 66)), some (.inl k), some (.inl (c : Int)), some (.inl ((t : Int) + 1))] [] (wI ρ 70 (c + t) v) → V 46 [some (.inr (.inr 66)), some (.inl k), some (.inl (c : Int)), some (.inl (t : Int))] [.inl v, .inl ((c : Int) + (t : Int)), .inr (.inr 70)] ρ := by
    intro ρ v h
    apply hV [22] 10
    simp only [InR, InL, inb, Int.toNat_natCast, wp1, wpc_z, wpc_s, stp_iconst, stp_bipush, stp_sipush, stp_lconst, stp_iload_n, stp_iload, stp_lload_n, stp_lload, stp_aload_n, stp_aload, stp_istore_n, stp_istore, stp_lstore_n, stp_lstore, stp_astore_n, stp_astore, stp_iinc, stp_iadd, stp_isub, stp_imul, stp_ineg, stp_idiv, stp_irem, stp_ladd, stp_lmul, stp_ldiv, stp_lrem, stp_ishl, stp_ishr, stp_iushr, stp_iand, stp_ior, stp_i2l, stp_i2b, stp_i2s, stp_lcmp, stp_dup, stp_dup2, stp_pop, stp_ifCond, stp_if_icmp, stp_goto, stp_tableswitch, stp_lookupswitch, stp_ldc, stp_ldc_w, stp_ldc2_w, stp_getstatic, stp_getfield, stp_putfield, stp_iaload, stp_baload, stp_iastore, stp_bastore, stp_aaload, stp_aastore, stp_invokevirtual, stp_invokestatic, stp_ireturn, stp_lreturn, stp_return_, lg, lset, okl, spl, wd, c1, cnd, tg, swT, swL, f4_0, f4_1, f4_2, f4_3, f2_0, f2_1, List.mem_cons, List.not_mem_nil, List.length_cons, List.length_nil, List.cons_append, List.nil_append, Nat.reduceAdd, Nat.reduceMul, Nat.reduceLT, Nat.reduceEqDiff, Nat.reduceLeDiff, Int.reduceAdd, Int.reduceNeg, Int.reduceToNat, Int.cast_ofNat_Int, Int.reduceNatCast, Int.toNat_zero, Int.toNat_one, Int.reduceLE, Int.reduceLT, Int.reduceEq, Int.zero_add, Int.add_zero, or_false, false_or, or_true, true_or, and_true, true_and, and_false, false_and, reduceIte, not_true_eq_false, not_false_eq_true, forall_const, false_implies, true_implies, implies_true, ne_eq, reduceCtorEq, List.all_cons, List.all_nil, Bool.and_true, Bool.and_self, decide_eq_true_eq, decide_true, dX6_readStation_0, dX6_readStation_2, dX6_readStation_3, dX6_readStation_6, dX6_readStation_8, dX6_readStation_9, dX6_readStation_10, dX6_readStation_11, dX6_readStation_12, dX6_readStation_15, dX6_readStation_16, dX6_readStation_17, dX6_readStation_18, dX6_readStation_19, dX6_readStation_20, dX6_readStation_21, dX6_readStation_22, dX6_readStation_23, dX6_readStation_24, dX6_readStation_27, dX6_readStation_28, dX6_readStation_31, dX6_readStation_32, dX6_readStation_33, dX6_readStation_34, dX6_readStation_35, dX6_readStation_36, dX6_readStation_39, dX6_readStation_40, dX6_readStation_43, dX6_readStation_46, dX6_readStation_47, dX6_readStation_50, dX6_readStation_53, dX6_readStation_54, dX6_readStation_57, dX6_readStation_59, dX6_readStation_60, dX6_readStation_61, dX6_readStation_62, dX6_readStation_63, dX6_readStation_64, FX6_20, G_X6_readStation_108, G_X6_readStation_111, G_X6_readStation_114, kd_70, ln_70, e1]
    repeat' (first | exact trivial | omega | (with_reducible assumption) | exact absurd trivial (by with_reducible assumption) | contradiction | apply And.intro | intro _)
  obtain ⟨b1, l1, p1, L1, r1, m1, m2, m3, m4, m5⟩ := main
  have main2 : ∃ (b_1 : Nat → Int) (len_1 p_1 : Nat) (L_1 : List (Int × Int)) (r_1 : Int × Int), TPm ν b_1 len_1 ∧ p_1 ≤ len_1 ∧ (0 ≤ r_1.1 ∧ r_1.1 ≤ 6) ∧ NI ν b_1 len_1 ((loA (t : Int), hiA (t : Int)) :: L_1) p_1 r_1 ∧ ∀ ρ v, MFr ν ρ → NI ρ b_1 len_1 L_1 (tkN b_1 len_1 p_1) r_1 → (0 ≤ v ∧ v ≤ 99) → (rI ρ 66 11 = 0 → rI ν 66 11 = 0 ∧ v = tkV b_1 len_1 p_1) → V 46 [some (.inr (.inr 66)), some (.inl k), some (.inl (c : Int)), some (.inl (t : Int))] [.inl v, .inl ((c : Int) + (t : Int)), .inr (.inr 70)] ρ := ⟨b1, l1, p1, L1, r1, m1, m2, m3, m4, fun ρ v g1 g2 g3 g4 => k46 _ _ (m5 ρ v g1 g2 g3 g4)⟩
  clear hK h3 k46 m5
  apply hV [22, 46] 40
  simp only [InR, InL, inb, Int.toNat_natCast, wp1, wpc_z, wpc_s, stp_iconst, stp_bipush, stp_sipush, stp_lconst, stp_iload_n, stp_iload, stp_lload_n, stp_lload, stp_aload_n, stp_aload, stp_istore_n, stp_istore, stp_lstore_n, stp_lstore, stp_astore_n, stp_astore, stp_iinc, stp_iadd, stp_isub, stp_imul, stp_ineg, stp_idiv, stp_irem, stp_ladd, stp_lmul, stp_ldiv, stp_lrem, stp_ishl, stp_ishr, stp_iushr, stp_iand, stp_ior, stp_i2l, stp_i2b, stp_i2s, stp_lcmp, stp_dup, stp_dup2, stp_pop, stp_ifCond, stp_if_icmp, stp_goto, stp_tableswitch, stp_lookupswitch, stp_ldc, stp_ldc_w, stp_ldc2_w, stp_getstatic, stp_getfield, stp_putfield, stp_iaload, stp_baload, stp_iastore, stp_bastore, stp_aaload, stp_aastore, stp_invokevirtual, stp_invokestatic, stp_ireturn, stp_lreturn, stp_return_, lg, lset, okl, spl, wd, c1, cnd, tg, swT, swL, f4_0, f4_1, f4_2, f4_3, f2_0, f2_1, List.mem_cons, List.not_mem_nil, List.length_cons, List.length_nil, List.cons_append, List.nil_append, Nat.reduceAdd, Nat.reduceMul, Nat.reduceLT, Nat.reduceEqDiff, Nat.reduceLeDiff, Int.reduceAdd, Int.reduceNeg, Int.reduceToNat, Int.cast_ofNat_Int, Int.reduceNatCast, Int.toNat_zero, Int.toNat_one, Int.reduceLE, Int.reduceLT, Int.reduceEq, Int.zero_add, Int.add_zero, or_false, false_or, or_true, true_or, and_true, true_and, and_false, false_and, reduceIte, not_true_eq_false, not_false_eq_true, forall_const, false_implies, true_implies, implies_true, ne_eq, reduceCtorEq, List.all_cons, List.all_nil, Bool.and_true, Bool.and_self, decide_eq_true_eq, decide_true, dX6_readStation_0, dX6_readStation_2, dX6_readStation_3, dX6_readStation_6, dX6_readStation_8, dX6_readStation_9, dX6_readStation_10, dX6_readStation_11, dX6_readStation_12, dX6_readStation_15, dX6_readStation_16, dX6_readStation_17, dX6_readStation_18, dX6_readStation_19, dX6_readStation_20, dX6_readStation_21, dX6_readStation_22, dX6_readStation_23, dX6_readStation_24, dX6_readStation_27, dX6_readStation_28, dX6_readStation_31, dX6_readStation_32, dX6_readStation_33, dX6_readStation_34, dX6_readStation_35, dX6_readStation_36, dX6_readStation_39, dX6_readStation_40, dX6_readStation_43, dX6_readStation_46, dX6_readStation_47, dX6_readStation_50, dX6_readStation_53, dX6_readStation_54, dX6_readStation_57, dX6_readStation_59, dX6_readStation_60, dX6_readStation_61, dX6_readStation_62, dX6_readStation_63, dX6_readStation_64, FX6_20, G_X6_readStation_108, G_X6_readStation_111, G_X6_readStation_114, kd_66, kd_70, T6_lowOf, T6_mostOf, loA_f, hiA_f, T6_readNumber]
  repeat' (first | exact trivial | omega | (with_reducible assumption) | exact absurd trivial (by with_reducible assumption) | contradiction | apply And.intro | intro _)
def T6_readStation : TT := fun a μ K => match a with
  | [.inr (.inr o), .inl k] => o = 66 ∧ (∃ (b : Nat → Int) (len p : Nat) (r : Int × Int) (D : Nat → Int), TPm μ b len ∧ p ≤ len ∧ (0 ≤ r.1 ∧ r.1 ≤ 6) ∧ NI μ b len bds p r ∧ rI μ 66 11 = 0 ∧ E60 (rI μ 70) D ∧ (0 ≤ D 35 ∧ D 35 < 5) ∧ ∀ ν, MFd μ ν → rI ν 66 4 = rI μ 66 4 → NI ν b len [] (n2 b len (n2 b len p)) r → (rI ν 66 11 = 0 → E60 (rI ν 70) (stD b len D k p)) → rI ν 70 35 = D 35 + 1 → rI ν 70 36 = D 36 → K [] ν)
  | _ => False
theorem rec_X6_readStation : ∀ a μ K, T6_readStation a μ K → ∃ k r, a = .inr (.inr k) :: r ∧ kd k = 6 := by
  intro a μ K h
  unfold T6_readStation at h
  split at h
  · exact ⟨_, _, rfl, by rw [h.1]; rfl⟩
  · exact h.elim
theorem gk_X6_readStation (l : Launch) : ∀ i n b T, G_X6_readStation i = some (n, b, T) → CallOK l 3 RX6 i n b T := by
  intro i n b T h
  have hm : (i, n, b, T) ∈ GL_X6_readStation := lk_mem h
  simp only [GL_X6_readStation, List.mem_cons, List.not_mem_nil, or_false, Prod.mk.injEq] at hm
  rcases hm with ⟨rfl, rfl, rfl, rfl⟩ | ⟨rfl, rfl, rfl, rfl⟩ | ⟨rfl, rfl, rfl, rfl⟩
  · exact CallOK.S (d := 3) (own := RX6) (i := 108) (n := 1) (good_X6_lowOf l) (by decide) (by decide) (mg 755 (by decide +kernel) (by decide +kernel)) (mg 756 (by decide +kernel) (by decide +kernel)) (mg 7 (by decide +kernel) (by decide +kernel)) (mg 757 (by decide +kernel) (by decide +kernel)) (by decide +kernel)
  · exact CallOK.S (d := 3) (own := RX6) (i := 111) (n := 1) (good_X6_mostOf l) (by decide) (by decide) (mg 758 (by decide +kernel) (by decide +kernel)) (mg 759 (by decide +kernel) (by decide +kernel)) (mg 7 (by decide +kernel) (by decide +kernel)) (mg 760 (by decide +kernel) (by decide +kernel)) (by decide +kernel)
  · exact CallOK.V (d := 3) (own := RX6) (i := 114) (n := 2) (ci := 6) (good_X6_readNumber l) (by decide) (by decide) rfl (by decide) rec_X6_readNumber (mg 747 (by decide +kernel) (by decide +kernel)) (mg 749 (by decide +kernel) (by decide +kernel)) (mgs 31 (by decide +kernel) (by decide +kernel)) (mg 7 (by decide +kernel) (by decide +kernel)) (mg 750 (by decide +kernel) (by decide +kernel)) (by decide +kernel)
set_option maxRecDepth 20000 in
set_option maxHeartbeats 4000000 in
theorem body_X6_readStation (o : Nat) (k : Int) (μ : Mem) (K : List AV → Mem → Prop) (V : Nat → List (Option AV) → List AV → Mem → Prop) (hV : Clos FX6 CX6 G_X6_readStation 0 K cX6_readStation V) (hT : o = 66 ∧ (∃ (b : Nat → Int) (len p : Nat) (r : Int × Int) (D : Nat → Int), TPm μ b len ∧ p ≤ len ∧ (0 ≤ r.1 ∧ r.1 ≤ 6) ∧ NI μ b len bds p r ∧ rI μ 66 11 = 0 ∧ E60 (rI μ 70) D ∧ (0 ≤ D 35 ∧ D 35 < 5) ∧ ∀ ν, MFd μ ν → rI ν 66 4 = rI μ 66 4 → NI ν b len [] (n2 b len (n2 b len p)) r → (rI ν 66 11 = 0 → E60 (rI ν 70) (stD b len D k p)) → rI ν 70 35 = D 35 + 1 → rI ν 70 36 = D 36 → K [] ν)) : V 0 [some (.inr (.inr o)), some (.inl k), none, none] [] μ := by
  obtain ⟨rfl, b, len, p, r, D, ht, hp, hr, hN, h0, hD, h35, hK⟩ := hT
  have ht2 := ht.2.1
  have hb := ht.2.2.2
  obtain ⟨m, hm⟩ := Int.eq_ofNat_of_zero_le h35.1
  have em : (D 35).toNat = m := by omega
  have q1 := (tkN_in hb ht2 hp).2.1
  have q2 := (tkN_in hb ht2 q1).2.1
  have q3 := (tkN_in hb ht2 q2).2.1
  have e0 : ((7 * (m : Int)) + 0).toNat = 7 * m := by omega
  have c70 : rI μ 70 35 = m := by rw [hD 35 (by omega), hm]
  have S0 : SD μ (wI μ 70 (7 * m) k) b len bds p r (upF D (7 * m) k) := by
    refine ⟨MFd.w μ _ _, by rw [rI_wI, if_neg (by omega)], hN.w _ _, fun _ => ?_, by rw [rI_wI, if_neg (by omega)], by rw [rI_wI, if_neg (by omega)]⟩
    intro y hy
    rw [rI_wI]
    unfold upF
    by_cases e : y = 7 * m
    · rw [if_pos ⟨rfl, e⟩, if_pos e]
    · rw [if_neg (fun z => e z.2), if_neg e, hD y hy]
  have fin : ∀ ρ, SD μ ρ b len [] (n2 b len (n2 b len p)) r (upF (upF (upF (upF (upF D (7 * m) k) (7 * m + 1) (tkV b len p)) (7 * m + 2) (tkV b len (tkN b len p))) (7 * m + 3) (tkV b len (n2 b len p))) (7 * m + 4) (tkV b len (tkN b len (n2 b len p)))) → V 22 [some (.inr (.inr 66)), some (.inl k), some (.inl ((7 * m : Nat) : Int)), some (.inl (((4 : Nat) : Int) + 1))] [] ρ := by
    intro ρ hS
    obtain ⟨s1, s2, s3, s4, s5, s6⟩ := hS
    rw [c70] at s5
    have hk := hK (wI ρ 70 35 ((m : Int) + 1)) (s1.tr (MFd.w ρ _ _)) (by rw [rI_wI, if_neg (by omega)]; exact s2) (s3.w _ _) (fun z => by
      rw [rI_wI, if_neg (by omega)] at z
      intro y hy
      have := s4 z y hy
      unfold stD
      rw [em, hm, rI_wI]
      by_cases e : y = 35
      · rw [if_pos ⟨rfl, e⟩, e, upF_s]
      · rw [if_neg (fun z => e z.2), upF_n _ _ e]
        exact this) (by rw [rI_wI, if_pos ⟨rfl, rfl⟩, hm]) (by rw [rI_wI, if_neg (by omega), s6, hD 36 (by omega)])
    clear hK
    apply hV [] 20
    simp only [InR, InL, inb, Int.toNat_natCast, wp1, wpc_z, wpc_s, stp_iconst, stp_bipush, stp_sipush, stp_lconst, stp_iload_n, stp_iload, stp_lload_n, stp_lload, stp_aload_n, stp_aload, stp_istore_n, stp_istore, stp_lstore_n, stp_lstore, stp_astore_n, stp_astore, stp_iinc, stp_iadd, stp_isub, stp_imul, stp_ineg, stp_idiv, stp_irem, stp_ladd, stp_lmul, stp_ldiv, stp_lrem, stp_ishl, stp_ishr, stp_iushr, stp_iand, stp_ior, stp_i2l, stp_i2b, stp_i2s, stp_lcmp, stp_dup, stp_dup2, stp_pop, stp_ifCond, stp_if_icmp, stp_goto, stp_tableswitch, stp_lookupswitch, stp_ldc, stp_ldc_w, stp_ldc2_w, stp_getstatic, stp_getfield, stp_putfield, stp_iaload, stp_baload, stp_iastore, stp_bastore, stp_aaload, stp_aastore, stp_invokevirtual, stp_invokestatic, stp_ireturn, stp_lreturn, stp_return_, lg, lset, okl, spl, wd, c1, cnd, tg, swT, swL, f4_0, f4_1, f4_2, f4_3, f2_0, f2_1, List.mem_cons, List.not_mem_nil, List.length_cons, List.length_nil, List.cons_append, List.nil_append, Nat.reduceAdd, Nat.reduceMul, Nat.reduceLT, Nat.reduceEqDiff, Nat.reduceLeDiff, Int.reduceAdd, Int.reduceNeg, Int.reduceToNat, Int.cast_ofNat_Int, Int.reduceNatCast, Int.toNat_zero, Int.toNat_one, Int.reduceLE, Int.reduceLT, Int.reduceEq, Int.zero_add, Int.add_zero, or_false, false_or, or_true, true_or, and_true, true_and, and_false, false_and, reduceIte, not_true_eq_false, not_false_eq_true, forall_const, false_implies, true_implies, implies_true, ne_eq, reduceCtorEq, List.all_cons, List.all_nil, Bool.and_true, Bool.and_self, decide_eq_true_eq, decide_true, dX6_readStation_0, dX6_readStation_2, dX6_readStation_3, dX6_readStation_6, dX6_readStation_8, dX6_readStation_9, dX6_readStation_10, dX6_readStation_11, dX6_readStation_12, dX6_readStation_15, dX6_readStation_16, dX6_readStation_17, dX6_readStation_18, dX6_readStation_19, dX6_readStation_20, dX6_readStation_21, dX6_readStation_22, dX6_readStation_23, dX6_readStation_24, dX6_readStation_27, dX6_readStation_28, dX6_readStation_31, dX6_readStation_32, dX6_readStation_33, dX6_readStation_34, dX6_readStation_35, dX6_readStation_36, dX6_readStation_39, dX6_readStation_40, dX6_readStation_43, dX6_readStation_46, dX6_readStation_47, dX6_readStation_50, dX6_readStation_53, dX6_readStation_54, dX6_readStation_57, dX6_readStation_59, dX6_readStation_60, dX6_readStation_61, dX6_readStation_62, dX6_readStation_63, dX6_readStation_64, FX6_20, G_X6_readStation_108, G_X6_readStation_111, G_X6_readStation_114, kd_66, kd_70, ln_70, s5]
    repeat' (first | exact trivial | omega | (with_reducible assumption) | exact absurd trivial (by with_reducible assumption) | contradiction | apply And.intro | intro _)
  have all := lp_st1 V K hV μ _ b len p (7 * m) (by omega) ht hp k 1 (by omega) _ r hr _ S0 (fun ρ1 g1 => lp_st1 V K hV μ ρ1 b len _ (7 * m) (by omega) ht q1 k 2 (by omega) _ r hr _ g1 (fun ρ2 g2 => lp_st1 V K hV μ ρ2 b len _ (7 * m) (by omega) ht q2 k 3 (by omega) _ r hr _ g2 (fun ρ3 g3 => lp_st1 V K hV μ ρ3 b len _ (7 * m) (by omega) ht q3 k 4 (by omega) _ r hr _ g3 fin)))
  clear fin hK
  have e7 : ((7 * m : Nat) : Int) = 7 * (m : Int) := by omega
  rw [e7] at all
  apply hV [22] 20
  simp only [InR, InL, inb, Int.toNat_natCast, wp1, wpc_z, wpc_s, stp_iconst, stp_bipush, stp_sipush, stp_lconst, stp_iload_n, stp_iload, stp_lload_n, stp_lload, stp_aload_n, stp_aload, stp_istore_n, stp_istore, stp_lstore_n, stp_lstore, stp_astore_n, stp_astore, stp_iinc, stp_iadd, stp_isub, stp_imul, stp_ineg, stp_idiv, stp_irem, stp_ladd, stp_lmul, stp_ldiv, stp_lrem, stp_ishl, stp_ishr, stp_iushr, stp_iand, stp_ior, stp_i2l, stp_i2b, stp_i2s, stp_lcmp, stp_dup, stp_dup2, stp_pop, stp_ifCond, stp_if_icmp, stp_goto, stp_tableswitch, stp_lookupswitch, stp_ldc, stp_ldc_w, stp_ldc2_w, stp_getstatic, stp_getfield, stp_putfield, stp_iaload, stp_baload, stp_iastore, stp_bastore, stp_aaload, stp_aastore, stp_invokevirtual, stp_invokestatic, stp_ireturn, stp_lreturn, stp_return_, lg, lset, okl, spl, wd, c1, cnd, tg, swT, swL, f4_0, f4_1, f4_2, f4_3, f2_0, f2_1, List.mem_cons, List.not_mem_nil, List.length_cons, List.length_nil, List.cons_append, List.nil_append, Nat.reduceAdd, Nat.reduceMul, Nat.reduceLT, Nat.reduceEqDiff, Nat.reduceLeDiff, Int.reduceAdd, Int.reduceNeg, Int.reduceToNat, Int.cast_ofNat_Int, Int.reduceNatCast, Int.toNat_zero, Int.toNat_one, Int.reduceLE, Int.reduceLT, Int.reduceEq, Int.zero_add, Int.add_zero, or_false, false_or, or_true, true_or, and_true, true_and, and_false, false_and, reduceIte, not_true_eq_false, not_false_eq_true, forall_const, false_implies, true_implies, implies_true, ne_eq, reduceCtorEq, List.all_cons, List.all_nil, Bool.and_true, Bool.and_self, decide_eq_true_eq, decide_true, dX6_readStation_0, dX6_readStation_2, dX6_readStation_3, dX6_readStation_6, dX6_readStation_8, dX6_readStation_9, dX6_readStation_10, dX6_readStation_11, dX6_readStation_12, dX6_readStation_15, dX6_readStation_16, dX6_readStation_17, dX6_readStation_18, dX6_readStation_19, dX6_readStation_20, dX6_readStation_21, dX6_readStation_22, dX6_readStation_23, dX6_readStation_24, dX6_readStation_27, dX6_readStation_28, dX6_readStation_31, dX6_readStation_32, dX6_readStation_33, dX6_readStation_34, dX6_readStation_35, dX6_readStation_36, dX6_readStation_39, dX6_readStation_40, dX6_readStation_43, dX6_readStation_46, dX6_readStation_47, dX6_readStation_50, dX6_readStation_53, dX6_readStation_54, dX6_readStation_57, dX6_readStation_59, dX6_readStation_60, dX6_readStation_61, dX6_readStation_62, dX6_readStation_63, dX6_readStation_64, FX6_20, G_X6_readStation_108, G_X6_readStation_111, G_X6_readStation_114, kd_66, kd_70, ln_70, c70, e0, tn7_00]
  repeat' (first | exact trivial | omega | (with_reducible assumption) | exact absurd trivial (by with_reducible assumption) | contradiction | apply And.intro | intro _)
theorem good_X6_readStation (l : Launch) : Good l 3 yX6_readStation cX6_readStation 4 none T6_readStation := by
  refine Good.mk 0 (by decide) rfl (by simp [retOK]) FOK6 COK6 (gk_X6_readStation l) ?_ ?_
  · intro a μ K h
    unfold T6_readStation at h
    split at h
    · simp [entl]
    · exact h.elim
  · intro a μ K V hV h
    unfold T6_readStation at h
    split at h
    · exact body_X6_readStation _ _ μ K V hV h
    · exact h.elim

