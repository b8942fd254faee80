/-! both: images, sheets, counts -/
theorem el_21 (μ : Mem) (j : Nat) : el μ 21 j = 22 + 12 * j := by simp [el, kd_21]
theorem el_46 (μ : Mem) (j : Nat) : el μ 46 j = 47 + 2 * j := by simp [el, kd_46]
theorem imgk {I : Nat} (h : I = 22 ∨ I = 34) : kd I = 0 ∧ kd (I + 1) = 1 ∧ kd (I + 8) = 2 := by
  rcases h with rfl | rfl <;> exact ⟨rfl, rfl, rfl⟩
def KP (μ ν : Mem) (I : Nat) (f : Nat → Int) : Prop := RG ν (I + 1) f ∧ rI ν (I + 1) 5 = rI μ 1 5 ∧ rI ν (I + 1) 6 = rI μ 1 6 ∧ rI ν (I + 8) 3 = rI μ 15 3 ∧ (∀ c, 1 ≤ c → c ≤ 3 → ∀ j, j < 6 → rI ν (I + 8 + c) j = rI μ (15 + c) j) ∧ rI ν I 2 = 1 ∧ (∀ a, (a < I ∨ I + 11 < a) → ∀ j, rI ν a j = rI μ a j) ∧ ∀ a j, rR ν a j = rR μ a j
def BP (μ ν : Mem) (I : Nat) (f : Nat → Int) : Prop := RG ν 1 f ∧ rI ν 1 5 = rI μ (I + 1) 5 ∧ rI ν 1 6 = rI μ (I + 1) 6 ∧ rI ν 15 3 = rI μ (I + 8) 3 ∧ (∀ c, 1 ≤ c → c ≤ 3 → ∀ j, j < 6 → rI ν (15 + c) j = rI μ (I + 8 + c) j) ∧ (∀ a, (a < 1 ∨ (7 < a ∧ a < 15) ∨ 18 < a) → ∀ j, rI ν a j = rI μ a j) ∧ ∀ a j, rR ν a j = rR μ a j
theorem sc_rd (ν : Mem) (O B : Nat) (h : B + 3 < O ∨ O + 3 < B) (a b : Nat) : rI (wC (wC (wC ν (O + 1) 0 (B + 1) 0 6) (O + 2) 0 (B + 2) 0 6) (O + 3) 0 (B + 3) 0 6) a b = if B + 1 ≤ a ∧ a ≤ B + 3 ∧ b < 6 then rI ν (O + (a - B)) b else rI ν a b := by
  simp only [rI_wC]
  by_cases h6 : b < 6
  · by_cases h3 : a = B + 3
    · subst h3
      rw [if_pos ⟨rfl, by omega, by omega⟩, if_neg (by omega), if_neg (by omega), if_pos ⟨by omega, by omega, h6⟩]
      congr 1 <;> omega
    · rw [if_neg (by omega)]
      by_cases h2 : a = B + 2
      · subst h2
        rw [if_pos ⟨rfl, by omega, by omega⟩, if_neg (by omega), if_pos ⟨by omega, by omega, h6⟩]
        congr 1 <;> omega
      · rw [if_neg (by omega)]
        by_cases h1 : a = B + 1
        · subst h1
          rw [if_pos ⟨rfl, by omega, by omega⟩, if_pos ⟨by omega, by omega, h6⟩]
          congr 1 <;> omega
        · rw [if_neg (by omega), if_neg (by omega)]
  · rw [if_neg (by omega), if_neg (by omega), if_neg (by omega), if_neg (by omega)]
theorem RG.frame {μ ν : Mem} {B : Nat} {f : Nat → Int} (h : RG μ B f) (h35 : f 35 ≤ 5) (e : ∀ k, B ≤ k → k ≤ B + 6 → ∀ j, rI ν k j = rI μ k j) (e2 : ∀ j, rR ν (B + 1) j = rR μ (B + 1) j) : RG ν B f := by
  obtain ⟨r1, r2, r3, r4, r5, r6⟩ := h
  refine ⟨r1.of e2, by rw [e B (by omega) (by omega)]; exact r2, by rw [e B (by omega) (by omega)]; exact r3, by rw [e B (by omega) (by omega)]; exact r4, by rw [e B (by omega) (by omega)]; exact r5, fun i t hi ht => ?_⟩
  have := r1.1 i (by omega)
  rw [e2, e _ (by omega) (by omega)]
  exact r6 i t hi ht
theorem kp_of {μ ν : Mem} {I : Nat} {f : Nat → Int} (hI : I = 22 ∨ I = 34) (h35 : f 35 ≤ 5) (h1 : RG ν (I + 1) f) (h2 : rI ν (I + 1) 5 = rI μ 1 5) (h3 : rI ν (I + 1) 6 = rI μ 1 6) (h4 : FR (I + 1) μ ν) : KP μ (wI (wI (wC (wC (wC ν (15 + 1) 0 (I + 8 + 1) 0 6) (15 + 2) 0 (I + 8 + 2) 0 6) (15 + 3) 0 (I + 8 + 3) 0 6) (I + 8) 3 (rI (wC (wC (wC ν (15 + 1) 0 (I + 8 + 1) 0 6) (15 + 2) 0 (I + 8 + 2) 0 6) (15 + 3) 0 (I + 8 + 3) 0 6) 15 3)) I 2 1) I f := by
  have rd := sc_rd ν 15 (I + 8) (by omega)
  refine ⟨h1.frame h35 (fun k a b j => ?_) (fun _ => rfl), ?_, ?_, ?_, ?_, ?_, ?_, fun a j => h4.2 a j⟩
  · rw [rI_wI, if_neg (by omega), rI_wI, if_neg (by omega), rd, if_neg (by omega)]
  · rw [rI_wI, if_neg (by omega), rI_wI, if_neg (by omega), rd, if_neg (by omega)]; exact h2
  · rw [rI_wI, if_neg (by omega), rI_wI, if_neg (by omega), rd, if_neg (by omega)]; exact h3
  · rw [rI_wI, if_neg (by omega), rI_wI, if_pos ⟨rfl, rfl⟩, rd, if_neg (by omega)]
    exact h4.1 15 (by omega) 3
  · intro c c1' c2' j hj
    rw [rI_wI, if_neg (by omega), rI_wI, if_neg (by omega), rd, if_pos ⟨by omega, by omega, hj⟩]
    rw [show 15 + (I + 8 + c - (I + 8)) = 15 + c by omega]
    exact h4.1 _ (by omega) j
  · rw [rI_wI, if_pos ⟨rfl, rfl⟩]
  · intro a ha j
    rw [rI_wI, if_neg (by omega), rI_wI, if_neg (by omega), rd, if_neg (by omega)]
    exact h4.1 a (by omega) j
theorem bp_of {μ ν : Mem} {I : Nat} {f : Nat → Int} (hI : I = 22 ∨ I = 34) (h35 : f 35 ≤ 5) (h1 : RG ν 1 f) (h2 : rI ν 1 5 = rI μ (I + 1) 5) (h3 : rI ν 1 6 = rI μ (I + 1) 6) (h4 : FR 1 μ ν) : BP μ (wI (wC (wC (wC ν (I + 8 + 1) 0 (15 + 1) 0 6) (I + 8 + 2) 0 (15 + 2) 0 6) (I + 8 + 3) 0 (15 + 3) 0 6) 15 3 (rI (wC (wC (wC ν (I + 8 + 1) 0 (15 + 1) 0 6) (I + 8 + 2) 0 (15 + 2) 0 6) (I + 8 + 3) 0 (15 + 3) 0 6) (I + 8) 3)) I f := by
  have rd := sc_rd ν (I + 8) 15 (by omega)
  refine ⟨h1.frame h35 (fun k a b j => ?_) (fun _ => rfl), ?_, ?_, ?_, ?_, ?_, fun a j => h4.2 a j⟩
  · rw [rI_wI, if_neg (by omega), rd, if_neg (by omega)]
  · rw [rI_wI, if_neg (by omega), rd, if_neg (by omega)]; exact h2
  · rw [rI_wI, if_neg (by omega), rd, if_neg (by omega)]; exact h3
  · rw [rI_wI, if_pos ⟨rfl, rfl⟩, rd, if_neg (by omega)]
    exact h4.1 _ (by omega) 3
  · intro c c1' c2' j hj
    rw [rI_wI, if_neg (by omega), rd, if_pos ⟨by omega, by omega, hj⟩]
    rw [show I + 8 + (15 + c - 15) = I + 8 + c by omega]
    exact h4.1 _ (by omega) j
  · intro a ha j
    rw [rI_wI, if_neg (by omega), rd, if_neg (by omega)]
    exact h4.1 a (by omega) j
def T5_keep : TT := fun a μ K => match a with
  | [.inr (.inr o), .inl k] => o = 0 ∧ (InR k ∧ (¬ (0 ≤ k ∧ k ≤ 1) → K [.inl (-1)] μ) ∧ (0 ≤ k ∧ k ≤ 1 → RP μ (22 + 12 * k.toNat + 1) ∧ (rI μ (22 + 12 * k.toNat) 2 = 0 ∨ rI μ (22 + 12 * k.toNat) 2 = 1) ∧ ∃ f, RG μ 1 f ∧ (0 ≤ f 35 ∧ f 35 ≤ 5) ∧ ∀ ν, KP μ ν (22 + 12 * k.toNat) f → K [.inl (rI μ (22 + 12 * k.toNat) 2)] ν))
  | _ => False
theorem rec_X5_keep : ∀ a μ K, T5_keep a μ K → ∃ k r, a = .inr (.inr k) :: r ∧ kd k = 5 := by
  intro a μ K h
  unfold T5_keep at h
  split at h
  · exact ⟨_, _, rfl, by rw [h.1]; rfl⟩
  · exact h.elim
def GL_X5_keep : List (Nat × Nat × Bool × TT) := [(52, 3, true, T5_isOutside), (74, 2, false, T1_copyFrom), (192, 2, false, T2_copyFrom)]
def G_X5_keep : Nat → Option (Nat × Bool × TT) := fun i => GL_X5_keep.lookup i
theorem G_X5_keep_52 : G_X5_keep 52 = some (3, true, T5_isOutside) := rfl
theorem G_X5_keep_74 : G_X5_keep 74 = some (2, false, T1_copyFrom) := rfl
theorem G_X5_keep_192 : G_X5_keep 192 = some (2, false, T2_copyFrom) := rfl
theorem gk_X5_keep (l : Launch) : ∀ i n b T, G_X5_keep i = some (n, b, T) → CallOK l 2 RX5 i n b T := by
  intro i n b T h
  have hm : (i, n, b, T) ∈ GL_X5_keep := lk_mem h
  simp only [GL_X5_keep, List.mem_cons, List.not_mem_nil, or_false, Prod.mk.injEq] at hm
  rcases hm with ⟨rfl, rfl, rfl, rfl⟩ | ⟨rfl, rfl, rfl, rfl⟩ | ⟨rfl, rfl, rfl, rfl⟩
  · exact CallOK.S (d := 2) (own := RX5) (i := 52) (n := 3) (good_X5_isOutside l) (by decide) (by decide) (mg 191 (by decide +kernel) (by decide +kernel)) (mg 192 (by decide +kernel) (by decide +kernel)) (mg 1 (by decide +kernel) (by decide +kernel)) (mg 193 (by decide +kernel) (by decide +kernel)) (by decide +kernel)
  · exact CallOK.V (d := 2) (own := RX5) (i := 74) (n := 1) (ci := 1) (good_X1_copyFrom l) (by decide) (by decide) rfl (by decide) rec_X1_copyFrom (mg 316 (by decide +kernel) (by decide +kernel)) (mg 317 (by decide +kernel) (by decide +kernel)) (mg 318 (by decide +kernel) (by decide +kernel)) (mg 2 (by decide +kernel) (by decide +kernel)) (mg 319 (by decide +kernel) (by decide +kernel)) (by decide +kernel)
  · exact CallOK.V (d := 2) (own := RX5) (i := 192) (n := 1) (ci := 2) (good_X2_copyFrom l) (by decide) (by decide) rfl (by decide) rec_X2_copyFrom (mg 546 (by decide +kernel) (by decide +kernel)) (mg 547 (by decide +kernel) (by decide +kernel)) (mg 548 (by decide +kernel) (by decide +kernel)) (mg 3 (by decide +kernel) (by decide +kernel)) (mg 549 (by decide +kernel) (by decide +kernel)) (by decide +kernel)
set_option maxRecDepth 20000 in
set_option maxHeartbeats 4000000 in
theorem body_X5_keep (o : Nat) (k : Int) (μ : Mem) (K : List AV → Mem → Prop) (V : Nat → List (Option AV) → List AV → Mem → Prop) (hV : Clos FX5 CX5 G_X5_keep 1 K cX5_keep V) (hT : o = 0 ∧ (InR k ∧ (¬ (0 ≤ k ∧ k ≤ 1) → K [.inl (-1)] μ) ∧ (0 ≤ k ∧ k ≤ 1 → RP μ (22 + 12 * k.toNat + 1) ∧ (rI μ (22 + 12 * k.toNat) 2 = 0 ∨ rI μ (22 + 12 * k.toNat) 2 = 1) ∧ ∃ f, RG μ 1 f ∧ (0 ≤ f 35 ∧ f 35 ≤ 5) ∧ ∀ ν, KP μ ν (22 + 12 * k.toNat) f → K [.inl (rI μ (22 + 12 * k.toNat) 2)] ν))) : V 0 [some (.inr (.inr o)), some (.inl k), none, none] [] μ := by
  simp only [InR] at hT
  obtain ⟨rfl, hk, hB, hK⟩ := hT
  by_cases hc : 0 ≤ k ∧ k ≤ 1
  · obtain ⟨k', rfl⟩ := Int.eq_ofNat_of_zero_le hc.1
    have hK := hK hc
    rw [Int.toNat_natCast] at hK
    have hI : 22 + 12 * k' = 22 ∨ 22 + 12 * k' = 34 := by omega
    generalize hIe : 22 + 12 * k' = I at hK hI
    obtain ⟨hP, h01, f, hR, h35, hK⟩ := hK
    obtain ⟨q0, q1, q2⟩ := imgk hI
    have nI : ¬ I + 1 = 1 := by omega
    have main : ∀ ν, RG ν (I + 1) f ∧ rI ν (I + 1) 5 = rI μ 1 5 ∧ rI ν (I + 1) 6 = rI μ 1 6 ∧ FR (I + 1) μ ν → K [.inl (rI μ I 2)] (wI (wI (wC (wC (wC ν 16 0 (I + 8 + 1) 0 6) 17 0 (I + 8 + 2) 0 6) 18 0 (I + 8 + 3) 0 6) (I + 8) 3 (rI (wC (wC (wC ν 16 0 (I + 8 + 1) 0 6) 17 0 (I + 8 + 2) 0 6) 18 0 (I + 8 + 3) 0 6) 15 3)) I 2 1) := by
      intro ν hν
      obtain ⟨a1, a2, a3, a4⟩ := hν
      exact hK _ (kp_of hI h35.2 a1 a2 a3 a4)
    apply hV [] 60
    simp only [InR, InL, inb, Int.toNat_natCast, wp1, wpc_z, wpc_s, stp_iconst, stp_bipush, stp_sipush, stp_lconst, stp_iload_n, stp_iload, stp_lload_n, stp_lload, stp_aload_n, stp_aload, stp_istore_n, stp_istore, stp_lstore_n, stp_lstore, stp_astore_n, stp_astore, stp_iinc, stp_iadd, stp_isub, stp_imul, stp_ineg, stp_idiv, stp_irem, stp_ladd, stp_lmul, stp_ldiv, stp_lrem, stp_ishl, stp_ishr, stp_iushr, stp_iand, stp_ior, stp_i2l, stp_i2b, stp_i2s, stp_lcmp, stp_dup, stp_dup2, stp_pop, stp_ifCond, stp_if_icmp, stp_goto, stp_tableswitch, stp_lookupswitch, stp_ldc, stp_ldc_w, stp_ldc2_w, stp_getstatic, stp_getfield, stp_putfield, stp_iaload, stp_baload, stp_iastore, stp_bastore, stp_aaload, stp_aastore, stp_invokevirtual, stp_invokestatic, stp_ireturn, stp_lreturn, stp_return_, lg, lset, okl, spl, wd, c1, cnd, tg, swT, swL, f4_0, f4_1, f4_2, f4_3, f2_0, f2_1, List.mem_cons, List.not_mem_nil, List.length_cons, List.length_nil, List.cons_append, List.nil_append, Nat.reduceAdd, Nat.reduceMul, Nat.reduceLT, Nat.reduceEqDiff, Nat.reduceLeDiff, Int.reduceAdd, Int.reduceNeg, Int.reduceToNat, Int.cast_ofNat_Int, Int.reduceNatCast, Int.toNat_zero, Int.toNat_one, Int.reduceLE, Int.reduceLT, Int.reduceEq, Int.zero_add, Int.add_zero, or_false, false_or, or_true, true_or, and_true, true_and, and_false, false_and, reduceIte, not_true_eq_false, not_false_eq_true, forall_const, false_implies, true_implies, implies_true, ne_eq, reduceCtorEq, List.all_cons, List.all_nil, Bool.and_true, Bool.and_self, decide_eq_true_eq, decide_true, dX5_keep_0, dX5_keep_1, dX5_keep_2, dX5_keep_3, dX5_keep_6, dX5_keep_9, dX5_keep_10, dX5_keep_11, dX5_keep_12, dX5_keep_15, dX5_keep_16, dX5_keep_17, dX5_keep_18, dX5_keep_19, dX5_keep_22, dX5_keep_23, dX5_keep_24, dX5_keep_27, dX5_keep_28, dX5_keep_31, dX5_keep_34, dX5_keep_35, dX5_keep_38, dX5_keep_39, dX5_keep_42, dX5_keep_45, dX5_keep_46, dX5_keep_47, dX5_keep_50, dX5_keep_51, dX5_keep_54, dX5_keep_55, dX5_keep_58, dX5_keep_59, FX5_35, FX5_81, FX5_190, FX5_10, FX5_191, FX5_22, G_X5_keep_52, G_X5_keep_74, G_X5_keep_192, kd_0, kd_1, kd_15, kd_21, ln_21, T5_isOutside, el_21, hIe, q0, q1, q2, T1_copyFrom, T2_copyFrom, nI]
    have fin : ∃ f, RG μ 1 f ∧ (0 ≤ f 35 ∧ f 35 ≤ 5) ∧ ∀ (ν : Mem), RG ν (I + 1) f ∧ rI ν (I + 1) 5 = rI μ 1 5 ∧ rI ν (I + 1) 6 = rI μ 1 6 ∧ FR (I + 1) μ ν → K [.inl (rI μ I 2)] (wI (wI (wC (wC (wC ν 16 0 (I + 8 + 1) 0 6) 17 0 (I + 8 + 2) 0 6) 18 0 (I + 8 + 3) 0 6) (I + 8) 3 (rI (wC (wC (wC ν 16 0 (I + 8 + 1) 0 6) 17 0 (I + 8 + 2) 0 6) 18 0 (I + 8 + 3) 0 6) 15 3)) I 2 1) := ⟨f, hR, h35, main⟩
    clear main hK hR h35 f
    repeat' (first | exact trivial | omega | (with_reducible assumption) | exact absurd trivial (by with_reducible assumption) | contradiction | apply And.intro | intro _)
    obtain ⟨f, b1, b2, b3⟩ := fin
    refine ⟨f, b1, b2, fun ν hν => ?_⟩
    have h := b3 ν hν
    rcases h01 with z | z
    · rw [z] at h ⊢
      repeat' (first | exact trivial | omega | (with_reducible assumption) | exact absurd trivial (by with_reducible assumption) | contradiction | apply And.intro | intro _)
    · rw [z] at h ⊢
      repeat' (first | exact trivial | omega | (with_reducible assumption) | exact absurd trivial (by with_reducible assumption) | contradiction | apply And.intro | intro _)
  · have hB := hB hc
    apply hV [11] 60
    simp only [InR, InL, inb, Int.toNat_natCast, wp1, wpc_z, wpc_s, stp_iconst, stp_bipush, stp_sipush, stp_lconst, stp_iload_n, stp_iload, stp_lload_n, stp_lload, stp_aload_n, stp_aload, stp_istore_n, stp_istore, stp_lstore_n, stp_lstore, stp_astore_n, stp_astore, stp_iinc, stp_iadd, stp_isub, stp_imul, stp_ineg, stp_idiv, stp_irem, stp_ladd, stp_lmul, stp_ldiv, stp_lrem, stp_ishl, stp_ishr, stp_iushr, stp_iand, stp_ior, stp_i2l, stp_i2b, stp_i2s, stp_lcmp, stp_dup, stp_dup2, stp_pop, stp_ifCond, stp_if_icmp, stp_goto, stp_tableswitch, stp_lookupswitch, stp_ldc, stp_ldc_w, stp_ldc2_w, stp_getstatic, stp_getfield, stp_putfield, stp_iaload, stp_baload, stp_iastore, stp_bastore, stp_aaload, stp_aastore, stp_invokevirtual, stp_invokestatic, stp_ireturn, stp_lreturn, stp_return_, lg, lset, okl, spl, wd, c1, cnd, tg, swT, swL, f4_0, f4_1, f4_2, f4_3, f2_0, f2_1, List.mem_cons, List.not_mem_nil, List.length_cons, List.length_nil, List.cons_append, List.nil_append, Nat.reduceAdd, Nat.reduceMul, Nat.reduceLT, Nat.reduceEqDiff, Nat.reduceLeDiff, Int.reduceAdd, Int.reduceNeg, Int.reduceToNat, Int.cast_ofNat_Int, Int.reduceNatCast, Int.toNat_zero, Int.toNat_one, Int.reduceLE, Int.reduceLT, Int.reduceEq, Int.zero_add, Int.add_zero, or_false, false_or, or_true, true_or, and_true, true_and, and_false, false_and, reduceIte, not_true_eq_false, not_false_eq_true, forall_const, false_implies, true_implies, implies_true, ne_eq, reduceCtorEq, List.all_cons, List.all_nil, Bool.and_true, Bool.and_self, decide_eq_true_eq, decide_true, dX5_keep_0, dX5_keep_1, dX5_keep_2, dX5_keep_3, dX5_keep_6, dX5_keep_9, dX5_keep_10, dX5_keep_11, dX5_keep_12, dX5_keep_15, dX5_keep_16, dX5_keep_17, dX5_keep_18, dX5_keep_19, dX5_keep_22, dX5_keep_23, dX5_keep_24, dX5_keep_27, dX5_keep_28, dX5_keep_31, dX5_keep_34, dX5_keep_35, dX5_keep_38, dX5_keep_39, dX5_keep_42, dX5_keep_45, dX5_keep_46, dX5_keep_47, dX5_keep_50, dX5_keep_51, dX5_keep_54, dX5_keep_55, dX5_keep_58, dX5_keep_59, FX5_35, FX5_81, FX5_190, FX5_10, FX5_191, FX5_22, G_X5_keep_52, G_X5_keep_74, G_X5_keep_192, T5_isOutside]
    repeat' (first | exact trivial | omega | (with_reducible assumption) | exact absurd trivial (by with_reducible assumption) | contradiction | apply And.intro | intro _)
theorem good_X5_keep (l : Launch) : Good l 2 yX5_keep cX5_keep 4 (some .int) T5_keep := by
  refine Good.mk 1 (by decide) rfl (by simp [retOK]) FOK5 COK5 (gk_X5_keep l) ?_ ?_
  · intro a μ K h
    unfold T5_keep at h
    split at h
    · simp [entl]
    · exact h.elim
  · intro a μ K V hV h
    unfold T5_keep at h
    split at h
    · exact body_X5_keep _ _ μ K V hV h
    · exact h.elim

def T5_back : TT := fun a μ K => match a with
  | [.inr (.inr o), .inl k] => o = 0 ∧ (InR k ∧ (¬ (0 ≤ k ∧ k ≤ 1) → K [.inl (-1)] μ) ∧ (0 ≤ k ∧ k ≤ 1 → RP μ 1 ∧ (rI μ (22 + 12 * k.toNat) 2 = 0 → K [.inl (-2)] μ) ∧ (rI μ (22 + 12 * k.toNat) 2 = 0 ∨ rI μ (22 + 12 * k.toNat) 2 = 1) ∧ (rI μ (22 + 12 * k.toNat) 2 = 1 → ∃ f, RG μ (22 + 12 * k.toNat + 1) f ∧ (0 ≤ f 35 ∧ f 35 ≤ 5) ∧ ∀ ν, BP μ ν (22 + 12 * k.toNat) f → K [.inl (f 38)] ν)))
  | _ => False
theorem rec_X5_back : ∀ a μ K, T5_back a μ K → ∃ k r, a = .inr (.inr k) :: r ∧ kd k = 5 := by
  intro a μ K h
  unfold T5_back at h
  split at h
  · exact ⟨_, _, rfl, by rw [h.1]; rfl⟩
  · exact h.elim
def GL_X5_back : List (Nat × Nat × Bool × TT) := [(52, 3, true, T5_isOutside), (74, 2, false, T1_copyFrom), (192, 2, false, T2_copyFrom)]
def G_X5_back : Nat → Option (Nat × Bool × TT) := fun i => GL_X5_back.lookup i
theorem G_X5_back_52 : G_X5_back 52 = some (3, true, T5_isOutside) := rfl
theorem G_X5_back_74 : G_X5_back 74 = some (2, false, T1_copyFrom) := rfl
theorem G_X5_back_192 : G_X5_back 192 = some (2, false, T2_copyFrom) := rfl
theorem gk_X5_back (l : Launch) : ∀ i n b T, G_X5_back i = some (n, b, T) → CallOK l 2 RX5 i n b T := by
  intro i n b T h
  have hm : (i, n, b, T) ∈ GL_X5_back := lk_mem h
  simp only [GL_X5_back, List.mem_cons, List.not_mem_nil, or_false, Prod.mk.injEq] at hm
  rcases hm with ⟨rfl, rfl, rfl, rfl⟩ | ⟨rfl, rfl, rfl, rfl⟩ | ⟨rfl, rfl, rfl, rfl⟩
  · exact CallOK.S (d := 2) (own := RX5) (i := 52) (n := 3) (good_X5_isOutside l) (by decide) (by decide) (mg 191 (by decide +kernel) (by decide +kernel)) (mg 192 (by decide +kernel) (by decide +kernel)) (mg 1 (by decide +kernel) (by decide +kernel)) (mg 193 (by decide +kernel) (by decide +kernel)) (by decide +kernel)
  · exact CallOK.V (d := 2) (own := RX5) (i := 74) (n := 1) (ci := 1) (good_X1_copyFrom l) (by decide) (by decide) rfl (by decide) rec_X1_copyFrom (mg 316 (by decide +kernel) (by decide +kernel)) (mg 317 (by decide +kernel) (by decide +kernel)) (mg 318 (by decide +kernel) (by decide +kernel)) (mg 2 (by decide +kernel) (by decide +kernel)) (mg 319 (by decide +kernel) (by decide +kernel)) (by decide +kernel)
  · exact CallOK.V (d := 2) (own := RX5) (i := 192) (n := 1) (ci := 2) (good_X2_copyFrom l) (by decide) (by decide) rfl (by decide) rec_X2_copyFrom (mg 546 (by decide +kernel) (by decide +kernel)) (mg 547 (by decide +kernel) (by decide +kernel)) (mg 548 (by decide +kernel) (by decide +kernel)) (mg 3 (by decide +kernel) (by decide +kernel)) (mg 549 (by decide +kernel) (by decide +kernel)) (by decide +kernel)
set_option maxRecDepth 20000 in
set_option maxHeartbeats 4000000 in
theorem body_X5_back (o : Nat) (k : Int) (μ : Mem) (K : List AV → Mem → Prop) (V : Nat → List (Option AV) → List AV → Mem → Prop) (hV : Clos FX5 CX5 G_X5_back 1 K cX5_back V) (hT : o = 0 ∧ (InR k ∧ (¬ (0 ≤ k ∧ k ≤ 1) → K [.inl (-1)] μ) ∧ (0 ≤ k ∧ k ≤ 1 → RP μ 1 ∧ (rI μ (22 + 12 * k.toNat) 2 = 0 → K [.inl (-2)] μ) ∧ (rI μ (22 + 12 * k.toNat) 2 = 0 ∨ rI μ (22 + 12 * k.toNat) 2 = 1) ∧ (rI μ (22 + 12 * k.toNat) 2 = 1 → ∃ f, RG μ (22 + 12 * k.toNat + 1) f ∧ (0 ≤ f 35 ∧ f 35 ≤ 5) ∧ ∀ ν, BP μ ν (22 + 12 * k.toNat) f → K [.inl (f 38)] ν)))) : V 0 [some (.inr (.inr o)), some (.inl k), none] [] μ := by
  simp only [InR] at hT
  obtain ⟨rfl, hk, hB, hK⟩ := hT
  by_cases hc : 0 ≤ k ∧ k ≤ 1
  · obtain ⟨k', rfl⟩ := Int.eq_ofNat_of_zero_le hc.1
    have hK := hK hc
    rw [Int.toNat_natCast] at hK
    have hI : 22 + 12 * k' = 22 ∨ 22 + 12 * k' = 34 := by omega
    generalize hIe : 22 + 12 * k' = I at hK hI
    obtain ⟨hP, h0, h01, hK⟩ := hK
    obtain ⟨q0, q1, q2⟩ := imgk hI
    have nI : ¬ 1 = I + 1 := by omega
    by_cases z : rI μ I 2 = 0
    · have h0 := h0 z
      apply hV [28] 60
      simp only [InR, InL, inb, Int.toNat_natCast, wp1, wpc_z, wpc_s, stp_iconst, stp_bipush, stp_sipush, stp_lconst, stp_iload_n, stp_iload, stp_lload_n, stp_lload, stp_aload_n, stp_aload, stp_istore_n, stp_istore, stp_lstore_n, stp_lstore, stp_astore_n, stp_astore, stp_iinc, stp_iadd, stp_isub, stp_imul, stp_ineg, stp_idiv, stp_irem, stp_ladd, stp_lmul, stp_ldiv, stp_lrem, stp_ishl, stp_ishr, stp_iushr, stp_iand, stp_ior, stp_i2l, stp_i2b, stp_i2s, stp_lcmp, stp_dup, stp_dup2, stp_pop, stp_ifCond, stp_if_icmp, stp_goto, stp_tableswitch, stp_lookupswitch, stp_ldc, stp_ldc_w, stp_ldc2_w, stp_getstatic, stp_getfield, stp_putfield, stp_iaload, stp_baload, stp_iastore, stp_bastore, stp_aaload, stp_aastore, stp_invokevirtual, stp_invokestatic, stp_ireturn, stp_lreturn, stp_return_, lg, lset, okl, spl, wd, c1, cnd, tg, swT, swL, f4_0, f4_1, f4_2, f4_3, f2_0, f2_1, List.mem_cons, List.not_mem_nil, List.length_cons, List.length_nil, List.cons_append, List.nil_append, Nat.reduceAdd, Nat.reduceMul, Nat.reduceLT, Nat.reduceEqDiff, Nat.reduceLeDiff, Int.reduceAdd, Int.reduceNeg, Int.reduceToNat, Int.cast_ofNat_Int, Int.reduceNatCast, Int.toNat_zero, Int.toNat_one, Int.reduceLE, Int.reduceLT, Int.reduceEq, Int.zero_add, Int.add_zero, or_false, false_or, or_true, true_or, and_true, true_and, and_false, false_and, reduceIte, not_true_eq_false, not_false_eq_true, forall_const, false_implies, true_implies, implies_true, ne_eq, reduceCtorEq, List.all_cons, List.all_nil, Bool.and_true, Bool.and_self, decide_eq_true_eq, decide_true, dX5_back_0, dX5_back_1, dX5_back_2, dX5_back_3, dX5_back_6, dX5_back_9, dX5_back_10, dX5_back_11, dX5_back_12, dX5_back_15, dX5_back_16, dX5_back_17, dX5_back_18, dX5_back_19, dX5_back_22, dX5_back_25, dX5_back_27, dX5_back_28, dX5_back_29, dX5_back_32, dX5_back_33, dX5_back_36, dX5_back_39, dX5_back_40, dX5_back_43, dX5_back_44, dX5_back_47, dX5_back_50, dX5_back_51, dX5_back_54, dX5_back_57, FX5_35, FX5_81, FX5_10, FX5_190, FX5_22, FX5_191, FX5_94, G_X5_back_52, G_X5_back_74, G_X5_back_192, kd_0, kd_1, kd_15, kd_21, ln_21, T5_isOutside, el_21, hIe, q0, q1, q2]
      repeat' (first | exact trivial | omega | (with_reducible assumption) | exact absurd trivial (by with_reducible assumption) | contradiction | apply And.intro | intro _)
    · have z1 : rI μ I 2 = 1 := h01.resolve_left z
      obtain ⟨f, hR, h35, hK⟩ := hK z1
      have main : ∀ ν, RG ν 1 f ∧ rI ν 1 5 = rI μ (I + 1) 5 ∧ rI ν 1 6 = rI μ (I + 1) 6 ∧ FR 1 μ ν → K [.inl (rI (wI (wC (wC (wC ν (I + 8 + 1) 0 16 0 6) (I + 8 + 2) 0 17 0 6) (I + 8 + 3) 0 18 0 6) 15 3 (rI (wC (wC (wC ν (I + 8 + 1) 0 16 0 6) (I + 8 + 2) 0 17 0 6) (I + 8 + 3) 0 18 0 6) (I + 8) 3)) 1 4)] (wI (wC (wC (wC ν (I + 8 + 1) 0 16 0 6) (I + 8 + 2) 0 17 0 6) (I + 8 + 3) 0 18 0 6) 15 3 (rI (wC (wC (wC ν (I + 8 + 1) 0 16 0 6) (I + 8 + 2) 0 17 0 6) (I + 8 + 3) 0 18 0 6) (I + 8) 3)) := by
        intro ν hν
        obtain ⟨a1, a2, a3, a4⟩ := hν
        have hb := bp_of hI h35.2 a1 a2 a3 a4
        have := hK _ hb
        rw [← hb.1.2.2.2.2.1] at this
        exact this
      apply hV [] 60
      simp only [InR, InL, inb, Int.toNat_natCast, wp1, wpc_z, wpc_s, stp_iconst, stp_bipush, stp_sipush, stp_lconst, stp_iload_n, stp_iload, stp_lload_n, stp_lload, stp_aload_n, stp_aload, stp_istore_n, stp_istore, stp_lstore_n, stp_lstore, stp_astore_n, stp_astore, stp_iinc, stp_iadd, stp_isub, stp_imul, stp_ineg, stp_idiv, stp_irem, stp_ladd, stp_lmul, stp_ldiv, stp_lrem, stp_ishl, stp_ishr, stp_iushr, stp_iand, stp_ior, stp_i2l, stp_i2b, stp_i2s, stp_lcmp, stp_dup, stp_dup2, stp_pop, stp_ifCond, stp_if_icmp, stp_goto, stp_tableswitch, stp_lookupswitch, stp_ldc, stp_ldc_w, stp_ldc2_w, stp_getstatic, stp_getfield, stp_putfield, stp_iaload, stp_baload, stp_iastore, stp_bastore, stp_aaload, stp_aastore, stp_invokevirtual, stp_invokestatic, stp_ireturn, stp_lreturn, stp_return_, lg, lset, okl, spl, wd, c1, cnd, tg, swT, swL, f4_0, f4_1, f4_2, f4_3, f2_0, f2_1, List.mem_cons, List.not_mem_nil, List.length_cons, List.length_nil, List.cons_append, List.nil_append, Nat.reduceAdd, Nat.reduceMul, Nat.reduceLT, Nat.reduceEqDiff, Nat.reduceLeDiff, Int.reduceAdd, Int.reduceNeg, Int.reduceToNat, Int.cast_ofNat_Int, Int.reduceNatCast, Int.toNat_zero, Int.toNat_one, Int.reduceLE, Int.reduceLT, Int.reduceEq, Int.zero_add, Int.add_zero, or_false, false_or, or_true, true_or, and_true, true_and, and_false, false_and, reduceIte, not_true_eq_false, not_false_eq_true, forall_const, false_implies, true_implies, implies_true, ne_eq, reduceCtorEq, List.all_cons, List.all_nil, Bool.and_true, Bool.and_self, decide_eq_true_eq, decide_true, dX5_back_0, dX5_back_1, dX5_back_2, dX5_back_3, dX5_back_6, dX5_back_9, dX5_back_10, dX5_back_11, dX5_back_12, dX5_back_15, dX5_back_16, dX5_back_17, dX5_back_18, dX5_back_19, dX5_back_22, dX5_back_25, dX5_back_27, dX5_back_28, dX5_back_29, dX5_back_32, dX5_back_33, dX5_back_36, dX5_back_39, dX5_back_40, dX5_back_43, dX5_back_44, dX5_back_47, dX5_back_50, dX5_back_51, dX5_back_54, dX5_back_57, FX5_35, FX5_81, FX5_10, FX5_190, FX5_22, FX5_191, FX5_94, G_X5_back_52, G_X5_back_74, G_X5_back_192, kd_0, kd_1, kd_15, kd_21, ln_21, T5_isOutside, el_21, hIe, q0, q1, q2, T1_copyFrom, T2_copyFrom, nI]
      repeat' (first | exact trivial | omega | (with_reducible assumption) | exact absurd trivial (by with_reducible assumption) | contradiction | apply And.intro | intro _)
      all_goals exact ⟨f, hR, h35, main⟩
  · have hB := hB hc
    apply hV [11] 60
    simp only [InR, InL, inb, Int.toNat_natCast, wp1, wpc_z, wpc_s, stp_iconst, stp_bipush, stp_sipush, stp_lconst, stp_iload_n, stp_iload, stp_lload_n, stp_lload, stp_aload_n, stp_aload, stp_istore_n, stp_istore, stp_lstore_n, stp_lstore, stp_astore_n, stp_astore, stp_iinc, stp_iadd, stp_isub, stp_imul, stp_ineg, stp_idiv, stp_irem, stp_ladd, stp_lmul, stp_ldiv, stp_lrem, stp_ishl, stp_ishr, stp_iushr, stp_iand, stp_ior, stp_i2l, stp_i2b, stp_i2s, stp_lcmp, stp_dup, stp_dup2, stp_pop, stp_ifCond, stp_if_icmp, stp_goto, stp_tableswitch, stp_lookupswitch, stp_ldc, stp_ldc_w, stp_ldc2_w, stp_getstatic, stp_getfield, stp_putfield, stp_iaload, stp_baload, stp_iastore, stp_bastore, stp_aaload, stp_aastore, stp_invokevirtual, stp_invokestatic, stp_ireturn, stp_lreturn, stp_return_, lg, lset, okl, spl, wd, c1, cnd, tg, swT, swL, f4_0, f4_1, f4_2, f4_3, f2_0, f2_1, List.mem_cons, List.not_mem_nil, List.length_cons, List.length_nil, List.cons_append, List.nil_append, Nat.reduceAdd, Nat.reduceMul, Nat.reduceLT, Nat.reduceEqDiff, Nat.reduceLeDiff, Int.reduceAdd, Int.reduceNeg, Int.reduceToNat, Int.cast_ofNat_Int, Int.reduceNatCast, Int.toNat_zero, Int.toNat_one, Int.reduceLE, Int.reduceLT, Int.reduceEq, Int.zero_add, Int.add_zero, or_false, false_or, or_true, true_or, and_true, true_and, and_false, false_and, reduceIte, not_true_eq_false, not_false_eq_true, forall_const, false_implies, true_implies, implies_true, ne_eq, reduceCtorEq, List.all_cons, List.all_nil, Bool.and_true, Bool.and_self, decide_eq_true_eq, decide_true, dX5_back_0, dX5_back_1, dX5_back_2, dX5_back_3, dX5_back_6, dX5_back_9, dX5_back_10, dX5_back_11, dX5_back_12, dX5_back_15, dX5_back_16, dX5_back_17, dX5_back_18, dX5_back_19, dX5_back_22, dX5_back_25, dX5_back_27, dX5_back_28, dX5_back_29, dX5_back_32, dX5_back_33, dX5_back_36, dX5_back_39, dX5_back_40, dX5_back_43, dX5_back_44, dX5_back_47, dX5_back_50, dX5_back_51, dX5_back_54, dX5_back_57, FX5_35, FX5_81, FX5_10, FX5_190, FX5_22, FX5_191, FX5_94, G_X5_back_52, G_X5_back_74, G_X5_back_192, T5_isOutside]
    repeat' (first | exact trivial | omega | (with_reducible assumption) | exact absurd trivial (by with_reducible assumption) | contradiction | apply And.intro | intro _)
theorem good_X5_back (l : Launch) : Good l 2 yX5_back cX5_back 3 (some .int) T5_back := by
  refine Good.mk 1 (by decide) rfl (by simp [retOK]) FOK5 COK5 (gk_X5_back l) ?_ ?_
  · intro a μ K h
    unfold T5_back at h
    split at h
    · simp [entl]
    · exact h.elim
  · intro a μ K V hV h
    unfold T5_back at h
    split at h
    · exact body_X5_back _ _ μ K V hV h
    · exact h.elim

def T6_keep : TT := fun a μ K => match a with
  | [.inr (.inr o), .inl k] => o = 66 ∧ (InR k ∧ (¬ (0 ≤ k ∧ k ≤ 1) → K [.inl (-1)] μ) ∧ (0 ≤ k ∧ k ≤ 1 → (rI μ 69 k.toNat = 0 ∨ rI μ 69 k.toNat = 1) ∧ K [.inl (rI μ 69 k.toNat)] (wC (wI μ 69 k.toNat 1) 67 0 67 (60 * (k.toNat + 1)) 60)))
  | _ => False
theorem rec_X6_keep : ∀ a μ K, T6_keep a μ K → ∃ k r, a = .inr (.inr k) :: r ∧ kd k = 6 := by
  intro a μ K h
  unfold T6_keep at h
  split at h
  · exact ⟨_, _, rfl, by rw [h.1]; rfl⟩
  · exact h.elim
def GL_X6_keep : List (Nat × Nat × Bool × TT) := [(59, 3, true, T6_in), (163, 1, true, T6_flag), (272, 3, false, T6_copies)]
def G_X6_keep : Nat → Option (Nat × Bool × TT) := fun i => GL_X6_keep.lookup i
theorem G_X6_keep_59 : G_X6_keep 59 = some (3, true, T6_in) := rfl
theorem G_X6_keep_163 : G_X6_keep 163 = some (1, true, T6_flag) := rfl
theorem G_X6_keep_272 : G_X6_keep 272 = some (3, false, T6_copies) := rfl
theorem gk_X6_keep (l : Launch) : ∀ i n b T, G_X6_keep i = some (n, b, T) → CallOK l 1 RX6 i n b T := by
  intro i n b T h
  have hm : (i, n, b, T) ∈ GL_X6_keep := lk_mem h
  simp only [GL_X6_keep, List.mem_cons, List.not_mem_nil, or_false, Prod.mk.injEq] at hm
  rcases hm with ⟨rfl, rfl, rfl, rfl⟩ | ⟨rfl, rfl, rfl, rfl⟩ | ⟨rfl, rfl, rfl, rfl⟩
  · exact CallOK.S (d := 1) (own := RX6) (i := 59) (n := 3) (good_X6_in l) (by decide) (by decide) (mg 708 (by decide +kernel) (by decide +kernel)) (mg 709 (by decide +kernel) (by decide +kernel)) (mg 7 (by decide +kernel) (by decide +kernel)) (mg 710 (by decide +kernel) (by decide +kernel)) (by decide +kernel)
  · exact CallOK.S (d := 1) (own := RX6) (i := 163) (n := 1) (good_X6_flag l) (by decide) (by decide) (mg 857 (by decide +kernel) (by decide +kernel)) (mg 858 (by decide +kernel) (by decide +kernel)) (mg 7 (by decide +kernel) (by decide +kernel)) (mg 859 (by decide +kernel) (by decide +kernel)) (by decide +kernel)
  · exact CallOK.V (d := 1) (own := RX6) (i := 272) (n := 2) (ci := 6) (good_X6_copies l) (by decide) (by decide) rfl (by decide) rec_X6_copies (mg 977 (by decide +kernel) (by decide +kernel)) (mg 979 (by decide +kernel) (by decide +kernel)) (mgs 54 (by decide +kernel) (by decide +kernel)) (mg 7 (by decide +kernel) (by decide +kernel)) (mg 980 (by decide +kernel) (by decide +kernel)) (by decide +kernel)
set_option maxRecDepth 20000 in
set_option maxHeartbeats 4000000 in
theorem body_X6_keep (o : Nat) (k : Int) (μ : Mem) (K : List AV → Mem → Prop) (V : Nat → List (Option AV) → List AV → Mem → Prop) (hV : Clos FX6 CX6 G_X6_keep 1 K cX6_keep V) (hT : o = 66 ∧ (InR k ∧ (¬ (0 ≤ k ∧ k ≤ 1) → K [.inl (-1)] μ) ∧ (0 ≤ k ∧ k ≤ 1 → (rI μ 69 k.toNat = 0 ∨ rI μ 69 k.toNat = 1) ∧ K [.inl (rI μ 69 k.toNat)] (wC (wI μ 69 k.toNat 1) 67 0 67 (60 * (k.toNat + 1)) 60)))) : V 0 [some (.inr (.inr o)), some (.inl k), none] [] μ := by
  simp only [InR] at hT
  obtain ⟨rfl, hk, hB, hK⟩ := hT
  by_cases hc : 0 ≤ k ∧ k ≤ 1
  · obtain ⟨k', rfl⟩ := Int.eq_ofNat_of_zero_le hc.1
    have hK := hK hc
    rw [Int.toNat_natCast] at hK
    obtain ⟨h01, hK⟩ := hK
    have e1 : (60 * ((k' : Int) + 1)).toNat = 60 * (k' + 1) := by omega
    apply hV [] 60
    simp only [InR, InL, inb, Int.toNat_natCast, wp1, wpc_z, wpc_s, stp_iconst, stp_bipush, stp_sipush, stp_lconst, stp_iload_n, stp_iload, stp_lload_n, stp_lload, stp_aload_n, stp_aload, stp_istore_n, stp_istore, stp_lstore_n, stp_lstore, stp_astore_n, stp_astore, stp_iinc, stp_iadd, stp_isub, stp_imul, stp_ineg, stp_idiv, stp_irem, stp_ladd, stp_lmul, stp_ldiv, stp_lrem, stp_ishl, stp_ishr, stp_iushr, stp_iand, stp_ior, stp_i2l, stp_i2b, stp_i2s, stp_lcmp, stp_dup, stp_dup2, stp_pop, stp_ifCond, stp_if_icmp, stp_goto, stp_tableswitch, stp_lookupswitch, stp_ldc, stp_ldc_w, stp_ldc2_w, stp_getstatic, stp_getfield, stp_putfield, stp_iaload, stp_baload, stp_iastore, stp_bastore, stp_aaload, stp_aastore, stp_invokevirtual, stp_invokestatic, stp_ireturn, stp_lreturn, stp_return_, lg, lset, okl, spl, wd, c1, cnd, tg, swT, swL, f4_0, f4_1, f4_2, f4_3, f2_0, f2_1, List.mem_cons, List.not_mem_nil, List.length_cons, List.length_nil, List.cons_append, List.nil_append, Nat.reduceAdd, Nat.reduceMul, Nat.reduceLT, Nat.reduceEqDiff, Nat.reduceLeDiff, Int.reduceAdd, Int.reduceNeg, Int.reduceToNat, Int.cast_ofNat_Int, Int.reduceNatCast, Int.toNat_zero, Int.toNat_one, Int.reduceLE, Int.reduceLT, Int.reduceEq, Int.zero_add, Int.add_zero, or_false, false_or, or_true, true_or, and_true, true_and, and_false, false_and, reduceIte, not_true_eq_false, not_false_eq_true, forall_const, false_implies, true_implies, implies_true, ne_eq, reduceCtorEq, List.all_cons, List.all_nil, Bool.and_true, Bool.and_self, decide_eq_true_eq, decide_true, dX6_keep_0, dX6_keep_1, dX6_keep_2, dX6_keep_3, dX6_keep_4, dX6_keep_7, dX6_keep_10, dX6_keep_11, dX6_keep_12, dX6_keep_13, dX6_keep_16, dX6_keep_17, dX6_keep_18, dX6_keep_21, dX6_keep_22, dX6_keep_23, dX6_keep_26, dX6_keep_27, dX6_keep_28, dX6_keep_29, dX6_keep_30, dX6_keep_32, dX6_keep_33, dX6_keep_34, dX6_keep_35, dX6_keep_36, dX6_keep_37, dX6_keep_40, dX6_keep_41, FX6_16, G_X6_keep_59, G_X6_keep_163, G_X6_keep_272, kd_66, kd_69, ln_69, T6_in, T6_flag, T6_copies, e1]
    repeat' (first | exact trivial | omega | (with_reducible assumption) | exact absurd trivial (by with_reducible assumption) | contradiction | apply And.intro | intro _)
    all_goals first | exact Or.inr ⟨rfl, Or.inr rfl⟩ | exact Or.inr rfl
  · have hB := hB hc
    apply hV [12] 60
    simp only [InR, InL, inb, Int.toNat_natCast, wp1, wpc_z, wpc_s, stp_iconst, stp_bipush, stp_sipush, stp_lconst, stp_iload_n, stp_iload, stp_lload_n, stp_lload, stp_aload_n, stp_aload, stp_istore_n, stp_istore, stp_lstore_n, stp_lstore, stp_astore_n, stp_astore, stp_iinc, stp_iadd, stp_isub, stp_imul, stp_ineg, stp_idiv, stp_irem, stp_ladd, stp_lmul, stp_ldiv, stp_lrem, stp_ishl, stp_ishr, stp_iushr, stp_iand, stp_ior, stp_i2l, stp_i2b, stp_i2s, stp_lcmp, stp_dup, stp_dup2, stp_pop, stp_ifCond, stp_if_icmp, stp_goto, stp_tableswitch, stp_lookupswitch, stp_ldc, stp_ldc_w, stp_ldc2_w, stp_getstatic, stp_getfield, stp_putfield, stp_iaload, stp_baload, stp_iastore, stp_bastore, stp_aaload, stp_aastore, stp_invokevirtual, stp_invokestatic, stp_ireturn, stp_lreturn, stp_return_, lg, lset, okl, spl, wd, c1, cnd, tg, swT, swL, f4_0, f4_1, f4_2, f4_3, f2_0, f2_1, List.mem_cons, List.not_mem_nil, List.length_cons, List.length_nil, List.cons_append, List.nil_append, Nat.reduceAdd, Nat.reduceMul, Nat.reduceLT, Nat.reduceEqDiff, Nat.reduceLeDiff, Int.reduceAdd, Int.reduceNeg, Int.reduceToNat, Int.cast_ofNat_Int, Int.reduceNatCast, Int.toNat_zero, Int.toNat_one, Int.reduceLE, Int.reduceLT, Int.reduceEq, Int.zero_add, Int.add_zero, or_false, false_or, or_true, true_or, and_true, true_and, and_false, false_and, reduceIte, not_true_eq_false, not_false_eq_true, forall_const, false_implies, true_implies, implies_true, ne_eq, reduceCtorEq, List.all_cons, List.all_nil, Bool.and_true, Bool.and_self, decide_eq_true_eq, decide_true, dX6_keep_0, dX6_keep_1, dX6_keep_2, dX6_keep_3, dX6_keep_4, dX6_keep_7, dX6_keep_10, dX6_keep_11, dX6_keep_12, dX6_keep_13, dX6_keep_16, dX6_keep_17, dX6_keep_18, dX6_keep_21, dX6_keep_22, dX6_keep_23, dX6_keep_26, dX6_keep_27, dX6_keep_28, dX6_keep_29, dX6_keep_30, dX6_keep_32, dX6_keep_33, dX6_keep_34, dX6_keep_35, dX6_keep_36, dX6_keep_37, dX6_keep_40, dX6_keep_41, FX6_16, G_X6_keep_59, G_X6_keep_163, G_X6_keep_272, T6_in]
    repeat' (first | exact trivial | omega | (with_reducible assumption) | exact absurd trivial (by with_reducible assumption) | contradiction | apply And.intro | intro _)
theorem good_X6_keep (l : Launch) : Good l 1 yX6_keep cX6_keep 3 (some .int) T6_keep := by
  refine Good.mk 1 (by decide) rfl (by simp [retOK]) FOK6 COK6 (gk_X6_keep l) ?_ ?_
  · intro a μ K h
    unfold T6_keep at h
    split at h
    · simp [entl]
    · exact h.elim
  · intro a μ K V hV h
    unfold T6_keep at h
    split at h
    · exact body_X6_keep _ _ μ K V hV h
    · exact h.elim

def T6_back : TT := fun a μ K => match a with
  | [.inr (.inr o), .inl k] => o = 66 ∧ (InR k ∧ (¬ (0 ≤ k ∧ k ≤ 1) → K [.inl (-1)] μ) ∧ (0 ≤ k ∧ k ≤ 1 → InR (rI μ 69 k.toNat) ∧ (rI μ 69 k.toNat = 0 → K [.inl (-2)] μ) ∧ (rI μ 69 k.toNat ≠ 0 → K [.inl (rI μ 67 (60 * (k.toNat + 1) + 38))] (wC μ 67 (60 * (k.toNat + 1)) 67 0 60))))
  | _ => False
theorem rec_X6_back : ∀ a μ K, T6_back a μ K → ∃ k r, a = .inr (.inr k) :: r ∧ kd k = 6 := by
  intro a μ K h
  unfold T6_back at h
  split at h
  · exact ⟨_, _, rfl, by rw [h.1]; rfl⟩
  · exact h.elim
def GL_X6_back : List (Nat × Nat × Bool × TT) := [(59, 3, true, T6_in), (272, 3, false, T6_copies)]
def G_X6_back : Nat → Option (Nat × Bool × TT) := fun i => GL_X6_back.lookup i
theorem G_X6_back_59 : G_X6_back 59 = some (3, true, T6_in) := rfl
theorem G_X6_back_272 : G_X6_back 272 = some (3, false, T6_copies) := rfl
theorem gk_X6_back (l : Launch) : ∀ i n b T, G_X6_back i = some (n, b, T) → CallOK l 1 RX6 i n b T := by
  intro i n b T h
  have hm : (i, n, b, T) ∈ GL_X6_back := lk_mem h
  simp only [GL_X6_back, List.mem_cons, List.not_mem_nil, or_false, Prod.mk.injEq] at hm
  rcases hm with ⟨rfl, rfl, rfl, rfl⟩ | ⟨rfl, rfl, rfl, rfl⟩
  · exact CallOK.S (d := 1) (own := RX6) (i := 59) (n := 3) (good_X6_in l) (by decide) (by decide) (mg 708 (by decide +kernel) (by decide +kernel)) (mg 709 (by decide +kernel) (by decide +kernel)) (mg 7 (by decide +kernel) (by decide +kernel)) (mg 710 (by decide +kernel) (by decide +kernel)) (by decide +kernel)
  · exact CallOK.V (d := 1) (own := RX6) (i := 272) (n := 2) (ci := 6) (good_X6_copies l) (by decide) (by decide) rfl (by decide) rec_X6_copies (mg 977 (by decide +kernel) (by decide +kernel)) (mg 979 (by decide +kernel) (by decide +kernel)) (mgs 54 (by decide +kernel) (by decide +kernel)) (mg 7 (by decide +kernel) (by decide +kernel)) (mg 980 (by decide +kernel) (by decide +kernel)) (by decide +kernel)
set_option maxRecDepth 20000 in
set_option maxHeartbeats 4000000 in
theorem body_X6_back (o : Nat) (k : Int) (μ : Mem) (K : List AV → Mem → Prop) (V : Nat → List (Option AV) → List AV → Mem → Prop) (hV : Clos FX6 CX6 G_X6_back 1 K cX6_back V) (hT : o = 66 ∧ (InR k ∧ (¬ (0 ≤ k ∧ k ≤ 1) → K [.inl (-1)] μ) ∧ (0 ≤ k ∧ k ≤ 1 → InR (rI μ 69 k.toNat) ∧ (rI μ 69 k.toNat = 0 → K [.inl (-2)] μ) ∧ (rI μ 69 k.toNat ≠ 0 → K [.inl (rI μ 67 (60 * (k.toNat + 1) + 38))] (wC μ 67 (60 * (k.toNat + 1)) 67 0 60))))) : V 0 [some (.inr (.inr o)), some (.inl k)] [] μ := by
  simp only [InR] at hT
  obtain ⟨rfl, hk, hB, hK⟩ := hT
  by_cases hc : 0 ≤ k ∧ k ≤ 1
  · obtain ⟨k', rfl⟩ := Int.eq_ofNat_of_zero_le hc.1
    have hK := hK hc
    rw [Int.toNat_natCast] at hK
    obtain ⟨h01, h0, h1⟩ := hK
    have e1 : (60 * ((k' : Int) + 1)).toNat = 60 * (k' + 1) := by omega
    have e2 : rI (wC μ 67 (60 * (k' + 1)) 67 0 60) 67 38 = rI μ 67 (60 * (k' + 1) + 38) := by
      rw [rI_wC, if_pos ⟨rfl, by omega, by omega⟩]
    apply hV [] 60
    simp only [InR, InL, inb, Int.toNat_natCast, wp1, wpc_z, wpc_s, stp_iconst, stp_bipush, stp_sipush, stp_lconst, stp_iload_n, stp_iload, stp_lload_n, stp_lload, stp_aload_n, stp_aload, stp_istore_n, stp_istore, stp_lstore_n, stp_lstore, stp_astore_n, stp_astore, stp_iinc, stp_iadd, stp_isub, stp_imul, stp_ineg, stp_idiv, stp_irem, stp_ladd, stp_lmul, stp_ldiv, stp_lrem, stp_ishl, stp_ishr, stp_iushr, stp_iand, stp_ior, stp_i2l, stp_i2b, stp_i2s, stp_lcmp, stp_dup, stp_dup2, stp_pop, stp_ifCond, stp_if_icmp, stp_goto, stp_tableswitch, stp_lookupswitch, stp_ldc, stp_ldc_w, stp_ldc2_w, stp_getstatic, stp_getfield, stp_putfield, stp_iaload, stp_baload, stp_iastore, stp_bastore, stp_aaload, stp_aastore, stp_invokevirtual, stp_invokestatic, stp_ireturn, stp_lreturn, stp_return_, lg, lset, okl, spl, wd, c1, cnd, tg, swT, swL, f4_0, f4_1, f4_2, f4_3, f2_0, f2_1, List.mem_cons, List.not_mem_nil, List.length_cons, List.length_nil, List.cons_append, List.nil_append, Nat.reduceAdd, Nat.reduceMul, Nat.reduceLT, Nat.reduceEqDiff, Nat.reduceLeDiff, Int.reduceAdd, Int.reduceNeg, Int.reduceToNat, Int.cast_ofNat_Int, Int.reduceNatCast, Int.toNat_zero, Int.toNat_one, Int.reduceLE, Int.reduceLT, Int.reduceEq, Int.zero_add, Int.add_zero, or_false, false_or, or_true, true_or, and_true, true_and, and_false, false_and, reduceIte, not_true_eq_false, not_false_eq_true, forall_const, false_implies, true_implies, implies_true, ne_eq, reduceCtorEq, List.all_cons, List.all_nil, Bool.and_true, Bool.and_self, decide_eq_true_eq, decide_true, dX6_back_0, dX6_back_1, dX6_back_2, dX6_back_3, dX6_back_4, dX6_back_7, dX6_back_10, dX6_back_11, dX6_back_12, dX6_back_13, dX6_back_16, dX6_back_17, dX6_back_18, dX6_back_21, dX6_back_23, dX6_back_24, dX6_back_25, dX6_back_26, dX6_back_28, dX6_back_29, dX6_back_30, dX6_back_31, dX6_back_32, dX6_back_35, dX6_back_36, dX6_back_39, dX6_back_41, dX6_back_42, FX6_16, FX6_7, G_X6_back_59, G_X6_back_272, kd_66, kd_67, kd_69, ln_69, ln_67, T6_in, T6_copies, e1, e2]
    by_cases z : rI μ 69 k' = 0
    · have h0 := h0 z
      repeat' (first | exact trivial | omega | (with_reducible assumption) | exact absurd trivial (by with_reducible assumption) | contradiction | apply And.intro | intro _)
    · have h1 := h1 z
      repeat' (first | exact trivial | omega | (with_reducible assumption) | exact absurd trivial (by with_reducible assumption) | contradiction | apply And.intro | intro _)
      all_goals first | exact Or.inr rfl | exact Or.inr trivial
  · have hB := hB hc
    apply hV [12] 60
    simp only [InR, InL, inb, Int.toNat_natCast, wp1, wpc_z, wpc_s, stp_iconst, stp_bipush, stp_sipush, stp_lconst, stp_iload_n, stp_iload, stp_lload_n, stp_lload, stp_aload_n, stp_aload, stp_istore_n, stp_istore, stp_lstore_n, stp_lstore, stp_astore_n, stp_astore, stp_iinc, stp_iadd, stp_isub, stp_imul, stp_ineg, stp_idiv, stp_irem, stp_ladd, stp_lmul, stp_ldiv, stp_lrem, stp_ishl, stp_ishr, stp_iushr, stp_iand, stp_ior, stp_i2l, stp_i2b, stp_i2s, stp_lcmp, stp_dup, stp_dup2, stp_pop, stp_ifCond, stp_if_icmp, stp_goto, stp_tableswitch, stp_lookupswitch, stp_ldc, stp_ldc_w, stp_ldc2_w, stp_getstatic, stp_getfield, stp_putfield, stp_iaload, stp_baload, stp_iastore, stp_bastore, stp_aaload, stp_aastore, stp_invokevirtual, stp_invokestatic, stp_ireturn, stp_lreturn, stp_return_, lg, lset, okl, spl, wd, c1, cnd, tg, swT, swL, f4_0, f4_1, f4_2, f4_3, f2_0, f2_1, List.mem_cons, List.not_mem_nil, List.length_cons, List.length_nil, List.cons_append, List.nil_append, Nat.reduceAdd, Nat.reduceMul, Nat.reduceLT, Nat.reduceEqDiff, Nat.reduceLeDiff, Int.reduceAdd, Int.reduceNeg, Int.reduceToNat, Int.cast_ofNat_Int, Int.reduceNatCast, Int.toNat_zero, Int.toNat_one, Int.reduceLE, Int.reduceLT, Int.reduceEq, Int.zero_add, Int.add_zero, or_false, false_or, or_true, true_or, and_true, true_and, and_false, false_and, reduceIte, not_true_eq_false, not_false_eq_true, forall_const, false_implies, true_implies, implies_true, ne_eq, reduceCtorEq, List.all_cons, List.all_nil, Bool.and_true, Bool.and_self, decide_eq_true_eq, decide_true, dX6_back_0, dX6_back_1, dX6_back_2, dX6_back_3, dX6_back_4, dX6_back_7, dX6_back_10, dX6_back_11, dX6_back_12, dX6_back_13, dX6_back_16, dX6_back_17, dX6_back_18, dX6_back_21, dX6_back_23, dX6_back_24, dX6_back_25, dX6_back_26, dX6_back_28, dX6_back_29, dX6_back_30, dX6_back_31, dX6_back_32, dX6_back_35, dX6_back_36, dX6_back_39, dX6_back_41, dX6_back_42, FX6_16, FX6_7, G_X6_back_59, G_X6_back_272, T6_in]
    repeat' (first | exact trivial | omega | (with_reducible assumption) | exact absurd trivial (by with_reducible assumption) | contradiction | apply And.intro | intro _)
theorem good_X6_back (l : Launch) : Good l 1 yX6_back cX6_back 2 (some .int) T6_back := by
  refine Good.mk 1 (by decide) rfl (by simp [retOK]) FOK6 COK6 (gk_X6_back l) ?_ ?_
  · intro a μ K h
    unfold T6_back at h
    split at h
    · simp [entl]
    · exact h.elim
  · intro a μ K V hV h
    unfold T6_back at h
    split at h
    · exact body_X6_back _ _ μ K V hV h
    · exact h.elim

theorem shk : ∀ k, k < 4 → kd (47 + 2 * k) = 3 := by decide +kernel
def T5_sheet : TT := fun a μ K => match a with
  | [.inr (.inr o), .inl k, .inl w, .inl n] => o = 0 ∧ (InR k ∧ InR w ∧ InR n ∧ (¬ ((0 ≤ k ∧ k ≤ 3) ∧ (0 ≤ w ∧ w ≤ 2) ∧ n ≤ 40) → K [.inl (-1)] μ) ∧ (((0 ≤ k ∧ k ≤ 3) ∧ (0 ≤ w ∧ w ≤ 2) ∧ n ≤ 40) → (n < 0 → K [.inl (-14)] μ) ∧ (0 ≤ n → K [.inl 1] (wB (wI (wI μ (47 + 2 * k.toNat) 1 w) (47 + 2 * k.toNat) 2 n) (47 + 2 * k.toNat + 1) 40 (fun _ => 0)))))
  | _ => False
theorem rec_X5_sheet : ∀ a μ K, T5_sheet a μ K → ∃ k r, a = .inr (.inr k) :: r ∧ kd k = 5 := by
  intro a μ K h
  unfold T5_sheet at h
  split at h
  · exact ⟨_, _, rfl, by rw [h.1]; rfl⟩
  · exact h.elim
def GL_X5_sheet : List (Nat × Nat × Bool × TT) := [(52, 3, true, T5_isOutside), (195, 3, false, T3_renew)]
def G_X5_sheet : Nat → Option (Nat × Bool × TT) := fun i => GL_X5_sheet.lookup i
theorem G_X5_sheet_52 : G_X5_sheet 52 = some (3, true, T5_isOutside) := rfl
theorem G_X5_sheet_195 : G_X5_sheet 195 = some (3, false, T3_renew) := rfl
theorem gk_X5_sheet (l : Launch) : ∀ i n b T, G_X5_sheet i = some (n, b, T) → CallOK l 1 RX5 i n b T := by
  intro i n b T h
  have hm : (i, n, b, T) ∈ GL_X5_sheet := lk_mem h
  simp only [GL_X5_sheet, List.mem_cons, List.not_mem_nil, or_false, Prod.mk.injEq] at hm
  rcases hm with ⟨rfl, rfl, rfl, rfl⟩ | ⟨rfl, rfl, rfl, rfl⟩
  · exact CallOK.S (d := 1) (own := RX5) (i := 52) (n := 3) (good_X5_isOutside l) (by decide) (by decide) (mg 191 (by decide +kernel) (by decide +kernel)) (mg 192 (by decide +kernel) (by decide +kernel)) (mg 1 (by decide +kernel) (by decide +kernel)) (mg 193 (by decide +kernel) (by decide +kernel)) (by decide +kernel)
  · exact CallOK.V (d := 1) (own := RX5) (i := 195) (n := 2) (ci := 3) (good_X3_renew l) (by decide) (by decide) rfl (by decide) rec_X3_renew (mg 559 (by decide +kernel) (by decide +kernel)) (mg 560 (by decide +kernel) (by decide +kernel)) (mg 561 (by decide +kernel) (by decide +kernel)) (mg 6 (by decide +kernel) (by decide +kernel)) (mg 562 (by decide +kernel) (by decide +kernel)) (by decide +kernel)
set_option maxRecDepth 20000 in
set_option maxHeartbeats 4000000 in
theorem body_X5_sheet (o : Nat) (k : Int) (w : Int) (n : Int) (μ : Mem) (K : List AV → Mem → Prop) (V : Nat → List (Option AV) → List AV → Mem → Prop) (hV : Clos FX5 CX5 G_X5_sheet 1 K cX5_sheet V) (hT : o = 0 ∧ (InR k ∧ InR w ∧ InR n ∧ (¬ ((0 ≤ k ∧ k ≤ 3) ∧ (0 ≤ w ∧ w ≤ 2) ∧ n ≤ 40) → K [.inl (-1)] μ) ∧ (((0 ≤ k ∧ k ≤ 3) ∧ (0 ≤ w ∧ w ≤ 2) ∧ n ≤ 40) → (n < 0 → K [.inl (-14)] μ) ∧ (0 ≤ n → K [.inl 1] (wB (wI (wI μ (47 + 2 * k.toNat) 1 w) (47 + 2 * k.toNat) 2 n) (47 + 2 * k.toNat + 1) 40 (fun _ => 0)))))) : V 0 [some (.inr (.inr o)), some (.inl k), some (.inl w), some (.inl n)] [] μ := by
  simp only [InR] at hT
  obtain ⟨rfl, hk, hw, hn, hB, hK⟩ := hT
  by_cases hc : (0 ≤ k ∧ k ≤ 3) ∧ (0 ≤ w ∧ w ≤ 2) ∧ n ≤ 40
  · obtain ⟨k', rfl⟩ := Int.eq_ofNat_of_zero_le hc.1.1
    obtain ⟨h0, h1⟩ := hK hc
    rw [Int.toNat_natCast] at h1
    have q := shk k' (by omega)
    apply hV [] 60
    simp only [InR, InL, inb, Int.toNat_natCast, wp1, wpc_z, wpc_s, stp_iconst, stp_bipush, stp_sipush, stp_lconst, stp_iload_n, stp_iload, stp_lload_n, stp_lload, stp_aload_n, stp_aload, stp_istore_n, stp_istore, stp_lstore_n, stp_lstore, stp_astore_n, stp_astore, stp_iinc, stp_iadd, stp_isub, stp_imul, stp_ineg, stp_idiv, stp_irem, stp_ladd, stp_lmul, stp_ldiv, stp_lrem, stp_ishl, stp_ishr, stp_iushr, stp_iand, stp_ior, stp_i2l, stp_i2b, stp_i2s, stp_lcmp, stp_dup, stp_dup2, stp_pop, stp_ifCond, stp_if_icmp, stp_goto, stp_tableswitch, stp_lookupswitch, stp_ldc, stp_ldc_w, stp_ldc2_w, stp_getstatic, stp_getfield, stp_putfield, stp_iaload, stp_baload, stp_iastore, stp_bastore, stp_aaload, stp_aastore, stp_invokevirtual, stp_invokestatic, stp_ireturn, stp_lreturn, stp_return_, lg, lset, okl, spl, wd, c1, cnd, tg, swT, swL, f4_0, f4_1, f4_2, f4_3, f2_0, f2_1, List.mem_cons, List.not_mem_nil, List.length_cons, List.length_nil, List.cons_append, List.nil_append, Nat.reduceAdd, Nat.reduceMul, Nat.reduceLT, Nat.reduceEqDiff, Nat.reduceLeDiff, Int.reduceAdd, Int.reduceNeg, Int.reduceToNat, Int.cast_ofNat_Int, Int.reduceNatCast, Int.toNat_zero, Int.toNat_one, Int.reduceLE, Int.reduceLT, Int.reduceEq, Int.zero_add, Int.add_zero, or_false, false_or, or_true, true_or, and_true, true_and, and_false, false_and, reduceIte, not_true_eq_false, not_false_eq_true, forall_const, false_implies, true_implies, implies_true, ne_eq, reduceCtorEq, List.all_cons, List.all_nil, Bool.and_true, Bool.and_self, decide_eq_true_eq, decide_true, dX5_sheet_0, dX5_sheet_1, dX5_sheet_2, dX5_sheet_3, dX5_sheet_6, dX5_sheet_9, dX5_sheet_10, dX5_sheet_11, dX5_sheet_12, dX5_sheet_15, dX5_sheet_18, dX5_sheet_19, dX5_sheet_21, dX5_sheet_24, dX5_sheet_25, dX5_sheet_26, dX5_sheet_27, dX5_sheet_30, dX5_sheet_32, dX5_sheet_33, dX5_sheet_34, dX5_sheet_37, dX5_sheet_38, dX5_sheet_39, dX5_sheet_40, dX5_sheet_41, dX5_sheet_44, dX5_sheet_45, FX5_41, G_X5_sheet_52, G_X5_sheet_195, kd_0, kd_46, ln_46, T5_isOutside, el_46, q, T3_renew]
    by_cases z : n < 0
    · have h0 := h0 z
      repeat' (first | exact trivial | omega | (with_reducible assumption) | exact absurd trivial (by with_reducible assumption) | contradiction | apply And.intro | intro _)
    · have h1 := h1 (by omega)
      repeat' (first | exact trivial | omega | (with_reducible assumption) | exact absurd trivial (by with_reducible assumption) | contradiction | apply And.intro | intro _)
  · have hB := hB hc
    apply hV [26] 60
    simp only [InR, InL, inb, Int.toNat_natCast, wp1, wpc_z, wpc_s, stp_iconst, stp_bipush, stp_sipush, stp_lconst, stp_iload_n, stp_iload, stp_lload_n, stp_lload, stp_aload_n, stp_aload, stp_istore_n, stp_istore, stp_lstore_n, stp_lstore, stp_astore_n, stp_astore, stp_iinc, stp_iadd, stp_isub, stp_imul, stp_ineg, stp_idiv, stp_irem, stp_ladd, stp_lmul, stp_ldiv, stp_lrem, stp_ishl, stp_ishr, stp_iushr, stp_iand, stp_ior, stp_i2l, stp_i2b, stp_i2s, stp_lcmp, stp_dup, stp_dup2, stp_pop, stp_ifCond, stp_if_icmp, stp_goto, stp_tableswitch, stp_lookupswitch, stp_ldc, stp_ldc_w, stp_ldc2_w, stp_getstatic, stp_getfield, stp_putfield, stp_iaload, stp_baload, stp_iastore, stp_bastore, stp_aaload, stp_aastore, stp_invokevirtual, stp_invokestatic, stp_ireturn, stp_lreturn, stp_return_, lg, lset, okl, spl, wd, c1, cnd, tg, swT, swL, f4_0, f4_1, f4_2, f4_3, f2_0, f2_1, List.mem_cons, List.not_mem_nil, List.length_cons, List.length_nil, List.cons_append, List.nil_append, Nat.reduceAdd, Nat.reduceMul, Nat.reduceLT, Nat.reduceEqDiff, Nat.reduceLeDiff, Int.reduceAdd, Int.reduceNeg, Int.reduceToNat, Int.cast_ofNat_Int, Int.reduceNatCast, Int.toNat_zero, Int.toNat_one, Int.reduceLE, Int.reduceLT, Int.reduceEq, Int.zero_add, Int.add_zero, or_false, false_or, or_true, true_or, and_true, true_and, and_false, false_and, reduceIte, not_true_eq_false, not_false_eq_true, forall_const, false_implies, true_implies, implies_true, ne_eq, reduceCtorEq, List.all_cons, List.all_nil, Bool.and_true, Bool.and_self, decide_eq_true_eq, decide_true, dX5_sheet_0, dX5_sheet_1, dX5_sheet_2, dX5_sheet_3, dX5_sheet_6, dX5_sheet_9, dX5_sheet_10, dX5_sheet_11, dX5_sheet_12, dX5_sheet_15, dX5_sheet_18, dX5_sheet_19, dX5_sheet_21, dX5_sheet_24, dX5_sheet_25, dX5_sheet_26, dX5_sheet_27, dX5_sheet_30, dX5_sheet_32, dX5_sheet_33, dX5_sheet_34, dX5_sheet_37, dX5_sheet_38, dX5_sheet_39, dX5_sheet_40, dX5_sheet_41, dX5_sheet_44, dX5_sheet_45, FX5_41, G_X5_sheet_52, G_X5_sheet_195, T5_isOutside]
    repeat' (first | exact trivial | omega | (with_reducible assumption) | exact absurd trivial (by with_reducible assumption) | contradiction | apply And.intro | intro _)
theorem good_X5_sheet (l : Launch) : Good l 1 yX5_sheet cX5_sheet 4 (some .int) T5_sheet := by
  refine Good.mk 1 (by decide) rfl (by simp [retOK]) FOK5 COK5 (gk_X5_sheet l) ?_ ?_
  · intro a μ K h
    unfold T5_sheet at h
    split at h
    · simp [entl]
    · exact h.elim
  · intro a μ K V hV h
    unfold T5_sheet at h
    split at h
    · exact body_X5_sheet _ _ _ _ μ K V hV h
    · exact h.elim

/-- n cells from s on become 0 -/
def wZ (μ : Mem) (k s n : Nat) : Mem := (fun a b => if a = k ∧ s ≤ b ∧ b < s + n then 0 else μ.1 a b, μ.2)
theorem rI_wZ (μ : Mem) (k s n a b : Nat) : rI (wZ μ k s n) a b = if a = k ∧ s ≤ b ∧ b < s + n then 0 else rI μ a b := rfl
theorem wZ_0 (μ : Mem) (k s : Nat) : wZ μ k s 0 = μ := mem_ext (fun a b => by rw [rI_wZ, if_neg (by omega)]) (fun _ _ => rfl)
theorem wZ_s (μ : Mem) (k s n : Nat) : wI (wZ μ k s n) k (s + n) 0 = wZ μ k s (n + 1) := by
  refine mem_ext (fun a b => ?_) (fun _ _ => rfl)
  rw [rI_wI, rI_wZ, rI_wZ]
  by_cases h : a = k
  · by_cases h1 : b = s + n
    · rw [if_pos ⟨h, h1⟩, if_pos ⟨h, by omega, by omega⟩]
    · rw [if_neg (fun z => h1 z.2)]
      by_cases h2 : s ≤ b ∧ b < s + n
      · rw [if_pos ⟨h, h2⟩, if_pos ⟨h, by omega, by omega⟩]
      · rw [if_neg (fun z => h2 z.2), if_neg (by omega)]
  · rw [if_neg (fun z => h z.1), if_neg (fun z => h z.1), if_neg (fun z => h z.1)]
def GL_X6_sheet : List (Nat × Nat × Bool × TT) := [(275, 2, true, T6_isSheet)]
def G_X6_sheet : Nat → Option (Nat × Bool × TT) := fun i => GL_X6_sheet.lookup i
theorem G_X6_sheet_275 : G_X6_sheet 275 = some (2, true, T6_isSheet) := rfl

set_option maxRecDepth 20000 in
set_option maxHeartbeats 4000000 in
theorem lp_msheet (V : Nat → List (Option AV) → List AV → Mem → Prop) (K : List AV → Mem → Prop) (hV : Clos FX6 CX6 G_X6_sheet 1 K cX6_sheet V) (μ : Mem) (k : Nat) (hk : k < 4) (w n : Int) (hK : K [.inl 1] (wZ μ 77 (40 * k) 40)) : ∀ m j : Nat, j + m = 40 → V 40 [some (.inr (.inr 66)), some (.inl (k : Int)), some (.inl w), some (.inl n), some (.inl (j : Int))] [] (wZ μ 77 (40 * k) j) := by
  intro m
  induction m with
  | zero =>
    intro j hj
    have ej : j = 40 := by omega
    subst ej
    apply hV [40] 40
    simp only [InR, InL, inb, Int.toNat_natCast, wp1, wpc_z, wpc_s, stp_iconst, stp_bipush, stp_sipush, stp_lconst, stp_iload_n, stp_iload, stp_lload_n, stp_lload, stp_aload_n, stp_aload, stp_istore_n, stp_istore, stp_lstore_n, stp_lstore, stp_astore_n, stp_astore, stp_iinc, stp_iadd, stp_isub, stp_imul, stp_ineg, stp_idiv, stp_irem, stp_ladd, stp_lmul, stp_ldiv, stp_lrem, stp_ishl, stp_ishr, stp_iushr, stp_iand, stp_ior, stp_i2l, stp_i2b, stp_i2s, stp_lcmp, stp_dup, stp_dup2, stp_pop, stp_ifCond, stp_if_icmp, stp_goto, stp_tableswitch, stp_lookupswitch, stp_ldc, stp_ldc_w, stp_ldc2_w, stp_getstatic, stp_getfield, stp_putfield, stp_iaload, stp_baload, stp_iastore, stp_bastore, stp_aaload, stp_aastore, stp_invokevirtual, stp_invokestatic, stp_ireturn, stp_lreturn, stp_return_, lg, lset, okl, spl, wd, c1, cnd, tg, swT, swL, f4_0, f4_1, f4_2, f4_3, f2_0, f2_1, List.mem_cons, List.not_mem_nil, List.length_cons, List.length_nil, List.cons_append, List.nil_append, Nat.reduceAdd, Nat.reduceMul, Nat.reduceLT, Nat.reduceEqDiff, Nat.reduceLeDiff, Int.reduceAdd, Int.reduceNeg, Int.reduceToNat, Int.cast_ofNat_Int, Int.reduceNatCast, Int.toNat_zero, Int.toNat_one, Int.reduceLE, Int.reduceLT, Int.reduceEq, Int.zero_add, Int.add_zero, or_false, false_or, or_true, true_or, and_true, true_and, and_false, false_and, reduceIte, not_true_eq_false, not_false_eq_true, forall_const, false_implies, true_implies, implies_true, ne_eq, reduceCtorEq, List.all_cons, List.all_nil, Bool.and_true, Bool.and_self, decide_eq_true_eq, decide_true, dX6_sheet_0, dX6_sheet_1, dX6_sheet_2, dX6_sheet_5, dX6_sheet_8, dX6_sheet_9, dX6_sheet_11, dX6_sheet_14, dX6_sheet_15, dX6_sheet_16, dX6_sheet_17, dX6_sheet_20, dX6_sheet_22, dX6_sheet_23, dX6_sheet_24, dX6_sheet_27, dX6_sheet_28, dX6_sheet_29, dX6_sheet_30, dX6_sheet_31, dX6_sheet_34, dX6_sheet_35, dX6_sheet_36, dX6_sheet_37, dX6_sheet_38, dX6_sheet_40, dX6_sheet_42, dX6_sheet_44, dX6_sheet_47, dX6_sheet_48, dX6_sheet_51, dX6_sheet_53, dX6_sheet_54, dX6_sheet_55, dX6_sheet_57, dX6_sheet_58, dX6_sheet_59, dX6_sheet_60, dX6_sheet_63, dX6_sheet_66, dX6_sheet_67, FX6_35, FX6_38, FX6_41, G_X6_sheet_275, kd_66, kd_77, ln_77]
    repeat' (first | exact trivial | omega | (with_reducible assumption) | exact absurd trivial (by with_reducible assumption) | contradiction | apply And.intro | intro _)
  | succ m ih =>
    intro j hj
    have h := ih (j + 1) (by omega)
    rw [← wZ_s, show ((j + 1 : Nat) : Int) = (j : Int) + 1 by omega] at h
    have e1 : (40 * (k : Int) + (j : Int)).toNat = 40 * k + j := by omega
    apply hV [40] 40
    simp only [InR, InL, inb, Int.toNat_natCast, wp1, wpc_z, wpc_s, stp_iconst, stp_bipush, stp_sipush, stp_lconst, stp_iload_n, stp_iload, stp_lload_n, stp_lload, stp_aload_n, stp_aload, stp_istore_n, stp_istore, stp_lstore_n, stp_lstore, stp_astore_n, stp_astore, stp_iinc, stp_iadd, stp_isub, stp_imul, stp_ineg, stp_idiv, stp_irem, stp_ladd, stp_lmul, stp_ldiv, stp_lrem, stp_ishl, stp_ishr, stp_iushr, stp_iand, stp_ior, stp_i2l, stp_i2b, stp_i2s, stp_lcmp, stp_dup, stp_dup2, stp_pop, stp_ifCond, stp_if_icmp, stp_goto, stp_tableswitch, stp_lookupswitch, stp_ldc, stp_ldc_w, stp_ldc2_w, stp_getstatic, stp_getfield, stp_putfield, stp_iaload, stp_baload, stp_iastore, stp_bastore, stp_aaload, stp_aastore, stp_invokevirtual, stp_invokestatic, stp_ireturn, stp_lreturn, stp_return_, lg, lset, okl, spl, wd, c1, cnd, tg, swT, swL, f4_0, f4_1, f4_2, f4_3, f2_0, f2_1, List.mem_cons, List.not_mem_nil, List.length_cons, List.length_nil, List.cons_append, List.nil_append, Nat.reduceAdd, Nat.reduceMul, Nat.reduceLT, Nat.reduceEqDiff, Nat.reduceLeDiff, Int.reduceAdd, Int.reduceNeg, Int.reduceToNat, Int.cast_ofNat_Int, Int.reduceNatCast, Int.toNat_zero, Int.toNat_one, Int.reduceLE, Int.reduceLT, Int.reduceEq, Int.zero_add, Int.add_zero, or_false, false_or, or_true, true_or, and_true, true_and, and_false, false_and, reduceIte, not_true_eq_false, not_false_eq_true, forall_const, false_implies, true_implies, implies_true, ne_eq, reduceCtorEq, List.all_cons, List.all_nil, Bool.and_true, Bool.and_self, decide_eq_true_eq, decide_true, dX6_sheet_0, dX6_sheet_1, dX6_sheet_2, dX6_sheet_5, dX6_sheet_8, dX6_sheet_9, dX6_sheet_11, dX6_sheet_14, dX6_sheet_15, dX6_sheet_16, dX6_sheet_17, dX6_sheet_20, dX6_sheet_22, dX6_sheet_23, dX6_sheet_24, dX6_sheet_27, dX6_sheet_28, dX6_sheet_29, dX6_sheet_30, dX6_sheet_31, dX6_sheet_34, dX6_sheet_35, dX6_sheet_36, dX6_sheet_37, dX6_sheet_38, dX6_sheet_40, dX6_sheet_42, dX6_sheet_44, dX6_sheet_47, dX6_sheet_48, dX6_sheet_51, dX6_sheet_53, dX6_sheet_54, dX6_sheet_55, dX6_sheet_57, dX6_sheet_58, dX6_sheet_59, dX6_sheet_60, dX6_sheet_63, dX6_sheet_66, dX6_sheet_67, FX6_35, FX6_38, FX6_41, G_X6_sheet_275, kd_66, kd_77, ln_77, e1]
    repeat' (first | exact trivial | omega | (with_reducible assumption) | exact absurd trivial (by with_reducible assumption) | contradiction | apply And.intro | intro _)
def T6_sheet : TT := fun a μ K => match a with
  | [.inr (.inr o), .inl k, .inl w, .inl n] => o = 66 ∧ (InR k ∧ InR w ∧ InR n ∧ (¬ ((0 ≤ k ∧ k ≤ 3) ∧ (0 ≤ w ∧ w ≤ 2) ∧ n ≤ 40) → K [.inl (-1)] μ) ∧ (((0 ≤ k ∧ k ≤ 3) ∧ (0 ≤ w ∧ w ≤ 2) ∧ n ≤ 40) → (n < 0 → K [.inl (-14)] μ) ∧ (0 ≤ n → K [.inl 1] (wZ (wI (wI μ 75 k.toNat w) 76 k.toNat n) 77 (40 * k.toNat) 40))))
  | _ => False
theorem rec_X6_sheet : ∀ a μ K, T6_sheet a μ K → ∃ k r, a = .inr (.inr k) :: r ∧ kd k = 6 := by
  intro a μ K h
  unfold T6_sheet at h
  split at h
  · exact ⟨_, _, rfl, by rw [h.1]; rfl⟩
  · exact h.elim
theorem gk_X6_sheet (l : Launch) : ∀ i n b T, G_X6_sheet i = some (n, b, T) → CallOK l 2 RX6 i n b T := by
  intro i n b T h
  have hm : (i, n, b, T) ∈ GL_X6_sheet := lk_mem h
  simp only [GL_X6_sheet, List.mem_cons, List.not_mem_nil, or_false, Prod.mk.injEq] at hm
  rcases hm with ⟨rfl, rfl, rfl, rfl⟩
  · exact CallOK.S (d := 2) (own := RX6) (i := 275) (n := 2) (good_X6_isSheet l) (by decide) (by decide) (mg 989 (by decide +kernel) (by decide +kernel)) (mg 990 (by decide +kernel) (by decide +kernel)) (mg 7 (by decide +kernel) (by decide +kernel)) (mg 991 (by decide +kernel) (by decide +kernel)) (by decide +kernel)
set_option maxRecDepth 20000 in
set_option maxHeartbeats 4000000 in
theorem body_X6_sheet (o : Nat) (k : Int) (w : Int) (n : Int) (μ : Mem) (K : List AV → Mem → Prop) (V : Nat → List (Option AV) → List AV → Mem → Prop) (hV : Clos FX6 CX6 G_X6_sheet 1 K cX6_sheet V) (hT : o = 66 ∧ (InR k ∧ InR w ∧ InR n ∧ (¬ ((0 ≤ k ∧ k ≤ 3) ∧ (0 ≤ w ∧ w ≤ 2) ∧ n ≤ 40) → K [.inl (-1)] μ) ∧ (((0 ≤ k ∧ k ≤ 3) ∧ (0 ≤ w ∧ w ≤ 2) ∧ n ≤ 40) → (n < 0 → K [.inl (-14)] μ) ∧ (0 ≤ n → K [.inl 1] (wZ (wI (wI μ 75 k.toNat w) 76 k.toNat n) 77 (40 * k.toNat) 40))))) : V 0 [some (.inr (.inr o)), some (.inl k), some (.inl w), some (.inl n), none] [] μ := by
  simp only [InR] at hT
  obtain ⟨rfl, hk, hw, hn, hB, hK⟩ := hT
  by_cases hc : (0 ≤ k ∧ k ≤ 3) ∧ (0 ≤ w ∧ w ≤ 2) ∧ n ≤ 40
  · obtain ⟨k', rfl⟩ := Int.eq_ofNat_of_zero_le hc.1.1
    obtain ⟨h0, h1⟩ := hK hc
    rw [Int.toNat_natCast] at h1
    by_cases z : n < 0
    · have h0 := h0 z
      apply hV [23] 60
      simp only [InR, InL, inb, Int.toNat_natCast, wp1, wpc_z, wpc_s, stp_iconst, stp_bipush, stp_sipush, stp_lconst, stp_iload_n, stp_iload, stp_lload_n, stp_lload, stp_aload_n, stp_aload, stp_istore_n, stp_istore, stp_lstore_n, stp_lstore, stp_astore_n, stp_astore, stp_iinc, stp_iadd, stp_isub, stp_imul, stp_ineg, stp_idiv, stp_irem, stp_ladd, stp_lmul, stp_ldiv, stp_lrem, stp_ishl, stp_ishr, stp_iushr, stp_iand, stp_ior, stp_i2l, stp_i2b, stp_i2s, stp_lcmp, stp_dup, stp_dup2, stp_pop, stp_ifCond, stp_if_icmp, stp_goto, stp_tableswitch, stp_lookupswitch, stp_ldc, stp_ldc_w, stp_ldc2_w, stp_getstatic, stp_getfield, stp_putfield, stp_iaload, stp_baload, stp_iastore, stp_bastore, stp_aaload, stp_aastore, stp_invokevirtual, stp_invokestatic, stp_ireturn, stp_lreturn, stp_return_, lg, lset, okl, spl, wd, c1, cnd, tg, swT, swL, f4_0, f4_1, f4_2, f4_3, f2_0, f2_1, List.mem_cons, List.not_mem_nil, List.length_cons, List.length_nil, List.cons_append, List.nil_append, Nat.reduceAdd, Nat.reduceMul, Nat.reduceLT, Nat.reduceEqDiff, Nat.reduceLeDiff, Int.reduceAdd, Int.reduceNeg, Int.reduceToNat, Int.cast_ofNat_Int, Int.reduceNatCast, Int.toNat_zero, Int.toNat_one, Int.reduceLE, Int.reduceLT, Int.reduceEq, Int.zero_add, Int.add_zero, or_false, false_or, or_true, true_or, and_true, true_and, and_false, false_and, reduceIte, not_true_eq_false, not_false_eq_true, forall_const, false_implies, true_implies, implies_true, ne_eq, reduceCtorEq, List.all_cons, List.all_nil, Bool.and_true, Bool.and_self, decide_eq_true_eq, decide_true, dX6_sheet_0, dX6_sheet_1, dX6_sheet_2, dX6_sheet_5, dX6_sheet_8, dX6_sheet_9, dX6_sheet_11, dX6_sheet_14, dX6_sheet_15, dX6_sheet_16, dX6_sheet_17, dX6_sheet_20, dX6_sheet_22, dX6_sheet_23, dX6_sheet_24, dX6_sheet_27, dX6_sheet_28, dX6_sheet_29, dX6_sheet_30, dX6_sheet_31, dX6_sheet_34, dX6_sheet_35, dX6_sheet_36, dX6_sheet_37, dX6_sheet_38, dX6_sheet_40, dX6_sheet_42, dX6_sheet_44, dX6_sheet_47, dX6_sheet_48, dX6_sheet_51, dX6_sheet_53, dX6_sheet_54, dX6_sheet_55, dX6_sheet_57, dX6_sheet_58, dX6_sheet_59, dX6_sheet_60, dX6_sheet_63, dX6_sheet_66, dX6_sheet_67, FX6_35, FX6_38, FX6_41, G_X6_sheet_275, kd_66, T6_isSheet]
      repeat' (first | exact trivial | omega | (with_reducible assumption) | exact absurd trivial (by with_reducible assumption) | contradiction | apply And.intro | intro _)
    · have h := lp_msheet V K hV (wI (wI μ 75 k' w) 76 k' n) k' (by omega) w n (h1 (by omega)) 40 0 (by omega)
      rw [wZ_0] at h
      apply hV [40] 60
      simp only [InR, InL, inb, Int.toNat_natCast, wp1, wpc_z, wpc_s, stp_iconst, stp_bipush, stp_sipush, stp_lconst, stp_iload_n, stp_iload, stp_lload_n, stp_lload, stp_aload_n, stp_aload, stp_istore_n, stp_istore, stp_lstore_n, stp_lstore, stp_astore_n, stp_astore, stp_iinc, stp_iadd, stp_isub, stp_imul, stp_ineg, stp_idiv, stp_irem, stp_ladd, stp_lmul, stp_ldiv, stp_lrem, stp_ishl, stp_ishr, stp_iushr, stp_iand, stp_ior, stp_i2l, stp_i2b, stp_i2s, stp_lcmp, stp_dup, stp_dup2, stp_pop, stp_ifCond, stp_if_icmp, stp_goto, stp_tableswitch, stp_lookupswitch, stp_ldc, stp_ldc_w, stp_ldc2_w, stp_getstatic, stp_getfield, stp_putfield, stp_iaload, stp_baload, stp_iastore, stp_bastore, stp_aaload, stp_aastore, stp_invokevirtual, stp_invokestatic, stp_ireturn, stp_lreturn, stp_return_, lg, lset, okl, spl, wd, c1, cnd, tg, swT, swL, f4_0, f4_1, f4_2, f4_3, f2_0, f2_1, List.mem_cons, List.not_mem_nil, List.length_cons, List.length_nil, List.cons_append, List.nil_append, Nat.reduceAdd, Nat.reduceMul, Nat.reduceLT, Nat.reduceEqDiff, Nat.reduceLeDiff, Int.reduceAdd, Int.reduceNeg, Int.reduceToNat, Int.cast_ofNat_Int, Int.reduceNatCast, Int.toNat_zero, Int.toNat_one, Int.reduceLE, Int.reduceLT, Int.reduceEq, Int.zero_add, Int.add_zero, or_false, false_or, or_true, true_or, and_true, true_and, and_false, false_and, reduceIte, not_true_eq_false, not_false_eq_true, forall_const, false_implies, true_implies, implies_true, ne_eq, reduceCtorEq, List.all_cons, List.all_nil, Bool.and_true, Bool.and_self, decide_eq_true_eq, decide_true, dX6_sheet_0, dX6_sheet_1, dX6_sheet_2, dX6_sheet_5, dX6_sheet_8, dX6_sheet_9, dX6_sheet_11, dX6_sheet_14, dX6_sheet_15, dX6_sheet_16, dX6_sheet_17, dX6_sheet_20, dX6_sheet_22, dX6_sheet_23, dX6_sheet_24, dX6_sheet_27, dX6_sheet_28, dX6_sheet_29, dX6_sheet_30, dX6_sheet_31, dX6_sheet_34, dX6_sheet_35, dX6_sheet_36, dX6_sheet_37, dX6_sheet_38, dX6_sheet_40, dX6_sheet_42, dX6_sheet_44, dX6_sheet_47, dX6_sheet_48, dX6_sheet_51, dX6_sheet_53, dX6_sheet_54, dX6_sheet_55, dX6_sheet_57, dX6_sheet_58, dX6_sheet_59, dX6_sheet_60, dX6_sheet_63, dX6_sheet_66, dX6_sheet_67, FX6_35, FX6_38, FX6_41, G_X6_sheet_275, kd_66, kd_75, kd_76, ln_75, ln_76, T6_isSheet]
      repeat' (first | exact trivial | omega | (with_reducible assumption) | exact absurd trivial (by with_reducible assumption) | contradiction | apply And.intro | intro _)
  · have hB := hB hc
    apply hV [16] 60
    simp only [InR, InL, inb, Int.toNat_natCast, wp1, wpc_z, wpc_s, stp_iconst, stp_bipush, stp_sipush, stp_lconst, stp_iload_n, stp_iload, stp_lload_n, stp_lload, stp_aload_n, stp_aload, stp_istore_n, stp_istore, stp_lstore_n, stp_lstore, stp_astore_n, stp_astore, stp_iinc, stp_iadd, stp_isub, stp_imul, stp_ineg, stp_idiv, stp_irem, stp_ladd, stp_lmul, stp_ldiv, stp_lrem, stp_ishl, stp_ishr, stp_iushr, stp_iand, stp_ior, stp_i2l, stp_i2b, stp_i2s, stp_lcmp, stp_dup, stp_dup2, stp_pop, stp_ifCond, stp_if_icmp, stp_goto, stp_tableswitch, stp_lookupswitch, stp_ldc, stp_ldc_w, stp_ldc2_w, stp_getstatic, stp_getfield, stp_putfield, stp_iaload, stp_baload, stp_iastore, stp_bastore, stp_aaload, stp_aastore, stp_invokevirtual, stp_invokestatic, stp_ireturn, stp_lreturn, stp_return_, lg, lset, okl, spl, wd, c1, cnd, tg, swT, swL, f4_0, f4_1, f4_2, f4_3, f2_0, f2_1, List.mem_cons, List.not_mem_nil, List.length_cons, List.length_nil, List.cons_append, List.nil_append, Nat.reduceAdd, Nat.reduceMul, Nat.reduceLT, Nat.reduceEqDiff, Nat.reduceLeDiff, Int.reduceAdd, Int.reduceNeg, Int.reduceToNat, Int.cast_ofNat_Int, Int.reduceNatCast, Int.toNat_zero, Int.toNat_one, Int.reduceLE, Int.reduceLT, Int.reduceEq, Int.zero_add, Int.add_zero, or_false, false_or, or_true, true_or, and_true, true_and, and_false, false_and, reduceIte, not_true_eq_false, not_false_eq_true, forall_const, false_implies, true_implies, implies_true, ne_eq, reduceCtorEq, List.all_cons, List.all_nil, Bool.and_true, Bool.and_self, decide_eq_true_eq, decide_true, dX6_sheet_0, dX6_sheet_1, dX6_sheet_2, dX6_sheet_5, dX6_sheet_8, dX6_sheet_9, dX6_sheet_11, dX6_sheet_14, dX6_sheet_15, dX6_sheet_16, dX6_sheet_17, dX6_sheet_20, dX6_sheet_22, dX6_sheet_23, dX6_sheet_24, dX6_sheet_27, dX6_sheet_28, dX6_sheet_29, dX6_sheet_30, dX6_sheet_31, dX6_sheet_34, dX6_sheet_35, dX6_sheet_36, dX6_sheet_37, dX6_sheet_38, dX6_sheet_40, dX6_sheet_42, dX6_sheet_44, dX6_sheet_47, dX6_sheet_48, dX6_sheet_51, dX6_sheet_53, dX6_sheet_54, dX6_sheet_55, dX6_sheet_57, dX6_sheet_58, dX6_sheet_59, dX6_sheet_60, dX6_sheet_63, dX6_sheet_66, dX6_sheet_67, FX6_35, FX6_38, FX6_41, G_X6_sheet_275, T6_isSheet]
    repeat' (first | exact trivial | omega | (with_reducible assumption) | exact absurd trivial (by with_reducible assumption) | contradiction | apply And.intro | intro _)
theorem good_X6_sheet (l : Launch) : Good l 2 yX6_sheet cX6_sheet 5 (some .int) T6_sheet := by
  refine Good.mk 1 (by decide) rfl (by simp [retOK]) FOK6 COK6 (gk_X6_sheet l) ?_ ?_
  · intro a μ K h
    unfold T6_sheet at h
    split at h
    · simp [entl]
    · exact h.elim
  · intro a μ K V hV h
    unfold T6_sheet at h
    split at h
    · exact body_X6_sheet _ _ _ _ μ K V hV h
    · exact h.elim

def T5_lay : TT := fun a μ K => match a with
  | [.inr (.inr o), .inl k, .inl i, .inl v] => o = 0 ∧ (InR k ∧ InR i ∧ InR v ∧ (¬ (0 ≤ k ∧ k ≤ 3) → K [.inl (-1)] μ) ∧ ((0 ≤ k ∧ k ≤ 3) → (-4 ≤ rI μ (47 + 2 * k.toNat) 1 ∧ rI μ (47 + 2 * k.toNat) 1 ≤ 2) ∧ (-4 ≤ rI μ (47 + 2 * k.toNat) 2 ∧ rI μ (47 + 2 * k.toNat) 2 ≤ 40) ∧ (rI μ (47 + 2 * k.toNat) 2 = -4 → K [.inl (-11)] μ) ∧ (rI μ (47 + 2 * k.toNat) 2 ≠ -4 → ¬ (0 ≤ i ∧ i ≤ rI μ (47 + 2 * k.toNat) 2 - 1) → K [.inl (-12)] μ) ∧ (rI μ (47 + 2 * k.toNat) 2 ≠ -4 → (0 ≤ i ∧ i ≤ rI μ (47 + 2 * k.toNat) 2 - 1) → K [.inl 1] (wI μ (47 + 2 * k.toNat + 1) i.toNat (narrowTo (rI μ (47 + 2 * k.toNat) 1) v)))))
  | _ => False
theorem rec_X5_lay : ∀ a μ K, T5_lay a μ K → ∃ k r, a = .inr (.inr k) :: r ∧ kd k = 5 := by
  intro a μ K h
  unfold T5_lay at h
  split at h
  · exact ⟨_, _, rfl, by rw [h.1]; rfl⟩
  · exact h.elim
def GL_X5_lay : List (Nat × Nat × Bool × TT) := [(52, 3, true, T5_isOutside), (201, 3, false, T3_faultAt), (204, 3, false, T3_write)]
def G_X5_lay : Nat → Option (Nat × Bool × TT) := fun i => GL_X5_lay.lookup i
theorem G_X5_lay_52 : G_X5_lay 52 = some (3, true, T5_isOutside) := rfl
theorem G_X5_lay_201 : G_X5_lay 201 = some (3, false, T3_faultAt) := rfl
theorem G_X5_lay_204 : G_X5_lay 204 = some (3, false, T3_write) := rfl
theorem gk_X5_lay (l : Launch) : ∀ i n b T, G_X5_lay i = some (n, b, T) → CallOK l 2 RX5 i n b T := by
  intro i n b T h
  have hm : (i, n, b, T) ∈ GL_X5_lay := lk_mem h
  simp only [GL_X5_lay, List.mem_cons, List.not_mem_nil, or_false, Prod.mk.injEq] at hm
  rcases hm with ⟨rfl, rfl, rfl, rfl⟩ | ⟨rfl, rfl, rfl, rfl⟩ | ⟨rfl, rfl, rfl, rfl⟩
  · exact CallOK.S (d := 2) (own := RX5) (i := 52) (n := 3) (good_X5_isOutside l) (by decide) (by decide) (mg 191 (by decide +kernel) (by decide +kernel)) (mg 192 (by decide +kernel) (by decide +kernel)) (mg 1 (by decide +kernel) (by decide +kernel)) (mg 193 (by decide +kernel) (by decide +kernel)) (by decide +kernel)
  · exact CallOK.V (d := 2) (own := RX5) (i := 201) (n := 2) (ci := 3) (good_X3_faultAt l) (by decide) (by decide) rfl (by decide) rec_X3_faultAt (mg 567 (by decide +kernel) (by decide +kernel)) (mg 568 (by decide +kernel) (by decide +kernel)) (mg 569 (by decide +kernel) (by decide +kernel)) (mg 6 (by decide +kernel) (by decide +kernel)) (mg 570 (by decide +kernel) (by decide +kernel)) (by decide +kernel)
  · exact CallOK.V (d := 2) (own := RX5) (i := 204) (n := 2) (ci := 3) (good_X3_write l) (by decide) (by decide) rfl (by decide) rec_X3_write (mg 572 (by decide +kernel) (by decide +kernel)) (mg 573 (by decide +kernel) (by decide +kernel)) (mg 574 (by decide +kernel) (by decide +kernel)) (mg 6 (by decide +kernel) (by decide +kernel)) (mg 575 (by decide +kernel) (by decide +kernel)) (by decide +kernel)
set_option maxRecDepth 20000 in
set_option maxHeartbeats 4000000 in
theorem body_X5_lay (o : Nat) (k : Int) (i : Int) (v : Int) (μ : Mem) (K : List AV → Mem → Prop) (V : Nat → List (Option AV) → List AV → Mem → Prop) (hV : Clos FX5 CX5 G_X5_lay 1 K cX5_lay V) (hT : o = 0 ∧ (InR k ∧ InR i ∧ InR v ∧ (¬ (0 ≤ k ∧ k ≤ 3) → K [.inl (-1)] μ) ∧ ((0 ≤ k ∧ k ≤ 3) → (-4 ≤ rI μ (47 + 2 * k.toNat) 1 ∧ rI μ (47 + 2 * k.toNat) 1 ≤ 2) ∧ (-4 ≤ rI μ (47 + 2 * k.toNat) 2 ∧ rI μ (47 + 2 * k.toNat) 2 ≤ 40) ∧ (rI μ (47 + 2 * k.toNat) 2 = -4 → K [.inl (-11)] μ) ∧ (rI μ (47 + 2 * k.toNat) 2 ≠ -4 → ¬ (0 ≤ i ∧ i ≤ rI μ (47 + 2 * k.toNat) 2 - 1) → K [.inl (-12)] μ) ∧ (rI μ (47 + 2 * k.toNat) 2 ≠ -4 → (0 ≤ i ∧ i ≤ rI μ (47 + 2 * k.toNat) 2 - 1) → K [.inl 1] (wI μ (47 + 2 * k.toNat + 1) i.toNat (narrowTo (rI μ (47 + 2 * k.toNat) 1) v)))))) : V 0 [some (.inr (.inr o)), some (.inl k), some (.inl i), some (.inl v), none, none] [] μ := by
  simp only [InR] at hT
  obtain ⟨rfl, hk, hi, hv, hB, hK⟩ := hT
  by_cases hc : 0 ≤ k ∧ k ≤ 3
  · obtain ⟨k', rfl⟩ := Int.eq_ofNat_of_zero_le hc.1
    have hK := hK hc
    rw [Int.toNat_natCast] at hK
    have q := shk k' (by omega)
    obtain ⟨hl, hs, h1, h2, h3⟩ := hK
    apply hV [] 60
    simp only [InR, InL, inb, Int.toNat_natCast, wp1, wpc_z, wpc_s, stp_iconst, stp_bipush, stp_sipush, stp_lconst, stp_iload_n, stp_iload, stp_lload_n, stp_lload, stp_aload_n, stp_aload, stp_istore_n, stp_istore, stp_lstore_n, stp_lstore, stp_astore_n, stp_astore, stp_iinc, stp_iadd, stp_isub, stp_imul, stp_ineg, stp_idiv, stp_irem, stp_ladd, stp_lmul, stp_ldiv, stp_lrem, stp_ishl, stp_ishr, stp_iushr, stp_iand, stp_ior, stp_i2l, stp_i2b, stp_i2s, stp_lcmp, stp_dup, stp_dup2, stp_pop, stp_ifCond, stp_if_icmp, stp_goto, stp_tableswitch, stp_lookupswitch, stp_ldc, stp_ldc_w, stp_ldc2_w, stp_getstatic, stp_getfield, stp_putfield, stp_iaload, stp_baload, stp_iastore, stp_bastore, stp_aaload, stp_aastore, stp_invokevirtual, stp_invokestatic, stp_ireturn, stp_lreturn, stp_return_, lg, lset, okl, spl, wd, c1, cnd, tg, swT, swL, f4_0, f4_1, f4_2, f4_3, f2_0, f2_1, List.mem_cons, List.not_mem_nil, List.length_cons, List.length_nil, List.cons_append, List.nil_append, Nat.reduceAdd, Nat.reduceMul, Nat.reduceLT, Nat.reduceEqDiff, Nat.reduceLeDiff, Int.reduceAdd, Int.reduceNeg, Int.reduceToNat, Int.cast_ofNat_Int, Int.reduceNatCast, Int.toNat_zero, Int.toNat_one, Int.reduceLE, Int.reduceLT, Int.reduceEq, Int.zero_add, Int.add_zero, or_false, false_or, or_true, true_or, and_true, true_and, and_false, false_and, reduceIte, not_true_eq_false, not_false_eq_true, forall_const, false_implies, true_implies, implies_true, ne_eq, reduceCtorEq, List.all_cons, List.all_nil, Bool.and_true, Bool.and_self, decide_eq_true_eq, decide_true, dX5_lay_0, dX5_lay_1, dX5_lay_2, dX5_lay_3, dX5_lay_6, dX5_lay_9, dX5_lay_10, dX5_lay_11, dX5_lay_12, dX5_lay_15, dX5_lay_16, dX5_lay_17, dX5_lay_19, dX5_lay_21, dX5_lay_23, dX5_lay_26, dX5_lay_27, dX5_lay_30, dX5_lay_32, dX5_lay_34, dX5_lay_37, dX5_lay_39, dX5_lay_41, dX5_lay_42, dX5_lay_43, dX5_lay_45, dX5_lay_46, dX5_lay_47, dX5_lay_50, dX5_lay_51, FX5_41, FX5_198, G_X5_lay_52, G_X5_lay_201, G_X5_lay_204, kd_0, kd_46, ln_46, T5_isOutside, el_46, q, T3_faultAt, T3_write]
    unfold fAt
    simp only [ne_eq, not_true_eq_false, if_false]
    by_cases z : rI μ (47 + 2 * k') 2 = -4
    · have h1 := h1 z
      rw [if_pos z]
      simp only [Int.reduceSub, Int.reduceNeg]
      repeat' (first | exact trivial | omega | (with_reducible assumption) | exact absurd trivial (by with_reducible assumption) | contradiction | apply And.intro | intro _)
    · rw [if_neg z]
      by_cases y : 0 ≤ i ∧ i ≤ rI μ (47 + 2 * k') 2 - 1
      · have h3 := h3 z y
        rw [if_pos y]
        repeat' (first | exact trivial | omega | (with_reducible assumption) | exact absurd trivial (by with_reducible assumption) | contradiction | apply And.intro | intro _)
      · have h2 := h2 z y
        rw [if_neg y]
        simp only [Int.reduceSub, Int.reduceNeg]
        repeat' (first | exact trivial | omega | (with_reducible assumption) | exact absurd trivial (by with_reducible assumption) | contradiction | apply And.intro | intro _)
  · have hB := hB hc
    apply hV [11] 60
    simp only [InR, InL, inb, Int.toNat_natCast, wp1, wpc_z, wpc_s, stp_iconst, stp_bipush, stp_sipush, stp_lconst, stp_iload_n, stp_iload, stp_lload_n, stp_lload, stp_aload_n, stp_aload, stp_istore_n, stp_istore, stp_lstore_n, stp_lstore, stp_astore_n, stp_astore, stp_iinc, stp_iadd, stp_isub, stp_imul, stp_ineg, stp_idiv, stp_irem, stp_ladd, stp_lmul, stp_ldiv, stp_lrem, stp_ishl, stp_ishr, stp_iushr, stp_iand, stp_ior, stp_i2l, stp_i2b, stp_i2s, stp_lcmp, stp_dup, stp_dup2, stp_pop, stp_ifCond, stp_if_icmp, stp_goto, stp_tableswitch, stp_lookupswitch, stp_ldc, stp_ldc_w, stp_ldc2_w, stp_getstatic, stp_getfield, stp_putfield, stp_iaload, stp_baload, stp_iastore, stp_bastore, stp_aaload, stp_aastore, stp_invokevirtual, stp_invokestatic, stp_ireturn, stp_lreturn, stp_return_, lg, lset, okl, spl, wd, c1, cnd, tg, swT, swL, f4_0, f4_1, f4_2, f4_3, f2_0, f2_1, List.mem_cons, List.not_mem_nil, List.length_cons, List.length_nil, List.cons_append, List.nil_append, Nat.reduceAdd, Nat.reduceMul, Nat.reduceLT, Nat.reduceEqDiff, Nat.reduceLeDiff, Int.reduceAdd, Int.reduceNeg, Int.reduceToNat, Int.cast_ofNat_Int, Int.reduceNatCast, Int.toNat_zero, Int.toNat_one, Int.reduceLE, Int.reduceLT, Int.reduceEq, Int.zero_add, Int.add_zero, or_false, false_or, or_true, true_or, and_true, true_and, and_false, false_and, reduceIte, not_true_eq_false, not_false_eq_true, forall_const, false_implies, true_implies, implies_true, ne_eq, reduceCtorEq, List.all_cons, List.all_nil, Bool.and_true, Bool.and_self, decide_eq_true_eq, decide_true, dX5_lay_0, dX5_lay_1, dX5_lay_2, dX5_lay_3, dX5_lay_6, dX5_lay_9, dX5_lay_10, dX5_lay_11, dX5_lay_12, dX5_lay_15, dX5_lay_16, dX5_lay_17, dX5_lay_19, dX5_lay_21, dX5_lay_23, dX5_lay_26, dX5_lay_27, dX5_lay_30, dX5_lay_32, dX5_lay_34, dX5_lay_37, dX5_lay_39, dX5_lay_41, dX5_lay_42, dX5_lay_43, dX5_lay_45, dX5_lay_46, dX5_lay_47, dX5_lay_50, dX5_lay_51, FX5_41, FX5_198, G_X5_lay_52, G_X5_lay_201, G_X5_lay_204, T5_isOutside]
    repeat' (first | exact trivial | omega | (with_reducible assumption) | exact absurd trivial (by with_reducible assumption) | contradiction | apply And.intro | intro _)
theorem good_X5_lay (l : Launch) : Good l 2 yX5_lay cX5_lay 6 (some .int) T5_lay := by
  refine Good.mk 1 (by decide) rfl (by simp [retOK]) FOK5 COK5 (gk_X5_lay l) ?_ ?_
  · intro a μ K h
    unfold T5_lay at h
    split at h
    · simp [entl]
    · exact h.elim
  · intro a μ K V hV h
    unfold T5_lay at h
    split at h
    · exact body_X5_lay _ _ _ _ μ K V hV h
    · exact h.elim

def T6_lay : TT := fun a μ K => match a with
  | [.inr (.inr o), .inl k, .inl i, .inl v] => o = 66 ∧ (InR k ∧ InR i ∧ InR v ∧ (¬ (0 ≤ k ∧ k ≤ 3) → K [.inl (-1)] μ) ∧ ((0 ≤ k ∧ k ≤ 3) → (-4 ≤ rI μ 75 k.toNat ∧ rI μ 75 k.toNat ≤ 2) ∧ (0 ≤ rI μ 76 k.toNat ∧ rI μ 76 k.toNat ≤ 40) ∧ (rI μ 75 k.toNat = -4 → K [.inl (-11)] μ) ∧ (rI μ 75 k.toNat ≠ -4 → ¬ (0 ≤ i ∧ i ≤ rI μ 76 k.toNat - 1) → K [.inl (-12)] μ) ∧ (rI μ 75 k.toNat ≠ -4 → (0 ≤ i ∧ i ≤ rI μ 76 k.toNat - 1) → K [.inl 1] (wI μ 77 (40 * k.toNat + i.toNat) (narrowTo (rI μ 75 k.toNat) v)))))
  | _ => False
theorem rec_X6_lay : ∀ a μ K, T6_lay a μ K → ∃ k r, a = .inr (.inr k) :: r ∧ kd k = 6 := by
  intro a μ K h
  unfold T6_lay at h
  split at h
  · exact ⟨_, _, rfl, by rw [h.1]; rfl⟩
  · exact h.elim
def GL_X6_lay : List (Nat × Nat × Bool × TT) := [(275, 2, true, T6_isSheet), (59, 3, true, T6_in)]
def G_X6_lay : Nat → Option (Nat × Bool × TT) := fun i => GL_X6_lay.lookup i
theorem G_X6_lay_275 : G_X6_lay 275 = some (2, true, T6_isSheet) := rfl
theorem G_X6_lay_59 : G_X6_lay 59 = some (3, true, T6_in) := rfl
theorem gk_X6_lay (l : Launch) : ∀ i n b T, G_X6_lay i = some (n, b, T) → CallOK l 2 RX6 i n b T := by
  intro i n b T h
  have hm : (i, n, b, T) ∈ GL_X6_lay := lk_mem h
  simp only [GL_X6_lay, List.mem_cons, List.not_mem_nil, or_false, Prod.mk.injEq] at hm
  rcases hm with ⟨rfl, rfl, rfl, rfl⟩ | ⟨rfl, rfl, rfl, rfl⟩
  · exact CallOK.S (d := 2) (own := RX6) (i := 275) (n := 2) (good_X6_isSheet l) (by decide) (by decide) (mg 989 (by decide +kernel) (by decide +kernel)) (mg 990 (by decide +kernel) (by decide +kernel)) (mg 7 (by decide +kernel) (by decide +kernel)) (mg 991 (by decide +kernel) (by decide +kernel)) (by decide +kernel)
  · exact CallOK.S (d := 2) (own := RX6) (i := 59) (n := 3) (good_X6_in l) (by decide) (by decide) (mg 708 (by decide +kernel) (by decide +kernel)) (mg 709 (by decide +kernel) (by decide +kernel)) (mg 7 (by decide +kernel) (by decide +kernel)) (mg 710 (by decide +kernel) (by decide +kernel)) (by decide +kernel)
set_option maxRecDepth 20000 in
set_option maxHeartbeats 4000000 in
theorem body_X6_lay (o : Nat) (k : Int) (i : Int) (v : Int) (μ : Mem) (K : List AV → Mem → Prop) (V : Nat → List (Option AV) → List AV → Mem → Prop) (hV : Clos FX6 CX6 G_X6_lay 1 K cX6_lay V) (hT : o = 66 ∧ (InR k ∧ InR i ∧ InR v ∧ (¬ (0 ≤ k ∧ k ≤ 3) → K [.inl (-1)] μ) ∧ ((0 ≤ k ∧ k ≤ 3) → (-4 ≤ rI μ 75 k.toNat ∧ rI μ 75 k.toNat ≤ 2) ∧ (0 ≤ rI μ 76 k.toNat ∧ rI μ 76 k.toNat ≤ 40) ∧ (rI μ 75 k.toNat = -4 → K [.inl (-11)] μ) ∧ (rI μ 75 k.toNat ≠ -4 → ¬ (0 ≤ i ∧ i ≤ rI μ 76 k.toNat - 1) → K [.inl (-12)] μ) ∧ (rI μ 75 k.toNat ≠ -4 → (0 ≤ i ∧ i ≤ rI μ 76 k.toNat - 1) → K [.inl 1] (wI μ 77 (40 * k.toNat + i.toNat) (narrowTo (rI μ 75 k.toNat) v)))))) : V 0 [some (.inr (.inr o)), some (.inl k), some (.inl i), some (.inl v)] [] μ := by
  simp only [InR] at hT
  obtain ⟨rfl, hk, hi, hv, hB, hK⟩ := hT
  by_cases hc : 0 ≤ k ∧ k ≤ 3
  · obtain ⟨k', rfl⟩ := Int.eq_ofNat_of_zero_le hc.1
    have hK := hK hc
    rw [Int.toNat_natCast] at hK
    obtain ⟨hl, hs, h1, h2, h3⟩ := hK
    by_cases z : rI μ 75 k' = -4
    · have h1 := h1 z
      apply hV [24] 60
      simp only [InR, InL, inb, Int.toNat_natCast, wp1, wpc_z, wpc_s, stp_iconst, stp_bipush, stp_sipush, stp_lconst, stp_iload_n, stp_iload, stp_lload_n, stp_lload, stp_aload_n, stp_aload, stp_istore_n, stp_istore, stp_lstore_n, stp_lstore, stp_astore_n, stp_astore, stp_iinc, stp_iadd, stp_isub, stp_imul, stp_ineg, stp_idiv, stp_irem, stp_ladd, stp_lmul, stp_ldiv, stp_lrem, stp_ishl, stp_ishr, stp_iushr, stp_iand, stp_ior, stp_i2l, stp_i2b, stp_i2s, stp_lcmp, stp_dup, stp_dup2, stp_pop, stp_ifCond, stp_if_icmp, stp_goto, stp_tableswitch, stp_lookupswitch, stp_ldc, stp_ldc_w, stp_ldc2_w, stp_getstatic, stp_getfield, stp_putfield, stp_iaload, stp_baload, stp_iastore, stp_bastore, stp_aaload, stp_aastore, stp_invokevirtual, stp_invokestatic, stp_ireturn, stp_lreturn, stp_return_, lg, lset, okl, spl, wd, c1, cnd, tg, swT, swL, f4_0, f4_1, f4_2, f4_3, f2_0, f2_1, List.mem_cons, List.not_mem_nil, List.length_cons, List.length_nil, List.cons_append, List.nil_append, Nat.reduceAdd, Nat.reduceMul, Nat.reduceLT, Nat.reduceEqDiff, Nat.reduceLeDiff, Int.reduceAdd, Int.reduceNeg, Int.reduceToNat, Int.cast_ofNat_Int, Int.reduceNatCast, Int.toNat_zero, Int.toNat_one, Int.reduceLE, Int.reduceLT, Int.reduceEq, Int.zero_add, Int.add_zero, or_false, false_or, or_true, true_or, and_true, true_and, and_false, false_and, reduceIte, not_true_eq_false, not_false_eq_true, forall_const, false_implies, true_implies, implies_true, ne_eq, reduceCtorEq, List.all_cons, List.all_nil, Bool.and_true, Bool.and_self, decide_eq_true_eq, decide_true, dX6_lay_0, dX6_lay_1, dX6_lay_2, dX6_lay_5, dX6_lay_8, dX6_lay_9, dX6_lay_10, dX6_lay_11, dX6_lay_14, dX6_lay_15, dX6_lay_16, dX6_lay_18, dX6_lay_21, dX6_lay_23, dX6_lay_24, dX6_lay_25, dX6_lay_26, dX6_lay_27, dX6_lay_28, dX6_lay_31, dX6_lay_32, dX6_lay_33, dX6_lay_34, dX6_lay_35, dX6_lay_36, dX6_lay_39, dX6_lay_42, dX6_lay_44, dX6_lay_45, dX6_lay_46, dX6_lay_49, dX6_lay_51, dX6_lay_52, dX6_lay_53, dX6_lay_54, dX6_lay_55, dX6_lay_56, dX6_lay_59, dX6_lay_60, dX6_lay_61, dX6_lay_64, dX6_lay_65, dX6_lay_66, dX6_lay_69, dX6_lay_70, dX6_lay_73, dX6_lay_74, dX6_lay_75, dX6_lay_76, dX6_lay_79, dX6_lay_80, dX6_lay_81, dX6_lay_84, dX6_lay_85, dX6_lay_86, dX6_lay_87, FX6_35, FX6_38, FX6_41, G_X6_lay_275, G_X6_lay_59, kd_66, kd_75, ln_75, T6_isSheet]
      repeat' (first | exact trivial | omega | (with_reducible assumption) | exact absurd trivial (by with_reducible assumption) | contradiction | apply And.intro | intro _)
    · by_cases y : 0 ≤ i ∧ i ≤ rI μ 76 k' - 1
      · have h3 := h3 z y
        unfold narrowTo at h3
        rw [show 40 * k' + i.toNat = (40 * (k' : Int) + i).toNat by omega] at h3
        apply hV [] 60
        simp only [InR, InL, inb, Int.toNat_natCast, wp1, wpc_z, wpc_s, stp_iconst, stp_bipush, stp_sipush, stp_lconst, stp_iload_n, stp_iload, stp_lload_n, stp_lload, stp_aload_n, stp_aload, stp_istore_n, stp_istore, stp_lstore_n, stp_lstore, stp_astore_n, stp_astore, stp_iinc, stp_iadd, stp_isub, stp_imul, stp_ineg, stp_idiv, stp_irem, stp_ladd, stp_lmul, stp_ldiv, stp_lrem, stp_ishl, stp_ishr, stp_iushr, stp_iand, stp_ior, stp_i2l, stp_i2b, stp_i2s, stp_lcmp, stp_dup, stp_dup2, stp_pop, stp_ifCond, stp_if_icmp, stp_goto, stp_tableswitch, stp_lookupswitch, stp_ldc, stp_ldc_w, stp_ldc2_w, stp_getstatic, stp_getfield, stp_putfield, stp_iaload, stp_baload, stp_iastore, stp_bastore, stp_aaload, stp_aastore, stp_invokevirtual, stp_invokestatic, stp_ireturn, stp_lreturn, stp_return_, lg, lset, okl, spl, wd, c1, cnd, tg, swT, swL, f4_0, f4_1, f4_2, f4_3, f2_0, f2_1, List.mem_cons, List.not_mem_nil, List.length_cons, List.length_nil, List.cons_append, List.nil_append, Nat.reduceAdd, Nat.reduceMul, Nat.reduceLT, Nat.reduceEqDiff, Nat.reduceLeDiff, Int.reduceAdd, Int.reduceNeg, Int.reduceToNat, Int.cast_ofNat_Int, Int.reduceNatCast, Int.toNat_zero, Int.toNat_one, Int.reduceLE, Int.reduceLT, Int.reduceEq, Int.zero_add, Int.add_zero, or_false, false_or, or_true, true_or, and_true, true_and, and_false, false_and, reduceIte, not_true_eq_false, not_false_eq_true, forall_const, false_implies, true_implies, implies_true, ne_eq, reduceCtorEq, List.all_cons, List.all_nil, Bool.and_true, Bool.and_self, decide_eq_true_eq, decide_true, dX6_lay_0, dX6_lay_1, dX6_lay_2, dX6_lay_5, dX6_lay_8, dX6_lay_9, dX6_lay_10, dX6_lay_11, dX6_lay_14, dX6_lay_15, dX6_lay_16, dX6_lay_18, dX6_lay_21, dX6_lay_23, dX6_lay_24, dX6_lay_25, dX6_lay_26, dX6_lay_27, dX6_lay_28, dX6_lay_31, dX6_lay_32, dX6_lay_33, dX6_lay_34, dX6_lay_35, dX6_lay_36, dX6_lay_39, dX6_lay_42, dX6_lay_44, dX6_lay_45, dX6_lay_46, dX6_lay_49, dX6_lay_51, dX6_lay_52, dX6_lay_53, dX6_lay_54, dX6_lay_55, dX6_lay_56, dX6_lay_59, dX6_lay_60, dX6_lay_61, dX6_lay_64, dX6_lay_65, dX6_lay_66, dX6_lay_69, dX6_lay_70, dX6_lay_73, dX6_lay_74, dX6_lay_75, dX6_lay_76, dX6_lay_79, dX6_lay_80, dX6_lay_81, dX6_lay_84, dX6_lay_85, dX6_lay_86, dX6_lay_87, FX6_35, FX6_38, FX6_41, G_X6_lay_275, G_X6_lay_59, kd_66, kd_75, ln_75, kd_76, ln_76, kd_77, ln_77, T6_isSheet, T6_in]
        by_cases e0 : rI μ 75 k' = 0
        · rw [if_pos e0] at h3
          repeat' (first | exact trivial | omega | (with_reducible assumption) | exact absurd trivial (by with_reducible assumption) | contradiction | apply And.intro | intro _)
        · rw [if_neg e0] at h3
          by_cases e1 : rI μ 75 k' = 1
          · rw [if_pos e1] at h3
            repeat' (first | exact trivial | omega | (with_reducible assumption) | exact absurd trivial (by with_reducible assumption) | contradiction | apply And.intro | intro _)
          · rw [if_neg e1] at h3
            repeat' (first | exact trivial | omega | (with_reducible assumption) | exact absurd trivial (by with_reducible assumption) | contradiction | apply And.intro | intro _)
      · have h2 := h2 z y
        apply hV [45] 60
        simp only [InR, InL, inb, Int.toNat_natCast, wp1, wpc_z, wpc_s, stp_iconst, stp_bipush, stp_sipush, stp_lconst, stp_iload_n, stp_iload, stp_lload_n, stp_lload, stp_aload_n, stp_aload, stp_istore_n, stp_istore, stp_lstore_n, stp_lstore, stp_astore_n, stp_astore, stp_iinc, stp_iadd, stp_isub, stp_imul, stp_ineg, stp_idiv, stp_irem, stp_ladd, stp_lmul, stp_ldiv, stp_lrem, stp_ishl, stp_ishr, stp_iushr, stp_iand, stp_ior, stp_i2l, stp_i2b, stp_i2s, stp_lcmp, stp_dup, stp_dup2, stp_pop, stp_ifCond, stp_if_icmp, stp_goto, stp_tableswitch, stp_lookupswitch, stp_ldc, stp_ldc_w, stp_ldc2_w, stp_getstatic, stp_getfield, stp_putfield, stp_iaload, stp_baload, stp_iastore, stp_bastore, stp_aaload, stp_aastore, stp_invokevirtual, stp_invokestatic, stp_ireturn, stp_lreturn, stp_return_, lg, lset, okl, spl, wd, c1, cnd, tg, swT, swL, f4_0, f4_1, f4_2, f4_3, f2_0, f2_1, List.mem_cons, List.not_mem_nil, List.length_cons, List.length_nil, List.cons_append, List.nil_append, Nat.reduceAdd, Nat.reduceMul, Nat.reduceLT, Nat.reduceEqDiff, Nat.reduceLeDiff, Int.reduceAdd, Int.reduceNeg, Int.reduceToNat, Int.cast_ofNat_Int, Int.reduceNatCast, Int.toNat_zero, Int.toNat_one, Int.reduceLE, Int.reduceLT, Int.reduceEq, Int.zero_add, Int.add_zero, or_false, false_or, or_true, true_or, and_true, true_and, and_false, false_and, reduceIte, not_true_eq_false, not_false_eq_true, forall_const, false_implies, true_implies, implies_true, ne_eq, reduceCtorEq, List.all_cons, List.all_nil, Bool.and_true, Bool.and_self, decide_eq_true_eq, decide_true, dX6_lay_0, dX6_lay_1, dX6_lay_2, dX6_lay_5, dX6_lay_8, dX6_lay_9, dX6_lay_10, dX6_lay_11, dX6_lay_14, dX6_lay_15, dX6_lay_16, dX6_lay_18, dX6_lay_21, dX6_lay_23, dX6_lay_24, dX6_lay_25, dX6_lay_26, dX6_lay_27, dX6_lay_28, dX6_lay_31, dX6_lay_32, dX6_lay_33, dX6_lay_34, dX6_lay_35, dX6_lay_36, dX6_lay_39, dX6_lay_42, dX6_lay_44, dX6_lay_45, dX6_lay_46, dX6_lay_49, dX6_lay_51, dX6_lay_52, dX6_lay_53, dX6_lay_54, dX6_lay_55, dX6_lay_56, dX6_lay_59, dX6_lay_60, dX6_lay_61, dX6_lay_64, dX6_lay_65, dX6_lay_66, dX6_lay_69, dX6_lay_70, dX6_lay_73, dX6_lay_74, dX6_lay_75, dX6_lay_76, dX6_lay_79, dX6_lay_80, dX6_lay_81, dX6_lay_84, dX6_lay_85, dX6_lay_86, dX6_lay_87, FX6_35, FX6_38, FX6_41, G_X6_lay_275, G_X6_lay_59, kd_66, kd_75, ln_75, kd_76, ln_76, T6_isSheet, T6_in]
        repeat' (first | exact trivial | omega | (with_reducible assumption) | exact absurd trivial (by with_reducible assumption) | contradiction | apply And.intro | intro _)
  · have hB := hB hc
    apply hV [10] 60
    simp only [InR, InL, inb, Int.toNat_natCast, wp1, wpc_z, wpc_s, stp_iconst, stp_bipush, stp_sipush, stp_lconst, stp_iload_n, stp_iload, stp_lload_n, stp_lload, stp_aload_n, stp_aload, stp_istore_n, stp_istore, stp_lstore_n, stp_lstore, stp_astore_n, stp_astore, stp_iinc, stp_iadd, stp_isub, stp_imul, stp_ineg, stp_idiv, stp_irem, stp_ladd, stp_lmul, stp_ldiv, stp_lrem, stp_ishl, stp_ishr, stp_iushr, stp_iand, stp_ior, stp_i2l, stp_i2b, stp_i2s, stp_lcmp, stp_dup, stp_dup2, stp_pop, stp_ifCond, stp_if_icmp, stp_goto, stp_tableswitch, stp_lookupswitch, stp_ldc, stp_ldc_w, stp_ldc2_w, stp_getstatic, stp_getfield, stp_putfield, stp_iaload, stp_baload, stp_iastore, stp_bastore, stp_aaload, stp_aastore, stp_invokevirtual, stp_invokestatic, stp_ireturn, stp_lreturn, stp_return_, lg, lset, okl, spl, wd, c1, cnd, tg, swT, swL, f4_0, f4_1, f4_2, f4_3, f2_0, f2_1, List.mem_cons, List.not_mem_nil, List.length_cons, List.length_nil, List.cons_append, List.nil_append, Nat.reduceAdd, Nat.reduceMul, Nat.reduceLT, Nat.reduceEqDiff, Nat.reduceLeDiff, Int.reduceAdd, Int.reduceNeg, Int.reduceToNat, Int.cast_ofNat_Int, Int.reduceNatCast, Int.toNat_zero, Int.toNat_one, Int.reduceLE, Int.reduceLT, Int.reduceEq, Int.zero_add, Int.add_zero, or_false, false_or, or_true, true_or, and_true, true_and, and_false, false_and, reduceIte, not_true_eq_false, not_false_eq_true, forall_const, false_implies, true_implies, implies_true, ne_eq, reduceCtorEq, List.all_cons, List.all_nil, Bool.and_true, Bool.and_self, decide_eq_true_eq, decide_true, dX6_lay_0, dX6_lay_1, dX6_lay_2, dX6_lay_5, dX6_lay_8, dX6_lay_9, dX6_lay_10, dX6_lay_11, dX6_lay_14, dX6_lay_15, dX6_lay_16, dX6_lay_18, dX6_lay_21, dX6_lay_23, dX6_lay_24, dX6_lay_25, dX6_lay_26, dX6_lay_27, dX6_lay_28, dX6_lay_31, dX6_lay_32, dX6_lay_33, dX6_lay_34, dX6_lay_35, dX6_lay_36, dX6_lay_39, dX6_lay_42, dX6_lay_44, dX6_lay_45, dX6_lay_46, dX6_lay_49, dX6_lay_51, dX6_lay_52, dX6_lay_53, dX6_lay_54, dX6_lay_55, dX6_lay_56, dX6_lay_59, dX6_lay_60, dX6_lay_61, dX6_lay_64, dX6_lay_65, dX6_lay_66, dX6_lay_69, dX6_lay_70, dX6_lay_73, dX6_lay_74, dX6_lay_75, dX6_lay_76, dX6_lay_79, dX6_lay_80, dX6_lay_81, dX6_lay_84, dX6_lay_85, dX6_lay_86, dX6_lay_87, FX6_35, FX6_38, FX6_41, G_X6_lay_275, G_X6_lay_59, T6_isSheet]
    repeat' (first | exact trivial | omega | (with_reducible assumption) | exact absurd trivial (by with_reducible assumption) | contradiction | apply And.intro | intro _)
theorem good_X6_lay (l : Launch) : Good l 2 yX6_lay cX6_lay 4 (some .int) T6_lay := by
  refine Good.mk 1 (by decide) rfl (by simp [retOK]) FOK6 COK6 (gk_X6_lay l) ?_ ?_
  · intro a μ K h
    unfold T6_lay at h
    split at h
    · simp [entl]
    · exact h.elim
  · intro a μ K V hV h
    unfold T6_lay at h
    split at h
    · exact body_X6_lay _ _ _ _ μ K V hV h
    · exact h.elim

def T5_keptImages : TT := fun a μ K => match a with
  | [.inr (.inr o)] => o = 0 ∧ ((rI μ 22 2 = 0 ∨ rI μ 22 2 = 1) ∧ (rI μ 34 2 = 0 ∨ rI μ 34 2 = 1) ∧ K [.inl (rI μ 22 2 + rI μ 34 2)] μ)
  | _ => False
theorem rec_X5_keptImages : ∀ a μ K, T5_keptImages a μ K → ∃ k r, a = .inr (.inr k) :: r ∧ kd k = 5 := by
  intro a μ K h
  unfold T5_keptImages at h
  split at h
  · exact ⟨_, _, rfl, by rw [h.1]; rfl⟩
  · exact h.elim
def GL_X5_keptImages : List (Nat × Nat × Bool × TT) := []
def G_X5_keptImages : Nat → Option (Nat × Bool × TT) := fun i => GL_X5_keptImages.lookup i
theorem gk_X5_keptImages (l : Launch) : ∀ i n b T, G_X5_keptImages i = some (n, b, T) → CallOK l 0 RX5 i n b T := by
  intro i n b T h
  have hm : (i, n, b, T) ∈ GL_X5_keptImages := lk_mem h
  simp [GL_X5_keptImages] at hm
set_option maxRecDepth 20000 in
set_option maxHeartbeats 4000000 in
theorem body_X5_keptImages (o : Nat) (μ : Mem) (K : List AV → Mem → Prop) (V : Nat → List (Option AV) → List AV → Mem → Prop) (hV : Clos FX5 CX5 G_X5_keptImages 1 K cX5_keptImages V) (hT : o = 0 ∧ ((rI μ 22 2 = 0 ∨ rI μ 22 2 = 1) ∧ (rI μ 34 2 = 0 ∨ rI μ 34 2 = 1) ∧ K [.inl (rI μ 22 2 + rI μ 34 2)] μ)) : V 0 [some (.inr (.inr o)), none, none] [] μ := by
  obtain ⟨rfl, h1, h2, hK⟩ := hT
  have e0 : el μ 21 0 = 22 := el_21 μ 0
  have e1 : el μ 21 1 = 34 := el_21 μ 1
  apply hV [] 90
  simp only [InR, InL, inb, Int.toNat_natCast, wp1, wpc_z, wpc_s, stp_iconst, stp_bipush, stp_sipush, stp_lconst, stp_iload_n, stp_iload, stp_lload_n, stp_lload, stp_aload_n, stp_aload, stp_istore_n, stp_istore, stp_lstore_n, stp_lstore, stp_astore_n, stp_astore, stp_iinc, stp_iadd, stp_isub, stp_imul, stp_ineg, stp_idiv, stp_irem, stp_ladd, stp_lmul, stp_ldiv, stp_lrem, stp_ishl, stp_ishr, stp_iushr, stp_iand, stp_ior, stp_i2l, stp_i2b, stp_i2s, stp_lcmp, stp_dup, stp_dup2, stp_pop, stp_ifCond, stp_if_icmp, stp_goto, stp_tableswitch, stp_lookupswitch, stp_ldc, stp_ldc_w, stp_ldc2_w, stp_getstatic, stp_getfield, stp_putfield, stp_iaload, stp_baload, stp_iastore, stp_bastore, stp_aaload, stp_aastore, stp_invokevirtual, stp_invokestatic, stp_ireturn, stp_lreturn, stp_return_, lg, lset, okl, spl, wd, c1, cnd, tg, swT, swL, f4_0, f4_1, f4_2, f4_3, f2_0, f2_1, List.mem_cons, List.not_mem_nil, List.length_cons, List.length_nil, List.cons_append, List.nil_append, Nat.reduceAdd, Nat.reduceMul, Nat.reduceLT, Nat.reduceEqDiff, Nat.reduceLeDiff, Int.reduceAdd, Int.reduceNeg, Int.reduceToNat, Int.cast_ofNat_Int, Int.reduceNatCast, Int.toNat_zero, Int.toNat_one, Int.reduceLE, Int.reduceLT, Int.reduceEq, Int.zero_add, Int.add_zero, or_false, false_or, or_true, true_or, and_true, true_and, and_false, false_and, reduceIte, not_true_eq_false, not_false_eq_true, forall_const, false_implies, true_implies, implies_true, ne_eq, reduceCtorEq, List.all_cons, List.all_nil, Bool.and_true, Bool.and_self, decide_eq_true_eq, decide_true, dX5_keptImages_0, dX5_keptImages_1, dX5_keptImages_2, dX5_keptImages_3, dX5_keptImages_4, dX5_keptImages_5, dX5_keptImages_6, dX5_keptImages_9, dX5_keptImages_10, dX5_keptImages_11, dX5_keptImages_14, dX5_keptImages_15, dX5_keptImages_16, dX5_keptImages_19, dX5_keptImages_22, dX5_keptImages_23, dX5_keptImages_26, dX5_keptImages_27, dX5_keptImages_28, dX5_keptImages_29, dX5_keptImages_32, dX5_keptImages_35, dX5_keptImages_36, FX5_35, FX5_81, kd_0, kd_21, ln_21, kd_22, kd_34, e0, e1]
  rcases h1 with z | z
  · rw [z] at hK ⊢
    rcases h2 with y | y
    · rw [y] at hK ⊢
      simp only [Int.reduceAdd] at hK
      repeat' (first | exact trivial | omega | (with_reducible assumption) | exact absurd trivial (by with_reducible assumption) | contradiction | apply And.intro | intro _)
    · rw [y] at hK ⊢
      simp only [Int.reduceAdd] at hK
      repeat' (first | exact trivial | omega | (with_reducible assumption) | exact absurd trivial (by with_reducible assumption) | contradiction | apply And.intro | intro _)
  · rw [z] at hK ⊢
    rcases h2 with y | y
    · rw [y] at hK ⊢
      simp only [Int.reduceAdd] at hK
      repeat' (first | exact trivial | omega | (with_reducible assumption) | exact absurd trivial (by with_reducible assumption) | contradiction | apply And.intro | intro _)
    · rw [y] at hK ⊢
      simp only [Int.reduceAdd] at hK
      repeat' (first | exact trivial | omega | (with_reducible assumption) | exact absurd trivial (by with_reducible assumption) | contradiction | apply And.intro | intro _)
theorem good_X5_keptImages (l : Launch) : Good l 0 yX5_keptImages cX5_keptImages 3 (some .int) T5_keptImages := by
  refine Good.mk 1 (by decide) rfl (by simp [retOK]) FOK5 COK5 (gk_X5_keptImages l) ?_ ?_
  · intro a μ K h
    unfold T5_keptImages at h
    split at h
    · simp [entl]
    · exact h.elim
  · intro a μ K V hV h
    unfold T5_keptImages at h
    split at h
    · exact body_X5_keptImages _ μ K V hV h
    · exact h.elim

def T5_count : TT := fun a μ K => match a with
  | [.inr (.inr o), .inl w] => o = 0 ∧ (InR w ∧ (rI μ 22 2 = 0 ∨ rI μ 22 2 = 1) ∧ (rI μ 34 2 = 0 ∨ rI μ 34 2 = 1) ∧ ∃ f, RG μ 1 f ∧ (0 ≤ f 35 ∧ f 35 ≤ 5) ∧ K [.inl (if w = 0 then rI μ 15 3 else if w = 1 then rI μ 22 2 + rI μ 34 2 else if w = 2 then rI μ 19 1 else if w = 3 then rI μ 47 2 else if w = 4 then sumF f 4 (f 35).toNat else if w = 5 then sumF f 3 (f 35).toNat else -1)] μ)
  | _ => False
theorem rec_X5_count : ∀ a μ K, T5_count a μ K → ∃ k r, a = .inr (.inr k) :: r ∧ kd k = 5 := by
  intro a μ K h
  unfold T5_count at h
  split at h
  · exact ⟨_, _, rfl, by rw [h.1]; rfl⟩
  · exact h.elim
def GL_X5_count : List (Nat × Nat × Bool × TT) := [(216, 1, false, T5_keptImages), (103, 2, false, T1_total)]
def G_X5_count : Nat → Option (Nat × Bool × TT) := fun i => GL_X5_count.lookup i
theorem G_X5_count_216 : G_X5_count 216 = some (1, false, T5_keptImages) := rfl
theorem G_X5_count_103 : G_X5_count 103 = some (2, false, T1_total) := rfl
theorem gk_X5_count (l : Launch) : ∀ i n b T, G_X5_count i = some (n, b, T) → CallOK l 1 RX5 i n b T := by
  intro i n b T h
  have hm : (i, n, b, T) ∈ GL_X5_count := lk_mem h
  simp only [GL_X5_count, List.mem_cons, List.not_mem_nil, or_false, Prod.mk.injEq] at hm
  rcases hm with ⟨rfl, rfl, rfl, rfl⟩ | ⟨rfl, rfl, rfl, rfl⟩
  · exact CallOK.V (d := 1) (own := RX5) (i := 216) (n := 0) (ci := 5) (good_X5_keptImages l) (by decide) (by decide) rfl (by decide) rec_X5_keptImages (mg 593 (by decide +kernel) (by decide +kernel)) (mg 595 (by decide +kernel) (by decide +kernel)) (mgs 22 (by decide +kernel) (by decide +kernel)) (mg 1 (by decide +kernel) (by decide +kernel)) (mg 596 (by decide +kernel) (by decide +kernel)) (by decide +kernel)
  · exact CallOK.V (d := 1) (own := RX5) (i := 103) (n := 1) (ci := 1) (good_X1_total l) (by decide) (by decide) rfl (by decide) rec_X1_total (mg 331 (by decide +kernel) (by decide +kernel)) (mg 332 (by decide +kernel) (by decide +kernel)) (mg 333 (by decide +kernel) (by decide +kernel)) (mg 2 (by decide +kernel) (by decide +kernel)) (mg 334 (by decide +kernel) (by decide +kernel)) (by decide +kernel)
set_option maxRecDepth 20000 in
set_option maxHeartbeats 4000000 in
theorem body_X5_count (o : Nat) (w : Int) (μ : Mem) (K : List AV → Mem → Prop) (V : Nat → List (Option AV) → List AV → Mem → Prop) (hV : Clos FX5 CX5 G_X5_count 1 K cX5_count V) (hT : o = 0 ∧ (InR w ∧ (rI μ 22 2 = 0 ∨ rI μ 22 2 = 1) ∧ (rI μ 34 2 = 0 ∨ rI μ 34 2 = 1) ∧ ∃ f, RG μ 1 f ∧ (0 ≤ f 35 ∧ f 35 ≤ 5) ∧ K [.inl (if w = 0 then rI μ 15 3 else if w = 1 then rI μ 22 2 + rI μ 34 2 else if w = 2 then rI μ 19 1 else if w = 3 then rI μ 47 2 else if w = 4 then sumF f 4 (f 35).toNat else if w = 5 then sumF f 3 (f 35).toNat else -1)] μ)) : V 0 [some (.inr (.inr o)), some (.inl w)] [] μ := by
  simp only [InR] at hT
  obtain ⟨rfl, hw, h1, h2, f, hR, h35, hK⟩ := hT
  have e0 : el μ 46 0 = 47 := el_46 μ 0
  apply hV [] 60
  simp only [InR, InL, inb, Int.toNat_natCast, wp1, wpc_z, wpc_s, stp_iconst, stp_bipush, stp_sipush, stp_lconst, stp_iload_n, stp_iload, stp_lload_n, stp_lload, stp_aload_n, stp_aload, stp_istore_n, stp_istore, stp_lstore_n, stp_lstore, stp_astore_n, stp_astore, stp_iinc, stp_iadd, stp_isub, stp_imul, stp_ineg, stp_idiv, stp_irem, stp_ladd, stp_lmul, stp_ldiv, stp_lrem, stp_ishl, stp_ishr, stp_iushr, stp_iand, stp_ior, stp_i2l, stp_i2b, stp_i2s, stp_lcmp, stp_dup, stp_dup2, stp_pop, stp_ifCond, stp_if_icmp, stp_goto, stp_tableswitch, stp_lookupswitch, stp_ldc, stp_ldc_w, stp_ldc2_w, stp_getstatic, stp_getfield, stp_putfield, stp_iaload, stp_baload, stp_iastore, stp_bastore, stp_aaload, stp_aastore, stp_invokevirtual, stp_invokestatic, stp_ireturn, stp_lreturn, stp_return_, lg, lset, okl, spl, wd, c1, cnd, tg, swT, swL, f4_0, f4_1, f4_2, f4_3, f2_0, f2_1, List.mem_cons, List.not_mem_nil, List.length_cons, List.length_nil, List.cons_append, List.nil_append, Nat.reduceAdd, Nat.reduceMul, Nat.reduceLT, Nat.reduceEqDiff, Nat.reduceLeDiff, Int.reduceAdd, Int.reduceNeg, Int.reduceToNat, Int.cast_ofNat_Int, Int.reduceNatCast, Int.toNat_zero, Int.toNat_one, Int.reduceLE, Int.reduceLT, Int.reduceEq, Int.zero_add, Int.add_zero, or_false, false_or, or_true, true_or, and_true, true_and, and_false, false_and, reduceIte, not_true_eq_false, not_false_eq_true, forall_const, false_implies, true_implies, implies_true, ne_eq, reduceCtorEq, List.all_cons, List.all_nil, Bool.and_true, Bool.and_self, decide_eq_true_eq, decide_true, dX5_count_0, dX5_count_1, dX5_count_40, dX5_count_41, dX5_count_44, dX5_count_47, dX5_count_48, dX5_count_49, dX5_count_52, dX5_count_53, dX5_count_54, dX5_count_57, dX5_count_60, dX5_count_61, dX5_count_62, dX5_count_65, dX5_count_66, dX5_count_67, dX5_count_70, dX5_count_71, dX5_count_72, dX5_count_75, dX5_count_76, dX5_count_79, dX5_count_80, dX5_count_81, dX5_count_84, dX5_count_85, dX5_count_88, dX5_count_89, dX5_count_90, FX5_22, FX5_78, FX5_29, FX5_56, FX5_41, FX5_219, FX5_10, G_X5_count_216, G_X5_count_103, kd_0, kd_1, kd_15, kd_19, kd_46, ln_46, kd_47, e0, T5_keptImages, T1_total, List.size_toArray, Int.reduceSub]
  rcases (show w = 0 ∨ w = 1 ∨ w = 2 ∨ w = 3 ∨ w = 4 ∨ w = 5 ∨ (w < 0 ∨ 5 < w) by omega) with rfl | rfl | rfl | rfl | rfl | rfl | z
  all_goals try simp only [Int.reduceEq, if_true, if_false] at hK
  · repeat' (first | exact trivial | omega | (with_reducible assumption) | exact absurd trivial (by with_reducible assumption) | contradiction | apply And.intro | intro _)
  · repeat' (first | exact trivial | omega | (with_reducible assumption) | exact absurd trivial (by with_reducible assumption) | contradiction | apply And.intro | intro _)
  · repeat' (first | exact trivial | omega | (with_reducible assumption) | exact absurd trivial (by with_reducible assumption) | contradiction | apply And.intro | intro _)
  · repeat' (first | exact trivial | omega | (with_reducible assumption) | exact absurd trivial (by with_reducible assumption) | contradiction | apply And.intro | intro _)
  · repeat' (first | exact trivial | omega | (with_reducible assumption) | exact absurd trivial (by with_reducible assumption) | contradiction | apply And.intro | intro _)
    all_goals exact ⟨f, hR, h35, hK⟩
  · repeat' (first | exact trivial | omega | (with_reducible assumption) | exact absurd trivial (by with_reducible assumption) | contradiction | apply And.intro | intro _)
    all_goals exact ⟨f, hR, h35, hK⟩
  · rw [if_neg (by omega), if_neg (by omega), if_neg (by omega), if_neg (by omega), if_neg (by omega), if_neg (by omega)] at hK
    repeat' (first | exact trivial | omega | (with_reducible assumption) | exact absurd trivial (by with_reducible assumption) | contradiction | apply And.intro | intro _)
theorem good_X5_count (l : Launch) : Good l 1 yX5_count cX5_count 2 (some .int) T5_count := by
  refine Good.mk 1 (by decide) rfl (by simp [retOK]) FOK5 COK5 (gk_X5_count l) ?_ ?_
  · intro a μ K h
    unfold T5_count at h
    split at h
    · simp [entl]
    · exact h.elim
  · intro a μ K V hV h
    unfold T5_count at h
    split at h
    · exact body_X5_count _ _ μ K V hV h
    · exact h.elim

def T6_count : TT := fun a μ K => match a with
  | [.inr (.inr o), .inl w] => o = 66 ∧ (InR w ∧ (rI μ 69 0 = 0 ∨ rI μ 69 0 = 1) ∧ (rI μ 69 1 = 0 ∨ rI μ 69 1 = 1) ∧ InR (rI μ 75 0) ∧ (0 ≤ rI μ 67 35 ∧ rI μ 67 35 ≤ 5) ∧ ∀ ν, MF μ ν → K [.inl (if w = 0 then rI μ 67 41 else if w = 1 then rI μ 69 0 + rI μ 69 1 else if w = 2 then rI μ 66 6 else if w = 3 then (if rI μ 75 0 = -4 then -4 else rI μ 76 0) else if w = 4 then sumF (rI μ 67) 4 (rI μ 67 35).toNat else if w = 5 then sumF (rI μ 67) 3 (rI μ 67 35).toNat else -1)] ν)
  | _ => False
theorem rec_X6_count : ∀ a μ K, T6_count a μ K → ∃ k r, a = .inr (.inr k) :: r ∧ kd k = 6 := by
  intro a μ K h
  unfold T6_count at h
  split at h
  · exact ⟨_, _, rfl, by rw [h.1]; rfl⟩
  · exact h.elim
def GL_X6_count : List (Nat × Nat × Bool × TT) := [(174, 1, false, T6_starts), (163, 1, true, T6_flag), (177, 2, false, T6_sumOf)]
def G_X6_count : Nat → Option (Nat × Bool × TT) := fun i => GL_X6_count.lookup i
theorem G_X6_count_174 : G_X6_count 174 = some (1, false, T6_starts) := rfl
theorem G_X6_count_163 : G_X6_count 163 = some (1, true, T6_flag) := rfl
theorem G_X6_count_177 : G_X6_count 177 = some (2, false, T6_sumOf) := rfl
theorem gk_X6_count (l : Launch) : ∀ i n b T, G_X6_count i = some (n, b, T) → CallOK l 2 RX6 i n b T := by
  intro i n b T h
  have hm : (i, n, b, T) ∈ GL_X6_count := lk_mem h
  simp only [GL_X6_count, List.mem_cons, List.not_mem_nil, or_false, Prod.mk.injEq] at hm
  rcases hm with ⟨rfl, rfl, rfl, rfl⟩ | ⟨rfl, rfl, rfl, rfl⟩ | ⟨rfl, rfl, rfl, rfl⟩
  · exact CallOK.V (d := 2) (own := RX6) (i := 174) (n := 0) (ci := 6) (good_X6_starts l) (by decide) (by decide) rfl (by decide) rec_X6_starts (mg 769 (by decide +kernel) (by decide +kernel)) (mg 771 (by decide +kernel) (by decide +kernel)) (mgs 33 (by decide +kernel) (by decide +kernel)) (mg 7 (by decide +kernel) (by decide +kernel)) (mg 772 (by decide +kernel) (by decide +kernel)) (by decide +kernel)
  · exact CallOK.S (d := 2) (own := RX6) (i := 163) (n := 1) (good_X6_flag l) (by decide) (by decide) (mg 857 (by decide +kernel) (by decide +kernel)) (mg 858 (by decide +kernel) (by decide +kernel)) (mg 7 (by decide +kernel) (by decide +kernel)) (mg 859 (by decide +kernel) (by decide +kernel)) (by decide +kernel)
  · exact CallOK.V (d := 2) (own := RX6) (i := 177) (n := 1) (ci := 6) (good_X6_sumOf l) (by decide) (by decide) rfl (by decide) rec_X6_sumOf (mg 773 (by decide +kernel) (by decide +kernel)) (mg 775 (by decide +kernel) (by decide +kernel)) (mgs 34 (by decide +kernel) (by decide +kernel)) (mg 7 (by decide +kernel) (by decide +kernel)) (mg 776 (by decide +kernel) (by decide +kernel)) (by decide +kernel)
set_option maxRecDepth 20000 in
set_option maxHeartbeats 4000000 in
theorem body_X6_count (o : Nat) (w : Int) (μ : Mem) (K : List AV → Mem → Prop) (V : Nat → List (Option AV) → List AV → Mem → Prop) (hV : Clos FX6 CX6 G_X6_count 1 K cX6_count V) (hT : o = 66 ∧ (InR w ∧ (rI μ 69 0 = 0 ∨ rI μ 69 0 = 1) ∧ (rI μ 69 1 = 0 ∨ rI μ 69 1 = 1) ∧ InR (rI μ 75 0) ∧ (0 ≤ rI μ 67 35 ∧ rI μ 67 35 ≤ 5) ∧ ∀ ν, MF μ ν → K [.inl (if w = 0 then rI μ 67 41 else if w = 1 then rI μ 69 0 + rI μ 69 1 else if w = 2 then rI μ 66 6 else if w = 3 then (if rI μ 75 0 = -4 then -4 else rI μ 76 0) else if w = 4 then sumF (rI μ 67) 4 (rI μ 67 35).toNat else if w = 5 then sumF (rI μ 67) 3 (rI μ 67 35).toNat else -1)] ν)) : V 0 [some (.inr (.inr o)), some (.inl w)] [] μ := by
  simp only [InR] at hT
  obtain ⟨rfl, hw, h1, h2, h3, h35, hK⟩ := hT
  have hk := hK (stM μ) (st_MF μ)
  have o67 : ∀ j, rI (stM μ) 67 j = rI μ 67 j := fun j => st_o μ (by omega) (by omega) (by omega) j
  have o69 : ∀ j, rI (stM μ) 69 j = rI μ 69 j := fun j => st_o μ (by omega) (by omega) (by omega) j
  have o75 : ∀ j, rI (stM μ) 75 j = rI μ 75 j := fun j => st_o μ (by omega) (by omega) (by omega) j
  have o76 : ∀ j, rI (stM μ) 76 j = rI μ 76 j := fun j => st_o μ (by omega) (by omega) (by omega) j
  have o6 : rI (stM μ) 66 6 = rI μ 66 6 := by rw [st_66]; simp
  have e35 : rI (stM μ) 68 35 = rI μ 67 35 := st_68 μ (by omega)
  have es4 : sumF (rI (stM μ) 68) 4 (rI μ 67 35).toNat = sumF (rI μ 67) 4 (rI μ 67 35).toNat := sumF_congr (st_E μ) (by omega) _ (by omega)
  have es3 : sumF (rI (stM μ) 68) 3 (rI μ 67 35).toNat = sumF (rI μ 67) 3 (rI μ 67 35).toNat := sumF_congr (st_E μ) (by omega) _ (by omega)
  apply hV [] 60
  simp only [InR, InL, inb, Int.toNat_natCast, wp1, wpc_z, wpc_s, stp_iconst, stp_bipush, stp_sipush, stp_lconst, stp_iload_n, stp_iload, stp_lload_n, stp_lload, stp_aload_n, stp_aload, stp_istore_n, stp_istore, stp_lstore_n, stp_lstore, stp_astore_n, stp_astore, stp_iinc, stp_iadd, stp_isub, stp_imul, stp_ineg, stp_idiv, stp_irem, stp_ladd, stp_lmul, stp_ldiv, stp_lrem, stp_ishl, stp_ishr, stp_iushr, stp_iand, stp_ior, stp_i2l, stp_i2b, stp_i2s, stp_lcmp, stp_dup, stp_dup2, stp_pop, stp_ifCond, stp_if_icmp, stp_goto, stp_tableswitch, stp_lookupswitch, stp_ldc, stp_ldc_w, stp_ldc2_w, stp_getstatic, stp_getfield, stp_putfield, stp_iaload, stp_baload, stp_iastore, stp_bastore, stp_aaload, stp_aastore, stp_invokevirtual, stp_invokestatic, stp_ireturn, stp_lreturn, stp_return_, lg, lset, okl, spl, wd, c1, cnd, tg, swT, swL, f4_0, f4_1, f4_2, f4_3, f2_0, f2_1, List.mem_cons, List.not_mem_nil, List.length_cons, List.length_nil, List.cons_append, List.nil_append, Nat.reduceAdd, Nat.reduceMul, Nat.reduceLT, Nat.reduceEqDiff, Nat.reduceLeDiff, Int.reduceAdd, Int.reduceNeg, Int.reduceToNat, Int.cast_ofNat_Int, Int.reduceNatCast, Int.toNat_zero, Int.toNat_one, Int.reduceLE, Int.reduceLT, Int.reduceEq, Int.zero_add, Int.add_zero, or_false, false_or, or_true, true_or, and_true, true_and, and_false, false_and, reduceIte, not_true_eq_false, not_false_eq_true, forall_const, false_implies, true_implies, implies_true, ne_eq, reduceCtorEq, List.all_cons, List.all_nil, Bool.and_true, Bool.and_self, decide_eq_true_eq, decide_true, dX6_count_0, dX6_count_1, dX6_count_4, dX6_count_5, dX6_count_44, dX6_count_45, dX6_count_48, dX6_count_50, dX6_count_51, dX6_count_52, dX6_count_53, dX6_count_56, dX6_count_57, dX6_count_58, dX6_count_61, dX6_count_62, dX6_count_65, dX6_count_66, dX6_count_67, dX6_count_70, dX6_count_71, dX6_count_72, dX6_count_73, dX6_count_76, dX6_count_77, dX6_count_78, dX6_count_81, dX6_count_82, dX6_count_83, dX6_count_85, dX6_count_88, dX6_count_90, dX6_count_93, dX6_count_94, dX6_count_97, dX6_count_98, dX6_count_99, dX6_count_100, dX6_count_101, dX6_count_102, dX6_count_105, dX6_count_106, dX6_count_107, dX6_count_108, dX6_count_111, dX6_count_112, dX6_count_113, FX6_7, FX6_16, FX6_63, FX6_35, FX6_38, G_X6_count_174, G_X6_count_163, G_X6_count_177, kd_66, kd_67, ln_67, kd_69, ln_69, kd_75, ln_75, kd_76, ln_76, T6_starts, T6_sumOf, T6_flag, o67, o69, o75, o76, o6, e35, es4, es3, List.size_toArray, Int.reduceSub]
  rcases (show w = 0 ∨ w = 1 ∨ w = 2 ∨ w = 3 ∨ w = 4 ∨ w = 5 ∨ (w < 0 ∨ 5 < w) by omega) with rfl | rfl | rfl | rfl | rfl | rfl | z
  all_goals try simp only [Int.reduceEq, if_true, if_false] at hk
  · repeat' (first | exact trivial | omega | (with_reducible assumption) | exact absurd trivial (by with_reducible assumption) | contradiction | apply And.intro | intro _)
  · repeat' (first | exact trivial | omega | (with_reducible assumption) | exact absurd trivial (by with_reducible assumption) | contradiction | apply And.intro | intro _)
    all_goals first | exact Or.inr rfl | assumption
  · repeat' (first | exact trivial | omega | (with_reducible assumption) | exact absurd trivial (by with_reducible assumption) | contradiction | apply And.intro | intro _)
  · by_cases z : rI μ 75 0 = -4
    · rw [if_pos z] at hk
      repeat' (first | exact trivial | omega | (with_reducible assumption) | exact absurd trivial (by with_reducible assumption) | contradiction | apply And.intro | intro _)
    · rw [if_neg z] at hk
      repeat' (first | exact trivial | omega | (with_reducible assumption) | exact absurd trivial (by with_reducible assumption) | contradiction | apply And.intro | intro _)
  · repeat' (first | exact trivial | omega | (with_reducible assumption) | exact absurd trivial (by with_reducible assumption) | contradiction | apply And.intro | intro _)
  · repeat' (first | exact trivial | omega | (with_reducible assumption) | exact absurd trivial (by with_reducible assumption) | contradiction | apply And.intro | intro _)
  · rw [if_neg (by omega), if_neg (by omega), if_neg (by omega), if_neg (by omega), if_neg (by omega), if_neg (by omega)] at hk
    repeat' (first | exact trivial | omega | (with_reducible assumption) | exact absurd trivial (by with_reducible assumption) | contradiction | apply And.intro | intro _)
theorem good_X6_count (l : Launch) : Good l 2 yX6_count cX6_count 2 (some .int) T6_count := by
  refine Good.mk 1 (by decide) rfl (by simp [retOK]) FOK6 COK6 (gk_X6_count l) ?_ ?_
  · intro a μ K h
    unfold T6_count at h
    split at h
    · simp [entl]
    · exact h.elim
  · intro a μ K V hV h
    unfold T6_count at h
    split at h
    · exact body_X6_count _ _ μ K V hV h
    · exact h.elim

