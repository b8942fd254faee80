/-! both: post, visits -/
theorem RG.congr {μ : Mem} {B : Nat} {f f' : Nat → Int} (h : RG μ B f) (e : Eq39 f f') (h35 : f 35 ≤ 5) : RG μ B f' := by
  obtain ⟨r1, r2, r3, r4, r5, r6⟩ := h
  refine ⟨r1, by rw [r2, e 35 (by omega)], by rw [r3, e 35 (by omega), e 36 (by omega)], by rw [r4, e 37 (by omega)], by rw [r5, e 38 (by omega)], fun i t hi ht => ?_⟩
  rw [← e 35 (by omega)] at hi
  rw [r6 i t hi ht, e _ (by omega)]
def postF (f : Nat → Int) (i : Nat) (n : Int) : Nat → Int := upF (upF f (7 * i + 1) (f (7 * i + 1) + min n (99 - f (7 * i + 1)))) 40 (min 999999 (f 40 + (n - min n (99 - f (7 * i + 1)))))
def visF (f : Nat → Int) (n : Nat) : Nat → Int := fun j => if j < 39 then nx yes f n j else if j = 39 then min 999999 (f 39 + sS yes f n) else if j = 40 then min 999999 (f 40 + sL yes f n) else f j
/-- the class' ring has become as f says -/
def CS (μ ν : Mem) (f : Nat → Int) : Prop := RG ν 1 f ∧ rI ν 1 5 = f 39 ∧ rI ν 1 6 = f 40 ∧ (∀ k, (k < 1 ∨ 7 < k) → ∀ j, rI ν k j = rI μ k j) ∧ ∀ k j, k ≠ 2 → rR ν k j = rR μ k j
/-- the reference's state has become as f says -/
def MS (μ ν : Mem) (f : Nat → Int) : Prop := (∀ j, j < 60 → rI ν 67 j = f j) ∧ (∀ j, 60 ≤ j → rI ν 67 j = rI μ 67 j) ∧ (∀ k, k ≠ 66 → k ≠ 67 → k ≠ 68 → k ≠ 72 → k ≠ 73 → k ≠ 74 → ∀ j, rI ν k j = rI μ k j) ∧ (∀ j, (j < 13 ∨ j = 28) → rI ν 66 j = rI μ 66 j) ∧ ∀ k j, rR ν k j = rR μ k j
def postOK (f : Nat → Int) (i n : Int) : Prop := (0 ≤ i ∧ i < f 35) ∧ 0 ≤ n ∧ n ≤ 99
def T5_post : TT := fun a μ K => match a with
  | [.inr (.inr o), .inl i, .inl n] => o = 0 ∧ (InR i ∧ InR n ∧ ∃ f, RG μ 1 f ∧ WF f ∧ f 38 ≤ 9999 ∧ rI μ 1 5 = f 39 ∧ rI μ 1 6 = f 40 ∧ (0 ≤ f 39 ∧ f 39 ≤ 999999) ∧ (0 ≤ f 40 ∧ f 40 ≤ 999999) ∧ (postOK f i n → ∀ ν, CS μ ν (postF f i.toNat n) → K [.inl (n - min n (99 - f (7 * i.toNat + 1)))] ν) ∧ (¬ postOK f i n → K [.inl (-1)] μ))
  | _ => False
theorem rec_X5_post : ∀ a μ K, T5_post a μ K → ∃ k r, a = .inr (.inr k) :: r ∧ kd k = 5 := by
  intro a μ K h
  unfold T5_post at h
  split at h
  · exact ⟨_, _, rfl, by rw [h.1]; rfl⟩
  · exact h.elim
def GL_X5_post : List (Nat × Nat × Bool × TT) := [(125, 3, false, T1_takes), (129, 3, false, T1_add), (133, 1, false, T1_cut)]
def G_X5_post : Nat → Option (Nat × Bool × TT) := fun i => GL_X5_post.lookup i
theorem G_X5_post_125 : G_X5_post 125 = some (3, false, T1_takes) := rfl
theorem G_X5_post_129 : G_X5_post 129 = some (3, false, T1_add) := rfl
theorem G_X5_post_133 : G_X5_post 133 = some (1, false, T1_cut) := rfl
theorem gk_X5_post (l : Launch) : ∀ i n b T, G_X5_post i = some (n, b, T) → CallOK l 2 RX5 i n b T := by
  intro i n b T h
  have hm : (i, n, b, T) ∈ GL_X5_post := lk_mem h
  simp only [GL_X5_post, List.mem_cons, List.not_mem_nil, or_false, Prod.mk.injEq] at hm
  rcases hm with ⟨rfl, rfl, rfl, rfl⟩ | ⟨rfl, rfl, rfl, rfl⟩ | ⟨rfl, rfl, rfl, rfl⟩
  · exact CallOK.V (d := 2) (own := RX5) (i := 125) (n := 2) (ci := 1) (good_X1_takes l) (by decide) (by decide) rfl (by decide) rec_X1_takes (mg 366 (by decide +kernel) (by decide +kernel)) (mg 367 (by decide +kernel) (by decide +kernel)) (mg 368 (by decide +kernel) (by decide +kernel)) (mg 2 (by decide +kernel) (by decide +kernel)) (mg 369 (by decide +kernel) (by decide +kernel)) (by decide +kernel)
  · exact CallOK.V (d := 2) (own := RX5) (i := 129) (n := 2) (ci := 1) (good_X1_add l) (by decide) (by decide) rfl (by decide) rec_X1_add (mg 371 (by decide +kernel) (by decide +kernel)) (mg 372 (by decide +kernel) (by decide +kernel)) (mg 373 (by decide +kernel) (by decide +kernel)) (mg 2 (by decide +kernel) (by decide +kernel)) (mg 374 (by decide +kernel) (by decide +kernel)) (by decide +kernel)
  · exact CallOK.V (d := 2) (own := RX5) (i := 133) (n := 0) (ci := 1) (good_X1_cut l) (by decide) (by decide) rfl (by decide) rec_X1_cut (mg 375 (by decide +kernel) (by decide +kernel)) (mg 376 (by decide +kernel) (by decide +kernel)) (mg 377 (by decide +kernel) (by decide +kernel)) (mg 2 (by decide +kernel) (by decide +kernel)) (mg 378 (by decide +kernel) (by decide +kernel)) (by decide +kernel)
set_option maxRecDepth 20000 in
set_option maxHeartbeats 4000000 in
theorem body_X5_post (o : Nat) (i : Int) (n : Int) (μ : Mem) (K : List AV → Mem → Prop) (V : Nat → List (Option AV) → List AV → Mem → Prop) (hV : Clos FX5 CX5 G_X5_post 1 K cX5_post V) (hT : o = 0 ∧ (InR i ∧ InR n ∧ ∃ f, RG μ 1 f ∧ WF f ∧ f 38 ≤ 9999 ∧ rI μ 1 5 = f 39 ∧ rI μ 1 6 = f 40 ∧ (0 ≤ f 39 ∧ f 39 ≤ 999999) ∧ (0 ≤ f 40 ∧ f 40 ≤ 999999) ∧ (postOK f i n → ∀ ν, CS μ ν (postF f i.toNat n) → K [.inl (n - min n (99 - f (7 * i.toNat + 1)))] ν) ∧ (¬ postOK f i n → K [.inl (-1)] μ))) : V 0 [some (.inr (.inr o)), some (.inl i), some (.inl n), none] [] μ := by
  simp only [InR] at hT
  obtain ⟨rfl, hi, hn, f, hR, hW, h38, e39, e40, h39, h40, hK, hB⟩ := hT
  have hR' := hR
  obtain ⟨r1, r2, r3, r4, r5, r6⟩ := hR
  have h35 := hW.1
  have h37 := hW.2.2.1
  by_cases hc : postOK f i n
  · have hK := hK hc
    unfold postOK at hc
    obtain ⟨i', rfl⟩ := Int.eq_ofNat_of_zero_le hc.1.1
    rw [Int.toNat_natCast] at hK
    have hs := (hW.2.2.2 i' (by omega)).2.1
    have hr : 3 ≤ rR μ 2 i' ∧ rR μ 2 i' ≤ 7 := r1.1 i' (by omega)
    have v1 : rI μ (rR μ 2 i') 1 = f (7 * i' + 1) := hR'.row (by omega) (by omega)
    have n1 : ¬ (1 = rR μ 2 i') := by omega
    have hfin := hK (wI (wI (wI (wI (wI μ (rR μ 2 i') 1 (f (7 * i' + 1) + min n (99 - f (7 * i' + 1)))) 1 6 (f 40 + (n - min n (99 - f (7 * i' + 1))))) 1 3 (min (f 37) 999999)) 1 5 (min (f 39) 999999)) 1 6 (min (f 40 + (n - min n (99 - f (7 * i' + 1)))) 999999)) (by
      have hset := hR'.set h35.2 (i := i') (t := 1) (by omega) (by omega) (f (7 * i' + 1) + min n (99 - f (7 * i' + 1)))
      obtain ⟨q1, q2, q3, q4, q5, q6⟩ := hset
      have u : ∀ x, x ≠ 40 → postF f i' n x = upF f (7 * i' + 1) (f (7 * i' + 1) + min n (99 - f (7 * i' + 1))) x := fun x hx => upF_n _ _ hx
      refine ⟨⟨q1.of (fun _ => rfl), ?_, ?_, ?_, ?_, ?_⟩, ?_, ?_, ?_, ?_⟩
      · rw [u 35 (by omega), ← q2]; simp [rI_wI]
      · rw [u 35 (by omega), u 36 (by omega), ← q3]; simp [rI_wI]
      · rw [u 37 (by omega), upF_n _ _ (by omega)]; simp [rI_wI]; omega
      · rw [u 38 (by omega), ← q5]; simp [rI_wI]
      · intro k t hk ht
        rw [u 35 (by omega), upF_n _ _ (by omega)] at hk
        have := q6 k t (by rw [upF_n _ _ (by omega)]; exact hk) ht
        have hrk : 3 ≤ rR μ 2 k ∧ rR μ 2 k ≤ 7 := r1.1 k (by omega)
        rw [u _ (by omega), ← this]
        show rI (wI (wI (wI (wI (wI μ (rR μ 2 i') 1 _) 1 6 _) 1 3 _) 1 5 _) 1 6 _) (rR μ 2 k) t = rI (wI μ (rR μ 2 i') 1 _) (rR μ 2 k) t
        rw [rI_wI, if_neg (by omega), rI_wI, if_neg (by omega), rI_wI, if_neg (by omega), rI_wI, if_neg (by omega)]
      · rw [u 39 (by omega), upF_n _ _ (by omega)]; simp [rI_wI]; omega
      · unfold postF; rw [upF_s]; simp [rI_wI]; omega
      · intro k hk j
        rw [rI_wI, if_neg (by omega), rI_wI, if_neg (by omega), rI_wI, if_neg (by omega), rI_wI, if_neg (by omega), rI_wI, if_neg (by omega)]
      · intro k j _; rfl)
    apply hV [] 60
    simp only [InR, InL, inb, Int.toNat_natCast, wp1, wpc_z, wpc_s, stp_iconst, stp_bipush, stp_sipush, stp_lconst, stp_iload_n, stp_iload, stp_lload_n, stp_lload, stp_aload_n, stp_aload, stp_istore_n, stp_istore, stp_lstore_n, stp_lstore, stp_astore_n, stp_astore, stp_iinc, stp_iadd, stp_isub, stp_imul, stp_ineg, stp_idiv, stp_irem, stp_ladd, stp_lmul, stp_ldiv, stp_lrem, stp_ishl, stp_ishr, stp_iushr, stp_iand, stp_ior, stp_i2l, stp_i2b, stp_i2s, stp_lcmp, stp_dup, stp_dup2, stp_pop, stp_ifCond, stp_if_icmp, stp_goto, stp_tableswitch, stp_lookupswitch, stp_ldc, stp_ldc_w, stp_ldc2_w, stp_getstatic, stp_getfield, stp_putfield, stp_iaload, stp_baload, stp_iastore, stp_bastore, stp_aaload, stp_aastore, stp_invokevirtual, stp_invokestatic, stp_ireturn, stp_lreturn, stp_return_, lg, lset, okl, spl, wd, c1, cnd, tg, swT, swL, f4_0, f4_1, f4_2, f4_3, f2_0, f2_1, List.mem_cons, List.not_mem_nil, List.length_cons, List.length_nil, List.cons_append, List.nil_append, Nat.reduceAdd, Nat.reduceMul, Nat.reduceLT, Nat.reduceEqDiff, Nat.reduceLeDiff, Int.reduceAdd, Int.reduceNeg, Int.reduceToNat, Int.cast_ofNat_Int, Int.reduceNatCast, Int.toNat_zero, Int.toNat_one, Int.reduceLE, Int.reduceLT, Int.reduceEq, Int.zero_add, Int.add_zero, or_false, false_or, or_true, true_or, and_true, true_and, and_false, false_and, reduceIte, not_true_eq_false, not_false_eq_true, forall_const, false_implies, true_implies, implies_true, ne_eq, reduceCtorEq, List.all_cons, List.all_nil, Bool.and_true, Bool.and_self, decide_eq_true_eq, decide_true, dX5_post_0, dX5_post_1, dX5_post_4, dX5_post_5, dX5_post_6, dX5_post_9, dX5_post_12, dX5_post_13, dX5_post_14, dX5_post_15, dX5_post_18, dX5_post_19, dX5_post_20, dX5_post_23, dX5_post_24, dX5_post_25, dX5_post_28, dX5_post_31, dX5_post_32, FX5_10, G_X5_post_125, G_X5_post_129, G_X5_post_133, kd_0, kd_1, T1_takes, T1_add, T1_cut, r2, v1, rI_wI, n1, r4, e39, e40]
    repeat' (first | exact trivial | omega | (with_reducible assumption) | exact absurd trivial (by with_reducible assumption) | contradiction | apply And.intro | intro _)
  · have hB := hB hc
    unfold postOK at hc
    apply hV [14] 60
    simp only [InR, InL, inb, Int.toNat_natCast, wp1, wpc_z, wpc_s, stp_iconst, stp_bipush, stp_sipush, stp_lconst, stp_iload_n, stp_iload, stp_lload_n, stp_lload, stp_aload_n, stp_aload, stp_istore_n, stp_istore, stp_lstore_n, stp_lstore, stp_astore_n, stp_astore, stp_iinc, stp_iadd, stp_isub, stp_imul, stp_ineg, stp_idiv, stp_irem, stp_ladd, stp_lmul, stp_ldiv, stp_lrem, stp_ishl, stp_ishr, stp_iushr, stp_iand, stp_ior, stp_i2l, stp_i2b, stp_i2s, stp_lcmp, stp_dup, stp_dup2, stp_pop, stp_ifCond, stp_if_icmp, stp_goto, stp_tableswitch, stp_lookupswitch, stp_ldc, stp_ldc_w, stp_ldc2_w, stp_getstatic, stp_getfield, stp_putfield, stp_iaload, stp_baload, stp_iastore, stp_bastore, stp_aaload, stp_aastore, stp_invokevirtual, stp_invokestatic, stp_ireturn, stp_lreturn, stp_return_, lg, lset, okl, spl, wd, c1, cnd, tg, swT, swL, f4_0, f4_1, f4_2, f4_3, f2_0, f2_1, List.mem_cons, List.not_mem_nil, List.length_cons, List.length_nil, List.cons_append, List.nil_append, Nat.reduceAdd, Nat.reduceMul, Nat.reduceLT, Nat.reduceEqDiff, Nat.reduceLeDiff, Int.reduceAdd, Int.reduceNeg, Int.reduceToNat, Int.cast_ofNat_Int, Int.reduceNatCast, Int.toNat_zero, Int.toNat_one, Int.reduceLE, Int.reduceLT, Int.reduceEq, Int.zero_add, Int.add_zero, or_false, false_or, or_true, true_or, and_true, true_and, and_false, false_and, reduceIte, not_true_eq_false, not_false_eq_true, forall_const, false_implies, true_implies, implies_true, ne_eq, reduceCtorEq, List.all_cons, List.all_nil, Bool.and_true, Bool.and_self, decide_eq_true_eq, decide_true, dX5_post_0, dX5_post_1, dX5_post_4, dX5_post_5, dX5_post_6, dX5_post_9, dX5_post_12, dX5_post_13, dX5_post_14, dX5_post_15, dX5_post_18, dX5_post_19, dX5_post_20, dX5_post_23, dX5_post_24, dX5_post_25, dX5_post_28, dX5_post_31, dX5_post_32, FX5_10, G_X5_post_125, G_X5_post_129, G_X5_post_133, kd_0, kd_1, T1_takes, r2]
    repeat' (first | exact trivial | omega | (with_reducible assumption) | exact absurd trivial (by with_reducible assumption) | contradiction | apply And.intro | intro _)
theorem good_X5_post (l : Launch) : Good l 2 yX5_post cX5_post 4 (some .int) T5_post := by
  refine Good.mk 1 (by decide) rfl (by simp [retOK]) FOK5 COK5 (gk_X5_post l) ?_ ?_
  · intro a μ K h
    unfold T5_post at h
    split at h
    · simp [entl]
    · exact h.elim
  · intro a μ K V hV h
    unfold T5_post at h
    split at h
    · exact body_X5_post _ _ _ μ K V hV h
    · exact h.elim

def T6_post : TT := fun a μ K => match a with
  | [.inr (.inr o), .inl i, .inl n] => o = 66 ∧ (InR i ∧ InR n ∧ MOK μ ∧ (postOK (rI μ 67) i n → ∀ ν, MS μ ν (postF (rI μ 67) i.toNat n) → K [.inl (n - min n (99 - rI μ 67 (7 * i.toNat + 1)))] ν) ∧ (¬ postOK (rI μ 67) i n → K [.inl (-1)] μ))
  | _ => False
theorem rec_X6_post : ∀ a μ K, T6_post a μ K → ∃ k r, a = .inr (.inr k) :: r ∧ kd k = 6 := by
  intro a μ K h
  unfold T6_post at h
  split at h
  · exact ⟨_, _, rfl, by rw [h.1]; rfl⟩
  · exact h.elim
def GL_X6_post : List (Nat × Nat × Bool × TT) := [(180, 2, false, T6_isStation), (59, 3, true, T6_in), (174, 1, false, T6_starts), (167, 3, false, T6_comesTo), (192, 1, false, T6_settles)]
def G_X6_post : Nat → Option (Nat × Bool × TT) := fun i => GL_X6_post.lookup i
theorem G_X6_post_180 : G_X6_post 180 = some (2, false, T6_isStation) := rfl
theorem G_X6_post_59 : G_X6_post 59 = some (3, true, T6_in) := rfl
theorem G_X6_post_174 : G_X6_post 174 = some (1, false, T6_starts) := rfl
theorem G_X6_post_167 : G_X6_post 167 = some (3, false, T6_comesTo) := rfl
theorem G_X6_post_192 : G_X6_post 192 = some (1, false, T6_settles) := rfl
theorem gk_X6_post (l : Launch) : ∀ i n b T, G_X6_post i = some (n, b, T) → CallOK l 3 RX6 i n b T := by
  intro i n b T h
  have hm : (i, n, b, T) ∈ GL_X6_post := lk_mem h
  simp only [GL_X6_post, List.mem_cons, List.not_mem_nil, or_false, Prod.mk.injEq] at hm
  rcases hm with ⟨rfl, rfl, rfl, rfl⟩ | ⟨rfl, rfl, rfl, rfl⟩ | ⟨rfl, rfl, rfl, rfl⟩ | ⟨rfl, rfl, rfl, rfl⟩ | ⟨rfl, rfl, rfl, rfl⟩
  · exact CallOK.V (d := 3) (own := RX6) (i := 180) (n := 1) (ci := 6) (good_X6_isStation l) (by decide) (by decide) rfl (by decide) rec_X6_isStation (mg 796 (by decide +kernel) (by decide +kernel)) (mg 798 (by decide +kernel) (by decide +kernel)) (mgs 38 (by decide +kernel) (by decide +kernel)) (mg 7 (by decide +kernel) (by decide +kernel)) (mg 799 (by decide +kernel) (by decide +kernel)) (by decide +kernel)
  · exact CallOK.S (d := 3) (own := RX6) (i := 59) (n := 3) (good_X6_in l) (by decide) (by decide) (mg 708 (by decide +kernel) (by decide +kernel)) (mg 709 (by decide +kernel) (by decide +kernel)) (mg 7 (by decide +kernel) (by decide +kernel)) (mg 710 (by decide +kernel) (by decide +kernel)) (by decide +kernel)
  · exact CallOK.V (d := 3) (own := RX6) (i := 174) (n := 0) (ci := 6) (good_X6_starts l) (by decide) (by decide) rfl (by decide) rec_X6_starts (mg 769 (by decide +kernel) (by decide +kernel)) (mg 771 (by decide +kernel) (by decide +kernel)) (mgs 33 (by decide +kernel) (by decide +kernel)) (mg 7 (by decide +kernel) (by decide +kernel)) (mg 772 (by decide +kernel) (by decide +kernel)) (by decide +kernel)
  · exact CallOK.V (d := 3) (own := RX6) (i := 167) (n := 2) (ci := 6) (good_X6_comesTo l) (by decide) (by decide) rfl (by decide) rec_X6_comesTo (mg 819 (by decide +kernel) (by decide +kernel)) (mg 821 (by decide +kernel) (by decide +kernel)) (mgs 40 (by decide +kernel) (by decide +kernel)) (mg 7 (by decide +kernel) (by decide +kernel)) (mg 822 (by decide +kernel) (by decide +kernel)) (by decide +kernel)
  · exact CallOK.V (d := 3) (own := RX6) (i := 192) (n := 0) (ci := 6) (good_X6_settles l) (by decide) (by decide) rfl (by decide) rec_X6_settles (mg 832 (by decide +kernel) (by decide +kernel)) (mg 834 (by decide +kernel) (by decide +kernel)) (mgs 43 (by decide +kernel) (by decide +kernel)) (mg 7 (by decide +kernel) (by decide +kernel)) (mg 835 (by decide +kernel) (by decide +kernel)) (by decide +kernel)
set_option maxRecDepth 20000 in
set_option maxHeartbeats 4000000 in
theorem body_X6_post (o : Nat) (i : Int) (n : Int) (μ : Mem) (K : List AV → Mem → Prop) (V : Nat → List (Option AV) → List AV → Mem → Prop) (hV : Clos FX6 CX6 G_X6_post 1 K cX6_post V) (hT : o = 66 ∧ (InR i ∧ InR n ∧ MOK μ ∧ (postOK (rI μ 67) i n → ∀ ν, MS μ ν (postF (rI μ 67) i.toNat n) → K [.inl (n - min n (99 - rI μ 67 (7 * i.toNat + 1)))] ν) ∧ (¬ postOK (rI μ 67) i n → K [.inl (-1)] μ))) : V 0 [some (.inr (.inr o)), some (.inl i), some (.inl n), none] [] μ := by
  simp only [InR] at hT
  obtain ⟨rfl, hi, hn, hQ, hK, hB⟩ := hT
  obtain ⟨hW, h38, h39, h40⟩ := hQ
  have h35 := hW.1
  by_cases hc : postOK (rI μ 67) i n
  · have hK := hK hc
    unfold postOK at hc
    obtain ⟨i', rfl⟩ := Int.eq_ofNat_of_zero_le hc.1.1
    rw [Int.toNat_natCast] at hK
    have hs := (hW.2.2.2 i' (by omega)).2.1
    have v1 : rI (stM μ) 68 (7 * i' + 1) = rI μ 67 (7 * i' + 1) := st_68 μ (by omega)
    have v40 : rI (stM μ) 68 40 = rI μ 67 40 := st_68 μ (by omega)
    have v16 : rI (stM μ) 66 16 = 0 := by rw [st_66]; simp
    have hfin := hK (wB (wI (wI (wI (stM μ) 68 (7 * i' + 1) (rI μ 67 (7 * i' + 1) + min n (99 - rI μ 67 (7 * i' + 1)))) 66 16 (n - min n (99 - rI μ 67 (7 * i' + 1)))) 68 40 (min 999999 (rI μ 67 40 + (n - min n (99 - rI μ 67 (7 * i' + 1)))))) 67 60 (rI (wI (wI (wI (stM μ) 68 (7 * i' + 1) (rI μ 67 (7 * i' + 1) + min n (99 - rI μ 67 (7 * i' + 1)))) 66 16 (n - min n (99 - rI μ 67 (7 * i' + 1)))) 68 40 (min 999999 (rI μ 67 40 + (n - min n (99 - rI μ 67 (7 * i' + 1)))))) 68)) (by
      refine ⟨?_, ?_, ?_, ?_, ?_⟩
      · intro j hj
        rw [rI_wB, if_pos ⟨rfl, hj⟩]
        unfold postF upF
        rw [rI_wI, rI_wI, rI_wI]
        by_cases e : j = 40
        · rw [if_pos ⟨rfl, e⟩, if_pos e]
        · rw [if_neg (fun z => e z.2), if_neg (by omega), if_neg e]
          by_cases e2 : j = 7 * i' + 1
          · rw [if_pos ⟨rfl, e2⟩, if_pos e2]
          · rw [if_neg (fun z => e2 z.2), if_neg e2, st_68 μ hj]
      · intro j hj
        rw [rI_wB, if_neg (by omega), rI_wI, if_neg (by omega), rI_wI, if_neg (by omega), rI_wI, if_neg (by omega), st_o μ (by omega) (by omega) (by omega)]
      · intro k a b c d _ _ j
        rw [rI_wB, if_neg (fun z => b z.1), rI_wI, if_neg (fun z => c z.1), rI_wI, if_neg (fun z => a z.1), rI_wI, if_neg (fun z => c z.1), st_o μ a c d]
      · intro j hj
        rw [rI_wB, if_neg (by omega), rI_wI, if_neg (by omega), rI_wI, if_neg (by omega), rI_wI, if_neg (by omega)]
        exact (st_MF μ).2.1 j hj
      · intro k j; rfl)
    apply hV [] 60
    simp only [InR, InL, inb, Int.toNat_natCast, wp1, wpc_z, wpc_s, stp_iconst, stp_bipush, stp_sipush, stp_lconst, stp_iload_n, stp_iload, stp_lload_n, stp_lload, stp_aload_n, stp_aload, stp_istore_n, stp_istore, stp_lstore_n, stp_lstore, stp_astore_n, stp_astore, stp_iinc, stp_iadd, stp_isub, stp_imul, stp_ineg, stp_idiv, stp_irem, stp_ladd, stp_lmul, stp_ldiv, stp_lrem, stp_ishl, stp_ishr, stp_iushr, stp_iand, stp_ior, stp_i2l, stp_i2b, stp_i2s, stp_lcmp, stp_dup, stp_dup2, stp_pop, stp_ifCond, stp_if_icmp, stp_goto, stp_tableswitch, stp_lookupswitch, stp_ldc, stp_ldc_w, stp_ldc2_w, stp_getstatic, stp_getfield, stp_putfield, stp_iaload, stp_baload, stp_iastore, stp_bastore, stp_aaload, stp_aastore, stp_invokevirtual, stp_invokestatic, stp_ireturn, stp_lreturn, stp_return_, lg, lset, okl, spl, wd, c1, cnd, tg, swT, swL, f4_0, f4_1, f4_2, f4_3, f2_0, f2_1, List.mem_cons, List.not_mem_nil, List.length_cons, List.length_nil, List.cons_append, List.nil_append, Nat.reduceAdd, Nat.reduceMul, Nat.reduceLT, Nat.reduceEqDiff, Nat.reduceLeDiff, Int.reduceAdd, Int.reduceNeg, Int.reduceToNat, Int.cast_ofNat_Int, Int.reduceNatCast, Int.toNat_zero, Int.toNat_one, Int.reduceLE, Int.reduceLT, Int.reduceEq, Int.zero_add, Int.add_zero, or_false, false_or, or_true, true_or, and_true, true_and, and_false, false_and, reduceIte, not_true_eq_false, not_false_eq_true, forall_const, false_implies, true_implies, implies_true, ne_eq, reduceCtorEq, List.all_cons, List.all_nil, Bool.and_true, Bool.and_self, decide_eq_true_eq, decide_true, dX6_post_0, dX6_post_1, dX6_post_2, dX6_post_5, dX6_post_8, dX6_post_9, dX6_post_10, dX6_post_11, dX6_post_14, dX6_post_17, dX6_post_20, dX6_post_21, dX6_post_22, dX6_post_23, dX6_post_26, dX6_post_27, dX6_post_28, dX6_post_29, dX6_post_32, dX6_post_33, dX6_post_34, dX6_post_37, dX6_post_38, CX6_190, G_X6_post_180, G_X6_post_59, G_X6_post_174, G_X6_post_167, G_X6_post_192, kd_66, T6_isStation, T6_in, T6_starts, T6_comesTo, T6_settles, v1, v40, v16]
    repeat' (first | exact trivial | omega | (with_reducible assumption) | exact absurd trivial (by with_reducible assumption) | contradiction | apply And.intro | intro _)
  · have hB := hB hc
    unfold postOK at hc
    apply hV [22] 60
    simp only [InR, InL, inb, Int.toNat_natCast, wp1, wpc_z, wpc_s, stp_iconst, stp_bipush, stp_sipush, stp_lconst, stp_iload_n, stp_iload, stp_lload_n, stp_lload, stp_aload_n, stp_aload, stp_istore_n, stp_istore, stp_lstore_n, stp_lstore, stp_astore_n, stp_astore, stp_iinc, stp_iadd, stp_isub, stp_imul, stp_ineg, stp_idiv, stp_irem, stp_ladd, stp_lmul, stp_ldiv, stp_lrem, stp_ishl, stp_ishr, stp_iushr, stp_iand, stp_ior, stp_i2l, stp_i2b, stp_i2s, stp_lcmp, stp_dup, stp_dup2, stp_pop, stp_ifCond, stp_if_icmp, stp_goto, stp_tableswitch, stp_lookupswitch, stp_ldc, stp_ldc_w, stp_ldc2_w, stp_getstatic, stp_getfield, stp_putfield, stp_iaload, stp_baload, stp_iastore, stp_bastore, stp_aaload, stp_aastore, stp_invokevirtual, stp_invokestatic, stp_ireturn, stp_lreturn, stp_return_, lg, lset, okl, spl, wd, c1, cnd, tg, swT, swL, f4_0, f4_1, f4_2, f4_3, f2_0, f2_1, List.mem_cons, List.not_mem_nil, List.length_cons, List.length_nil, List.cons_append, List.nil_append, Nat.reduceAdd, Nat.reduceMul, Nat.reduceLT, Nat.reduceEqDiff, Nat.reduceLeDiff, Int.reduceAdd, Int.reduceNeg, Int.reduceToNat, Int.cast_ofNat_Int, Int.reduceNatCast, Int.toNat_zero, Int.toNat_one, Int.reduceLE, Int.reduceLT, Int.reduceEq, Int.zero_add, Int.add_zero, or_false, false_or, or_true, true_or, and_true, true_and, and_false, false_and, reduceIte, not_true_eq_false, not_false_eq_true, forall_const, false_implies, true_implies, implies_true, ne_eq, reduceCtorEq, List.all_cons, List.all_nil, Bool.and_true, Bool.and_self, decide_eq_true_eq, decide_true, dX6_post_0, dX6_post_1, dX6_post_2, dX6_post_5, dX6_post_8, dX6_post_9, dX6_post_10, dX6_post_11, dX6_post_14, dX6_post_17, dX6_post_20, dX6_post_21, dX6_post_22, dX6_post_23, dX6_post_26, dX6_post_27, dX6_post_28, dX6_post_29, dX6_post_32, dX6_post_33, dX6_post_34, dX6_post_37, dX6_post_38, CX6_190, G_X6_post_180, G_X6_post_59, G_X6_post_174, G_X6_post_167, G_X6_post_192, kd_66, T6_isStation, T6_in]
    repeat' (first | exact trivial | omega | (with_reducible assumption) | exact absurd trivial (by with_reducible assumption) | contradiction | apply And.intro | intro _)
theorem good_X6_post (l : Launch) : Good l 3 yX6_post cX6_post 4 (some .int) T6_post := by
  refine Good.mk 1 (by decide) rfl (by simp [retOK]) FOK6 COK6 (gk_X6_post l) ?_ ?_
  · intro a μ K h
    unfold T6_post at h
    split at h
    · simp [entl]
    · exact h.elim
  · intro a μ K V hV h
    unfold T6_post at h
    split at h
    · exact body_X6_post _ _ _ μ K V hV h
    · exact h.elim

def GL_X5_visits : List (Nat × Nat × Bool × TT) := [(52, 3, true, T5_isOutside), (140, 2, false, T1_visit), (133, 1, false, T1_cut)]
def G_X5_visits : Nat → Option (Nat × Bool × TT) := fun i => GL_X5_visits.lookup i
theorem G_X5_visits_52 : G_X5_visits 52 = some (3, true, T5_isOutside) := rfl
theorem G_X5_visits_140 : G_X5_visits 140 = some (2, false, T1_visit) := rfl
theorem G_X5_visits_133 : G_X5_visits 133 = some (1, false, T1_cut) := rfl

set_option maxRecDepth 20000 in
set_option maxHeartbeats 4000000 in
theorem lp_visits (V : Nat → List (Option AV) → List AV → Mem → Prop) (K : List AV → Mem → Prop) (hV : Clos FX5 CX5 G_X5_visits 1 K cX5_visits V) (μ : Mem) (f : Nat → Int) (hW : WF f) (e : Nat) (he : e ≤ 100) (h38 : f 38 + e ≤ 9999) (hK : ∀ ν, GR yes μ ν 1 f e → V 56 [some (.inr (.inr 0)), some (.inl (e : Int)), some (.inl (sS yes f e)), some (.inl (e : Int))] [] ν) : ∀ m n : Nat, n + m = e → ∀ ν, GR yes μ ν 1 f n → V 34 [some (.inr (.inr 0)), some (.inl (e : Int)), some (.inl (sS yes f n)), some (.inl (n : Int))] [] ν := by
  intro m
  induction m with
  | zero =>
    intro n hn ν hG
    have en : n = e := by omega
    subst en
    have hk := hK ν hG
    apply hV [34, 56] 40
    simp only [InR, InL, inb, Int.toNat_natCast, wp1, wpc_z, wpc_s, stp_iconst, stp_bipush, stp_sipush, stp_lconst, stp_iload_n, stp_iload, stp_lload_n, stp_lload, stp_aload_n, stp_aload, stp_istore_n, stp_istore, stp_lstore_n, stp_lstore, stp_astore_n, stp_astore, stp_iinc, stp_iadd, stp_isub, stp_imul, stp_ineg, stp_idiv, stp_irem, stp_ladd, stp_lmul, stp_ldiv, stp_lrem, stp_ishl, stp_ishr, stp_iushr, stp_iand, stp_ior, stp_i2l, stp_i2b, stp_i2s, stp_lcmp, stp_dup, stp_dup2, stp_pop, stp_ifCond, stp_if_icmp, stp_goto, stp_tableswitch, stp_lookupswitch, stp_ldc, stp_ldc_w, stp_ldc2_w, stp_getstatic, stp_getfield, stp_putfield, stp_iaload, stp_baload, stp_iastore, stp_bastore, stp_aaload, stp_aastore, stp_invokevirtual, stp_invokestatic, stp_ireturn, stp_lreturn, stp_return_, lg, lset, okl, spl, wd, c1, cnd, tg, swT, swL, f4_0, f4_1, f4_2, f4_3, f2_0, f2_1, List.mem_cons, List.not_mem_nil, List.length_cons, List.length_nil, List.cons_append, List.nil_append, Nat.reduceAdd, Nat.reduceMul, Nat.reduceLT, Nat.reduceEqDiff, Nat.reduceLeDiff, Int.reduceAdd, Int.reduceNeg, Int.reduceToNat, Int.cast_ofNat_Int, Int.reduceNatCast, Int.toNat_zero, Int.toNat_one, Int.reduceLE, Int.reduceLT, Int.reduceEq, Int.zero_add, Int.add_zero, or_false, false_or, or_true, true_or, and_true, true_and, and_false, false_and, reduceIte, not_true_eq_false, not_false_eq_true, forall_const, false_implies, true_implies, implies_true, ne_eq, reduceCtorEq, List.all_cons, List.all_nil, Bool.and_true, Bool.and_self, decide_eq_true_eq, decide_true, dX5_visits_0, dX5_visits_1, dX5_visits_2, dX5_visits_4, dX5_visits_7, dX5_visits_10, dX5_visits_11, dX5_visits_12, dX5_visits_13, dX5_visits_16, dX5_visits_19, dX5_visits_20, dX5_visits_21, dX5_visits_24, dX5_visits_27, dX5_visits_29, dX5_visits_30, dX5_visits_31, dX5_visits_32, dX5_visits_33, dX5_visits_34, dX5_visits_35, dX5_visits_36, dX5_visits_39, dX5_visits_40, dX5_visits_41, dX5_visits_44, dX5_visits_45, dX5_visits_48, dX5_visits_49, dX5_visits_50, dX5_visits_53, dX5_visits_56, dX5_visits_57, dX5_visits_60, dX5_visits_63, dX5_visits_64, FX5_10, FX5_94, G_X5_visits_52, G_X5_visits_140, G_X5_visits_133, kd_0]
    repeat' (first | exact trivial | omega | (with_reducible assumption) | exact absurd trivial (by with_reducible assumption) | contradiction | apply And.intro | intro _)
  | succ m ih =>
    intro n hn ν hG
    obtain ⟨x1, x2, x3⟩ := nx_WF (p := yes) hW n
    apply hV [34, 56] 40
    simp only [InR, InL, inb, Int.toNat_natCast, wp1, wpc_z, wpc_s, stp_iconst, stp_bipush, stp_sipush, stp_lconst, stp_iload_n, stp_iload, stp_lload_n, stp_lload, stp_aload_n, stp_aload, stp_istore_n, stp_istore, stp_lstore_n, stp_lstore, stp_astore_n, stp_astore, stp_iinc, stp_iadd, stp_isub, stp_imul, stp_ineg, stp_idiv, stp_irem, stp_ladd, stp_lmul, stp_ldiv, stp_lrem, stp_ishl, stp_ishr, stp_iushr, stp_iand, stp_ior, stp_i2l, stp_i2b, stp_i2s, stp_lcmp, stp_dup, stp_dup2, stp_pop, stp_ifCond, stp_if_icmp, stp_goto, stp_tableswitch, stp_lookupswitch, stp_ldc, stp_ldc_w, stp_ldc2_w, stp_getstatic, stp_getfield, stp_putfield, stp_iaload, stp_baload, stp_iastore, stp_bastore, stp_aaload, stp_aastore, stp_invokevirtual, stp_invokestatic, stp_ireturn, stp_lreturn, stp_return_, lg, lset, okl, spl, wd, c1, cnd, tg, swT, swL, f4_0, f4_1, f4_2, f4_3, f2_0, f2_1, List.mem_cons, List.not_mem_nil, List.length_cons, List.length_nil, List.cons_append, List.nil_append, Nat.reduceAdd, Nat.reduceMul, Nat.reduceLT, Nat.reduceEqDiff, Nat.reduceLeDiff, Int.reduceAdd, Int.reduceNeg, Int.reduceToNat, Int.cast_ofNat_Int, Int.reduceNatCast, Int.toNat_zero, Int.toNat_one, Int.reduceLE, Int.reduceLT, Int.reduceEq, Int.zero_add, Int.add_zero, or_false, false_or, or_true, true_or, and_true, true_and, and_false, false_and, reduceIte, not_true_eq_false, not_false_eq_true, forall_const, false_implies, true_implies, implies_true, ne_eq, reduceCtorEq, List.all_cons, List.all_nil, Bool.and_true, Bool.and_self, decide_eq_true_eq, decide_true, dX5_visits_0, dX5_visits_1, dX5_visits_2, dX5_visits_4, dX5_visits_7, dX5_visits_10, dX5_visits_11, dX5_visits_12, dX5_visits_13, dX5_visits_16, dX5_visits_19, dX5_visits_20, dX5_visits_21, dX5_visits_24, dX5_visits_27, dX5_visits_29, dX5_visits_30, dX5_visits_31, dX5_visits_32, dX5_visits_33, dX5_visits_34, dX5_visits_35, dX5_visits_36, dX5_visits_39, dX5_visits_40, dX5_visits_41, dX5_visits_44, dX5_visits_45, dX5_visits_48, dX5_visits_49, dX5_visits_50, dX5_visits_53, dX5_visits_56, dX5_visits_57, dX5_visits_60, dX5_visits_63, dX5_visits_64, FX5_10, FX5_94, G_X5_visits_52, G_X5_visits_140, G_X5_visits_133, kd_0, kd_1, T1_visit]
    repeat' (first | exact trivial | omega | (with_reducible assumption) | exact absurd trivial (by with_reducible assumption) | contradiction | apply And.intro | intro _)
    refine ⟨nx yes f n, true, hG.1, x1, by omega, by simp, fun ρ hρ => ?_⟩
    have h := ih (n + 1) (by omega) ρ (hG.st hρ)
    rw [show ((n + 1 : Nat) : Int) = (n : Int) + 1 by omega] at h
    simp only [sS] at h
    exact h
def visR (f : Nat → Int) (n : Int) : Int := if 0 ≤ n ∧ n ≤ 100 then (if f 38 + n ≤ 9999 then sS yes f n.toNat else -3) else -1
def visOK (f : Nat → Int) (n : Int) : Prop := (0 ≤ n ∧ n ≤ 100) ∧ f 38 + n ≤ 9999
def T5_visits : TT := fun a μ K => match a with
  | [.inr (.inr o), .inl n] => o = 0 ∧ (InR n ∧ ∃ f, RG μ 1 f ∧ WF f ∧ f 38 ≤ 9999 ∧ rI μ 1 5 = f 39 ∧ rI μ 1 6 = f 40 ∧ (0 ≤ f 39 ∧ f 39 ≤ 999999) ∧ (0 ≤ f 40 ∧ f 40 ≤ 999999) ∧ (visOK f n → ∀ ν, CS μ ν (visF f n.toNat) → K [.inl (visR f n)] ν) ∧ (¬ visOK f n → K [.inl (visR f n)] μ))
  | _ => False
theorem rec_X5_visits : ∀ a μ K, T5_visits a μ K → ∃ k r, a = .inr (.inr k) :: r ∧ kd k = 5 := by
  intro a μ K h
  unfold T5_visits at h
  split at h
  · exact ⟨_, _, rfl, by rw [h.1]; rfl⟩
  · exact h.elim
theorem gk_X5_visits (l : Launch) : ∀ i n b T, G_X5_visits i = some (n, b, T) → CallOK l 4 RX5 i n b T := by
  intro i n b T h
  have hm : (i, n, b, T) ∈ GL_X5_visits := lk_mem h
  simp only [GL_X5_visits, List.mem_cons, List.not_mem_nil, or_false, Prod.mk.injEq] at hm
  rcases hm with ⟨rfl, rfl, rfl, rfl⟩ | ⟨rfl, rfl, rfl, rfl⟩ | ⟨rfl, rfl, rfl, rfl⟩
  · exact CallOK.S (d := 4) (own := RX5) (i := 52) (n := 3) (good_X5_isOutside l) (by decide) (by decide) (mg 191 (by decide +kernel) (by decide +kernel)) (mg 192 (by decide +kernel) (by decide +kernel)) (mg 1 (by decide +kernel) (by decide +kernel)) (mg 193 (by decide +kernel) (by decide +kernel)) (by decide +kernel)
  · exact CallOK.V (d := 4) (own := RX5) (i := 140) (n := 1) (ci := 1) (good_X1_visit l) (by decide) (by decide) rfl (by decide) rec_X1_visit (mg 392 (by decide +kernel) (by decide +kernel)) (mg 393 (by decide +kernel) (by decide +kernel)) (mg 394 (by decide +kernel) (by decide +kernel)) (mg 2 (by decide +kernel) (by decide +kernel)) (mg 395 (by decide +kernel) (by decide +kernel)) (by decide +kernel)
  · exact CallOK.V (d := 4) (own := RX5) (i := 133) (n := 0) (ci := 1) (good_X1_cut l) (by decide) (by decide) rfl (by decide) rec_X1_cut (mg 375 (by decide +kernel) (by decide +kernel)) (mg 376 (by decide +kernel) (by decide +kernel)) (mg 377 (by decide +kernel) (by decide +kernel)) (mg 2 (by decide +kernel) (by decide +kernel)) (mg 378 (by decide +kernel) (by decide +kernel)) (by decide +kernel)
set_option maxRecDepth 20000 in
set_option maxHeartbeats 4000000 in
theorem body_X5_visits (o : Nat) (n : Int) (μ : Mem) (K : List AV → Mem → Prop) (V : Nat → List (Option AV) → List AV → Mem → Prop) (hV : Clos FX5 CX5 G_X5_visits 1 K cX5_visits V) (hT : o = 0 ∧ (InR n ∧ ∃ f, RG μ 1 f ∧ WF f ∧ f 38 ≤ 9999 ∧ rI μ 1 5 = f 39 ∧ rI μ 1 6 = f 40 ∧ (0 ≤ f 39 ∧ f 39 ≤ 999999) ∧ (0 ≤ f 40 ∧ f 40 ≤ 999999) ∧ (visOK f n → ∀ ν, CS μ ν (visF f n.toNat) → K [.inl (visR f n)] ν) ∧ (¬ visOK f n → K [.inl (visR f n)] μ))) : V 0 [some (.inr (.inr o)), some (.inl n), none, none] [] μ := by
  simp only [InR] at hT
  obtain ⟨rfl, hn, f, hR, hW, h38, e39, e40, h39, h40, hK, hB⟩ := hT
  have r5 := hR.2.2.2.2.1
  have h35 := hW.1
  have h37 := hW.2.2.1
  by_cases hc : visOK f n
  · have hK := hK hc
    unfold visOK at hc
    unfold visR at hK
    rw [if_pos hc.1, if_pos hc.2] at hK
    obtain ⟨n', rfl⟩ := Int.eq_ofNat_of_zero_le hc.1.1
    rw [Int.toNat_natCast] at hK
    obtain ⟨x1, x2, x3⟩ := nx_WF (p := yes) hW n'
    have hsum := sum_in (p := yes) hW n'
    have h := lp_visits V K hV μ f hW n' (by omega) (by omega) (fun ν hν => by
      obtain ⟨g1, g2, g3, g4⟩ := hν
      have hfin := hK (wI (wI (wI ν 1 3 (min (nx yes f n' 37) 999999)) 1 5 (min (f 39 + sS yes f n') 999999)) 1 6 (min (f 40 + sL yes f n') 999999)) (by
        have hx37 : nx yes f n' 37 ≤ 999999 := by have := x1.2.2.1; omega
        obtain ⟨q1, q2, q3, q4, q5, q6⟩ := g1
        have u : ∀ x, x < 39 → visF f n' x = nx yes f n' x := fun x hx => if_pos hx
        refine ⟨⟨q1.of (fun _ => rfl), ?_, ?_, ?_, ?_, ?_⟩, ?_, ?_, ?_, ?_⟩
        · rw [u 35 (by omega), ← q2]; simp [rI_wI]
        · rw [u 35 (by omega), u 36 (by omega), ← q3]; simp [rI_wI]
        · rw [u 37 (by omega)]; simp [rI_wI]; omega
        · rw [u 38 (by omega), ← q5]; simp [rI_wI]
        · intro k t hk ht
          rw [u 35 (by omega), x3] at hk
          have := q6 k t (by rw [x3]; exact hk) ht
          have hrk : 3 ≤ rR ν 2 k ∧ rR ν 2 k ≤ 7 := q1.1 k (by omega)
          rw [u _ (by omega), ← this]
          show rI (wI (wI (wI ν 1 3 _) 1 5 _) 1 6 _) (rR ν 2 k) t = rI ν (rR ν 2 k) t
          rw [rI_wI, if_neg (by omega), rI_wI, if_neg (by omega), rI_wI, if_neg (by omega)]
        · simp [rI_wI, visF]; omega
        · simp [rI_wI, visF]; omega
        · intro k hk j
          rw [rI_wI, if_neg (by omega), rI_wI, if_neg (by omega), rI_wI, if_neg (by omega)]
          exact g4.1 k (by omega) j
        · intro k j _; exact g4.2 k j)
      have c3 := g1.2.2.2.1
      rw [e39] at g2
      rw [e40] at g3
      apply hV [] 40
      simp only [InR, InL, inb, Int.toNat_natCast, wp1, wpc_z, wpc_s, stp_iconst, stp_bipush, stp_sipush, stp_lconst, stp_iload_n, stp_iload, stp_lload_n, stp_lload, stp_aload_n, stp_aload, stp_istore_n, stp_istore, stp_lstore_n, stp_lstore, stp_astore_n, stp_astore, stp_iinc, stp_iadd, stp_isub, stp_imul, stp_ineg, stp_idiv, stp_irem, stp_ladd, stp_lmul, stp_ldiv, stp_lrem, stp_ishl, stp_ishr, stp_iushr, stp_iand, stp_ior, stp_i2l, stp_i2b, stp_i2s, stp_lcmp, stp_dup, stp_dup2, stp_pop, stp_ifCond, stp_if_icmp, stp_goto, stp_tableswitch, stp_lookupswitch, stp_ldc, stp_ldc_w, stp_ldc2_w, stp_getstatic, stp_getfield, stp_putfield, stp_iaload, stp_baload, stp_iastore, stp_bastore, stp_aaload, stp_aastore, stp_invokevirtual, stp_invokestatic, stp_ireturn, stp_lreturn, stp_return_, lg, lset, okl, spl, wd, c1, cnd, tg, swT, swL, f4_0, f4_1, f4_2, f4_3, f2_0, f2_1, List.mem_cons, List.not_mem_nil, List.length_cons, List.length_nil, List.cons_append, List.nil_append, Nat.reduceAdd, Nat.reduceMul, Nat.reduceLT, Nat.reduceEqDiff, Nat.reduceLeDiff, Int.reduceAdd, Int.reduceNeg, Int.reduceToNat, Int.cast_ofNat_Int, Int.reduceNatCast, Int.toNat_zero, Int.toNat_one, Int.reduceLE, Int.reduceLT, Int.reduceEq, Int.zero_add, Int.add_zero, or_false, false_or, or_true, true_or, and_true, true_and, and_false, false_and, reduceIte, not_true_eq_false, not_false_eq_true, forall_const, false_implies, true_implies, implies_true, ne_eq, reduceCtorEq, List.all_cons, List.all_nil, Bool.and_true, Bool.and_self, decide_eq_true_eq, decide_true, dX5_visits_0, dX5_visits_1, dX5_visits_2, dX5_visits_4, dX5_visits_7, dX5_visits_10, dX5_visits_11, dX5_visits_12, dX5_visits_13, dX5_visits_16, dX5_visits_19, dX5_visits_20, dX5_visits_21, dX5_visits_24, dX5_visits_27, dX5_visits_29, dX5_visits_30, dX5_visits_31, dX5_visits_32, dX5_visits_33, dX5_visits_34, dX5_visits_35, dX5_visits_36, dX5_visits_39, dX5_visits_40, dX5_visits_41, dX5_visits_44, dX5_visits_45, dX5_visits_48, dX5_visits_49, dX5_visits_50, dX5_visits_53, dX5_visits_56, dX5_visits_57, dX5_visits_60, dX5_visits_63, dX5_visits_64, FX5_10, FX5_94, G_X5_visits_52, G_X5_visits_140, G_X5_visits_133, kd_0, kd_1, T1_cut, c3, g2, g3]
      have := x1.2.2.1
      repeat' (first | exact trivial | omega | (with_reducible assumption) | exact absurd trivial (by with_reducible assumption) | contradiction | apply And.intro | intro _)) n' 0 (by omega) μ (GR.rf hR)
    simp only [sS] at h
    apply hV [34] 60
    simp only [InR, InL, inb, Int.toNat_natCast, wp1, wpc_z, wpc_s, stp_iconst, stp_bipush, stp_sipush, stp_lconst, stp_iload_n, stp_iload, stp_lload_n, stp_lload, stp_aload_n, stp_aload, stp_istore_n, stp_istore, stp_lstore_n, stp_lstore, stp_astore_n, stp_astore, stp_iinc, stp_iadd, stp_isub, stp_imul, stp_ineg, stp_idiv, stp_irem, stp_ladd, stp_lmul, stp_ldiv, stp_lrem, stp_ishl, stp_ishr, stp_iushr, stp_iand, stp_ior, stp_i2l, stp_i2b, stp_i2s, stp_lcmp, stp_dup, stp_dup2, stp_pop, stp_ifCond, stp_if_icmp, stp_goto, stp_tableswitch, stp_lookupswitch, stp_ldc, stp_ldc_w, stp_ldc2_w, stp_getstatic, stp_getfield, stp_putfield, stp_iaload, stp_baload, stp_iastore, stp_bastore, stp_aaload, stp_aastore, stp_invokevirtual, stp_invokestatic, stp_ireturn, stp_lreturn, stp_return_, lg, lset, okl, spl, wd, c1, cnd, tg, swT, swL, f4_0, f4_1, f4_2, f4_3, f2_0, f2_1, List.mem_cons, List.not_mem_nil, List.length_cons, List.length_nil, List.cons_append, List.nil_append, Nat.reduceAdd, Nat.reduceMul, Nat.reduceLT, Nat.reduceEqDiff, Nat.reduceLeDiff, Int.reduceAdd, Int.reduceNeg, Int.reduceToNat, Int.cast_ofNat_Int, Int.reduceNatCast, Int.toNat_zero, Int.toNat_one, Int.reduceLE, Int.reduceLT, Int.reduceEq, Int.zero_add, Int.add_zero, or_false, false_or, or_true, true_or, and_true, true_and, and_false, false_and, reduceIte, not_true_eq_false, not_false_eq_true, forall_const, false_implies, true_implies, implies_true, ne_eq, reduceCtorEq, List.all_cons, List.all_nil, Bool.and_true, Bool.and_self, decide_eq_true_eq, decide_true, dX5_visits_0, dX5_visits_1, dX5_visits_2, dX5_visits_4, dX5_visits_7, dX5_visits_10, dX5_visits_11, dX5_visits_12, dX5_visits_13, dX5_visits_16, dX5_visits_19, dX5_visits_20, dX5_visits_21, dX5_visits_24, dX5_visits_27, dX5_visits_29, dX5_visits_30, dX5_visits_31, dX5_visits_32, dX5_visits_33, dX5_visits_34, dX5_visits_35, dX5_visits_36, dX5_visits_39, dX5_visits_40, dX5_visits_41, dX5_visits_44, dX5_visits_45, dX5_visits_48, dX5_visits_49, dX5_visits_50, dX5_visits_53, dX5_visits_56, dX5_visits_57, dX5_visits_60, dX5_visits_63, dX5_visits_64, FX5_10, FX5_94, G_X5_visits_52, G_X5_visits_140, G_X5_visits_133, kd_0, kd_1, T5_isOutside, r5]
    repeat' (first | exact trivial | omega | (with_reducible assumption) | exact absurd trivial (by with_reducible assumption) | contradiction | apply And.intro | intro _)
  · have hB := hB hc
    unfold visOK at hc
    unfold visR at hB
    apply hV [30] 60
    simp only [InR, InL, inb, Int.toNat_natCast, wp1, wpc_z, wpc_s, stp_iconst, stp_bipush, stp_sipush, stp_lconst, stp_iload_n, stp_iload, stp_lload_n, stp_lload, stp_aload_n, stp_aload, stp_istore_n, stp_istore, stp_lstore_n, stp_lstore, stp_astore_n, stp_astore, stp_iinc, stp_iadd, stp_isub, stp_imul, stp_ineg, stp_idiv, stp_irem, stp_ladd, stp_lmul, stp_ldiv, stp_lrem, stp_ishl, stp_ishr, stp_iushr, stp_iand, stp_ior, stp_i2l, stp_i2b, stp_i2s, stp_lcmp, stp_dup, stp_dup2, stp_pop, stp_ifCond, stp_if_icmp, stp_goto, stp_tableswitch, stp_lookupswitch, stp_ldc, stp_ldc_w, stp_ldc2_w, stp_getstatic, stp_getfield, stp_putfield, stp_iaload, stp_baload, stp_iastore, stp_bastore, stp_aaload, stp_aastore, stp_invokevirtual, stp_invokestatic, stp_ireturn, stp_lreturn, stp_return_, lg, lset, okl, spl, wd, c1, cnd, tg, swT, swL, f4_0, f4_1, f4_2, f4_3, f2_0, f2_1, List.mem_cons, List.not_mem_nil, List.length_cons, List.length_nil, List.cons_append, List.nil_append, Nat.reduceAdd, Nat.reduceMul, Nat.reduceLT, Nat.reduceEqDiff, Nat.reduceLeDiff, Int.reduceAdd, Int.reduceNeg, Int.reduceToNat, Int.cast_ofNat_Int, Int.reduceNatCast, Int.toNat_zero, Int.toNat_one, Int.reduceLE, Int.reduceLT, Int.reduceEq, Int.zero_add, Int.add_zero, or_false, false_or, or_true, true_or, and_true, true_and, and_false, false_and, reduceIte, not_true_eq_false, not_false_eq_true, forall_const, false_implies, true_implies, implies_true, ne_eq, reduceCtorEq, List.all_cons, List.all_nil, Bool.and_true, Bool.and_self, decide_eq_true_eq, decide_true, dX5_visits_0, dX5_visits_1, dX5_visits_2, dX5_visits_4, dX5_visits_7, dX5_visits_10, dX5_visits_11, dX5_visits_12, dX5_visits_13, dX5_visits_16, dX5_visits_19, dX5_visits_20, dX5_visits_21, dX5_visits_24, dX5_visits_27, dX5_visits_29, dX5_visits_30, dX5_visits_31, dX5_visits_32, dX5_visits_33, dX5_visits_34, dX5_visits_35, dX5_visits_36, dX5_visits_39, dX5_visits_40, dX5_visits_41, dX5_visits_44, dX5_visits_45, dX5_visits_48, dX5_visits_49, dX5_visits_50, dX5_visits_53, dX5_visits_56, dX5_visits_57, dX5_visits_60, dX5_visits_63, dX5_visits_64, FX5_10, FX5_94, G_X5_visits_52, G_X5_visits_140, G_X5_visits_133, kd_0, kd_1, T5_isOutside, r5]
    by_cases z : 0 ≤ n ∧ n ≤ 100
    · rw [if_pos z, if_neg (by omega)] at hB
      repeat' (first | exact trivial | omega | (with_reducible assumption) | exact absurd trivial (by with_reducible assumption) | contradiction | apply And.intro | intro _)
    · rw [if_neg z] at hB
      repeat' (first | exact trivial | omega | (with_reducible assumption) | exact absurd trivial (by with_reducible assumption) | contradiction | apply And.intro | intro _)
theorem good_X5_visits (l : Launch) : Good l 4 yX5_visits cX5_visits 4 (some .int) T5_visits := by
  refine Good.mk 1 (by decide) rfl (by simp [retOK]) FOK5 COK5 (gk_X5_visits l) ?_ ?_
  · intro a μ K h
    unfold T5_visits at h
    split at h
    · simp [entl]
    · exact h.elim
  · intro a μ K V hV h
    unfold T5_visits at h
    split at h
    · exact body_X5_visits _ _ μ K V hV h
    · exact h.elim

def T6_visits : TT := fun a μ K => match a with
  | [.inr (.inr o), .inl n] => o = 66 ∧ (InR n ∧ MOK μ ∧ (visOK (rI μ 67) n → ∀ ν, MS μ ν (visF (rI μ 67) n.toNat) → K [.inl (visR (rI μ 67) n)] ν) ∧ (¬ visOK (rI μ 67) n → K [.inl (visR (rI μ 67) n)] μ))
  | _ => False
theorem rec_X6_visits : ∀ a μ K, T6_visits a μ K → ∃ k r, a = .inr (.inr k) :: r ∧ kd k = 6 := by
  intro a μ K h
  unfold T6_visits at h
  split at h
  · exact ⟨_, _, rfl, by rw [h.1]; rfl⟩
  · exact h.elim
def GL_X6_visits : List (Nat × Nat × Bool × TT) := [(59, 3, true, T6_in), (174, 1, false, T6_starts), (200, 2, false, T6_visitsGo), (192, 1, false, T6_settles)]
def G_X6_visits : Nat → Option (Nat × Bool × TT) := fun i => GL_X6_visits.lookup i
theorem G_X6_visits_59 : G_X6_visits 59 = some (3, true, T6_in) := rfl
theorem G_X6_visits_174 : G_X6_visits 174 = some (1, false, T6_starts) := rfl
theorem G_X6_visits_200 : G_X6_visits 200 = some (2, false, T6_visitsGo) := rfl
theorem G_X6_visits_192 : G_X6_visits 192 = some (1, false, T6_settles) := rfl
theorem gk_X6_visits (l : Launch) : ∀ i n b T, G_X6_visits i = some (n, b, T) → CallOK l 5 RX6 i n b T := by
  intro i n b T h
  have hm : (i, n, b, T) ∈ GL_X6_visits := lk_mem h
  simp only [GL_X6_visits, List.mem_cons, List.not_mem_nil, or_false, Prod.mk.injEq] at hm
  rcases hm with ⟨rfl, rfl, rfl, rfl⟩ | ⟨rfl, rfl, rfl, rfl⟩ | ⟨rfl, rfl, rfl, rfl⟩ | ⟨rfl, rfl, rfl, rfl⟩
  · exact CallOK.S (d := 5) (own := RX6) (i := 59) (n := 3) (good_X6_in l) (by decide) (by decide) (mg 708 (by decide +kernel) (by decide +kernel)) (mg 709 (by decide +kernel) (by decide +kernel)) (mg 7 (by decide +kernel) (by decide +kernel)) (mg 710 (by decide +kernel) (by decide +kernel)) (by decide +kernel)
  · exact CallOK.V (d := 5) (own := RX6) (i := 174) (n := 0) (ci := 6) (good_X6_starts l) (by decide) (by decide) rfl (by decide) rec_X6_starts (mg 769 (by decide +kernel) (by decide +kernel)) (mg 771 (by decide +kernel) (by decide +kernel)) (mgs 33 (by decide +kernel) (by decide +kernel)) (mg 7 (by decide +kernel) (by decide +kernel)) (mg 772 (by decide +kernel) (by decide +kernel)) (by decide +kernel)
  · exact CallOK.V (d := 5) (own := RX6) (i := 200) (n := 1) (ci := 6) (good_X6_visitsGo l) (by decide) (by decide) rfl (by decide) rec_X6_visitsGo (mg 849 (by decide +kernel) (by decide +kernel)) (mg 851 (by decide +kernel) (by decide +kernel)) (mgs 45 (by decide +kernel) (by decide +kernel)) (mg 7 (by decide +kernel) (by decide +kernel)) (mg 852 (by decide +kernel) (by decide +kernel)) (by decide +kernel)
  · exact CallOK.V (d := 5) (own := RX6) (i := 192) (n := 0) (ci := 6) (good_X6_settles l) (by decide) (by decide) rfl (by decide) rec_X6_settles (mg 832 (by decide +kernel) (by decide +kernel)) (mg 834 (by decide +kernel) (by decide +kernel)) (mgs 43 (by decide +kernel) (by decide +kernel)) (mg 7 (by decide +kernel) (by decide +kernel)) (mg 835 (by decide +kernel) (by decide +kernel)) (by decide +kernel)
set_option maxRecDepth 20000 in
set_option maxHeartbeats 4000000 in
theorem body_X6_visits (o : Nat) (n : Int) (μ : Mem) (K : List AV → Mem → Prop) (V : Nat → List (Option AV) → List AV → Mem → Prop) (hV : Clos FX6 CX6 G_X6_visits 1 K cX6_visits V) (hT : o = 66 ∧ (InR n ∧ MOK μ ∧ (visOK (rI μ 67) n → ∀ ν, MS μ ν (visF (rI μ 67) n.toNat) → K [.inl (visR (rI μ 67) n)] ν) ∧ (¬ visOK (rI μ 67) n → K [.inl (visR (rI μ 67) n)] μ))) : V 0 [some (.inr (.inr o)), some (.inl n)] [] μ := by
  simp only [InR] at hT
  obtain ⟨rfl, hn, hQ, hK, hB⟩ := hT
  obtain ⟨hW, h38, h39, h40⟩ := hQ
  have h35 := hW.1
  have h37 := hW.2.2.1
  by_cases hc : visOK (rI μ 67) n
  · have hK := hK hc
    unfold visOK at hc
    unfold visR at hK
    rw [if_pos hc.1, if_pos hc.2] at hK
    have g38 : rI (stM μ) 68 38 = rI μ 67 38 := st_68 μ (by omega)
    have g39 : rI (stM μ) 68 39 = rI μ 67 39 := st_68 μ (by omega)
    have g40 : rI (stM μ) 68 40 = rI μ 67 40 := st_68 μ (by omega)
    have g13 : rI (stM μ) 66 13 = -4 := by rw [st_66]; simp
    have hW2 : WF (rI (stM μ) 68) := hW.of (st_E μ).sy
    have fin : ∀ ν, MGR (psd (-4)) (stM μ) ν n.toNat → K [.inl (rI (wB ν 67 60 (rI ν 68)) 66 14)] (wB ν 67 60 (rI ν 68)) := by
      intro ν hν
      have hν' := hν
      obtain ⟨m1, m2, m3, m4, m5⟩ := mrun (st_E μ) hW (by rw [st_66]; simp) (by rw [st_66]; simp) (by rw [st_66]; simp) hν
      obtain ⟨p1, p2, p3⟩ := nx_psd4 hW n.toNat
      rw [p1] at m4
      rw [p2] at m1
      obtain ⟨c1', c2', c3'⟩ := nx_congr (psd_congr (-4)) hW2 (st_E μ) n.toNat
      obtain ⟨a1, a2, a3, a4, -⟩ := hν
      rw [g39, c2', p2] at a2
      rw [g40, c3', p3] at a3
      have hMF := (st_MF μ).tr hν'.mf
      rw [show rI (wB ν 67 60 (rI ν 68)) 66 14 = sS yes (rI μ 67) n.toNat by rw [rI_wB, if_neg (by omega), m1]]
      refine hK _ ⟨?_, ?_, ?_, ?_, ?_⟩
      · intro j hj
        rw [rI_wB, if_pos ⟨rfl, hj⟩]
        unfold visF
        by_cases z : j < 39
        · rw [if_pos z]; exact m4 j z
        · rw [if_neg z]
          by_cases z2 : j = 39
          · rw [if_pos z2, z2]; exact a2
          · rw [if_neg z2]
            by_cases z3 : j = 40
            · rw [if_pos z3, z3]; exact a3
            · rw [if_neg z3, a4 j (by omega), st_68 μ hj]
      · intro j hj
        rw [rI_wB, if_neg (by omega)]
        exact hMF.1 67 (by omega) (by omega) (by omega) (by omega) (by omega) j
      · intro k a b c d e f j
        rw [rI_wB, if_neg (fun z => b z.1)]
        exact hMF.1 k a c d e f j
      · intro j hj
        rw [rI_wB, if_neg (by omega)]
        exact hMF.2.1 j hj
      · intro k j; exact hMF.2.2 k j
    apply hV [] 60
    simp only [InR, InL, inb, Int.toNat_natCast, wp1, wpc_z, wpc_s, stp_iconst, stp_bipush, stp_sipush, stp_lconst, stp_iload_n, stp_iload, stp_lload_n, stp_lload, stp_aload_n, stp_aload, stp_istore_n, stp_istore, stp_lstore_n, stp_lstore, stp_astore_n, stp_astore, stp_iinc, stp_iadd, stp_isub, stp_imul, stp_ineg, stp_idiv, stp_irem, stp_ladd, stp_lmul, stp_ldiv, stp_lrem, stp_ishl, stp_ishr, stp_iushr, stp_iand, stp_ior, stp_i2l, stp_i2b, stp_i2s, stp_lcmp, stp_dup, stp_dup2, stp_pop, stp_ifCond, stp_if_icmp, stp_goto, stp_tableswitch, stp_lookupswitch, stp_ldc, stp_ldc_w, stp_ldc2_w, stp_getstatic, stp_getfield, stp_putfield, stp_iaload, stp_baload, stp_iastore, stp_bastore, stp_aaload, stp_aastore, stp_invokevirtual, stp_invokestatic, stp_ireturn, stp_lreturn, stp_return_, lg, lset, okl, spl, wd, c1, cnd, tg, swT, swL, f4_0, f4_1, f4_2, f4_3, f2_0, f2_1, List.mem_cons, List.not_mem_nil, List.length_cons, List.length_nil, List.cons_append, List.nil_append, Nat.reduceAdd, Nat.reduceMul, Nat.reduceLT, Nat.reduceEqDiff, Nat.reduceLeDiff, Int.reduceAdd, Int.reduceNeg, Int.reduceToNat, Int.cast_ofNat_Int, Int.reduceNatCast, Int.toNat_zero, Int.toNat_one, Int.reduceLE, Int.reduceLT, Int.reduceEq, Int.zero_add, Int.add_zero, or_false, false_or, or_true, true_or, and_true, true_and, and_false, false_and, reduceIte, not_true_eq_false, not_false_eq_true, forall_const, false_implies, true_implies, implies_true, ne_eq, reduceCtorEq, List.all_cons, List.all_nil, Bool.and_true, Bool.and_self, decide_eq_true_eq, decide_true, dX6_visits_0, dX6_visits_1, dX6_visits_2, dX6_visits_3, dX6_visits_6, dX6_visits_9, dX6_visits_12, dX6_visits_13, dX6_visits_14, dX6_visits_15, dX6_visits_18, dX6_visits_20, dX6_visits_21, dX6_visits_22, dX6_visits_23, dX6_visits_26, dX6_visits_29, dX6_visits_31, dX6_visits_32, dX6_visits_33, dX6_visits_36, dX6_visits_37, dX6_visits_38, dX6_visits_41, dX6_visits_42, dX6_visits_45, dX6_visits_46, dX6_visits_49, CX6_198, FX6_7, FX6_132, G_X6_visits_59, G_X6_visits_174, G_X6_visits_200, G_X6_visits_192, kd_66, kd_67, ln_67, T6_in, T6_starts, T6_visitsGo, T6_settles, g13, g38, g39, g40]
    repeat' (first | exact trivial | omega | (with_reducible assumption) | exact absurd trivial (by with_reducible assumption) | contradiction | apply And.intro | intro _)
    all_goals exact fin _ (by assumption)
  · have hB := hB hc
    unfold visOK at hc
    unfold visR at hB
    apply hV [32] 60
    simp only [InR, InL, inb, Int.toNat_natCast, wp1, wpc_z, wpc_s, stp_iconst, stp_bipush, stp_sipush, stp_lconst, stp_iload_n, stp_iload, stp_lload_n, stp_lload, stp_aload_n, stp_aload, stp_istore_n, stp_istore, stp_lstore_n, stp_lstore, stp_astore_n, stp_astore, stp_iinc, stp_iadd, stp_isub, stp_imul, stp_ineg, stp_idiv, stp_irem, stp_ladd, stp_lmul, stp_ldiv, stp_lrem, stp_ishl, stp_ishr, stp_iushr, stp_iand, stp_ior, stp_i2l, stp_i2b, stp_i2s, stp_lcmp, stp_dup, stp_dup2, stp_pop, stp_ifCond, stp_if_icmp, stp_goto, stp_tableswitch, stp_lookupswitch, stp_ldc, stp_ldc_w, stp_ldc2_w, stp_getstatic, stp_getfield, stp_putfield, stp_iaload, stp_baload, stp_iastore, stp_bastore, stp_aaload, stp_aastore, stp_invokevirtual, stp_invokestatic, stp_ireturn, stp_lreturn, stp_return_, lg, lset, okl, spl, wd, c1, cnd, tg, swT, swL, f4_0, f4_1, f4_2, f4_3, f2_0, f2_1, List.mem_cons, List.not_mem_nil, List.length_cons, List.length_nil, List.cons_append, List.nil_append, Nat.reduceAdd, Nat.reduceMul, Nat.reduceLT, Nat.reduceEqDiff, Nat.reduceLeDiff, Int.reduceAdd, Int.reduceNeg, Int.reduceToNat, Int.cast_ofNat_Int, Int.reduceNatCast, Int.toNat_zero, Int.toNat_one, Int.reduceLE, Int.reduceLT, Int.reduceEq, Int.zero_add, Int.add_zero, or_false, false_or, or_true, true_or, and_true, true_and, and_false, false_and, reduceIte, not_true_eq_false, not_false_eq_true, forall_const, false_implies, true_implies, implies_true, ne_eq, reduceCtorEq, List.all_cons, List.all_nil, Bool.and_true, Bool.and_self, decide_eq_true_eq, decide_true, dX6_visits_0, dX6_visits_1, dX6_visits_2, dX6_visits_3, dX6_visits_6, dX6_visits_9, dX6_visits_12, dX6_visits_13, dX6_visits_14, dX6_visits_15, dX6_visits_18, dX6_visits_20, dX6_visits_21, dX6_visits_22, dX6_visits_23, dX6_visits_26, dX6_visits_29, dX6_visits_31, dX6_visits_32, dX6_visits_33, dX6_visits_36, dX6_visits_37, dX6_visits_38, dX6_visits_41, dX6_visits_42, dX6_visits_45, dX6_visits_46, dX6_visits_49, CX6_198, FX6_7, FX6_132, G_X6_visits_59, G_X6_visits_174, G_X6_visits_200, G_X6_visits_192, kd_66, kd_67, ln_67, T6_in]
    by_cases z : 0 ≤ n ∧ n ≤ 100
    · rw [if_pos z, if_neg (by omega)] at hB
      repeat' (first | exact trivial | omega | (with_reducible assumption) | exact absurd trivial (by with_reducible assumption) | contradiction | apply And.intro | intro _)
    · rw [if_neg z] at hB
      repeat' (first | exact trivial | omega | (with_reducible assumption) | exact absurd trivial (by with_reducible assumption) | contradiction | apply And.intro | intro _)
theorem good_X6_visits (l : Launch) : Good l 5 yX6_visits cX6_visits 2 (some .int) T6_visits := by
  refine Good.mk 1 (by decide) rfl (by simp [retOK]) FOK6 COK6 (gk_X6_visits l) ?_ ?_
  · intro a μ K h
    unfold T6_visits at h
    split at h
    · simp [entl]
    · exact h.elim
  · intro a μ K V hV h
    unfold T6_visits at h
    split at h
    · exact body_X6_visits _ _ μ K V hV h
    · exact h.elim

