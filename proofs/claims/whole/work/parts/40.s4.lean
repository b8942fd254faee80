/-! both: change -/
def swpF (f : Nat → Int) (i k : Nat) : Nat → Int := fun x => if x < 35 then (if x / 7 = i then f (7 * k + x % 7) else if x / 7 = k then f (7 * i + x % 7) else f x) else f x
theorem swp_o (f : Nat → Int) (i k : Nat) {x : Nat} (h : 35 ≤ x) : swpF f i k x = f x := if_neg (by omega)
theorem swp_q (f : Nat → Int) (i k j c : Nat) (hj : j < 5) (hc : c < 7) : swpF f i k (7 * j + c) = if j = i then f (7 * k + c) else if j = k then f (7 * i + c) else f (7 * j + c) := by
  unfold swpF
  rw [if_pos (by omega), show (7 * j + c) / 7 = j by omega, show (7 * j + c) % 7 = c by omega]
theorem swp_SOK {f : Nat → Int} {i k : Nat} {j j' : Nat} (hj : j < 5) (h : SOK f j') (e : ∀ c, c < 7 → swpF f i k (7 * j + c) = f (7 * j' + c)) : SOK (swpF f i k) j := by
  unfold SOK at h ⊢
  have e0 := e 0 (by omega)
  rw [Nat.add_zero, Nat.add_zero] at e0
  rw [e0, e 1 (by omega), e 2 (by omega), e 3 (by omega), e 4 (by omega), e 5 (by omega), e 6 (by omega), swp_o f i k (by omega)]
  exact h
theorem WF.swp {f : Nat → Int} (h : WF f) {i k : Nat} (hi : (i : Int) < f 35) (hk : (k : Int) < f 35) : WF (swpF f i k) := by
  obtain ⟨h1, h2, h3, h4⟩ := h
  refine ⟨by rw [swp_o _ _ _ (by omega)]; exact h1, by rw [swp_o _ _ _ (by omega), swp_o _ _ _ (by omega)]; exact h2, by rw [swp_o _ _ _ (by omega), swp_o _ _ _ (by omega)]; exact h3, fun j hj => ?_⟩
  rw [swp_o _ _ _ (by omega)] at hj
  by_cases e : j = i
  · exact swp_SOK (by omega) (h4 k hk) (fun c hc => by rw [swp_q _ _ _ _ _ (by omega) hc, if_pos e])
  · by_cases e2 : j = k
    · exact swp_SOK (by omega) (h4 i hi) (fun c hc => by rw [swp_q _ _ _ _ _ (by omega) hc, if_neg e, if_pos e2])
    · exact swp_SOK (by omega) (h4 j hj) (fun c hc => by rw [swp_q _ _ _ _ _ (by omega) hc, if_neg e, if_neg e2])
theorem RG.swp {μ : Mem} {B : Nat} {f : Nat → Int} (h : RG μ B f) (h35 : f 35 ≤ 5) {i k : Nat} (hi : (i : Int) < f 35) (hk : (k : Int) < f 35) (hik : i ≠ k) : RG (wR (wR μ (B + 1) i (rR μ (B + 1) k)) (B + 1) k (rR μ (B + 1) i)) B (swpF f i k) := by
  obtain ⟨r1, r2, r3, r4, r5, r6⟩ := h
  have ex : ∀ j, rR (wR (wR μ (B + 1) i (rR μ (B + 1) k)) (B + 1) k (rR μ (B + 1) i)) (B + 1) j = if j = k then rR μ (B + 1) i else if j = i then rR μ (B + 1) k else rR μ (B + 1) j := by
    intro j
    rw [rR_wR, rR_wR]
    simp only [true_and]
  refine ⟨⟨fun j hj => ?_, fun a b ha hb => ?_⟩, ?_, ?_, ?_, ?_, fun j c hj hc => ?_⟩
  · rw [ex]
    split
    · exact r1.1 i (by omega)
    · split
      · exact r1.1 k (by omega)
      · exact r1.1 j hj
  · rw [ex, ex]
    intro z
    have inj := r1.2
    by_cases a1 : a = k
    · rw [if_pos a1] at z
      by_cases b1 : b = k
      · omega
      · rw [if_neg b1] at z
        by_cases b2 : b = i
        · rw [if_pos b2] at z; have := inj i k (by omega) (by omega) z; omega
        · rw [if_neg b2] at z; have := inj i b (by omega) hb z; omega
    · rw [if_neg a1] at z
      by_cases a2 : a = i
      · rw [if_pos a2] at z
        by_cases b1 : b = k
        · rw [if_pos b1] at z; have := inj k i (by omega) (by omega) z; omega
        · rw [if_neg b1] at z
          by_cases b2 : b = i
          · omega
          · rw [if_neg b2] at z; have := inj k b (by omega) hb z; omega
      · rw [if_neg a2] at z
        by_cases b1 : b = k
        · rw [if_pos b1] at z; have := inj a i ha (by omega) z; omega
        · rw [if_neg b1] at z
          by_cases b2 : b = i
          · rw [if_pos b2] at z; have := inj a k ha (by omega) z; omega
          · rw [if_neg b2] at z; exact inj a b ha hb z
  · rw [swp_o _ _ _ (by omega)]; exact r2
  · rw [swp_o _ _ _ (by omega), swp_o _ _ _ (by omega)]; exact r3
  · rw [swp_o _ _ _ (by omega)]; exact r4
  · rw [swp_o _ _ _ (by omega)]; exact r5
  · rw [swp_o _ _ _ (by omega)] at hj
    rw [ex, swp_q _ _ _ _ _ (by omega) hc]
    by_cases e : j = i
    · rw [if_neg (by omega), if_pos e, if_pos e]; exact r6 k c hk hc
    · rw [if_neg e, if_neg e]
      by_cases e2 : j = k
      · rw [if_pos e2, if_pos e2]; exact r6 i c hi hc
      · rw [if_neg e2, if_neg e2]; exact r6 j c hj hc
def chgOK (f : Nat → Int) (i k : Int) : Prop := (0 ≤ i ∧ i < f 35) ∧ (0 ≤ k ∧ k < f 35) ∧ i ≠ k
def T5_change : TT := fun a μ K => match a with
  | [.inr (.inr o), .inl i, .inl k] => o = 0 ∧ (InR i ∧ InR k ∧ ∃ f, RG μ 1 f ∧ (0 ≤ f 35 ∧ f 35 ≤ 5) ∧ rI μ 1 5 = f 39 ∧ rI μ 1 6 = f 40 ∧ (chgOK f i k → ∀ ν, CS μ ν (swpF f i.toNat k.toNat) → K [.inl (f 35)] ν) ∧ (¬ chgOK f i k → K [.inl (-1)] μ))
  | _ => False
theorem rec_X5_change : ∀ a μ K, T5_change a μ K → ∃ k r, a = .inr (.inr k) :: r ∧ kd k = 5 := by
  intro a μ K h
  unfold T5_change at h
  split at h
  · exact ⟨_, _, rfl, by rw [h.1]; rfl⟩
  · exact h.elim
def GL_X5_change : List (Nat × Nat × Bool × TT) := [(111, 2, false, T1_has), (136, 3, false, T1_exchange)]
def G_X5_change : Nat → Option (Nat × Bool × TT) := fun i => GL_X5_change.lookup i
theorem G_X5_change_111 : G_X5_change 111 = some (2, false, T1_has) := rfl
theorem G_X5_change_136 : G_X5_change 136 = some (3, false, T1_exchange) := rfl
theorem gk_X5_change (l : Launch) : ∀ i n b T, G_X5_change i = some (n, b, T) → CallOK l 1 RX5 i n b T := by
  intro i n b T h
  have hm : (i, n, b, T) ∈ GL_X5_change := lk_mem h
  simp only [GL_X5_change, List.mem_cons, List.not_mem_nil, or_false, Prod.mk.injEq] at hm
  rcases hm with ⟨rfl, rfl, rfl, rfl⟩ | ⟨rfl, rfl, rfl, rfl⟩
  · exact CallOK.V (d := 1) (own := RX5) (i := 111) (n := 1) (ci := 1) (good_X1_has l) (by decide) (by decide) rfl (by decide) rec_X1_has (mg 351 (by decide +kernel) (by decide +kernel)) (mg 313 (by decide +kernel) (by decide +kernel)) (mg 314 (by decide +kernel) (by decide +kernel)) (mg 2 (by decide +kernel) (by decide +kernel)) (mg 315 (by decide +kernel) (by decide +kernel)) (by decide +kernel)
  · exact CallOK.V (d := 1) (own := RX5) (i := 136) (n := 2) (ci := 1) (good_X1_exchange l) (by decide) (by decide) rfl (by decide) rec_X1_exchange (mg 384 (by decide +kernel) (by decide +kernel)) (mg 385 (by decide +kernel) (by decide +kernel)) (mg 386 (by decide +kernel) (by decide +kernel)) (mg 2 (by decide +kernel) (by decide +kernel)) (mg 387 (by decide +kernel) (by decide +kernel)) (by decide +kernel)
set_option maxRecDepth 20000 in
set_option maxHeartbeats 4000000 in
theorem body_X5_change (o : Nat) (i : Int) (k : Int) (μ : Mem) (K : List AV → Mem → Prop) (V : Nat → List (Option AV) → List AV → Mem → Prop) (hV : Clos FX5 CX5 G_X5_change 1 K cX5_change V) (hT : o = 0 ∧ (InR i ∧ InR k ∧ ∃ f, RG μ 1 f ∧ (0 ≤ f 35 ∧ f 35 ≤ 5) ∧ rI μ 1 5 = f 39 ∧ rI μ 1 6 = f 40 ∧ (chgOK f i k → ∀ ν, CS μ ν (swpF f i.toNat k.toNat) → K [.inl (f 35)] ν) ∧ (¬ chgOK f i k → K [.inl (-1)] μ))) : V 0 [some (.inr (.inr o)), some (.inl i), some (.inl k)] [] μ := by
  simp only [InR] at hT
  obtain ⟨rfl, hi, hk, f, hR, h35, e39, e40, hK, hB⟩ := hT
  have r35 := hR.2.1
  by_cases hc : chgOK f i k
  · have hK := hK hc
    unfold chgOK at hc
    obtain ⟨i', rfl⟩ := Int.eq_ofNat_of_zero_le hc.1.1
    obtain ⟨k', rfl⟩ := Int.eq_ofNat_of_zero_le hc.2.1.1
    rw [Int.toNat_natCast, Int.toNat_natCast] at hK
    have hs := hR.swp h35.2 (i := i') (k := k') (by omega) (by omega) (by omega)
    have hP := hR.1
    have hfin := hK (wR (wR μ 2 i' (rR μ 2 k')) 2 k' (rR μ 2 i')) ⟨hs, by rw [swp_o _ _ _ (by omega)]; exact e39, by rw [swp_o _ _ _ (by omega)]; exact e40, fun _ _ _ => rfl, fun a j ha => by rw [rR_wR, if_neg (fun z => ha z.1), rR_wR, if_neg (fun z => ha z.1)]⟩
    apply hV [] 60
    simp only [InR, InL, inb, Int.toNat_natCast, wp1, wpc_z, wpc_s, stp_iconst, stp_bipush, stp_sipush, stp_lconst, stp_iload_n, stp_iload, stp_lload_n, stp_lload, stp_aload_n, stp_aload, stp_istore_n, stp_istore, stp_lstore_n, stp_lstore, stp_astore_n, stp_astore, stp_iinc, stp_iadd, stp_isub, stp_imul, stp_ineg, stp_idiv, stp_irem, stp_ladd, stp_lmul, stp_ldiv, stp_lrem, stp_ishl, stp_ishr, stp_iushr, stp_iand, stp_ior, stp_i2l, stp_i2b, stp_i2s, stp_lcmp, stp_dup, stp_dup2, stp_pop, stp_ifCond, stp_if_icmp, stp_goto, stp_tableswitch, stp_lookupswitch, stp_ldc, stp_ldc_w, stp_ldc2_w, stp_getstatic, stp_getfield, stp_putfield, stp_iaload, stp_baload, stp_iastore, stp_bastore, stp_aaload, stp_aastore, stp_invokevirtual, stp_invokestatic, stp_ireturn, stp_lreturn, stp_return_, lg, lset, okl, spl, wd, c1, cnd, tg, swT, swL, f4_0, f4_1, f4_2, f4_3, f2_0, f2_1, List.mem_cons, List.not_mem_nil, List.length_cons, List.length_nil, List.cons_append, List.nil_append, Nat.reduceAdd, Nat.reduceMul, Nat.reduceLT, Nat.reduceEqDiff, Nat.reduceLeDiff, Int.reduceAdd, Int.reduceNeg, Int.reduceToNat, Int.cast_ofNat_Int, Int.reduceNatCast, Int.toNat_zero, Int.toNat_one, Int.reduceLE, Int.reduceLT, Int.reduceEq, Int.zero_add, Int.add_zero, or_false, false_or, or_true, true_or, and_true, true_and, and_false, false_and, reduceIte, not_true_eq_false, not_false_eq_true, forall_const, false_implies, true_implies, implies_true, ne_eq, reduceCtorEq, List.all_cons, List.all_nil, Bool.and_true, Bool.and_self, decide_eq_true_eq, decide_true, dX5_change_0, dX5_change_1, dX5_change_4, dX5_change_5, dX5_change_8, dX5_change_11, dX5_change_12, dX5_change_15, dX5_change_16, dX5_change_19, dX5_change_22, dX5_change_23, dX5_change_24, dX5_change_27, dX5_change_28, dX5_change_29, dX5_change_30, dX5_change_33, dX5_change_34, dX5_change_35, dX5_change_38, dX5_change_39, dX5_change_42, dX5_change_45, FX5_10, FX5_85, G_X5_change_111, G_X5_change_136, kd_0, kd_1, T1_has, T1_exchange, r35, rI_wR]
    have hP' : RP μ 1 := hP
    generalize RP μ 1 = P at hP' ⊢
    repeat' (first | exact trivial | omega | (with_reducible assumption) | exact absurd trivial (by with_reducible assumption) | contradiction | apply And.intro | intro _)
  · have hB := hB hc
    unfold chgOK at hc
    apply hV [29] 60
    simp only [InR, InL, inb, Int.toNat_natCast, wp1, wpc_z, wpc_s, stp_iconst, stp_bipush, stp_sipush, stp_lconst, stp_iload_n, stp_iload, stp_lload_n, stp_lload, stp_aload_n, stp_aload, stp_istore_n, stp_istore, stp_lstore_n, stp_lstore, stp_astore_n, stp_astore, stp_iinc, stp_iadd, stp_isub, stp_imul, stp_ineg, stp_idiv, stp_irem, stp_ladd, stp_lmul, stp_ldiv, stp_lrem, stp_ishl, stp_ishr, stp_iushr, stp_iand, stp_ior, stp_i2l, stp_i2b, stp_i2s, stp_lcmp, stp_dup, stp_dup2, stp_pop, stp_ifCond, stp_if_icmp, stp_goto, stp_tableswitch, stp_lookupswitch, stp_ldc, stp_ldc_w, stp_ldc2_w, stp_getstatic, stp_getfield, stp_putfield, stp_iaload, stp_baload, stp_iastore, stp_bastore, stp_aaload, stp_aastore, stp_invokevirtual, stp_invokestatic, stp_ireturn, stp_lreturn, stp_return_, lg, lset, okl, spl, wd, c1, cnd, tg, swT, swL, f4_0, f4_1, f4_2, f4_3, f2_0, f2_1, List.mem_cons, List.not_mem_nil, List.length_cons, List.length_nil, List.cons_append, List.nil_append, Nat.reduceAdd, Nat.reduceMul, Nat.reduceLT, Nat.reduceEqDiff, Nat.reduceLeDiff, Int.reduceAdd, Int.reduceNeg, Int.reduceToNat, Int.cast_ofNat_Int, Int.reduceNatCast, Int.toNat_zero, Int.toNat_one, Int.reduceLE, Int.reduceLT, Int.reduceEq, Int.zero_add, Int.add_zero, or_false, false_or, or_true, true_or, and_true, true_and, and_false, false_and, reduceIte, not_true_eq_false, not_false_eq_true, forall_const, false_implies, true_implies, implies_true, ne_eq, reduceCtorEq, List.all_cons, List.all_nil, Bool.and_true, Bool.and_self, decide_eq_true_eq, decide_true, dX5_change_0, dX5_change_1, dX5_change_4, dX5_change_5, dX5_change_8, dX5_change_11, dX5_change_12, dX5_change_15, dX5_change_16, dX5_change_19, dX5_change_22, dX5_change_23, dX5_change_24, dX5_change_27, dX5_change_28, dX5_change_29, dX5_change_30, dX5_change_33, dX5_change_34, dX5_change_35, dX5_change_38, dX5_change_39, dX5_change_42, dX5_change_45, FX5_10, FX5_85, G_X5_change_111, G_X5_change_136, kd_0, kd_1, T1_has, r35]
    repeat' (first | exact trivial | omega | (with_reducible assumption) | exact absurd trivial (by with_reducible assumption) | contradiction | apply And.intro | intro _)
theorem good_X5_change (l : Launch) : Good l 1 yX5_change cX5_change 3 (some .int) T5_change := by
  refine Good.mk 1 (by decide) rfl (by simp [retOK]) FOK5 COK5 (gk_X5_change l) ?_ ?_
  · intro a μ K h
    unfold T5_change at h
    split at h
    · simp [entl]
    · exact h.elim
  · intro a μ K V hV h
    unfold T5_change at h
    split at h
    · exact body_X5_change _ _ _ μ K V hV h
    · exact h.elim

/-- two stations trade places at hand, in the first n cells -/
def trd (μ : Mem) (i k n : Nat) : Mem := (fun a b => if a = 68 ∧ b / 7 = i ∧ b % 7 < n then μ.1 67 (7 * k + b % 7) else if a = 68 ∧ b / 7 = k ∧ b % 7 < n then μ.1 67 (7 * i + b % 7) else μ.1 a b, μ.2)
theorem rI_trd (μ : Mem) (i k n a b : Nat) : rI (trd μ i k n) a b = if a = 68 ∧ b / 7 = i ∧ b % 7 < n then rI μ 67 (7 * k + b % 7) else if a = 68 ∧ b / 7 = k ∧ b % 7 < n then rI μ 67 (7 * i + b % 7) else rI μ a b := rfl
theorem trd_0 (μ : Mem) (i k : Nat) : trd μ i k 0 = μ := mem_ext (fun a b => by rw [rI_trd, if_neg (by omega), if_neg (by omega)]) (fun _ _ => rfl)
theorem trd_s (μ : Mem) (i k n : Nat) (hik : i ≠ k) (hn : n < 7) : wI (wI (trd μ i k n) 68 (7 * i + n) (rI μ 67 (7 * k + n))) 68 (7 * k + n) (rI μ 67 (7 * i + n)) = trd μ i k (n + 1) := by
  refine mem_ext (fun a b => ?_) (fun _ _ => rfl)
  rw [rI_wI, rI_wI, rI_trd, rI_trd]
  by_cases h1 : a = 68
  · by_cases h2 : b = 7 * k + n
    · subst h2
      rw [if_pos ⟨h1, rfl⟩, if_neg (by omega), if_pos ⟨h1, by omega, by omega⟩]
      congr 1; omega
    · rw [if_neg (fun z => h2 z.2)]
      by_cases h3 : b = 7 * i + n
      · subst h3
        rw [if_pos ⟨h1, rfl⟩, if_pos ⟨h1, by omega, by omega⟩]
        congr 1; omega
      · rw [if_neg (fun z => h3 z.2)]
        by_cases h4 : b / 7 = i ∧ b % 7 < n
        · rw [if_pos ⟨h1, h4⟩, if_pos ⟨h1, h4.1, by omega⟩]
        · rw [if_neg (fun z => h4 z.2), if_neg (c := a = 68 ∧ b / 7 = i ∧ b % 7 < n + 1) (by omega)]
          by_cases h5 : b / 7 = k ∧ b % 7 < n
          · rw [if_pos ⟨h1, h5⟩, if_pos ⟨h1, h5.1, by omega⟩]
          · rw [if_neg (fun z => h5 z.2), if_neg (by omega)]
  · rw [if_neg (fun z => h1 z.1), if_neg (fun z => h1 z.1), if_neg (fun z => h1 z.1), if_neg (fun z => h1 z.1), if_neg (fun z => h1 z.1), if_neg (fun z => h1 z.1)]
def GL_X6_trades : List (Nat × Nat × Bool × TT) := []
def G_X6_trades : Nat → Option (Nat × Bool × TT) := fun i => GL_X6_trades.lookup i

set_option maxRecDepth 20000 in
set_option maxHeartbeats 4000000 in
theorem lp_trades (V : Nat → List (Option AV) → List AV → Mem → Prop) (K : List AV → Mem → Prop) (hV : Clos FX6 CX6 G_X6_trades 0 K cX6_trades V) (μ : Mem) (i k : Nat) (hi : i < 5) (hk : k < 5) (hik : i ≠ k) (hK : K [] (trd μ i k 7)) : ∀ m n : Nat, n + m = 7 → V 2 [some (.inr (.inr 66)), some (.inl (i : Int)), some (.inl (k : Int)), some (.inl (n : Int))] [] (trd μ i k n) := by
  intro m
  induction m with
  | zero =>
    intro n hn
    have en : n = 7 := by omega
    subst en
    apply hV [2] 40
    simp only [InR, InL, inb, Int.toNat_natCast, wp1, wpc_z, wpc_s, stp_iconst, stp_bipush, stp_sipush, stp_lconst, stp_iload_n, stp_iload, stp_lload_n, stp_lload, stp_aload_n, stp_aload, stp_istore_n, stp_istore, stp_lstore_n, stp_lstore, stp_astore_n, stp_astore, stp_iinc, stp_iadd, stp_isub, stp_imul, stp_ineg, stp_idiv, stp_irem, stp_ladd, stp_lmul, stp_ldiv, stp_lrem, stp_ishl, stp_ishr, stp_iushr, stp_iand, stp_ior, stp_i2l, stp_i2b, stp_i2s, stp_lcmp, stp_dup, stp_dup2, stp_pop, stp_ifCond, stp_if_icmp, stp_goto, stp_tableswitch, stp_lookupswitch, stp_ldc, stp_ldc_w, stp_ldc2_w, stp_getstatic, stp_getfield, stp_putfield, stp_iaload, stp_baload, stp_iastore, stp_bastore, stp_aaload, stp_aastore, stp_invokevirtual, stp_invokestatic, stp_ireturn, stp_lreturn, stp_return_, lg, lset, okl, spl, wd, c1, cnd, tg, swT, swL, f4_0, f4_1, f4_2, f4_3, f2_0, f2_1, List.mem_cons, List.not_mem_nil, List.length_cons, List.length_nil, List.cons_append, List.nil_append, Nat.reduceAdd, Nat.reduceMul, Nat.reduceLT, Nat.reduceEqDiff, Nat.reduceLeDiff, Int.reduceAdd, Int.reduceNeg, Int.reduceToNat, Int.cast_ofNat_Int, Int.reduceNatCast, Int.toNat_zero, Int.toNat_one, Int.reduceLE, Int.reduceLT, Int.reduceEq, Int.zero_add, Int.add_zero, or_false, false_or, or_true, true_or, and_true, true_and, and_false, false_and, reduceIte, not_true_eq_false, not_false_eq_true, forall_const, false_implies, true_implies, implies_true, ne_eq, reduceCtorEq, List.all_cons, List.all_nil, Bool.and_true, Bool.and_self, decide_eq_true_eq, decide_true, dX6_trades_0, dX6_trades_1, dX6_trades_2, dX6_trades_3, dX6_trades_5, dX6_trades_8, dX6_trades_9, dX6_trades_12, dX6_trades_14, dX6_trades_15, dX6_trades_16, dX6_trades_17, dX6_trades_18, dX6_trades_19, dX6_trades_22, dX6_trades_24, dX6_trades_25, dX6_trades_26, dX6_trades_27, dX6_trades_28, dX6_trades_29, dX6_trades_30, dX6_trades_31, dX6_trades_34, dX6_trades_36, dX6_trades_37, dX6_trades_38, dX6_trades_39, dX6_trades_40, dX6_trades_41, dX6_trades_44, dX6_trades_46, dX6_trades_47, dX6_trades_48, dX6_trades_49, dX6_trades_50, dX6_trades_51, dX6_trades_52, dX6_trades_55, dX6_trades_58, FX6_13, FX6_7, kd_66, kd_67, kd_68, ln_67, ln_68]
    repeat' (first | exact trivial | omega | (with_reducible assumption) | exact absurd trivial (by with_reducible assumption) | contradiction | apply And.intro | intro _)
  | succ m ih =>
    intro n hn
    have h := ih (n + 1) (by omega)
    rw [← trd_s μ i k n hik (by omega), show ((n + 1 : Nat) : Int) = (n : Int) + 1 by omega] at h
    have e1 : (7 * (i : Int) + (n : Int)).toNat = 7 * i + n := by omega
    have e2 : (7 * (k : Int) + (n : Int)).toNat = 7 * k + n := by omega
    have v1 : ∀ x, rI (trd μ i k n) 67 x = rI μ 67 x := fun x => by rw [rI_trd, if_neg (by omega), if_neg (by omega)]
    apply hV [2] 60
    simp only [InR, InL, inb, Int.toNat_natCast, wp1, wpc_z, wpc_s, stp_iconst, stp_bipush, stp_sipush, stp_lconst, stp_iload_n, stp_iload, stp_lload_n, stp_lload, stp_aload_n, stp_aload, stp_istore_n, stp_istore, stp_lstore_n, stp_lstore, stp_astore_n, stp_astore, stp_iinc, stp_iadd, stp_isub, stp_imul, stp_ineg, stp_idiv, stp_irem, stp_ladd, stp_lmul, stp_ldiv, stp_lrem, stp_ishl, stp_ishr, stp_iushr, stp_iand, stp_ior, stp_i2l, stp_i2b, stp_i2s, stp_lcmp, stp_dup, stp_dup2, stp_pop, stp_ifCond, stp_if_icmp, stp_goto, stp_tableswitch, stp_lookupswitch, stp_ldc, stp_ldc_w, stp_ldc2_w, stp_getstatic, stp_getfield, stp_putfield, stp_iaload, stp_baload, stp_iastore, stp_bastore, stp_aaload, stp_aastore, stp_invokevirtual, stp_invokestatic, stp_ireturn, stp_lreturn, stp_return_, lg, lset, okl, spl, wd, c1, cnd, tg, swT, swL, f4_0, f4_1, f4_2, f4_3, f2_0, f2_1, List.mem_cons, List.not_mem_nil, List.length_cons, List.length_nil, List.cons_append, List.nil_append, Nat.reduceAdd, Nat.reduceMul, Nat.reduceLT, Nat.reduceEqDiff, Nat.reduceLeDiff, Int.reduceAdd, Int.reduceNeg, Int.reduceToNat, Int.cast_ofNat_Int, Int.reduceNatCast, Int.toNat_zero, Int.toNat_one, Int.reduceLE, Int.reduceLT, Int.reduceEq, Int.zero_add, Int.add_zero, or_false, false_or, or_true, true_or, and_true, true_and, and_false, false_and, reduceIte, not_true_eq_false, not_false_eq_true, forall_const, false_implies, true_implies, implies_true, ne_eq, reduceCtorEq, List.all_cons, List.all_nil, Bool.and_true, Bool.and_self, decide_eq_true_eq, decide_true, dX6_trades_0, dX6_trades_1, dX6_trades_2, dX6_trades_3, dX6_trades_5, dX6_trades_8, dX6_trades_9, dX6_trades_12, dX6_trades_14, dX6_trades_15, dX6_trades_16, dX6_trades_17, dX6_trades_18, dX6_trades_19, dX6_trades_22, dX6_trades_24, dX6_trades_25, dX6_trades_26, dX6_trades_27, dX6_trades_28, dX6_trades_29, dX6_trades_30, dX6_trades_31, dX6_trades_34, dX6_trades_36, dX6_trades_37, dX6_trades_38, dX6_trades_39, dX6_trades_40, dX6_trades_41, dX6_trades_44, dX6_trades_46, dX6_trades_47, dX6_trades_48, dX6_trades_49, dX6_trades_50, dX6_trades_51, dX6_trades_52, dX6_trades_55, dX6_trades_58, FX6_13, FX6_7, kd_66, kd_67, kd_68, ln_67, ln_68, e1, e2, rI_wI, v1]
    repeat' (first | exact trivial | omega | (with_reducible assumption) | exact absurd trivial (by with_reducible assumption) | contradiction | apply And.intro | intro _)
def T6_trades : TT := fun a μ K => match a with
  | [.inr (.inr o), .inl i, .inl k] => o = 66 ∧ ((0 ≤ i ∧ i < 5) ∧ (0 ≤ k ∧ k < 5) ∧ i ≠ k ∧ K [] (trd μ i.toNat k.toNat 7))
  | _ => False
theorem rec_X6_trades : ∀ a μ K, T6_trades a μ K → ∃ k r, a = .inr (.inr k) :: r ∧ kd k = 6 := by
  intro a μ K h
  unfold T6_trades at h
  split at h
  · exact ⟨_, _, rfl, by rw [h.1]; rfl⟩
  · exact h.elim
theorem gk_X6_trades (l : Launch) : ∀ i n b T, G_X6_trades i = some (n, b, T) → CallOK l 0 RX6 i n b T := by
  intro i n b T h
  have hm : (i, n, b, T) ∈ GL_X6_trades := lk_mem h
  simp [GL_X6_trades] at hm
set_option maxRecDepth 20000 in
set_option maxHeartbeats 4000000 in
theorem body_X6_trades (o : Nat) (i : Int) (k : Int) (μ : Mem) (K : List AV → Mem → Prop) (V : Nat → List (Option AV) → List AV → Mem → Prop) (hV : Clos FX6 CX6 G_X6_trades 0 K cX6_trades V) (hT : o = 66 ∧ ((0 ≤ i ∧ i < 5) ∧ (0 ≤ k ∧ k < 5) ∧ i ≠ k ∧ K [] (trd μ i.toNat k.toNat 7))) : V 0 [some (.inr (.inr o)), some (.inl i), some (.inl k), none] [] μ := by
  obtain ⟨rfl, ⟨h1, h2⟩, ⟨h3, h4⟩, h5, hK⟩ := hT
  obtain ⟨i', rfl⟩ := Int.eq_ofNat_of_zero_le h1
  obtain ⟨k', rfl⟩ := Int.eq_ofNat_of_zero_le h3
  have h := lp_trades V K hV μ i' k' (by omega) (by omega) (by omega) hK 7 0 (by omega)
  rw [trd_0] at h
  apply hV [2] 40
  simp only [InR, InL, inb, Int.toNat_natCast, wp1, wpc_z, wpc_s, stp_iconst, stp_bipush, stp_sipush, stp_lconst, stp_iload_n, stp_iload, stp_lload_n, stp_lload, stp_aload_n, stp_aload, stp_istore_n, stp_istore, stp_lstore_n, stp_lstore, stp_astore_n, stp_astore, stp_iinc, stp_iadd, stp_isub, stp_imul, stp_ineg, stp_idiv, stp_irem, stp_ladd, stp_lmul, stp_ldiv, stp_lrem, stp_ishl, stp_ishr, stp_iushr, stp_iand, stp_ior, stp_i2l, stp_i2b, stp_i2s, stp_lcmp, stp_dup, stp_dup2, stp_pop, stp_ifCond, stp_if_icmp, stp_goto, stp_tableswitch, stp_lookupswitch, stp_ldc, stp_ldc_w, stp_ldc2_w, stp_getstatic, stp_getfield, stp_putfield, stp_iaload, stp_baload, stp_iastore, stp_bastore, stp_aaload, stp_aastore, stp_invokevirtual, stp_invokestatic, stp_ireturn, stp_lreturn, stp_return_, lg, lset, okl, spl, wd, c1, cnd, tg, swT, swL, f4_0, f4_1, f4_2, f4_3, f2_0, f2_1, List.mem_cons, List.not_mem_nil, List.length_cons, List.length_nil, List.cons_append, List.nil_append, Nat.reduceAdd, Nat.reduceMul, Nat.reduceLT, Nat.reduceEqDiff, Nat.reduceLeDiff, Int.reduceAdd, Int.reduceNeg, Int.reduceToNat, Int.cast_ofNat_Int, Int.reduceNatCast, Int.toNat_zero, Int.toNat_one, Int.reduceLE, Int.reduceLT, Int.reduceEq, Int.zero_add, Int.add_zero, or_false, false_or, or_true, true_or, and_true, true_and, and_false, false_and, reduceIte, not_true_eq_false, not_false_eq_true, forall_const, false_implies, true_implies, implies_true, ne_eq, reduceCtorEq, List.all_cons, List.all_nil, Bool.and_true, Bool.and_self, decide_eq_true_eq, decide_true, dX6_trades_0, dX6_trades_1, dX6_trades_2, dX6_trades_3, dX6_trades_5, dX6_trades_8, dX6_trades_9, dX6_trades_12, dX6_trades_14, dX6_trades_15, dX6_trades_16, dX6_trades_17, dX6_trades_18, dX6_trades_19, dX6_trades_22, dX6_trades_24, dX6_trades_25, dX6_trades_26, dX6_trades_27, dX6_trades_28, dX6_trades_29, dX6_trades_30, dX6_trades_31, dX6_trades_34, dX6_trades_36, dX6_trades_37, dX6_trades_38, dX6_trades_39, dX6_trades_40, dX6_trades_41, dX6_trades_44, dX6_trades_46, dX6_trades_47, dX6_trades_48, dX6_trades_49, dX6_trades_50, dX6_trades_51, dX6_trades_52, dX6_trades_55, dX6_trades_58, FX6_13, FX6_7, kd_66]
  exact h
theorem good_X6_trades (l : Launch) : Good l 0 yX6_trades cX6_trades 4 none T6_trades := by
  refine Good.mk 0 (by decide) rfl (by simp [retOK]) FOK6 COK6 (gk_X6_trades l) ?_ ?_
  · intro a μ K h
    unfold T6_trades at h
    split at h
    · simp [entl]
    · exact h.elim
  · intro a μ K V hV h
    unfold T6_trades at h
    split at h
    · exact body_X6_trades _ _ _ μ K V hV h
    · exact h.elim

theorem trd_st (μ : Mem) {i k : Nat} (hi : i < 5) (hk : k < 5) {j : Nat} (hj : j < 60) : rI (trd (stM μ) i k 7) 68 j = swpF (rI μ 67) i k j := by
  have o : ∀ x, rI (stM μ) 67 x = rI μ 67 x := fun x => st_o μ (by omega) (by omega) (by omega) x
  rw [rI_trd, o, o, st_68 μ hj]
  unfold swpF
  by_cases h1 : j < 35
  · rw [if_pos h1]
    by_cases h2 : j / 7 = i
    · rw [if_pos ⟨rfl, h2, by omega⟩, if_pos h2]
    · rw [if_neg (by omega), if_neg h2]
      by_cases h3 : j / 7 = k
      · rw [if_pos ⟨rfl, h3, by omega⟩, if_pos h3]
      · rw [if_neg (by omega), if_neg h3]
  · rw [if_neg h1, if_neg (by omega), if_neg (by omega)]
theorem trd_o (μ : Mem) (i k n : Nat) {a : Nat} (h : a ≠ 68) (j : Nat) : rI (trd μ i k n) a j = rI μ a j := by rw [rI_trd, if_neg (fun z => h z.1), if_neg (fun z => h z.1)]
def T6_change : TT := fun a μ K => match a with
  | [.inr (.inr o), .inl i, .inl k] => o = 66 ∧ (InR i ∧ InR k ∧ (0 ≤ rI μ 67 35 ∧ rI μ 67 35 ≤ 5) ∧ (chgOK (rI μ 67) i k → ∀ ν, MS μ ν (swpF (rI μ 67) i.toNat k.toNat) → K [.inl (rI μ 67 35)] ν) ∧ (¬ chgOK (rI μ 67) i k → K [.inl (-1)] μ))
  | _ => False
theorem rec_X6_change : ∀ a μ K, T6_change a μ K → ∃ k r, a = .inr (.inr k) :: r ∧ kd k = 6 := by
  intro a μ K h
  unfold T6_change at h
  split at h
  · exact ⟨_, _, rfl, by rw [h.1]; rfl⟩
  · exact h.elim
def GL_X6_change : List (Nat × Nat × Bool × TT) := [(180, 2, false, T6_isStation), (174, 1, false, T6_starts), (195, 3, false, T6_trades), (192, 1, false, T6_settles)]
def G_X6_change : Nat → Option (Nat × Bool × TT) := fun i => GL_X6_change.lookup i
theorem G_X6_change_180 : G_X6_change 180 = some (2, false, T6_isStation) := rfl
theorem G_X6_change_174 : G_X6_change 174 = some (1, false, T6_starts) := rfl
theorem G_X6_change_195 : G_X6_change 195 = some (3, false, T6_trades) := rfl
theorem G_X6_change_192 : G_X6_change 192 = some (1, false, T6_settles) := rfl
theorem gk_X6_change (l : Launch) : ∀ i n b T, G_X6_change i = some (n, b, T) → CallOK l 2 RX6 i n b T := by
  intro i n b T h
  have hm : (i, n, b, T) ∈ GL_X6_change := lk_mem h
  simp only [GL_X6_change, List.mem_cons, List.not_mem_nil, or_false, Prod.mk.injEq] at hm
  rcases hm with ⟨rfl, rfl, rfl, rfl⟩ | ⟨rfl, rfl, rfl, rfl⟩ | ⟨rfl, rfl, rfl, rfl⟩ | ⟨rfl, rfl, rfl, rfl⟩
  · exact CallOK.V (d := 2) (own := RX6) (i := 180) (n := 1) (ci := 6) (good_X6_isStation l) (by decide) (by decide) rfl (by decide) rec_X6_isStation (mg 796 (by decide +kernel) (by decide +kernel)) (mg 798 (by decide +kernel) (by decide +kernel)) (mgs 38 (by decide +kernel) (by decide +kernel)) (mg 7 (by decide +kernel) (by decide +kernel)) (mg 799 (by decide +kernel) (by decide +kernel)) (by decide +kernel)
  · exact CallOK.V (d := 2) (own := RX6) (i := 174) (n := 0) (ci := 6) (good_X6_starts l) (by decide) (by decide) rfl (by decide) rec_X6_starts (mg 769 (by decide +kernel) (by decide +kernel)) (mg 771 (by decide +kernel) (by decide +kernel)) (mgs 33 (by decide +kernel) (by decide +kernel)) (mg 7 (by decide +kernel) (by decide +kernel)) (mg 772 (by decide +kernel) (by decide +kernel)) (by decide +kernel)
  · exact CallOK.V (d := 2) (own := RX6) (i := 195) (n := 2) (ci := 6) (good_X6_trades l) (by decide) (by decide) rfl (by decide) rec_X6_trades (mg 840 (by decide +kernel) (by decide +kernel)) (mg 842 (by decide +kernel) (by decide +kernel)) (mgs 44 (by decide +kernel) (by decide +kernel)) (mg 7 (by decide +kernel) (by decide +kernel)) (mg 843 (by decide +kernel) (by decide +kernel)) (by decide +kernel)
  · exact CallOK.V (d := 2) (own := RX6) (i := 192) (n := 0) (ci := 6) (good_X6_settles l) (by decide) (by decide) rfl (by decide) rec_X6_settles (mg 832 (by decide +kernel) (by decide +kernel)) (mg 834 (by decide +kernel) (by decide +kernel)) (mgs 43 (by decide +kernel) (by decide +kernel)) (mg 7 (by decide +kernel) (by decide +kernel)) (mg 835 (by decide +kernel) (by decide +kernel)) (by decide +kernel)
set_option maxRecDepth 20000 in
set_option maxHeartbeats 4000000 in
theorem body_X6_change (o : Nat) (i : Int) (k : Int) (μ : Mem) (K : List AV → Mem → Prop) (V : Nat → List (Option AV) → List AV → Mem → Prop) (hV : Clos FX6 CX6 G_X6_change 1 K cX6_change V) (hT : o = 66 ∧ (InR i ∧ InR k ∧ (0 ≤ rI μ 67 35 ∧ rI μ 67 35 ≤ 5) ∧ (chgOK (rI μ 67) i k → ∀ ν, MS μ ν (swpF (rI μ 67) i.toNat k.toNat) → K [.inl (rI μ 67 35)] ν) ∧ (¬ chgOK (rI μ 67) i k → K [.inl (-1)] μ))) : V 0 [some (.inr (.inr o)), some (.inl i), some (.inl k)] [] μ := by
  simp only [InR] at hT
  obtain ⟨rfl, hi, hk, h35, hK, hB⟩ := hT
  by_cases hc : chgOK (rI μ 67) i k
  · have hK := hK hc
    unfold chgOK at hc
    obtain ⟨i', rfl⟩ := Int.eq_ofNat_of_zero_le hc.1.1
    obtain ⟨k', rfl⟩ := Int.eq_ofNat_of_zero_le hc.2.1.1
    rw [Int.toNat_natCast, Int.toNat_natCast] at hK
    have hfin := hK (wB (trd (stM μ) i' k' 7) 67 60 (rI (trd (stM μ) i' k' 7) 68)) (by
      refine ⟨?_, ?_, ?_, ?_, fun _ _ => rfl⟩
      · intro j hj
        rw [rI_wB, if_pos ⟨rfl, hj⟩]
        exact trd_st μ (by omega) (by omega) hj
      · intro j hj
        rw [rI_wB, if_neg (by omega), trd_o _ _ _ _ (by omega)]
        exact st_o μ (by omega) (by omega) (by omega) j
      · intro a n1 n2 n3 n4 n5 n6 j
        rw [rI_wB, if_neg (fun z => n2 z.1), trd_o _ _ _ _ n3]
        exact st_o μ n1 n3 n4 j
      · intro j hj
        rw [rI_wB, if_neg (by omega), trd_o _ _ _ _ (by omega)]
        exact (st_MF μ).2.1 j hj)
    have v35 : rI (wB (trd (stM μ) i' k' 7) 67 60 (rI (trd (stM μ) i' k' 7) 68)) 67 35 = rI μ 67 35 := by
      rw [rI_wB, if_pos ⟨rfl, by omega⟩, trd_st μ (by omega) (by omega) (by omega), swp_o _ _ _ (by omega)]
    apply hV [] 60
    simp only [InR, InL, inb, Int.toNat_natCast, wp1, wpc_z, wpc_s, stp_iconst, stp_bipush, stp_sipush, stp_lconst, stp_iload_n, stp_iload, stp_lload_n, stp_lload, stp_aload_n, stp_aload, stp_istore_n, stp_istore, stp_lstore_n, stp_lstore, stp_astore_n, stp_astore, stp_iinc, stp_iadd, stp_isub, stp_imul, stp_ineg, stp_idiv, stp_irem, stp_ladd, stp_lmul, stp_ldiv, stp_lrem, stp_ishl, stp_ishr, stp_iushr, stp_iand, stp_ior, stp_i2l, stp_i2b, stp_i2s, stp_lcmp, stp_dup, stp_dup2, stp_pop, stp_ifCond, stp_if_icmp, stp_goto, stp_tableswitch, stp_lookupswitch, stp_ldc, stp_ldc_w, stp_ldc2_w, stp_getstatic, stp_getfield, stp_putfield, stp_iaload, stp_baload, stp_iastore, stp_bastore, stp_aaload, stp_aastore, stp_invokevirtual, stp_invokestatic, stp_ireturn, stp_lreturn, stp_return_, lg, lset, okl, spl, wd, c1, cnd, tg, swT, swL, f4_0, f4_1, f4_2, f4_3, f2_0, f2_1, List.mem_cons, List.not_mem_nil, List.length_cons, List.length_nil, List.cons_append, List.nil_append, Nat.reduceAdd, Nat.reduceMul, Nat.reduceLT, Nat.reduceEqDiff, Nat.reduceLeDiff, Int.reduceAdd, Int.reduceNeg, Int.reduceToNat, Int.cast_ofNat_Int, Int.reduceNatCast, Int.toNat_zero, Int.toNat_one, Int.reduceLE, Int.reduceLT, Int.reduceEq, Int.zero_add, Int.add_zero, or_false, false_or, or_true, true_or, and_true, true_and, and_false, false_and, reduceIte, not_true_eq_false, not_false_eq_true, forall_const, false_implies, true_implies, implies_true, ne_eq, reduceCtorEq, List.all_cons, List.all_nil, Bool.and_true, Bool.and_self, decide_eq_true_eq, decide_true, dX6_change_0, dX6_change_1, dX6_change_2, dX6_change_5, dX6_change_8, dX6_change_9, dX6_change_10, dX6_change_13, dX6_change_16, dX6_change_17, dX6_change_18, dX6_change_21, dX6_change_22, dX6_change_23, dX6_change_24, dX6_change_27, dX6_change_28, dX6_change_29, dX6_change_30, dX6_change_33, dX6_change_34, dX6_change_37, dX6_change_38, dX6_change_41, dX6_change_43, dX6_change_44, FX6_7, G_X6_change_180, G_X6_change_174, G_X6_change_195, G_X6_change_192, kd_66, kd_67, ln_67, T6_isStation, T6_starts, T6_trades, T6_settles, v35]
    repeat' (first | exact trivial | omega | (with_reducible assumption) | exact absurd trivial (by with_reducible assumption) | contradiction | apply And.intro | intro _)
  · have hB := hB hc
    unfold chgOK at hc
    apply hV [23] 60
    simp only [InR, InL, inb, Int.toNat_natCast, wp1, wpc_z, wpc_s, stp_iconst, stp_bipush, stp_sipush, stp_lconst, stp_iload_n, stp_iload, stp_lload_n, stp_lload, stp_aload_n, stp_aload, stp_istore_n, stp_istore, stp_lstore_n, stp_lstore, stp_astore_n, stp_astore, stp_iinc, stp_iadd, stp_isub, stp_imul, stp_ineg, stp_idiv, stp_irem, stp_ladd, stp_lmul, stp_ldiv, stp_lrem, stp_ishl, stp_ishr, stp_iushr, stp_iand, stp_ior, stp_i2l, stp_i2b, stp_i2s, stp_lcmp, stp_dup, stp_dup2, stp_pop, stp_ifCond, stp_if_icmp, stp_goto, stp_tableswitch, stp_lookupswitch, stp_ldc, stp_ldc_w, stp_ldc2_w, stp_getstatic, stp_getfield, stp_putfield, stp_iaload, stp_baload, stp_iastore, stp_bastore, stp_aaload, stp_aastore, stp_invokevirtual, stp_invokestatic, stp_ireturn, stp_lreturn, stp_return_, lg, lset, okl, spl, wd, c1, cnd, tg, swT, swL, f4_0, f4_1, f4_2, f4_3, f2_0, f2_1, List.mem_cons, List.not_mem_nil, List.length_cons, List.length_nil, List.cons_append, List.nil_append, Nat.reduceAdd, Nat.reduceMul, Nat.reduceLT, Nat.reduceEqDiff, Nat.reduceLeDiff, Int.reduceAdd, Int.reduceNeg, Int.reduceToNat, Int.cast_ofNat_Int, Int.reduceNatCast, Int.toNat_zero, Int.toNat_one, Int.reduceLE, Int.reduceLT, Int.reduceEq, Int.zero_add, Int.add_zero, or_false, false_or, or_true, true_or, and_true, true_and, and_false, false_and, reduceIte, not_true_eq_false, not_false_eq_true, forall_const, false_implies, true_implies, implies_true, ne_eq, reduceCtorEq, List.all_cons, List.all_nil, Bool.and_true, Bool.and_self, decide_eq_true_eq, decide_true, dX6_change_0, dX6_change_1, dX6_change_2, dX6_change_5, dX6_change_8, dX6_change_9, dX6_change_10, dX6_change_13, dX6_change_16, dX6_change_17, dX6_change_18, dX6_change_21, dX6_change_22, dX6_change_23, dX6_change_24, dX6_change_27, dX6_change_28, dX6_change_29, dX6_change_30, dX6_change_33, dX6_change_34, dX6_change_37, dX6_change_38, dX6_change_41, dX6_change_43, dX6_change_44, FX6_7, G_X6_change_180, G_X6_change_174, G_X6_change_195, G_X6_change_192, kd_66, T6_isStation]
    repeat' (first | exact trivial | omega | (with_reducible assumption) | exact absurd trivial (by with_reducible assumption) | contradiction | apply And.intro | intro _)
theorem good_X6_change (l : Launch) : Good l 2 yX6_change cX6_change 3 (some .int) T6_change := by
  refine Good.mk 1 (by decide) rfl (by simp [retOK]) FOK6 COK6 (gk_X6_change l) ?_ ?_
  · intro a μ K h
    unfold T6_change at h
    split at h
    · simp [entl]
    · exact h.elim
  · intro a μ K V hV h
    unfold T6_change at h
    split at h
    · exact body_X6_change _ _ _ μ K V hV h
    · exact h.elim

