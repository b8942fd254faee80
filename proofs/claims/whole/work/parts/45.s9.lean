/-! both: luck, mean -/
def lkX (f : Nat → Int) (v i q : Int) (n : Nat) : Nat → Int
  | 0 => 0
  | F + 1 => lkX f v i q n F + (if i ≠ -4 ∧ nx (bt F) f n (7 * i.toNat + 1) ≤ q then chW v F n else 0)
def mnS (f : Nat → Int) (v : Int) (n : Nat) : Nat → Int
  | 0 => 0
  | F + 1 => mnS f v n F + chW v F n * sS (bt F) f n
theorem lkX_in {f : Nat → Int} {v i q : Int} {n : Nat} (hv : 0 ≤ v ∧ v ≤ 10) (hn : n ≤ 8) : ∀ F : Nat, 0 ≤ lkX f v i q n F ∧ lkX f v i q n F ≤ 100000000 * F
  | 0 => by simp [lkX]
  | F + 1 => by
    obtain ⟨h1, h2⟩ := lkX_in (f := f) (i := i) (q := q) hv hn F
    have h3 := chW_in hv F n hn
    have h4 := pw_in n hn
    simp only [lkX]
    split <;> omega
theorem mnS_in {f : Nat → Int} {v : Int} {n : Nat} (hW : WF f) (hv : 0 ≤ v ∧ v ≤ 10) (hn : n ≤ 8) : ∀ F : Nat, 0 ≤ mnS f v n F ∧ mnS f v n F ≤ 14400000000 * F
  | 0 => by simp [mnS]
  | F + 1 => by
    obtain ⟨h1, h2⟩ := mnS_in hW hv hn F
    have h3 := chW_in hv F n hn
    have h4 := pw_in n hn
    have h5 := (sum_in (p := bt F) hW n).1
    simp only [mnS]
    have h6 : 0 ≤ chW v F n * sS (bt F) f n := Int.mul_nonneg h3.1 h5.1
    have h7 : chW v F n * sS (bt F) f n ≤ 100000000 * 144 := Int.mul_le_mul (by omega) (by omega) h5.1 (by omega)
    omega
theorem p2_in : ∀ n, n ≤ 8 → 2 ^ n ≤ 256 := by decide +kernel
theorem p2_c (n : Nat) : (2 : Int) ^ n = ((2 ^ n : Nat) : Int) := by simp
def luckOK (f : Nat → Int) (v i n q w : Int) : Prop := (0 ≤ v ∧ v ≤ 10) ∧ (0 ≤ i ∧ i < f 35) ∧ (0 ≤ n ∧ n ≤ 8) ∧ (0 ≤ q ∧ q ≤ 99) ∧ 0 ≤ w ∧ w ≤ 1
def luckV (f : Nat → Int) (v i n q w : Int) : Int := frc (lkX f v i q n.toNat (2 ^ n.toNat)).toNat (pw n.toNat).toNat w
def GL_X5_luck : List (Nat × Nat × Bool × TT) := [(52, 3, true, T5_isOutside), (111, 2, false, T1_has), (162, 3, true, T5_chanceOf), (166, 3, false, T5_tryFailing), (169, 3, true, T5_partOfFraction)]
def G_X5_luck : Nat → Option (Nat × Bool × TT) := fun i => GL_X5_luck.lookup i
theorem G_X5_luck_52 : G_X5_luck 52 = some (3, true, T5_isOutside) := rfl
theorem G_X5_luck_111 : G_X5_luck 111 = some (2, false, T1_has) := rfl
theorem G_X5_luck_162 : G_X5_luck 162 = some (3, true, T5_chanceOf) := rfl
theorem G_X5_luck_166 : G_X5_luck 166 = some (3, false, T5_tryFailing) := rfl
theorem G_X5_luck_169 : G_X5_luck 169 = some (3, true, T5_partOfFraction) := rfl

set_option maxRecDepth 20000 in
set_option maxHeartbeats 4000000 in
theorem lp_luck (V : Nat → List (Option AV) → List AV → Mem → Prop) (K : List AV → Mem → Prop) (hV : Clos FX5 CX5 G_X5_luck 3 K cX5_luck V) (μ : Mem) (f : Nat → Int) (hW : WF f) (h38 : f 38 ≤ 9999) (hP : RP μ 8) (hR : RG μ 1 f) (v q w : Int) (hv : 0 ≤ v ∧ v ≤ 10) (hq : 0 ≤ q ∧ q ≤ 99) (hw : 0 ≤ w ∧ w ≤ 1) (i : Nat) (hi : (i : Int) < f 35) (e : Nat) (he : e ≤ 8) (N : Nat) (hN : 2 ^ e = N) (hK : ∀ ν, FQ μ ν → K [.inr (.inl (frc (lkX f v i q e N).toNat (pw e).toNat w))] ν) : ∀ m F : Nat, F + m = N → ∀ ν, FQ μ ν → ∀ x : Option AV, V 62 [some (.inr (.inr 0)), some (.inl v), some (.inl (i : Int)), some (.inl (e : Int)), some (.inl q), some (.inl w), some (.inr (.inl (lkX f v i q e F))), none, some (.inl (F : Int)), x, none] [] ν := by
  have h35 := hW.1
  obtain ⟨k12, l5, k7⟩ := ringk kd_8
  have hN2 : N ≤ 256 := by rw [← hN]; exact p2_in e he
  have hp : (2 : Int) ^ e = (N : Int) := by rw [p2_c, hN]
  have hpw := pw_in e he
  intro m
  induction m with
  | zero =>
    intro F hF ν hQ x
    have en : F = N := by omega
    subst en
    have hk := hK ν hQ
    have hl := lkX_in (f := f) (i := (i : Int)) (q := q) hv he F
    obtain ⟨y, hy⟩ := Int.eq_ofNat_of_zero_le hl.1
    rw [hy, Int.toNat_natCast] at hk
    rw [hy] at hl ⊢
    apply hV [62] 40
    simp only [InR, InL, inb, Int.toNat_natCast, wp1, wpc_z, wpc_s, stp_iconst, stp_bipush, stp_sipush, stp_lconst, stp_iload_n, stp_iload, stp_lload_n, stp_lload, stp_aload_n, stp_aload, stp_istore_n, stp_istore, stp_lstore_n, stp_lstore, stp_astore_n, stp_astore, stp_iinc, stp_iadd, stp_isub, stp_imul, stp_ineg, stp_idiv, stp_irem, stp_ladd, stp_lmul, stp_ldiv, stp_lrem, stp_ishl, stp_ishr, stp_iushr, stp_iand, stp_ior, stp_i2l, stp_i2b, stp_i2s, stp_lcmp, stp_dup, stp_dup2, stp_pop, stp_ifCond, stp_if_icmp, stp_goto, stp_tableswitch, stp_lookupswitch, stp_ldc, stp_ldc_w, stp_ldc2_w, stp_getstatic, stp_getfield, stp_putfield, stp_iaload, stp_baload, stp_iastore, stp_bastore, stp_aaload, stp_aastore, stp_invokevirtual, stp_invokestatic, stp_ireturn, stp_lreturn, stp_return_, lg, lset, okl, spl, wd, c1, cnd, tg, swT, swL, f4_0, f4_1, f4_2, f4_3, f2_0, f2_1, List.mem_cons, List.not_mem_nil, List.length_cons, List.length_nil, List.cons_append, List.nil_append, Nat.reduceAdd, Nat.reduceMul, Nat.reduceLT, Nat.reduceEqDiff, Nat.reduceLeDiff, Int.reduceAdd, Int.reduceNeg, Int.reduceToNat, Int.cast_ofNat_Int, Int.reduceNatCast, Int.toNat_zero, Int.toNat_one, Int.reduceLE, Int.reduceLT, Int.reduceEq, Int.zero_add, Int.add_zero, or_false, false_or, or_true, true_or, and_true, true_and, and_false, false_and, reduceIte, not_true_eq_false, not_false_eq_true, forall_const, false_implies, true_implies, implies_true, ne_eq, reduceCtorEq, List.all_cons, List.all_nil, Bool.and_true, Bool.and_self, decide_eq_true_eq, decide_true, dX5_luck_0, dX5_luck_1, dX5_luck_2, dX5_luck_4, dX5_luck_7, dX5_luck_10, dX5_luck_11, dX5_luck_14, dX5_luck_15, dX5_luck_18, dX5_luck_21, dX5_luck_22, dX5_luck_23, dX5_luck_25, dX5_luck_28, dX5_luck_31, dX5_luck_33, dX5_luck_34, dX5_luck_36, dX5_luck_39, dX5_luck_42, dX5_luck_44, dX5_luck_45, dX5_luck_46, dX5_luck_49, dX5_luck_52, dX5_luck_55, dX5_luck_56, dX5_luck_57, dX5_luck_59, dX5_luck_60, dX5_luck_62, dX5_luck_64, dX5_luck_65, dX5_luck_66, dX5_luck_67, dX5_luck_70, dX5_luck_72, dX5_luck_73, dX5_luck_74, dX5_luck_77, dX5_luck_79, dX5_luck_81, dX5_luck_82, dX5_luck_83, dX5_luck_86, dX5_luck_87, dX5_luck_89, dX5_luck_90, dX5_luck_93, dX5_luck_95, dX5_luck_96, dX5_luck_99, dX5_luck_102, dX5_luck_103, dX5_luck_104, dX5_luck_105, dX5_luck_106, dX5_luck_108, dX5_luck_111, dX5_luck_113, dX5_luck_116, dX5_luck_117, dX5_luck_118, dX5_luck_120, dX5_luck_123, dX5_luck_126, dX5_luck_128, dX5_luck_129, dX5_luck_131, dX5_luck_134, FX5_10, CX5_160, FX5_16, FX5_115, G_X5_luck_52, G_X5_luck_111, G_X5_luck_162, G_X5_luck_166, G_X5_luck_169, kd_0, hp, Int.one_mul, T5_partOfFraction]
    refine ⟨by omega, by omega, by omega, fun _ => ⟨by omega, y, e, rfl, rfl, he, by omega, hk⟩, fun z => absurd z (by omega)⟩
  | succ m ih =>
    intro F hF ν hQ x
    have hR1 := hQ.ring hR h35.2
    have hP2 := hQ.2.2
    have hc := chW_in hv F e he
    have key := fun σ hσ y => ih (F + 1) (by omega) σ hσ y
    rw [show ((F + 1 : Nat) : Int) = (F : Int) + 1 by omega] at key
    simp only [lkX, Int.toNat_natCast] at key
    obtain ⟨x1, x2, x3⟩ := nx_WF (p := bt F) hW e
    apply hV [62] 60
    simp only [InR, InL, inb, Int.toNat_natCast, wp1, wpc_z, wpc_s, stp_iconst, stp_bipush, stp_sipush, stp_lconst, stp_iload_n, stp_iload, stp_lload_n, stp_lload, stp_aload_n, stp_aload, stp_istore_n, stp_istore, stp_lstore_n, stp_lstore, stp_astore_n, stp_astore, stp_iinc, stp_iadd, stp_isub, stp_imul, stp_ineg, stp_idiv, stp_irem, stp_ladd, stp_lmul, stp_ldiv, stp_lrem, stp_ishl, stp_ishr, stp_iushr, stp_iand, stp_ior, stp_i2l, stp_i2b, stp_i2s, stp_lcmp, stp_dup, stp_dup2, stp_pop, stp_ifCond, stp_if_icmp, stp_goto, stp_tableswitch, stp_lookupswitch, stp_ldc, stp_ldc_w, stp_ldc2_w, stp_getstatic, stp_getfield, stp_putfield, stp_iaload, stp_baload, stp_iastore, stp_bastore, stp_aaload, stp_aastore, stp_invokevirtual, stp_invokestatic, stp_ireturn, stp_lreturn, stp_return_, lg, lset, okl, spl, wd, c1, cnd, tg, swT, swL, f4_0, f4_1, f4_2, f4_3, f2_0, f2_1, List.mem_cons, List.not_mem_nil, List.length_cons, List.length_nil, List.cons_append, List.nil_append, Nat.reduceAdd, Nat.reduceMul, Nat.reduceLT, Nat.reduceEqDiff, Nat.reduceLeDiff, Int.reduceAdd, Int.reduceNeg, Int.reduceToNat, Int.cast_ofNat_Int, Int.reduceNatCast, Int.toNat_zero, Int.toNat_one, Int.reduceLE, Int.reduceLT, Int.reduceEq, Int.zero_add, Int.add_zero, or_false, false_or, or_true, true_or, and_true, true_and, and_false, false_and, reduceIte, not_true_eq_false, not_false_eq_true, forall_const, false_implies, true_implies, implies_true, ne_eq, reduceCtorEq, List.all_cons, List.all_nil, Bool.and_true, Bool.and_self, decide_eq_true_eq, decide_true, dX5_luck_0, dX5_luck_1, dX5_luck_2, dX5_luck_4, dX5_luck_7, dX5_luck_10, dX5_luck_11, dX5_luck_14, dX5_luck_15, dX5_luck_18, dX5_luck_21, dX5_luck_22, dX5_luck_23, dX5_luck_25, dX5_luck_28, dX5_luck_31, dX5_luck_33, dX5_luck_34, dX5_luck_36, dX5_luck_39, dX5_luck_42, dX5_luck_44, dX5_luck_45, dX5_luck_46, dX5_luck_49, dX5_luck_52, dX5_luck_55, dX5_luck_56, dX5_luck_57, dX5_luck_59, dX5_luck_60, dX5_luck_62, dX5_luck_64, dX5_luck_65, dX5_luck_66, dX5_luck_67, dX5_luck_70, dX5_luck_72, dX5_luck_73, dX5_luck_74, dX5_luck_77, dX5_luck_79, dX5_luck_81, dX5_luck_82, dX5_luck_83, dX5_luck_86, dX5_luck_87, dX5_luck_89, dX5_luck_90, dX5_luck_93, dX5_luck_95, dX5_luck_96, dX5_luck_99, dX5_luck_102, dX5_luck_103, dX5_luck_104, dX5_luck_105, dX5_luck_106, dX5_luck_108, dX5_luck_111, dX5_luck_113, dX5_luck_116, dX5_luck_117, dX5_luck_118, dX5_luck_120, dX5_luck_123, dX5_luck_126, dX5_luck_128, dX5_luck_129, dX5_luck_131, dX5_luck_134, FX5_10, CX5_160, FX5_16, FX5_115, G_X5_luck_52, G_X5_luck_111, G_X5_luck_162, G_X5_luck_166, G_X5_luck_169, kd_0, kd_8, kd_9, ln_9, hp, Int.one_mul, T5_chanceOf, T5_tryFailing]
    refine ⟨by omega, by omega, by omega, fun z => absurd z (by omega), fun _ => ⟨F, e, rfl, rfl, by omega, he, hv, ?_⟩⟩
    have fin : ∀ ρ, RG ρ 8 (nx (bt F) f e) ∧ rI ρ 8 5 = sS (bt F) f e ∧ FQ ν ρ → (kd (el ρ 9 i) = 7 ∧ ln (el ρ 9 i) = 7) ∧ rI ρ (el ρ 9 i) 1 = nx (bt F) f e (7 * i + 1) ∧ FQ μ ρ := by
      intro ρ hρ
      obtain ⟨a1, a2, a3⟩ := hρ
      have ee : el ρ 9 i = rR ρ 9 i := elr (B := 8) k12 i
      have hr : 10 ≤ rR ρ 9 i ∧ rR ρ 9 i ≤ 14 := a1.1.1 i (by omega)
      rw [ee]
      exact ⟨k7 _ hr.1 hr.2, a1.row (by rw [x3]; exact hi) (by omega), hQ.tr a3⟩
    have hqq := (x1.2.2.2 i (by rw [x3]; exact hi)).2.1
    generalize hch : chW v F e = ch at hc key
    by_cases z : ch = 0
    · rw [z] at key ⊢
      have kk := key ν hQ (some (.inr (.inl 0)))
      simp only [ite_self, Int.add_zero] at kk
      refine ⟨by omega, fun y => absurd y (by omega), fun _ => kk, fun y => absurd y (by omega)⟩
    · have main : ∀ ρ, RG ρ 8 (nx (bt F) f e) ∧ rI ρ 8 5 = sS (bt F) f e ∧ FQ ν ρ → (¬ kd (el ρ 9 i) = 13) ∧ kd (el ρ 9 i) = 7 ∧ 1 < ln (el ρ 9 i) ∧ (0 ≤ rI ρ (el ρ 9 i) 1 ∧ rI ρ (el ρ 9 i) 1 ≤ 99) ∧ (q < rI ρ (el ρ 9 i) 1 → V 62 [some (.inr (.inr 0)), some (.inl v), some (.inl (i : Int)), some (.inl (e : Int)), some (.inl q), some (.inl w), some (.inr (.inl (lkX f v i q e F))), none, some (.inl ((F : Int) + 1)), some (.inr (.inl ch)), none] [] ρ) ∧ (¬ q < rI ρ (el ρ 9 i) 1 → V 62 [some (.inr (.inr 0)), some (.inl v), some (.inl (i : Int)), some (.inl (e : Int)), some (.inl q), some (.inl w), some (.inr (.inl (lkX f v i q e F + ch))), none, some (.inl ((F : Int) + 1)), some (.inr (.inl ch)), none] [] ρ) := by
        intro ρ hρ
        obtain ⟨⟨f1, f2⟩, f3, f4⟩ := fin ρ hρ
        have kk := key ρ f4 (some (.inr (.inl ch)))
        rw [f1, f2, f3]
        refine ⟨by omega, rfl, by omega, hqq, fun y => ?_, fun y => ?_⟩
        · rw [if_neg (by omega), Int.add_zero] at kk; exact kk
        · rw [if_pos ⟨by omega, by omega⟩] at kk; exact kk
      have tail : ∀ (P : (Mem → Prop) → Prop) (_ : P = fun G => ∃ F' n' : Nat, (F : Int) = F' ∧ (e : Int) = n' ∧ F' < 1024 ∧ n' ≤ 8 ∧ RP ν 8 ∧ ∃ f, RG ν 1 f ∧ WF f ∧ f 38 ≤ 9999 ∧ ∀ ρ, RG ρ 8 (nx (bt F') f n') ∧ rI ρ 8 5 = sS (bt F') f n' ∧ FQ ν ρ → G ρ), ∀ G : Mem → Prop, (∀ ρ, RG ρ 8 (nx (bt F) f e) ∧ rI ρ 8 5 = sS (bt F) f e ∧ FQ ν ρ → G ρ) → P G := by
        intro P hPe G hG
        rw [hPe]
        exact ⟨F, e, rfl, rfl, by omega, he, hP2, f, hR1, hW, h38, hG⟩
      refine ⟨by omega, fun y => absurd y (by omega), fun y => absurd y (by omega), fun _ => ?_⟩
      refine tail _ rfl _ (fun ρ hρ => ?_)
      obtain ⟨m1, m2, m3, m4, m5, m6⟩ := main ρ hρ
      simp only [m1, m2, if_false, true_and]
      refine ⟨⟨by omega, by omega⟩, ?_⟩
      repeat' (first | exact trivial | omega | (with_reducible assumption) | exact absurd trivial (by with_reducible assumption) | contradiction | apply And.intro | intro _)
def T5_luck : TT := fun a μ K => match a with
  | [.inr (.inr o), .inl v, .inl i, .inl n, .inl q, .inl w] => o = 0 ∧ (InR v ∧ InR i ∧ InR n ∧ InR q ∧ InR w ∧ RP μ 8 ∧ ∃ f, RG μ 1 f ∧ WF f ∧ f 38 ≤ 9999 ∧ (luckOK f v i n q w → ∀ ν, FQ μ ν → K [.inr (.inl (luckV f v i n q w))] ν) ∧ (¬ luckOK f v i n q w → K [.inr (.inl (-1))] μ))
  | _ => False
theorem rec_X5_luck : ∀ a μ K, T5_luck a μ K → ∃ k r, a = .inr (.inr k) :: r ∧ kd k = 5 := by
  intro a μ K h
  unfold T5_luck at h
  split at h
  · exact ⟨_, _, rfl, by rw [h.1]; rfl⟩
  · exact h.elim
theorem gk_X5_luck (l : Launch) : ∀ i n b T, G_X5_luck i = some (n, b, T) → CallOK l 5 RX5 i n b T := by
  intro i n b T h
  have hm : (i, n, b, T) ∈ GL_X5_luck := lk_mem h
  simp only [GL_X5_luck, List.mem_cons, List.not_mem_nil, or_false, Prod.mk.injEq] at hm
  rcases hm with ⟨rfl, rfl, rfl, rfl⟩ | ⟨rfl, rfl, rfl, rfl⟩ | ⟨rfl, rfl, rfl, rfl⟩ | ⟨rfl, rfl, rfl, rfl⟩ | ⟨rfl, rfl, rfl, rfl⟩
  · exact CallOK.S (d := 5) (own := RX5) (i := 52) (n := 3) (good_X5_isOutside l) (by decide) (by decide) (mg 191 (by decide +kernel) (by decide +kernel)) (mg 192 (by decide +kernel) (by decide +kernel)) (mg 1 (by decide +kernel) (by decide +kernel)) (mg 193 (by decide +kernel) (by decide +kernel)) (by decide +kernel)
  · exact CallOK.V (d := 5) (own := RX5) (i := 111) (n := 1) (ci := 1) (good_X1_has l) (by decide) (by decide) rfl (by decide) rec_X1_has (mg 351 (by decide +kernel) (by decide +kernel)) (mg 313 (by decide +kernel) (by decide +kernel)) (mg 314 (by decide +kernel) (by decide +kernel)) (mg 2 (by decide +kernel) (by decide +kernel)) (mg 315 (by decide +kernel) (by decide +kernel)) (by decide +kernel)
  · exact CallOK.S (d := 5) (own := RX5) (i := 162) (n := 3) (good_X5_chanceOf l) (by decide) (by decide) (mg 455 (by decide +kernel) (by decide +kernel)) (mg 456 (by decide +kernel) (by decide +kernel)) (mg 1 (by decide +kernel) (by decide +kernel)) (mg 457 (by decide +kernel) (by decide +kernel)) (by decide +kernel)
  · exact CallOK.V (d := 5) (own := RX5) (i := 166) (n := 2) (ci := 5) (good_X5_tryFailing l) (by decide) (by decide) rfl (by decide) rec_X5_tryFailing (mg 461 (by decide +kernel) (by decide +kernel)) (mg 463 (by decide +kernel) (by decide +kernel)) (mgs 15 (by decide +kernel) (by decide +kernel)) (mg 1 (by decide +kernel) (by decide +kernel)) (mg 464 (by decide +kernel) (by decide +kernel)) (by decide +kernel)
  · exact CallOK.S (d := 5) (own := RX5) (i := 169) (n := 3) (good_X5_partOfFraction l) (by decide) (by decide) (mg 465 (by decide +kernel) (by decide +kernel)) (mg 466 (by decide +kernel) (by decide +kernel)) (mg 1 (by decide +kernel) (by decide +kernel)) (mg 467 (by decide +kernel) (by decide +kernel)) (by decide +kernel)
set_option maxRecDepth 20000 in
set_option maxHeartbeats 4000000 in
theorem body_X5_luck (o : Nat) (v : Int) (i : Int) (n : Int) (q : Int) (w : Int) (μ : Mem) (K : List AV → Mem → Prop) (V : Nat → List (Option AV) → List AV → Mem → Prop) (hV : Clos FX5 CX5 G_X5_luck 3 K cX5_luck V) (hT : o = 0 ∧ (InR v ∧ InR i ∧ InR n ∧ InR q ∧ InR w ∧ RP μ 8 ∧ ∃ f, RG μ 1 f ∧ WF f ∧ f 38 ≤ 9999 ∧ (luckOK f v i n q w → ∀ ν, FQ μ ν → K [.inr (.inl (luckV f v i n q w))] ν) ∧ (¬ luckOK f v i n q w → K [.inr (.inl (-1))] μ))) : V 0 [some (.inr (.inr o)), some (.inl v), some (.inl i), some (.inl n), some (.inl q), some (.inl w), none, none, none, none, none] [] μ := by
  simp only [InR] at hT
  obtain ⟨rfl, hv, hi, hn, hq, hw, hP, f, hR, hW, h38, hK, hB⟩ := hT
  have h35 := hW.1
  have r35 := hR.2.1
  by_cases hc : luckOK f v i n q w
  · have hK := hK hc
    unfold luckOK at hc
    unfold luckV at hK
    obtain ⟨i', rfl⟩ := Int.eq_ofNat_of_zero_le hc.2.1.1
    obtain ⟨n', rfl⟩ := Int.eq_ofNat_of_zero_le hc.2.2.1.1
    rw [Int.toNat_natCast] at hK
    have h := lp_luck V K hV μ f hW h38 hP hR v q w hc.1 hc.2.2.2.1 hc.2.2.2.2 i' (by omega) n' (by omega) _ rfl hK (2 ^ n') 0 (by omega) μ (FQ.rf hP) none
    simp only [lkX] at h
    apply hV [62] 80
    simp only [InR, InL, inb, Int.toNat_natCast, wp1, wpc_z, wpc_s, stp_iconst, stp_bipush, stp_sipush, stp_lconst, stp_iload_n, stp_iload, stp_lload_n, stp_lload, stp_aload_n, stp_aload, stp_istore_n, stp_istore, stp_lstore_n, stp_lstore, stp_astore_n, stp_astore, stp_iinc, stp_iadd, stp_isub, stp_imul, stp_ineg, stp_idiv, stp_irem, stp_ladd, stp_lmul, stp_ldiv, stp_lrem, stp_ishl, stp_ishr, stp_iushr, stp_iand, stp_ior, stp_i2l, stp_i2b, stp_i2s, stp_lcmp, stp_dup, stp_dup2, stp_pop, stp_ifCond, stp_if_icmp, stp_goto, stp_tableswitch, stp_lookupswitch, stp_ldc, stp_ldc_w, stp_ldc2_w, stp_getstatic, stp_getfield, stp_putfield, stp_iaload, stp_baload, stp_iastore, stp_bastore, stp_aaload, stp_aastore, stp_invokevirtual, stp_invokestatic, stp_ireturn, stp_lreturn, stp_return_, lg, lset, okl, spl, wd, c1, cnd, tg, swT, swL, f4_0, f4_1, f4_2, f4_3, f2_0, f2_1, List.mem_cons, List.not_mem_nil, List.length_cons, List.length_nil, List.cons_append, List.nil_append, Nat.reduceAdd, Nat.reduceMul, Nat.reduceLT, Nat.reduceEqDiff, Nat.reduceLeDiff, Int.reduceAdd, Int.reduceNeg, Int.reduceToNat, Int.cast_ofNat_Int, Int.reduceNatCast, Int.toNat_zero, Int.toNat_one, Int.reduceLE, Int.reduceLT, Int.reduceEq, Int.zero_add, Int.add_zero, or_false, false_or, or_true, true_or, and_true, true_and, and_false, false_and, reduceIte, not_true_eq_false, not_false_eq_true, forall_const, false_implies, true_implies, implies_true, ne_eq, reduceCtorEq, List.all_cons, List.all_nil, Bool.and_true, Bool.and_self, decide_eq_true_eq, decide_true, dX5_luck_0, dX5_luck_1, dX5_luck_2, dX5_luck_4, dX5_luck_7, dX5_luck_10, dX5_luck_11, dX5_luck_14, dX5_luck_15, dX5_luck_18, dX5_luck_21, dX5_luck_22, dX5_luck_23, dX5_luck_25, dX5_luck_28, dX5_luck_31, dX5_luck_33, dX5_luck_34, dX5_luck_36, dX5_luck_39, dX5_luck_42, dX5_luck_44, dX5_luck_45, dX5_luck_46, dX5_luck_49, dX5_luck_52, dX5_luck_55, dX5_luck_56, dX5_luck_57, dX5_luck_59, dX5_luck_60, dX5_luck_62, dX5_luck_64, dX5_luck_65, dX5_luck_66, dX5_luck_67, dX5_luck_70, dX5_luck_72, dX5_luck_73, dX5_luck_74, dX5_luck_77, dX5_luck_79, dX5_luck_81, dX5_luck_82, dX5_luck_83, dX5_luck_86, dX5_luck_87, dX5_luck_89, dX5_luck_90, dX5_luck_93, dX5_luck_95, dX5_luck_96, dX5_luck_99, dX5_luck_102, dX5_luck_103, dX5_luck_104, dX5_luck_105, dX5_luck_106, dX5_luck_108, dX5_luck_111, dX5_luck_113, dX5_luck_116, dX5_luck_117, dX5_luck_118, dX5_luck_120, dX5_luck_123, dX5_luck_126, dX5_luck_128, dX5_luck_129, dX5_luck_131, dX5_luck_134, FX5_10, CX5_160, FX5_16, FX5_115, G_X5_luck_52, G_X5_luck_111, G_X5_luck_162, G_X5_luck_166, G_X5_luck_169, kd_0, kd_1, T1_has, T5_isOutside, r35]
    repeat' (first | exact trivial | omega | (with_reducible assumption) | exact absurd trivial (by with_reducible assumption) | contradiction | apply And.intro | intro _)
  · have hB := hB hc
    unfold luckOK at hc
    apply hV [56] 80
    simp only [InR, InL, inb, Int.toNat_natCast, wp1, wpc_z, wpc_s, stp_iconst, stp_bipush, stp_sipush, stp_lconst, stp_iload_n, stp_iload, stp_lload_n, stp_lload, stp_aload_n, stp_aload, stp_istore_n, stp_istore, stp_lstore_n, stp_lstore, stp_astore_n, stp_astore, stp_iinc, stp_iadd, stp_isub, stp_imul, stp_ineg, stp_idiv, stp_irem, stp_ladd, stp_lmul, stp_ldiv, stp_lrem, stp_ishl, stp_ishr, stp_iushr, stp_iand, stp_ior, stp_i2l, stp_i2b, stp_i2s, stp_lcmp, stp_dup, stp_dup2, stp_pop, stp_ifCond, stp_if_icmp, stp_goto, stp_tableswitch, stp_lookupswitch, stp_ldc, stp_ldc_w, stp_ldc2_w, stp_getstatic, stp_getfield, stp_putfield, stp_iaload, stp_baload, stp_iastore, stp_bastore, stp_aaload, stp_aastore, stp_invokevirtual, stp_invokestatic, stp_ireturn, stp_lreturn, stp_return_, lg, lset, okl, spl, wd, c1, cnd, tg, swT, swL, f4_0, f4_1, f4_2, f4_3, f2_0, f2_1, List.mem_cons, List.not_mem_nil, List.length_cons, List.length_nil, List.cons_append, List.nil_append, Nat.reduceAdd, Nat.reduceMul, Nat.reduceLT, Nat.reduceEqDiff, Nat.reduceLeDiff, Int.reduceAdd, Int.reduceNeg, Int.reduceToNat, Int.cast_ofNat_Int, Int.reduceNatCast, Int.toNat_zero, Int.toNat_one, Int.reduceLE, Int.reduceLT, Int.reduceEq, Int.zero_add, Int.add_zero, or_false, false_or, or_true, true_or, and_true, true_and, and_false, false_and, reduceIte, not_true_eq_false, not_false_eq_true, forall_const, false_implies, true_implies, implies_true, ne_eq, reduceCtorEq, List.all_cons, List.all_nil, Bool.and_true, Bool.and_self, decide_eq_true_eq, decide_true, dX5_luck_0, dX5_luck_1, dX5_luck_2, dX5_luck_4, dX5_luck_7, dX5_luck_10, dX5_luck_11, dX5_luck_14, dX5_luck_15, dX5_luck_18, dX5_luck_21, dX5_luck_22, dX5_luck_23, dX5_luck_25, dX5_luck_28, dX5_luck_31, dX5_luck_33, dX5_luck_34, dX5_luck_36, dX5_luck_39, dX5_luck_42, dX5_luck_44, dX5_luck_45, dX5_luck_46, dX5_luck_49, dX5_luck_52, dX5_luck_55, dX5_luck_56, dX5_luck_57, dX5_luck_59, dX5_luck_60, dX5_luck_62, dX5_luck_64, dX5_luck_65, dX5_luck_66, dX5_luck_67, dX5_luck_70, dX5_luck_72, dX5_luck_73, dX5_luck_74, dX5_luck_77, dX5_luck_79, dX5_luck_81, dX5_luck_82, dX5_luck_83, dX5_luck_86, dX5_luck_87, dX5_luck_89, dX5_luck_90, dX5_luck_93, dX5_luck_95, dX5_luck_96, dX5_luck_99, dX5_luck_102, dX5_luck_103, dX5_luck_104, dX5_luck_105, dX5_luck_106, dX5_luck_108, dX5_luck_111, dX5_luck_113, dX5_luck_116, dX5_luck_117, dX5_luck_118, dX5_luck_120, dX5_luck_123, dX5_luck_126, dX5_luck_128, dX5_luck_129, dX5_luck_131, dX5_luck_134, FX5_10, CX5_160, FX5_16, FX5_115, G_X5_luck_52, G_X5_luck_111, G_X5_luck_162, G_X5_luck_166, G_X5_luck_169, kd_0, kd_1, T1_has, T5_isOutside, r35]
    repeat' (first | exact trivial | omega | (with_reducible assumption) | exact absurd trivial (by with_reducible assumption) | contradiction | apply And.intro | intro _)
theorem good_X5_luck (l : Launch) : Good l 5 yX5_luck cX5_luck 11 (some .long) T5_luck := by
  refine Good.mk 3 (by decide) rfl (by simp [retOK]) FOK5 COK5 (gk_X5_luck l) ?_ ?_
  · intro a μ K h
    unfold T5_luck at h
    split at h
    · simp [entl]
    · exact h.elim
  · intro a μ K V hV h
    unfold T5_luck at h
    split at h
    · exact body_X5_luck _ _ _ _ _ _ μ K V hV h
    · exact h.elim

def meanOK (v n w : Int) : Prop := (0 ≤ v ∧ v ≤ 10) ∧ (0 ≤ n ∧ n ≤ 8) ∧ 0 ≤ w ∧ w ≤ 1
def meanV (f : Nat → Int) (v n w : Int) : Int := frc (mnS f v n.toNat (2 ^ n.toNat)).toNat (pw n.toNat).toNat w
def GL_X5_mean : List (Nat × Nat × Bool × TT) := [(52, 3, true, T5_isOutside), (162, 3, true, T5_chanceOf), (166, 3, false, T5_tryFailing), (169, 3, true, T5_partOfFraction)]
def G_X5_mean : Nat → Option (Nat × Bool × TT) := fun i => GL_X5_mean.lookup i
theorem G_X5_mean_52 : G_X5_mean 52 = some (3, true, T5_isOutside) := rfl
theorem G_X5_mean_162 : G_X5_mean 162 = some (3, true, T5_chanceOf) := rfl
theorem G_X5_mean_166 : G_X5_mean 166 = some (3, false, T5_tryFailing) := rfl
theorem G_X5_mean_169 : G_X5_mean 169 = some (3, true, T5_partOfFraction) := rfl

set_option maxRecDepth 20000 in
set_option maxHeartbeats 4000000 in
theorem lp_mean (V : Nat → List (Option AV) → List AV → Mem → Prop) (K : List AV → Mem → Prop) (hV : Clos FX5 CX5 G_X5_mean 3 K cX5_mean V) (μ : Mem) (f : Nat → Int) (hW : WF f) (h38 : f 38 ≤ 9999) (hP : RP μ 8) (hR : RG μ 1 f) (v w : Int) (hv : 0 ≤ v ∧ v ≤ 10) (hw : 0 ≤ w ∧ w ≤ 1) (e : Nat) (he : e ≤ 8) (N : Nat) (hN : 2 ^ e = N) (hK : ∀ ν, FQ μ ν → K [.inr (.inl (frc (mnS f v e N).toNat (pw e).toNat w))] ν) : ∀ m F : Nat, F + m = N → ∀ ν, FQ μ ν → ∀ x : Option AV, V 39 [some (.inr (.inr 0)), some (.inl v), some (.inl (e : Int)), some (.inl w), some (.inr (.inl (mnS f v e F))), none, some (.inl (F : Int)), x, none] [] ν := by
  have h35 := hW.1
  have hN2 : N ≤ 256 := by rw [← hN]; exact p2_in e he
  have hp : (2 : Int) ^ e = (N : Int) := by rw [p2_c, hN]
  have hpw := pw_in e he
  intro m
  induction m with
  | zero =>
    intro F hF ν hQ x
    have en : F = N := by omega
    subst en
    have hk := hK ν hQ
    have hl := mnS_in hW hv he F
    obtain ⟨y, hy⟩ := Int.eq_ofNat_of_zero_le hl.1
    rw [hy, Int.toNat_natCast] at hk
    rw [hy] at hl ⊢
    apply hV [39] 40
    simp only [InR, InL, inb, Int.toNat_natCast, wp1, wpc_z, wpc_s, stp_iconst, stp_bipush, stp_sipush, stp_lconst, stp_iload_n, stp_iload, stp_lload_n, stp_lload, stp_aload_n, stp_aload, stp_istore_n, stp_istore, stp_lstore_n, stp_lstore, stp_astore_n, stp_astore, stp_iinc, stp_iadd, stp_isub, stp_imul, stp_ineg, stp_idiv, stp_irem, stp_ladd, stp_lmul, stp_ldiv, stp_lrem, stp_ishl, stp_ishr, stp_iushr, stp_iand, stp_ior, stp_i2l, stp_i2b, stp_i2s, stp_lcmp, stp_dup, stp_dup2, stp_pop, stp_ifCond, stp_if_icmp, stp_goto, stp_tableswitch, stp_lookupswitch, stp_ldc, stp_ldc_w, stp_ldc2_w, stp_getstatic, stp_getfield, stp_putfield, stp_iaload, stp_baload, stp_iastore, stp_bastore, stp_aaload, stp_aastore, stp_invokevirtual, stp_invokestatic, stp_ireturn, stp_lreturn, stp_return_, lg, lset, okl, spl, wd, c1, cnd, tg, swT, swL, f4_0, f4_1, f4_2, f4_3, f2_0, f2_1, List.mem_cons, List.not_mem_nil, List.length_cons, List.length_nil, List.cons_append, List.nil_append, Nat.reduceAdd, Nat.reduceMul, Nat.reduceLT, Nat.reduceEqDiff, Nat.reduceLeDiff, Int.reduceAdd, Int.reduceNeg, Int.reduceToNat, Int.cast_ofNat_Int, Int.reduceNatCast, Int.toNat_zero, Int.toNat_one, Int.reduceLE, Int.reduceLT, Int.reduceEq, Int.zero_add, Int.add_zero, or_false, false_or, or_true, true_or, and_true, true_and, and_false, false_and, reduceIte, not_true_eq_false, not_false_eq_true, forall_const, false_implies, true_implies, implies_true, ne_eq, reduceCtorEq, List.all_cons, List.all_nil, Bool.and_true, Bool.and_self, decide_eq_true_eq, decide_true, dX5_mean_0, dX5_mean_1, dX5_mean_2, dX5_mean_4, dX5_mean_7, dX5_mean_10, dX5_mean_11, dX5_mean_12, dX5_mean_14, dX5_mean_17, dX5_mean_20, dX5_mean_21, dX5_mean_22, dX5_mean_23, dX5_mean_26, dX5_mean_29, dX5_mean_32, dX5_mean_33, dX5_mean_34, dX5_mean_36, dX5_mean_37, dX5_mean_39, dX5_mean_41, dX5_mean_42, dX5_mean_43, dX5_mean_44, dX5_mean_47, dX5_mean_49, dX5_mean_50, dX5_mean_51, dX5_mean_54, dX5_mean_56, dX5_mean_58, dX5_mean_59, dX5_mean_60, dX5_mean_63, dX5_mean_64, dX5_mean_66, dX5_mean_67, dX5_mean_70, dX5_mean_72, dX5_mean_74, dX5_mean_75, dX5_mean_78, dX5_mean_81, dX5_mean_82, dX5_mean_83, dX5_mean_84, dX5_mean_86, dX5_mean_89, dX5_mean_92, dX5_mean_94, dX5_mean_95, dX5_mean_96, dX5_mean_99, CX5_160, FX5_16, FX5_97, G_X5_mean_52, G_X5_mean_162, G_X5_mean_166, G_X5_mean_169, kd_0, hp, Int.one_mul, T5_partOfFraction]
    refine ⟨by omega, by omega, by omega, fun _ => ⟨by omega, y, e, rfl, rfl, he, by omega, hk⟩, fun z => absurd z (by omega)⟩
  | succ m ih =>
    intro F hF ν hQ x
    have hR1 := hQ.ring hR h35.2
    have hP2 := hQ.2.2
    have hc := chW_in hv F e he
    have key := fun σ hσ y => ih (F + 1) (by omega) σ hσ y
    rw [show ((F + 1 : Nat) : Int) = (F : Int) + 1 by omega] at key
    simp only [mnS] at key
    have hs := (sum_in (p := bt F) hW e).1
    apply hV [39] 60
    simp only [InR, InL, inb, Int.toNat_natCast, wp1, wpc_z, wpc_s, stp_iconst, stp_bipush, stp_sipush, stp_lconst, stp_iload_n, stp_iload, stp_lload_n, stp_lload, stp_aload_n, stp_aload, stp_istore_n, stp_istore, stp_lstore_n, stp_lstore, stp_astore_n, stp_astore, stp_iinc, stp_iadd, stp_isub, stp_imul, stp_ineg, stp_idiv, stp_irem, stp_ladd, stp_lmul, stp_ldiv, stp_lrem, stp_ishl, stp_ishr, stp_iushr, stp_iand, stp_ior, stp_i2l, stp_i2b, stp_i2s, stp_lcmp, stp_dup, stp_dup2, stp_pop, stp_ifCond, stp_if_icmp, stp_goto, stp_tableswitch, stp_lookupswitch, stp_ldc, stp_ldc_w, stp_ldc2_w, stp_getstatic, stp_getfield, stp_putfield, stp_iaload, stp_baload, stp_iastore, stp_bastore, stp_aaload, stp_aastore, stp_invokevirtual, stp_invokestatic, stp_ireturn, stp_lreturn, stp_return_, lg, lset, okl, spl, wd, c1, cnd, tg, swT, swL, f4_0, f4_1, f4_2, f4_3, f2_0, f2_1, List.mem_cons, List.not_mem_nil, List.length_cons, List.length_nil, List.cons_append, List.nil_append, Nat.reduceAdd, Nat.reduceMul, Nat.reduceLT, Nat.reduceEqDiff, Nat.reduceLeDiff, Int.reduceAdd, Int.reduceNeg, Int.reduceToNat, Int.cast_ofNat_Int, Int.reduceNatCast, Int.toNat_zero, Int.toNat_one, Int.reduceLE, Int.reduceLT, Int.reduceEq, Int.zero_add, Int.add_zero, or_false, false_or, or_true, true_or, and_true, true_and, and_false, false_and, reduceIte, not_true_eq_false, not_false_eq_true, forall_const, false_implies, true_implies, implies_true, ne_eq, reduceCtorEq, List.all_cons, List.all_nil, Bool.and_true, Bool.and_self, decide_eq_true_eq, decide_true, dX5_mean_0, dX5_mean_1, dX5_mean_2, dX5_mean_4, dX5_mean_7, dX5_mean_10, dX5_mean_11, dX5_mean_12, dX5_mean_14, dX5_mean_17, dX5_mean_20, dX5_mean_21, dX5_mean_22, dX5_mean_23, dX5_mean_26, dX5_mean_29, dX5_mean_32, dX5_mean_33, dX5_mean_34, dX5_mean_36, dX5_mean_37, dX5_mean_39, dX5_mean_41, dX5_mean_42, dX5_mean_43, dX5_mean_44, dX5_mean_47, dX5_mean_49, dX5_mean_50, dX5_mean_51, dX5_mean_54, dX5_mean_56, dX5_mean_58, dX5_mean_59, dX5_mean_60, dX5_mean_63, dX5_mean_64, dX5_mean_66, dX5_mean_67, dX5_mean_70, dX5_mean_72, dX5_mean_74, dX5_mean_75, dX5_mean_78, dX5_mean_81, dX5_mean_82, dX5_mean_83, dX5_mean_84, dX5_mean_86, dX5_mean_89, dX5_mean_92, dX5_mean_94, dX5_mean_95, dX5_mean_96, dX5_mean_99, CX5_160, FX5_16, FX5_97, G_X5_mean_52, G_X5_mean_162, G_X5_mean_166, G_X5_mean_169, kd_0, kd_8, hp, Int.one_mul, T5_chanceOf, T5_tryFailing]
    refine ⟨by omega, by omega, by omega, fun z => absurd z (by omega), fun _ => ⟨F, e, rfl, rfl, by omega, he, hv, ?_⟩⟩
    generalize hch : chW v F e = ch at hc key
    by_cases z : ch = 0
    · rw [z] at key ⊢
      have kk := key ν hQ (some (.inr (.inl 0)))
      simp only [Int.zero_mul, Int.add_zero] at kk
      refine ⟨by omega, fun y => absurd y (by omega), fun _ => kk, fun y => absurd y (by omega)⟩
    · refine ⟨by omega, fun y => absurd y (by omega), fun y => absurd y (by omega), fun _ => ⟨F, e, rfl, rfl, by omega, he, hP2, f, hR1, hW, h38, fun ρ hρ => ?_⟩⟩
      obtain ⟨a1, a2, a3⟩ := hρ
      rw [a2]
      exact ⟨by omega, key ρ (hQ.tr a3) (some (.inr (.inl ch)))⟩
def T5_mean : TT := fun a μ K => match a with
  | [.inr (.inr o), .inl v, .inl n, .inl w] => o = 0 ∧ (InR v ∧ InR n ∧ InR w ∧ RP μ 8 ∧ ∃ f, RG μ 1 f ∧ WF f ∧ f 38 ≤ 9999 ∧ (meanOK v n w → ∀ ν, FQ μ ν → K [.inr (.inl (meanV f v n w))] ν) ∧ (¬ meanOK v n w → K [.inr (.inl (-1))] μ))
  | _ => False
theorem rec_X5_mean : ∀ a μ K, T5_mean a μ K → ∃ k r, a = .inr (.inr k) :: r ∧ kd k = 5 := by
  intro a μ K h
  unfold T5_mean at h
  split at h
  · exact ⟨_, _, rfl, by rw [h.1]; rfl⟩
  · exact h.elim
theorem gk_X5_mean (l : Launch) : ∀ i n b T, G_X5_mean i = some (n, b, T) → CallOK l 5 RX5 i n b T := by
  intro i n b T h
  have hm : (i, n, b, T) ∈ GL_X5_mean := lk_mem h
  simp only [GL_X5_mean, List.mem_cons, List.not_mem_nil, or_false, Prod.mk.injEq] at hm
  rcases hm with ⟨rfl, rfl, rfl, rfl⟩ | ⟨rfl, rfl, rfl, rfl⟩ | ⟨rfl, rfl, rfl, rfl⟩ | ⟨rfl, rfl, rfl, rfl⟩
  · exact CallOK.S (d := 5) (own := RX5) (i := 52) (n := 3) (good_X5_isOutside l) (by decide) (by decide) (mg 191 (by decide +kernel) (by decide +kernel)) (mg 192 (by decide +kernel) (by decide +kernel)) (mg 1 (by decide +kernel) (by decide +kernel)) (mg 193 (by decide +kernel) (by decide +kernel)) (by decide +kernel)
  · exact CallOK.S (d := 5) (own := RX5) (i := 162) (n := 3) (good_X5_chanceOf l) (by decide) (by decide) (mg 455 (by decide +kernel) (by decide +kernel)) (mg 456 (by decide +kernel) (by decide +kernel)) (mg 1 (by decide +kernel) (by decide +kernel)) (mg 457 (by decide +kernel) (by decide +kernel)) (by decide +kernel)
  · exact CallOK.V (d := 5) (own := RX5) (i := 166) (n := 2) (ci := 5) (good_X5_tryFailing l) (by decide) (by decide) rfl (by decide) rec_X5_tryFailing (mg 461 (by decide +kernel) (by decide +kernel)) (mg 463 (by decide +kernel) (by decide +kernel)) (mgs 15 (by decide +kernel) (by decide +kernel)) (mg 1 (by decide +kernel) (by decide +kernel)) (mg 464 (by decide +kernel) (by decide +kernel)) (by decide +kernel)
  · exact CallOK.S (d := 5) (own := RX5) (i := 169) (n := 3) (good_X5_partOfFraction l) (by decide) (by decide) (mg 465 (by decide +kernel) (by decide +kernel)) (mg 466 (by decide +kernel) (by decide +kernel)) (mg 1 (by decide +kernel) (by decide +kernel)) (mg 467 (by decide +kernel) (by decide +kernel)) (by decide +kernel)
set_option maxRecDepth 20000 in
set_option maxHeartbeats 4000000 in
theorem body_X5_mean (o : Nat) (v : Int) (n : Int) (w : Int) (μ : Mem) (K : List AV → Mem → Prop) (V : Nat → List (Option AV) → List AV → Mem → Prop) (hV : Clos FX5 CX5 G_X5_mean 3 K cX5_mean V) (hT : o = 0 ∧ (InR v ∧ InR n ∧ InR w ∧ RP μ 8 ∧ ∃ f, RG μ 1 f ∧ WF f ∧ f 38 ≤ 9999 ∧ (meanOK v n w → ∀ ν, FQ μ ν → K [.inr (.inl (meanV f v n w))] ν) ∧ (¬ meanOK v n w → K [.inr (.inl (-1))] μ))) : V 0 [some (.inr (.inr o)), some (.inl v), some (.inl n), some (.inl w), none, none, none, none, none] [] μ := by
  simp only [InR] at hT
  obtain ⟨rfl, hv, hn, hw, hP, f, hR, hW, h38, hK, hB⟩ := hT
  have h35 := hW.1
  by_cases hc : meanOK v n w
  · have hK := hK hc
    unfold meanOK at hc
    unfold meanV at hK
    obtain ⟨n', rfl⟩ := Int.eq_ofNat_of_zero_le hc.2.1.1
    rw [Int.toNat_natCast] at hK
    have h := lp_mean V K hV μ f hW h38 hP hR v w hc.1 hc.2.2 n' (by omega) _ rfl hK (2 ^ n') 0 (by omega) μ (FQ.rf hP) none
    simp only [mnS] at h
    apply hV [39] 80
    simp only [InR, InL, inb, Int.toNat_natCast, wp1, wpc_z, wpc_s, stp_iconst, stp_bipush, stp_sipush, stp_lconst, stp_iload_n, stp_iload, stp_lload_n, stp_lload, stp_aload_n, stp_aload, stp_istore_n, stp_istore, stp_lstore_n, stp_lstore, stp_astore_n, stp_astore, stp_iinc, stp_iadd, stp_isub, stp_imul, stp_ineg, stp_idiv, stp_irem, stp_ladd, stp_lmul, stp_ldiv, stp_lrem, stp_ishl, stp_ishr, stp_iushr, stp_iand, stp_ior, stp_i2l, stp_i2b, stp_i2s, stp_lcmp, stp_dup, stp_dup2, stp_pop, stp_ifCond, stp_if_icmp, stp_goto, stp_tableswitch, stp_lookupswitch, stp_ldc, stp_ldc_w, stp_ldc2_w, stp_getstatic, stp_getfield, stp_putfield, stp_iaload, stp_baload, stp_iastore, stp_bastore, stp_aaload, stp_aastore, stp_invokevirtual, stp_invokestatic, stp_ireturn, stp_lreturn, stp_return_, lg, lset, okl, spl, wd, c1, cnd, tg, swT, swL, f4_0, f4_1, f4_2, f4_3, f2_0, f2_1, List.mem_cons, List.not_mem_nil, List.length_cons, List.length_nil, List.cons_append, List.nil_append, Nat.reduceAdd, Nat.reduceMul, Nat.reduceLT, Nat.reduceEqDiff, Nat.reduceLeDiff, Int.reduceAdd, Int.reduceNeg, Int.reduceToNat, Int.cast_ofNat_Int, Int.reduceNatCast, Int.toNat_zero, Int.toNat_one, Int.reduceLE, Int.reduceLT, Int.reduceEq, Int.zero_add, Int.add_zero, or_false, false_or, or_true, true_or, and_true, true_and, and_false, false_and, reduceIte, not_true_eq_false, not_false_eq_true, forall_const, false_implies, true_implies, implies_true, ne_eq, reduceCtorEq, List.all_cons, List.all_nil, Bool.and_true, Bool.and_self, decide_eq_true_eq, decide_true, dX5_mean_0, dX5_mean_1, dX5_mean_2, dX5_mean_4, dX5_mean_7, dX5_mean_10, dX5_mean_11, dX5_mean_12, dX5_mean_14, dX5_mean_17, dX5_mean_20, dX5_mean_21, dX5_mean_22, dX5_mean_23, dX5_mean_26, dX5_mean_29, dX5_mean_32, dX5_mean_33, dX5_mean_34, dX5_mean_36, dX5_mean_37, dX5_mean_39, dX5_mean_41, dX5_mean_42, dX5_mean_43, dX5_mean_44, dX5_mean_47, dX5_mean_49, dX5_mean_50, dX5_mean_51, dX5_mean_54, dX5_mean_56, dX5_mean_58, dX5_mean_59, dX5_mean_60, dX5_mean_63, dX5_mean_64, dX5_mean_66, dX5_mean_67, dX5_mean_70, dX5_mean_72, dX5_mean_74, dX5_mean_75, dX5_mean_78, dX5_mean_81, dX5_mean_82, dX5_mean_83, dX5_mean_84, dX5_mean_86, dX5_mean_89, dX5_mean_92, dX5_mean_94, dX5_mean_95, dX5_mean_96, dX5_mean_99, CX5_160, FX5_16, FX5_97, G_X5_mean_52, G_X5_mean_162, G_X5_mean_166, G_X5_mean_169, kd_0, kd_1, T5_isOutside]
    repeat' (first | exact trivial | omega | (with_reducible assumption) | exact absurd trivial (by with_reducible assumption) | contradiction | apply And.intro | intro _)
  · have hB := hB hc
    unfold meanOK at hc
    apply hV [33] 80
    simp only [InR, InL, inb, Int.toNat_natCast, wp1, wpc_z, wpc_s, stp_iconst, stp_bipush, stp_sipush, stp_lconst, stp_iload_n, stp_iload, stp_lload_n, stp_lload, stp_aload_n, stp_aload, stp_istore_n, stp_istore, stp_lstore_n, stp_lstore, stp_astore_n, stp_astore, stp_iinc, stp_iadd, stp_isub, stp_imul, stp_ineg, stp_idiv, stp_irem, stp_ladd, stp_lmul, stp_ldiv, stp_lrem, stp_ishl, stp_ishr, stp_iushr, stp_iand, stp_ior, stp_i2l, stp_i2b, stp_i2s, stp_lcmp, stp_dup, stp_dup2, stp_pop, stp_ifCond, stp_if_icmp, stp_goto, stp_tableswitch, stp_lookupswitch, stp_ldc, stp_ldc_w, stp_ldc2_w, stp_getstatic, stp_getfield, stp_putfield, stp_iaload, stp_baload, stp_iastore, stp_bastore, stp_aaload, stp_aastore, stp_invokevirtual, stp_invokestatic, stp_ireturn, stp_lreturn, stp_return_, lg, lset, okl, spl, wd, c1, cnd, tg, swT, swL, f4_0, f4_1, f4_2, f4_3, f2_0, f2_1, List.mem_cons, List.not_mem_nil, List.length_cons, List.length_nil, List.cons_append, List.nil_append, Nat.reduceAdd, Nat.reduceMul, Nat.reduceLT, Nat.reduceEqDiff, Nat.reduceLeDiff, Int.reduceAdd, Int.reduceNeg, Int.reduceToNat, Int.cast_ofNat_Int, Int.reduceNatCast, Int.toNat_zero, Int.toNat_one, Int.reduceLE, Int.reduceLT, Int.reduceEq, Int.zero_add, Int.add_zero, or_false, false_or, or_true, true_or, and_true, true_and, and_false, false_and, reduceIte, not_true_eq_false, not_false_eq_true, forall_const, false_implies, true_implies, implies_true, ne_eq, reduceCtorEq, List.all_cons, List.all_nil, Bool.and_true, Bool.and_self, decide_eq_true_eq, decide_true, dX5_mean_0, dX5_mean_1, dX5_mean_2, dX5_mean_4, dX5_mean_7, dX5_mean_10, dX5_mean_11, dX5_mean_12, dX5_mean_14, dX5_mean_17, dX5_mean_20, dX5_mean_21, dX5_mean_22, dX5_mean_23, dX5_mean_26, dX5_mean_29, dX5_mean_32, dX5_mean_33, dX5_mean_34, dX5_mean_36, dX5_mean_37, dX5_mean_39, dX5_mean_41, dX5_mean_42, dX5_mean_43, dX5_mean_44, dX5_mean_47, dX5_mean_49, dX5_mean_50, dX5_mean_51, dX5_mean_54, dX5_mean_56, dX5_mean_58, dX5_mean_59, dX5_mean_60, dX5_mean_63, dX5_mean_64, dX5_mean_66, dX5_mean_67, dX5_mean_70, dX5_mean_72, dX5_mean_74, dX5_mean_75, dX5_mean_78, dX5_mean_81, dX5_mean_82, dX5_mean_83, dX5_mean_84, dX5_mean_86, dX5_mean_89, dX5_mean_92, dX5_mean_94, dX5_mean_95, dX5_mean_96, dX5_mean_99, CX5_160, FX5_16, FX5_97, G_X5_mean_52, G_X5_mean_162, G_X5_mean_166, G_X5_mean_169, kd_0, kd_1, T5_isOutside]
    repeat' (first | exact trivial | omega | (with_reducible assumption) | exact absurd trivial (by with_reducible assumption) | contradiction | apply And.intro | intro _)
theorem good_X5_mean (l : Launch) : Good l 5 yX5_mean cX5_mean 9 (some .long) T5_mean := by
  refine Good.mk 3 (by decide) rfl (by simp [retOK]) FOK5 COK5 (gk_X5_mean l) ?_ ?_
  · intro a μ K h
    unfold T5_mean at h
    split at h
    · simp [entl]
    · exact h.elim
  · intro a μ K V hV h
    unfold T5_mean at h
    split at h
    · exact body_X5_mean _ _ _ _ μ K V hV h
    · exact h.elim

