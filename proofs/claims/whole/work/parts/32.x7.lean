/-! the class: how many at once, whom to pass by, where to begin -/
def holdU (f : Nat → Int) (i n : Nat) : Nat → Int := fun v => sL yes (upF f (7 * i + 2) ((v : Int) + 1)) n
def holdC : Nat → Int := fun v => (v : Int) + 1
def holdR (f : Nat → Int) (i n w : Int) : Int := if (0 ≤ i ∧ i < f 35) ∧ (0 ≤ n ∧ n ≤ 200) ∧ 0 ≤ w ∧ w ≤ 1 then jdA (jd holdC (holdU f i.toNat n.toNat) 1000000000 9) w else -1
def m0 (q : Int × Int) : Int := if q.1 = -4 then 0 else q.2
theorem m0_z {q : Int × Int} (h : q.1 = -4) : m0 q = 0 := if_pos h
theorem m0_n {q : Int × Int} (h : q.1 ≠ -4) : m0 q = q.2 := if_neg h
theorem jd_rg {c u : Nat → Int} {b lo hi lc hc : Int} (h4 : ∀ n, c n ≠ -4) (n : Nat) (hu : ∀ k, k < n → lo ≤ u k ∧ u k ≤ hi) (hcc : ∀ k, k < n → lc ≤ c k ∧ c k ≤ hc) : ((jd c u b n).1 = -4 → (jd c u b n).2 = b ∧ ∀ k, k < n → b ≤ u k) ∧ ((jd c u b n).1 ≠ -4 → (lo ≤ (jd c u b n).2 ∧ (jd c u b n).2 ≤ hi) ∧ lc ≤ (jd c u b n).1 ∧ (jd c u b n).1 ≤ hc) := by
  obtain ⟨h1, h2⟩ := jd_in (c := c) (u := u) (b := b) h4 n
  refine ⟨h1, fun z => ?_⟩
  obtain ⟨-, k, q1, q2, q3⟩ := h2 z
  rw [q2, q3]
  exact ⟨hu k q1, hcc k q1⟩
theorem jd_s (c u : Nat → Int) (b : Int) (n : Nat) : jd c u b (n + 1) = if u n < (jd c u b n).2 then (c n, u n) else jd c u b n := rfl
def GL_X5_hold : List (Nat × Nat × Bool × TT) := [(111, 2, false, T1_has), (52, 3, true, T5_isOutside), (156, 4, false, T5_startTrialWith), (147, 2, false, T1_go)]
def G_X5_hold : Nat → Option (Nat × Bool × TT) := fun i => GL_X5_hold.lookup i
theorem G_X5_hold_111 : G_X5_hold 111 = some (2, false, T1_has) := rfl
theorem G_X5_hold_52 : G_X5_hold 52 = some (3, true, T5_isOutside) := rfl
theorem G_X5_hold_156 : G_X5_hold 156 = some (4, false, T5_startTrialWith) := rfl
theorem G_X5_hold_147 : G_X5_hold 147 = some (2, false, T1_go) := rfl

set_option maxRecDepth 20000 in
set_option maxHeartbeats 4000000 in
theorem lp_hold (V : Nat → List (Option AV) → List AV → Mem → Prop) (K : List AV → Mem → Prop) (hV : Clos FX5 CX5 G_X5_hold 1 K cX5_hold V) (μ : Mem) (f : Nat → Int) (hW : WF f) (h38 : f 38 ≤ 9999) (i : Nat) (hi : (i : Int) < f 35) (e : Nat) (he : e ≤ 200) (w : Int) (hw : 0 ≤ w ∧ w ≤ 1) (hP : RP μ 8) (hR : RG μ 1 f) (hK : ∀ ν, FQ μ ν → K [.inl (jdA (jd holdC (holdU f i e) 1000000000 9) w)] ν) : ∀ m n : Nat, n + m = 9 → ∀ ν, FQ μ ν → ∀ q : Int × Int, q = jd holdC (holdU f i e) 1000000000 n → V 47 [some (.inr (.inr 0)), some (.inl (i : Int)), some (.inl (e : Int)), some (.inl w), some (.inl q.1), some (.inl (m0 q)), some (.inl ((n : Int) + 1))] [] ν := by
  have h35 := hW.1
  have hu : ∀ v : Nat, v < 9 → 0 ≤ holdU f i e v ∧ holdU f i e v ≤ 27000 := by
    intro v hv
    have := (sum_in (p := yes) (hW.set (t := 2) hi (by omega) (v := (v : Int) + 1) ⟨fun z => by omega, fun z => by omega, fun _ => by omega, fun z => by omega, fun z => by omega⟩) e).2.1
    unfold holdU
    omega
  have hj := fun n (hn : n ≤ 9) => jd_rg (c := holdC) (u := holdU f i e) (b := 1000000000) (lo := 0) (hi := 27000) (lc := 0) (hc := 9) (fun n => by show (n : Int) + 1 ≠ -4; omega) n (fun k hk => hu k (by omega)) (fun k hk => ⟨by show 0 ≤ (k : Int) + 1; omega, by show (k : Int) + 1 ≤ 9; omega⟩)
  intro m
  induction m with
  | zero =>
    intro n hn ν hF q hq
    have en : n = 9 := by omega
    subst en
    have hk := hK ν hF
    rw [← hq] at hk
    have hne : q.1 ≠ -4 := fun z => by
      rw [hq] at z
      have := ((hj 9 (by omega)).1 z).2 0 (by omega)
      have := hu 0 (by omega)
      omega
    rw [m0_n hne]
    unfold jdA at hk
    rw [if_neg hne] at hk
    apply hV [47] 60
    simp only [InR, InL, inb, Int.toNat_natCast, wp1, wpc_z, wpc_s, stp_iconst, stp_bipush, stp_sipush, stp_lconst, stp_iload_n, stp_iload, stp_lload_n, stp_lload, stp_aload_n, stp_aload, stp_istore_n, stp_istore, stp_lstore_n, stp_lstore, stp_astore_n, stp_astore, stp_iinc, stp_iadd, stp_isub, stp_imul, stp_ineg, stp_idiv, stp_irem, stp_ladd, stp_lmul, stp_ldiv, stp_lrem, stp_ishl, stp_ishr, stp_iushr, stp_iand, stp_ior, stp_i2l, stp_i2b, stp_i2s, stp_lcmp, stp_dup, stp_dup2, stp_pop, stp_ifCond, stp_if_icmp, stp_goto, stp_tableswitch, stp_lookupswitch, stp_ldc, stp_ldc_w, stp_ldc2_w, stp_getstatic, stp_getfield, stp_putfield, stp_iaload, stp_baload, stp_iastore, stp_bastore, stp_aaload, stp_aastore, stp_invokevirtual, stp_invokestatic, stp_ireturn, stp_lreturn, stp_return_, lg, lset, okl, spl, wd, c1, cnd, tg, swT, swL, f4_0, f4_1, f4_2, f4_3, f2_0, f2_1, List.mem_cons, List.not_mem_nil, List.length_cons, List.length_nil, List.cons_append, List.nil_append, Nat.reduceAdd, Nat.reduceMul, Nat.reduceLT, Nat.reduceEqDiff, Nat.reduceLeDiff, Int.reduceAdd, Int.reduceNeg, Int.reduceToNat, Int.cast_ofNat_Int, Int.reduceNatCast, Int.toNat_zero, Int.toNat_one, Int.reduceLE, Int.reduceLT, Int.reduceEq, Int.zero_add, Int.add_zero, or_false, false_or, or_true, true_or, and_true, true_and, and_false, false_and, reduceIte, not_true_eq_false, not_false_eq_true, forall_const, false_implies, true_implies, implies_true, ne_eq, reduceCtorEq, List.all_cons, List.all_nil, Bool.and_true, Bool.and_self, decide_eq_true_eq, decide_true, dX5_hold_0, dX5_hold_1, dX5_hold_4, dX5_hold_5, dX5_hold_8, dX5_hold_11, dX5_hold_12, dX5_hold_13, dX5_hold_16, dX5_hold_19, dX5_hold_22, dX5_hold_23, dX5_hold_24, dX5_hold_25, dX5_hold_28, dX5_hold_31, dX5_hold_32, dX5_hold_33, dX5_hold_35, dX5_hold_37, dX5_hold_38, dX5_hold_40, dX5_hold_43, dX5_hold_44, dX5_hold_45, dX5_hold_47, dX5_hold_49, dX5_hold_52, dX5_hold_53, dX5_hold_54, dX5_hold_57, dX5_hold_58, dX5_hold_59, dX5_hold_60, dX5_hold_62, dX5_hold_65, dX5_hold_66, dX5_hold_69, dX5_hold_70, dX5_hold_73, dX5_hold_75, dX5_hold_77, dX5_hold_80, dX5_hold_81, dX5_hold_84, dX5_hold_87, dX5_hold_89, dX5_hold_92, dX5_hold_93, dX5_hold_96, dX5_hold_99, dX5_hold_101, dX5_hold_103, dX5_hold_105, dX5_hold_108, dX5_hold_111, dX5_hold_112, dX5_hold_115, dX5_hold_117, dX5_hold_120, dX5_hold_122, FX5_10, CX5_118, CX5_122, FX5_16, FX5_100, G_X5_hold_111, G_X5_hold_52, G_X5_hold_156, G_X5_hold_147, kd_0, kd_1, kd_2, kd_3, kd_4, kd_5, kd_6, kd_7, kd_8, kd_9, kd_10, kd_11, kd_12, kd_13, kd_14, kd_15, kd_16, kd_17, kd_18, kd_19, kd_20, kd_21, kd_22, kd_23, kd_24, kd_25, kd_26, kd_27, kd_28, kd_29, kd_30, kd_31, kd_32, kd_33, kd_34, kd_35, kd_36, kd_37, kd_38, kd_39, kd_40, kd_41, kd_42, kd_43, kd_44, kd_45, kd_46, kd_47, kd_48, kd_49, kd_50, kd_51, kd_52, kd_53, kd_54, kd_55, kd_56, kd_57, kd_58, kd_59, kd_60, kd_61, kd_62, kd_63, kd_64, kd_65, ln_0, ln_1, ln_2, ln_3, ln_4, ln_5, ln_6, ln_7, ln_8, ln_9, ln_10, ln_11, ln_12, ln_13, ln_14, ln_15, ln_16, ln_17, ln_18, ln_19, ln_20, ln_21, ln_22, ln_23, ln_24, ln_25, ln_26, ln_27, ln_28, ln_29, ln_30, ln_31, ln_32, ln_33, ln_34, ln_35, ln_36, ln_37, ln_38, ln_39, ln_40, ln_41, ln_42, ln_43, ln_44, ln_45, ln_46, ln_47, ln_48, ln_49, ln_50, ln_51, ln_52, ln_53, ln_54, ln_55, ln_56, ln_57, ln_58, ln_59, ln_60, ln_61, ln_62, ln_63, ln_64, ln_65, kd_101, kd_100, stv_101_2]
    by_cases w0 : w = 0
    · rw [if_pos w0] at hk
      repeat' (first | exact trivial | omega | (with_reducible assumption) | exact absurd trivial (by with_reducible assumption) | contradiction | apply And.intro | intro _)
    · rw [if_neg w0] at hk
      repeat' (first | exact trivial | omega | (with_reducible assumption) | exact absurd trivial (by with_reducible assumption) | contradiction | apply And.intro | intro _)
  | succ m ih =>
    intro n hn ν hF q hq
    have hR1 := hF.ring hR h35.2
    have hun := hu n (by omega)
    have hW2 : WF (upF f (7 * i + 2) ((n : Int) + 1)) := hW.set (t := 2) hi (by omega) (v := (n : Int) + 1) ⟨fun z => by omega, fun z => by omega, fun _ => by omega, fun z => by omega, fun z => by omega⟩
    have hjn := hj n (by omega)
    rw [← hq] at hjn
    have hmr := hjn.2
    have hmi := hjn.1
    have hP2 := hF.2.2
    have key := fun σ hσ => ih (n + 1) (by omega) σ hσ (jd holdC (holdU f i e) 1000000000 (n + 1)) rfl
    rw [show ((n + 1 : Nat) : Int) = (n : Int) + 1 by omega, jd_s, ← hq] at key
    have hrg : InR q.1 ∧ InR (m0 q) := by
      by_cases z : q.1 = -4
      · rw [m0_z z, z]; exact ⟨⟨by omega, by omega⟩, ⟨by omega, by omega⟩⟩
      · have := hmr z; rw [m0_n z]; exact ⟨⟨by omega, by omega⟩, ⟨by omega, by omega⟩⟩
    simp only [InR] at hrg
    apply hV [47] 60
    simp only [InR, InL, inb, Int.toNat_natCast, wp1, wpc_z, wpc_s, stp_iconst, stp_bipush, stp_sipush, stp_lconst, stp_iload_n, stp_iload, stp_lload_n, stp_lload, stp_aload_n, stp_aload, stp_istore_n, stp_istore, stp_lstore_n, stp_lstore, stp_astore_n, stp_astore, stp_iinc, stp_iadd, stp_isub, stp_imul, stp_ineg, stp_idiv, stp_irem, stp_ladd, stp_lmul, stp_ldiv, stp_lrem, stp_ishl, stp_ishr, stp_iushr, stp_iand, stp_ior, stp_i2l, stp_i2b, stp_i2s, stp_lcmp, stp_dup, stp_dup2, stp_pop, stp_ifCond, stp_if_icmp, stp_goto, stp_tableswitch, stp_lookupswitch, stp_ldc, stp_ldc_w, stp_ldc2_w, stp_getstatic, stp_getfield, stp_putfield, stp_iaload, stp_baload, stp_iastore, stp_bastore, stp_aaload, stp_aastore, stp_invokevirtual, stp_invokestatic, stp_ireturn, stp_lreturn, stp_return_, lg, lset, okl, spl, wd, c1, cnd, tg, swT, swL, f4_0, f4_1, f4_2, f4_3, f2_0, f2_1, List.mem_cons, List.not_mem_nil, List.length_cons, List.length_nil, List.cons_append, List.nil_append, Nat.reduceAdd, Nat.reduceMul, Nat.reduceLT, Nat.reduceEqDiff, Nat.reduceLeDiff, Int.reduceAdd, Int.reduceNeg, Int.reduceToNat, Int.cast_ofNat_Int, Int.reduceNatCast, Int.toNat_zero, Int.toNat_one, Int.reduceLE, Int.reduceLT, Int.reduceEq, Int.zero_add, Int.add_zero, or_false, false_or, or_true, true_or, and_true, true_and, and_false, false_and, reduceIte, not_true_eq_false, not_false_eq_true, forall_const, false_implies, true_implies, implies_true, ne_eq, reduceCtorEq, List.all_cons, List.all_nil, Bool.and_true, Bool.and_self, decide_eq_true_eq, decide_true, dX5_hold_0, dX5_hold_1, dX5_hold_4, dX5_hold_5, dX5_hold_8, dX5_hold_11, dX5_hold_12, dX5_hold_13, dX5_hold_16, dX5_hold_19, dX5_hold_22, dX5_hold_23, dX5_hold_24, dX5_hold_25, dX5_hold_28, dX5_hold_31, dX5_hold_32, dX5_hold_33, dX5_hold_35, dX5_hold_37, dX5_hold_38, dX5_hold_40, dX5_hold_43, dX5_hold_44, dX5_hold_45, dX5_hold_47, dX5_hold_49, dX5_hold_52, dX5_hold_53, dX5_hold_54, dX5_hold_57, dX5_hold_58, dX5_hold_59, dX5_hold_60, dX5_hold_62, dX5_hold_65, dX5_hold_66, dX5_hold_69, dX5_hold_70, dX5_hold_73, dX5_hold_75, dX5_hold_77, dX5_hold_80, dX5_hold_81, dX5_hold_84, dX5_hold_87, dX5_hold_89, dX5_hold_92, dX5_hold_93, dX5_hold_96, dX5_hold_99, dX5_hold_101, dX5_hold_103, dX5_hold_105, dX5_hold_108, dX5_hold_111, dX5_hold_112, dX5_hold_115, dX5_hold_117, dX5_hold_120, dX5_hold_122, FX5_10, CX5_118, CX5_122, FX5_16, FX5_100, G_X5_hold_111, G_X5_hold_52, G_X5_hold_156, G_X5_hold_147, kd_0, kd_1, kd_2, kd_3, kd_4, kd_5, kd_6, kd_7, kd_8, kd_9, kd_10, kd_11, kd_12, kd_13, kd_14, kd_15, kd_16, kd_17, kd_18, kd_19, kd_20, kd_21, kd_22, kd_23, kd_24, kd_25, kd_26, kd_27, kd_28, kd_29, kd_30, kd_31, kd_32, kd_33, kd_34, kd_35, kd_36, kd_37, kd_38, kd_39, kd_40, kd_41, kd_42, kd_43, kd_44, kd_45, kd_46, kd_47, kd_48, kd_49, kd_50, kd_51, kd_52, kd_53, kd_54, kd_55, kd_56, kd_57, kd_58, kd_59, kd_60, kd_61, kd_62, kd_63, kd_64, kd_65, ln_0, ln_1, ln_2, ln_3, ln_4, ln_5, ln_6, ln_7, ln_8, ln_9, ln_10, ln_11, ln_12, ln_13, ln_14, ln_15, ln_16, ln_17, ln_18, ln_19, ln_20, ln_21, ln_22, ln_23, ln_24, ln_25, ln_26, ln_27, ln_28, ln_29, ln_30, ln_31, ln_32, ln_33, ln_34, ln_35, ln_36, ln_37, ln_38, ln_39, ln_40, ln_41, ln_42, ln_43, ln_44, ln_45, ln_46, ln_47, ln_48, ln_49, ln_50, ln_51, ln_52, ln_53, ln_54, ln_55, ln_56, ln_57, ln_58, ln_59, ln_60, ln_61, ln_62, ln_63, ln_64, ln_65, kd_101, kd_100, stv_101_2, T5_startTrialWith, T1_go]
    repeat' (first | exact trivial | omega | (with_reducible assumption) | exact absurd trivial (by with_reducible assumption) | contradiction | apply And.intro | intro _)
    refine ⟨f, hR1, by omega, h35.2, fun ρ hρ => ?_⟩
    obtain ⟨a1, a2, a3, a4⟩ := hρ
    refine ⟨by omega, upF f (7 * i + 2) ((n : Int) + 1), a1, hW2, by rw [upF_n _ _ (by omega)]; omega, fun σ hσ => ?_⟩
    obtain ⟨b1, b2, b3, b4⟩ := hσ
    have key := key σ (hF.tr ((a4.tr b4).q hF.2.2))
    have es : rI σ 8 6 = holdU f i e n := by rw [b3, a3]; unfold holdU; omega
    rw [es]
    by_cases z : q.1 = -4
    · have qq := (hmi z).1
      have lt : holdU f i e n < q.2 := by omega
      rw [if_pos lt, m0_n (q := (holdC n, holdU f i e n)) (by show (n : Int) + 1 ≠ -4; omega)] at key
      simp only [holdC] at key
      rw [m0_z z]
      repeat' (first | exact trivial | omega | (with_reducible assumption) | exact absurd trivial (by with_reducible assumption) | contradiction | apply And.intro | intro _)
    · have qq := hmr z
      rw [m0_n z]
      rw [m0_n z] at hrg
      by_cases lt : holdU f i e n < q.2
      · rw [if_pos lt, m0_n (q := (holdC n, holdU f i e n)) (by show (n : Int) + 1 ≠ -4; omega)] at key
        simp only [holdC] at key
        repeat' (first | exact trivial | omega | (with_reducible assumption) | exact absurd trivial (by with_reducible assumption) | contradiction | apply And.intro | intro _)
      · rw [if_neg lt, m0_n z] at key
        repeat' (first | exact trivial | omega | (with_reducible assumption) | exact absurd trivial (by with_reducible assumption) | contradiction | apply And.intro | intro _)
def T5_hold : TT := fun a μ K => match a with
  | [.inr (.inr o), .inl i, .inl n, .inl w] => o = 0 ∧ (InR i ∧ InR n ∧ InR w ∧ RP μ 8 ∧ ∃ f, RG μ 1 f ∧ WF f ∧ f 38 ≤ 9999 ∧ ∀ ν, FQ μ ν → K [.inl (holdR f i n w)] ν)
  | _ => False
theorem rec_X5_hold : ∀ a μ K, T5_hold a μ K → ∃ k r, a = .inr (.inr k) :: r ∧ kd k = 5 := by
  intro a μ K h
  unfold T5_hold at h
  split at h
  · exact ⟨_, _, rfl, by rw [h.1]; rfl⟩
  · exact h.elim
theorem gk_X5_hold (l : Launch) : ∀ i n b T, G_X5_hold i = some (n, b, T) → CallOK l 5 RX5 i n b T := by
  intro i n b T h
  have hm : (i, n, b, T) ∈ GL_X5_hold := lk_mem h
  simp only [GL_X5_hold, List.mem_cons, List.not_mem_nil, or_false, Prod.mk.injEq] at hm
  rcases hm with ⟨rfl, rfl, rfl, rfl⟩ | ⟨rfl, rfl, rfl, rfl⟩ | ⟨rfl, rfl, rfl, rfl⟩ | ⟨rfl, rfl, rfl, rfl⟩
  · exact CallOK.V (d := 5) (own := RX5) (i := 111) (n := 1) (ci := 1) (good_X1_has l) (by decide) (by decide) rfl (by decide) rec_X1_has (mg 351 (by decide +kernel) (by decide +kernel)) (mg 313 (by decide +kernel) (by decide +kernel)) (mg 314 (by decide +kernel) (by decide +kernel)) (mg 2 (by decide +kernel) (by decide +kernel)) (mg 315 (by decide +kernel) (by decide +kernel)) (by decide +kernel)
  · exact CallOK.S (d := 5) (own := RX5) (i := 52) (n := 3) (good_X5_isOutside l) (by decide) (by decide) (mg 191 (by decide +kernel) (by decide +kernel)) (mg 192 (by decide +kernel) (by decide +kernel)) (mg 1 (by decide +kernel) (by decide +kernel)) (mg 193 (by decide +kernel) (by decide +kernel)) (by decide +kernel)
  · exact CallOK.V (d := 5) (own := RX5) (i := 156) (n := 3) (ci := 5) (good_X5_startTrialWith l) (by decide) (by decide) rfl (by decide) rec_X5_startTrialWith (mg 430 (by decide +kernel) (by decide +kernel)) (mg 432 (by decide +kernel) (by decide +kernel)) (mgs 14 (by decide +kernel) (by decide +kernel)) (mg 1 (by decide +kernel) (by decide +kernel)) (mg 433 (by decide +kernel) (by decide +kernel)) (by decide +kernel)
  · exact CallOK.V (d := 5) (own := RX5) (i := 147) (n := 1) (ci := 1) (good_X1_go l) (by decide) (by decide) rfl (by decide) rec_X1_go (mg 410 (by decide +kernel) (by decide +kernel)) (mg 411 (by decide +kernel) (by decide +kernel)) (mg 412 (by decide +kernel) (by decide +kernel)) (mg 2 (by decide +kernel) (by decide +kernel)) (mg 413 (by decide +kernel) (by decide +kernel)) (by decide +kernel)
set_option maxRecDepth 20000 in
set_option maxHeartbeats 4000000 in
theorem body_X5_hold (o : Nat) (i : Int) (n : Int) (w : Int) (μ : Mem) (K : List AV → Mem → Prop) (V : Nat → List (Option AV) → List AV → Mem → Prop) (hV : Clos FX5 CX5 G_X5_hold 1 K cX5_hold V) (hT : o = 0 ∧ (InR i ∧ InR n ∧ InR w ∧ RP μ 8 ∧ ∃ f, RG μ 1 f ∧ WF f ∧ f 38 ≤ 9999 ∧ ∀ ν, FQ μ ν → K [.inl (holdR f i n w)] ν)) : V 0 [some (.inr (.inr o)), some (.inl i), some (.inl n), some (.inl w), none, none, none] [] μ := by
  simp only [InR] at hT
  obtain ⟨rfl, hi, hn, hw, hP, f, hR, hW, h38, hK⟩ := hT
  have h35 := hW.1
  have r35 := hR.2.1
  by_cases hc : (0 ≤ i ∧ i < f 35) ∧ (0 ≤ n ∧ n ≤ 200) ∧ 0 ≤ w ∧ w ≤ 1
  · obtain ⟨i', rfl⟩ := Int.eq_ofNat_of_zero_le hc.1.1
    obtain ⟨n', rfl⟩ := Int.eq_ofNat_of_zero_le hc.2.1.1
    have h := lp_hold V K hV μ f hW h38 i' (by omega) n' (by omega) w (by omega) hP hR (fun ν hν => by
      have hk := hK ν hν
      unfold holdR at hk
      rw [if_pos hc, Int.toNat_natCast, Int.toNat_natCast] at hk
      exact hk) 9 0 (by omega) μ (FQ.rf hP) _ rfl
    rw [show ((0 : Nat) : Int) + 1 = 1 from rfl, m0_z (show (jd holdC (holdU f i' n') 1000000000 0).1 = -4 from rfl)] at h
    simp only [jd] at h
    apply hV [47] 80
    simp only [InR, InL, inb, Int.toNat_natCast, wp1, wpc_z, wpc_s, stp_iconst, stp_bipush, stp_sipush, stp_lconst, stp_iload_n, stp_iload, stp_lload_n, stp_lload, stp_aload_n, stp_aload, stp_istore_n, stp_istore, stp_lstore_n, stp_lstore, stp_astore_n, stp_astore, stp_iinc, stp_iadd, stp_isub, stp_imul, stp_ineg, stp_idiv, stp_irem, stp_ladd, stp_lmul, stp_ldiv, stp_lrem, stp_ishl, stp_ishr, stp_iushr, stp_iand, stp_ior, stp_i2l, stp_i2b, stp_i2s, stp_lcmp, stp_dup, stp_dup2, stp_pop, stp_ifCond, stp_if_icmp, stp_goto, stp_tableswitch, stp_lookupswitch, stp_ldc, stp_ldc_w, stp_ldc2_w, stp_getstatic, stp_getfield, stp_putfield, stp_iaload, stp_baload, stp_iastore, stp_bastore, stp_aaload, stp_aastore, stp_invokevirtual, stp_invokestatic, stp_ireturn, stp_lreturn, stp_return_, lg, lset, okl, spl, wd, c1, cnd, tg, swT, swL, f4_0, f4_1, f4_2, f4_3, f2_0, f2_1, List.mem_cons, List.not_mem_nil, List.length_cons, List.length_nil, List.cons_append, List.nil_append, Nat.reduceAdd, Nat.reduceMul, Nat.reduceLT, Nat.reduceEqDiff, Nat.reduceLeDiff, Int.reduceAdd, Int.reduceNeg, Int.reduceToNat, Int.cast_ofNat_Int, Int.reduceNatCast, Int.toNat_zero, Int.toNat_one, Int.reduceLE, Int.reduceLT, Int.reduceEq, Int.zero_add, Int.add_zero, or_false, false_or, or_true, true_or, and_true, true_and, and_false, false_and, reduceIte, not_true_eq_false, not_false_eq_true, forall_const, false_implies, true_implies, implies_true, ne_eq, reduceCtorEq, List.all_cons, List.all_nil, Bool.and_true, Bool.and_self, decide_eq_true_eq, decide_true, dX5_hold_0, dX5_hold_1, dX5_hold_4, dX5_hold_5, dX5_hold_8, dX5_hold_11, dX5_hold_12, dX5_hold_13, dX5_hold_16, dX5_hold_19, dX5_hold_22, dX5_hold_23, dX5_hold_24, dX5_hold_25, dX5_hold_28, dX5_hold_31, dX5_hold_32, dX5_hold_33, dX5_hold_35, dX5_hold_37, dX5_hold_38, dX5_hold_40, dX5_hold_43, dX5_hold_44, dX5_hold_45, dX5_hold_47, dX5_hold_49, dX5_hold_52, dX5_hold_53, dX5_hold_54, dX5_hold_57, dX5_hold_58, dX5_hold_59, dX5_hold_60, dX5_hold_62, dX5_hold_65, dX5_hold_66, dX5_hold_69, dX5_hold_70, dX5_hold_73, dX5_hold_75, dX5_hold_77, dX5_hold_80, dX5_hold_81, dX5_hold_84, dX5_hold_87, dX5_hold_89, dX5_hold_92, dX5_hold_93, dX5_hold_96, dX5_hold_99, dX5_hold_101, dX5_hold_103, dX5_hold_105, dX5_hold_108, dX5_hold_111, dX5_hold_112, dX5_hold_115, dX5_hold_117, dX5_hold_120, dX5_hold_122, FX5_10, CX5_118, CX5_122, FX5_16, FX5_100, G_X5_hold_111, G_X5_hold_52, G_X5_hold_156, G_X5_hold_147, kd_0, kd_1, kd_2, kd_3, kd_4, kd_5, kd_6, kd_7, kd_8, kd_9, kd_10, kd_11, kd_12, kd_13, kd_14, kd_15, kd_16, kd_17, kd_18, kd_19, kd_20, kd_21, kd_22, kd_23, kd_24, kd_25, kd_26, kd_27, kd_28, kd_29, kd_30, kd_31, kd_32, kd_33, kd_34, kd_35, kd_36, kd_37, kd_38, kd_39, kd_40, kd_41, kd_42, kd_43, kd_44, kd_45, kd_46, kd_47, kd_48, kd_49, kd_50, kd_51, kd_52, kd_53, kd_54, kd_55, kd_56, kd_57, kd_58, kd_59, kd_60, kd_61, kd_62, kd_63, kd_64, kd_65, ln_0, ln_1, ln_2, ln_3, ln_4, ln_5, ln_6, ln_7, ln_8, ln_9, ln_10, ln_11, ln_12, ln_13, ln_14, ln_15, ln_16, ln_17, ln_18, ln_19, ln_20, ln_21, ln_22, ln_23, ln_24, ln_25, ln_26, ln_27, ln_28, ln_29, ln_30, ln_31, ln_32, ln_33, ln_34, ln_35, ln_36, ln_37, ln_38, ln_39, ln_40, ln_41, ln_42, ln_43, ln_44, ln_45, ln_46, ln_47, ln_48, ln_49, ln_50, ln_51, ln_52, ln_53, ln_54, ln_55, ln_56, ln_57, ln_58, ln_59, ln_60, ln_61, ln_62, ln_63, ln_64, ln_65, kd_101, kd_100, stv_100_2, T1_has, T5_isOutside, r35]
    repeat' (first | exact trivial | omega | (with_reducible assumption) | exact absurd trivial (by with_reducible assumption) | contradiction | apply And.intro | intro _)
  · have hk := hK μ (FQ.rf hP)
    unfold holdR at hk
    rw [if_neg hc] at hk
    apply hV [33] 80
    simp only [InR, InL, inb, Int.toNat_natCast, wp1, wpc_z, wpc_s, stp_iconst, stp_bipush, stp_sipush, stp_lconst, stp_iload_n, stp_iload, stp_lload_n, stp_lload, stp_aload_n, stp_aload, stp_istore_n, stp_istore, stp_lstore_n, stp_lstore, stp_astore_n, stp_astore, stp_iinc, stp_iadd, stp_isub, stp_imul, stp_ineg, stp_idiv, stp_irem, stp_ladd, stp_lmul, stp_ldiv, stp_lrem, stp_ishl, stp_ishr, stp_iushr, stp_iand, stp_ior, stp_i2l, stp_i2b, stp_i2s, stp_lcmp, stp_dup, stp_dup2, stp_pop, stp_ifCond, stp_if_icmp, stp_goto, stp_tableswitch, stp_lookupswitch, stp_ldc, stp_ldc_w, stp_ldc2_w, stp_getstatic, stp_getfield, stp_putfield, stp_iaload, stp_baload, stp_iastore, stp_bastore, stp_aaload, stp_aastore, stp_invokevirtual, stp_invokestatic, stp_ireturn, stp_lreturn, stp_return_, lg, lset, okl, spl, wd, c1, cnd, tg, swT, swL, f4_0, f4_1, f4_2, f4_3, f2_0, f2_1, List.mem_cons, List.not_mem_nil, List.length_cons, List.length_nil, List.cons_append, List.nil_append, Nat.reduceAdd, Nat.reduceMul, Nat.reduceLT, Nat.reduceEqDiff, Nat.reduceLeDiff, Int.reduceAdd, Int.reduceNeg, Int.reduceToNat, Int.cast_ofNat_Int, Int.reduceNatCast, Int.toNat_zero, Int.toNat_one, Int.reduceLE, Int.reduceLT, Int.reduceEq, Int.zero_add, Int.add_zero, or_false, false_or, or_true, true_or, and_true, true_and, and_false, false_and, reduceIte, not_true_eq_false, not_false_eq_true, forall_const, false_implies, true_implies, implies_true, ne_eq, reduceCtorEq, List.all_cons, List.all_nil, Bool.and_true, Bool.and_self, decide_eq_true_eq, decide_true, dX5_hold_0, dX5_hold_1, dX5_hold_4, dX5_hold_5, dX5_hold_8, dX5_hold_11, dX5_hold_12, dX5_hold_13, dX5_hold_16, dX5_hold_19, dX5_hold_22, dX5_hold_23, dX5_hold_24, dX5_hold_25, dX5_hold_28, dX5_hold_31, dX5_hold_32, dX5_hold_33, dX5_hold_35, dX5_hold_37, dX5_hold_38, dX5_hold_40, dX5_hold_43, dX5_hold_44, dX5_hold_45, dX5_hold_47, dX5_hold_49, dX5_hold_52, dX5_hold_53, dX5_hold_54, dX5_hold_57, dX5_hold_58, dX5_hold_59, dX5_hold_60, dX5_hold_62, dX5_hold_65, dX5_hold_66, dX5_hold_69, dX5_hold_70, dX5_hold_73, dX5_hold_75, dX5_hold_77, dX5_hold_80, dX5_hold_81, dX5_hold_84, dX5_hold_87, dX5_hold_89, dX5_hold_92, dX5_hold_93, dX5_hold_96, dX5_hold_99, dX5_hold_101, dX5_hold_103, dX5_hold_105, dX5_hold_108, dX5_hold_111, dX5_hold_112, dX5_hold_115, dX5_hold_117, dX5_hold_120, dX5_hold_122, FX5_10, CX5_118, CX5_122, FX5_16, FX5_100, G_X5_hold_111, G_X5_hold_52, G_X5_hold_156, G_X5_hold_147, kd_0, kd_1, kd_2, kd_3, kd_4, kd_5, kd_6, kd_7, kd_8, kd_9, kd_10, kd_11, kd_12, kd_13, kd_14, kd_15, kd_16, kd_17, kd_18, kd_19, kd_20, kd_21, kd_22, kd_23, kd_24, kd_25, kd_26, kd_27, kd_28, kd_29, kd_30, kd_31, kd_32, kd_33, kd_34, kd_35, kd_36, kd_37, kd_38, kd_39, kd_40, kd_41, kd_42, kd_43, kd_44, kd_45, kd_46, kd_47, kd_48, kd_49, kd_50, kd_51, kd_52, kd_53, kd_54, kd_55, kd_56, kd_57, kd_58, kd_59, kd_60, kd_61, kd_62, kd_63, kd_64, kd_65, ln_0, ln_1, ln_2, ln_3, ln_4, ln_5, ln_6, ln_7, ln_8, ln_9, ln_10, ln_11, ln_12, ln_13, ln_14, ln_15, ln_16, ln_17, ln_18, ln_19, ln_20, ln_21, ln_22, ln_23, ln_24, ln_25, ln_26, ln_27, ln_28, ln_29, ln_30, ln_31, ln_32, ln_33, ln_34, ln_35, ln_36, ln_37, ln_38, ln_39, ln_40, ln_41, ln_42, ln_43, ln_44, ln_45, ln_46, ln_47, ln_48, ln_49, ln_50, ln_51, ln_52, ln_53, ln_54, ln_55, ln_56, ln_57, ln_58, ln_59, ln_60, ln_61, ln_62, ln_63, ln_64, ln_65, T1_has, T5_isOutside, r35]
    repeat' (first | exact trivial | omega | (with_reducible assumption) | exact absurd trivial (by with_reducible assumption) | contradiction | apply And.intro | intro _)
theorem good_X5_hold (l : Launch) : Good l 5 yX5_hold cX5_hold 7 (some .int) T5_hold := by
  refine Good.mk 1 (by decide) rfl (by simp [retOK]) FOK5 COK5 (gk_X5_hold l) ?_ ?_
  · intro a μ K h
    unfold T5_hold at h
    split at h
    · simp [entl]
    · exact h.elim
  · intro a μ K V hV h
    unfold T5_hold at h
    split at h
    · exact body_X5_hold _ _ _ _ μ K V hV h
    · exact h.elim

def beginU (f : Nat → Int) (n : Nat) : Nat → Int := fun i => nx yes (upF f 36 (i : Int)) n 37 - f 37
def idC : Nat → Int := fun i => (i : Int)
def beginR (f : Nat → Int) (n w : Int) : Int := if (0 ≤ n ∧ n ≤ 200) ∧ 0 ≤ w ∧ w ≤ 1 then jdA (jd idC (beginU f n.toNat) 1000000000 (f 35).toNat) w else -1
theorem WF.word {f : Nat → Int} (h : WF f) {i : Nat} (hi : (i : Int) < f 35) : WF (upF f 36 (i : Int)) := by
  obtain ⟨h1, h2, h3, h4⟩ := h
  refine ⟨by rw [upF_n _ _ (by omega)]; exact h1, fun _ => by rw [upF_s, upF_n _ _ (by omega)]; omega, by rw [upF_n _ _ (by omega), upF_n _ _ (by omega)]; exact h3, fun k hk => ?_⟩
  rw [upF_n _ _ (by omega)] at hk
  exact SOK_congr (f := f) (fun x hx => upF_n _ _ (by omega)) (by rw [upF_n _ _ (by omega)]; omega) (by omega) (h4 k hk)
theorem RG.word {μ : Mem} {B : Nat} {f : Nat → Int} (h : RG μ B f) (h35 : f 35 ≤ 5) {i : Nat} (hi : (i : Int) < f 35) : RG (wI μ B 2 (i : Int)) B (upF f 36 (i : Int)) := by
  obtain ⟨r1, r2, r3, r4, r5, r6⟩ := h
  refine ⟨r1.of (fun _ => rfl), ?_, ?_, ?_, ?_, ?_⟩
  · rw [rI_wI, if_neg (by omega), upF_n _ _ (by omega)]; exact r2
  · rw [rI_wI, if_pos ⟨rfl, rfl⟩, upF_n _ _ (by omega), if_neg (by omega), upF_s]
  · rw [rI_wI, if_neg (by omega), upF_n _ _ (by omega)]; exact r4
  · rw [rI_wI, if_neg (by omega), upF_n _ _ (by omega)]; exact r5
  · intro k c hk hc
    rw [upF_n _ _ (by omega)] at hk
    have := r1.1 k (by omega)
    rw [rR_wI, rI_wI, if_neg (by omega), upF_n _ _ (by omega)]
    exact r6 k c hk hc
def GL_X5_begin : List (Nat × Nat × Bool × TT) := [(52, 3, true, T5_isOutside), (144, 1, false, T5_startTrial), (147, 2, false, T1_go)]
def G_X5_begin : Nat → Option (Nat × Bool × TT) := fun i => GL_X5_begin.lookup i
theorem G_X5_begin_52 : G_X5_begin 52 = some (3, true, T5_isOutside) := rfl
theorem G_X5_begin_144 : G_X5_begin 144 = some (1, false, T5_startTrial) := rfl
theorem G_X5_begin_147 : G_X5_begin 147 = some (2, false, T1_go) := rfl

set_option maxRecDepth 20000 in
set_option maxHeartbeats 4000000 in
theorem lp_begin (V : Nat → List (Option AV) → List AV → Mem → Prop) (K : List AV → Mem → Prop) (hV : Clos FX5 CX5 G_X5_begin 1 K cX5_begin V) (μ : Mem) (f : Nat → Int) (hW : WF f) (h38 : f 38 ≤ 9999) (e : Nat) (he : e ≤ 200) (w : Int) (hw : 0 ≤ w ∧ w ≤ 1) (hP : RP μ 8) (hR : RG μ 1 f) (hK : ∀ ν, FQ μ ν → K [.inl (jdA (jd idC (beginU f e) 1000000000 (f 35).toNat) w)] ν) : ∀ m n : Nat, n + m = (f 35).toNat → ∀ ν, FQ μ ν → ∀ q : Int × Int, q = jd idC (beginU f e) 1000000000 n → ∀ x : Option AV, (∀ z, x ≠ some (.inr (.inl z))) → V 31 [some (.inr (.inr 0)), some (.inl (e : Int)), some (.inl w), some (.inl (m0 q)), some (.inl q.1), some (.inl (n : Int)), x] [] ν := by
  have h35 := hW.1
  have hcr : ∀ k : Nat, k < 10 → InR (idC k) := fun k hk => by unfold idC; exact ⟨by omega, by omega⟩
  have hu : ∀ v : Nat, (v : Int) < f 35 → 0 ≤ beginU f e v ∧ beginU f e v ≤ 5400 := by
    intro v hv
    have := (sum_in (p := yes) (hW.word hv) e).2.2
    rw [upF_n _ _ (show 37 ≠ 36 by omega)] at this
    unfold beginU
    omega
  have hj := fun (n : Nat) (hn : (n : Int) ≤ f 35) => jd_rg (c := idC) (u := beginU f e) (b := 1000000000) (lo := 0) (hi := 5400) (lc := 0) (hc := 9) (fun n => by show (n : Int) ≠ -4; omega) n (fun k hk => hu k (by omega)) (fun k hk => ⟨by show 0 ≤ (k : Int); omega, by show (k : Int) ≤ 9; omega⟩)
  intro m
  induction m with
  | zero =>
    intro n hn ν hF q hq x hx
    have en : n = (f 35).toNat := by omega
    have hk := hK ν hF
    rw [← en, ← hq] at hk
    have hR1 := hF.ring hR h35.2
    have e1 := hR1.2.1
    have hjn := hj n (by omega)
    rw [← hq] at hjn
    have hrg : InR q.1 := by
      by_cases z : q.1 = -4
      · rw [z]; exact ⟨by omega, by omega⟩
      · have := hjn.2 z; exact ⟨by omega, by omega⟩
    simp only [InR] at hrg
    unfold jdA at hk
    apply hV [31] 60
    simp only [InR, InL, inb, Int.toNat_natCast, wp1, wpc_z, wpc_s, stp_iconst, stp_bipush, stp_sipush, stp_lconst, stp_iload_n, stp_iload, stp_lload_n, stp_lload, stp_aload_n, stp_aload, stp_istore_n, stp_istore, stp_lstore_n, stp_lstore, stp_astore_n, stp_astore, stp_iinc, stp_iadd, stp_isub, stp_imul, stp_ineg, stp_idiv, stp_irem, stp_ladd, stp_lmul, stp_ldiv, stp_lrem, stp_ishl, stp_ishr, stp_iushr, stp_iand, stp_ior, stp_i2l, stp_i2b, stp_i2s, stp_lcmp, stp_dup, stp_dup2, stp_pop, stp_ifCond, stp_if_icmp, stp_goto, stp_tableswitch, stp_lookupswitch, stp_ldc, stp_ldc_w, stp_ldc2_w, stp_getstatic, stp_getfield, stp_putfield, stp_iaload, stp_baload, stp_iastore, stp_bastore, stp_aaload, stp_aastore, stp_invokevirtual, stp_invokestatic, stp_ireturn, stp_lreturn, stp_return_, lg, lset, okl, spl, wd, c1, cnd, tg, swT, swL, f4_0, f4_1, f4_2, f4_3, f2_0, f2_1, List.mem_cons, List.not_mem_nil, List.length_cons, List.length_nil, List.cons_append, List.nil_append, Nat.reduceAdd, Nat.reduceMul, Nat.reduceLT, Nat.reduceEqDiff, Nat.reduceLeDiff, Int.reduceAdd, Int.reduceNeg, Int.reduceToNat, Int.cast_ofNat_Int, Int.reduceNatCast, Int.toNat_zero, Int.toNat_one, Int.reduceLE, Int.reduceLT, Int.reduceEq, Int.zero_add, Int.add_zero, or_false, false_or, or_true, true_or, and_true, true_and, and_false, false_and, reduceIte, not_true_eq_false, not_false_eq_true, forall_const, false_implies, true_implies, implies_true, ne_eq, reduceCtorEq, List.all_cons, List.all_nil, Bool.and_true, Bool.and_self, decide_eq_true_eq, decide_true, dX5_begin_0, dX5_begin_1, dX5_begin_2, dX5_begin_5, dX5_begin_8, dX5_begin_11, dX5_begin_12, dX5_begin_13, dX5_begin_14, dX5_begin_17, dX5_begin_20, dX5_begin_21, dX5_begin_22, dX5_begin_23, dX5_begin_24, dX5_begin_26, dX5_begin_28, dX5_begin_29, dX5_begin_31, dX5_begin_33, dX5_begin_34, dX5_begin_37, dX5_begin_40, dX5_begin_43, dX5_begin_44, dX5_begin_47, dX5_begin_48, dX5_begin_51, dX5_begin_53, dX5_begin_56, dX5_begin_57, dX5_begin_60, dX5_begin_61, dX5_begin_64, dX5_begin_65, dX5_begin_68, dX5_begin_71, dX5_begin_72, dX5_begin_75, dX5_begin_78, dX5_begin_79, dX5_begin_81, dX5_begin_83, dX5_begin_85, dX5_begin_88, dX5_begin_90, dX5_begin_91, dX5_begin_94, dX5_begin_96, dX5_begin_97, dX5_begin_99, dX5_begin_101, dX5_begin_104, dX5_begin_107, dX5_begin_109, dX5_begin_111, dX5_begin_114, dX5_begin_115, dX5_begin_118, dX5_begin_120, dX5_begin_123, dX5_begin_124, FX5_10, FX5_85, FX5_16, FX5_88, FX5_91, G_X5_begin_52, G_X5_begin_144, G_X5_begin_147, kd_0, kd_1, kd_2, kd_3, kd_4, kd_5, kd_6, kd_7, kd_8, kd_9, kd_10, kd_11, kd_12, kd_13, kd_14, kd_15, kd_16, kd_17, kd_18, kd_19, kd_20, kd_21, kd_22, kd_23, kd_24, kd_25, kd_26, kd_27, kd_28, kd_29, kd_30, kd_31, kd_32, kd_33, kd_34, kd_35, kd_36, kd_37, kd_38, kd_39, kd_40, kd_41, kd_42, kd_43, kd_44, kd_45, kd_46, kd_47, kd_48, kd_49, kd_50, kd_51, kd_52, kd_53, kd_54, kd_55, kd_56, kd_57, kd_58, kd_59, kd_60, kd_61, kd_62, kd_63, kd_64, kd_65, ln_0, ln_1, ln_2, ln_3, ln_4, ln_5, ln_6, ln_7, ln_8, ln_9, ln_10, ln_11, ln_12, ln_13, ln_14, ln_15, ln_16, ln_17, ln_18, ln_19, ln_20, ln_21, ln_22, ln_23, ln_24, ln_25, ln_26, ln_27, ln_28, ln_29, ln_30, ln_31, ln_32, ln_33, ln_34, ln_35, ln_36, ln_37, ln_38, ln_39, ln_40, ln_41, ln_42, ln_43, ln_44, ln_45, ln_46, ln_47, ln_48, ln_49, ln_50, ln_51, ln_52, ln_53, ln_54, ln_55, ln_56, ln_57, ln_58, ln_59, ln_60, ln_61, ln_62, ln_63, ln_64, ln_65, e1]
    by_cases z : q.1 = -4
    · rw [if_pos z] at hk
      rw [z]
      repeat' (first | exact trivial | omega | (with_reducible assumption) | exact absurd trivial (by with_reducible assumption) | contradiction | apply And.intro | intro _)
    · rw [if_neg z] at hk
      rw [m0_n z]
      by_cases w0 : w = 0
      · rw [if_pos w0] at hk
        repeat' (first | exact trivial | omega | (with_reducible assumption) | exact absurd trivial (by with_reducible assumption) | contradiction | apply And.intro | intro _)
      · rw [if_neg w0] at hk
        repeat' (first | exact trivial | omega | (with_reducible assumption) | exact absurd trivial (by with_reducible assumption) | contradiction | apply And.intro | intro _)
  | succ m ih =>
    intro n hn ν hF q hq x hx
    have hR1 := hF.ring hR h35.2
    have e1 := hR1.2.1
    have hun := hu n (by omega)
    have hjn := hj n (by omega)
    rw [← hq] at hjn
    have hmr := hjn.2
    have hmi := hjn.1
    have hP2 := hF.2.2
    have key := fun σ hσ y hy => ih (n + 1) (by omega) σ hσ (jd idC (beginU f e) 1000000000 (n + 1)) rfl y hy
    rw [show ((n + 1 : Nat) : Int) = (n : Int) + 1 by omega, jd_s, ← hq] at key
    have hrg : InR q.1 ∧ InR (m0 q) := by
      by_cases z : q.1 = -4
      · rw [m0_z z, z]; exact ⟨⟨by omega, by omega⟩, ⟨by omega, by omega⟩⟩
      · have := hmr z; rw [m0_n z]; exact ⟨⟨by omega, by omega⟩, ⟨by omega, by omega⟩⟩
    simp only [InR] at hrg
    apply hV [31] 80
    simp only [InR, InL, inb, Int.toNat_natCast, wp1, wpc_z, wpc_s, stp_iconst, stp_bipush, stp_sipush, stp_lconst, stp_iload_n, stp_iload, stp_lload_n, stp_lload, stp_aload_n, stp_aload, stp_istore_n, stp_istore, stp_lstore_n, stp_lstore, stp_astore_n, stp_astore, stp_iinc, stp_iadd, stp_isub, stp_imul, stp_ineg, stp_idiv, stp_irem, stp_ladd, stp_lmul, stp_ldiv, stp_lrem, stp_ishl, stp_ishr, stp_iushr, stp_iand, stp_ior, stp_i2l, stp_i2b, stp_i2s, stp_lcmp, stp_dup, stp_dup2, stp_pop, stp_ifCond, stp_if_icmp, stp_goto, stp_tableswitch, stp_lookupswitch, stp_ldc, stp_ldc_w, stp_ldc2_w, stp_getstatic, stp_getfield, stp_putfield, stp_iaload, stp_baload, stp_iastore, stp_bastore, stp_aaload, stp_aastore, stp_invokevirtual, stp_invokestatic, stp_ireturn, stp_lreturn, stp_return_, lg, lset, okl, spl, wd, c1, cnd, tg, swT, swL, f4_0, f4_1, f4_2, f4_3, f2_0, f2_1, List.mem_cons, List.not_mem_nil, List.length_cons, List.length_nil, List.cons_append, List.nil_append, Nat.reduceAdd, Nat.reduceMul, Nat.reduceLT, Nat.reduceEqDiff, Nat.reduceLeDiff, Int.reduceAdd, Int.reduceNeg, Int.reduceToNat, Int.cast_ofNat_Int, Int.reduceNatCast, Int.toNat_zero, Int.toNat_one, Int.reduceLE, Int.reduceLT, Int.reduceEq, Int.zero_add, Int.add_zero, or_false, false_or, or_true, true_or, and_true, true_and, and_false, false_and, reduceIte, not_true_eq_false, not_false_eq_true, forall_const, false_implies, true_implies, implies_true, ne_eq, reduceCtorEq, List.all_cons, List.all_nil, Bool.and_true, Bool.and_self, decide_eq_true_eq, decide_true, dX5_begin_0, dX5_begin_1, dX5_begin_2, dX5_begin_5, dX5_begin_8, dX5_begin_11, dX5_begin_12, dX5_begin_13, dX5_begin_14, dX5_begin_17, dX5_begin_20, dX5_begin_21, dX5_begin_22, dX5_begin_23, dX5_begin_24, dX5_begin_26, dX5_begin_28, dX5_begin_29, dX5_begin_31, dX5_begin_33, dX5_begin_34, dX5_begin_37, dX5_begin_40, dX5_begin_43, dX5_begin_44, dX5_begin_47, dX5_begin_48, dX5_begin_51, dX5_begin_53, dX5_begin_56, dX5_begin_57, dX5_begin_60, dX5_begin_61, dX5_begin_64, dX5_begin_65, dX5_begin_68, dX5_begin_71, dX5_begin_72, dX5_begin_75, dX5_begin_78, dX5_begin_79, dX5_begin_81, dX5_begin_83, dX5_begin_85, dX5_begin_88, dX5_begin_90, dX5_begin_91, dX5_begin_94, dX5_begin_96, dX5_begin_97, dX5_begin_99, dX5_begin_101, dX5_begin_104, dX5_begin_107, dX5_begin_109, dX5_begin_111, dX5_begin_114, dX5_begin_115, dX5_begin_118, dX5_begin_120, dX5_begin_123, dX5_begin_124, FX5_10, FX5_85, FX5_16, FX5_88, FX5_91, G_X5_begin_52, G_X5_begin_144, G_X5_begin_147, kd_0, kd_1, kd_2, kd_3, kd_4, kd_5, kd_6, kd_7, kd_8, kd_9, kd_10, kd_11, kd_12, kd_13, kd_14, kd_15, kd_16, kd_17, kd_18, kd_19, kd_20, kd_21, kd_22, kd_23, kd_24, kd_25, kd_26, kd_27, kd_28, kd_29, kd_30, kd_31, kd_32, kd_33, kd_34, kd_35, kd_36, kd_37, kd_38, kd_39, kd_40, kd_41, kd_42, kd_43, kd_44, kd_45, kd_46, kd_47, kd_48, kd_49, kd_50, kd_51, kd_52, kd_53, kd_54, kd_55, kd_56, kd_57, kd_58, kd_59, kd_60, kd_61, kd_62, kd_63, kd_64, kd_65, ln_0, ln_1, ln_2, ln_3, ln_4, ln_5, ln_6, ln_7, ln_8, ln_9, ln_10, ln_11, ln_12, ln_13, ln_14, ln_15, ln_16, ln_17, ln_18, ln_19, ln_20, ln_21, ln_22, ln_23, ln_24, ln_25, ln_26, ln_27, ln_28, ln_29, ln_30, ln_31, ln_32, ln_33, ln_34, ln_35, ln_36, ln_37, ln_38, ln_39, ln_40, ln_41, ln_42, ln_43, ln_44, ln_45, ln_46, ln_47, ln_48, ln_49, ln_50, ln_51, ln_52, ln_53, ln_54, ln_55, ln_56, ln_57, ln_58, ln_59, ln_60, ln_61, ln_62, ln_63, ln_64, ln_65, e1, T5_startTrial, T1_go]
    repeat' (first | exact trivial | omega | (with_reducible assumption) | exact absurd trivial (by with_reducible assumption) | contradiction | apply And.intro | intro _)
    refine ⟨f, hR1, by omega, fun ρ hρ => ?_⟩
    obtain ⟨a1, a2, a3, a4⟩ := hρ
    refine ⟨by omega, upF f 36 (n : Int), a1.word h35.2 (by omega), hW.word (by omega), by rw [upF_n _ _ (by omega)]; omega, fun σ hσ => ?_⟩
    obtain ⟨b1, b2, b3, b4⟩ := hσ
    have hFR : FR 8 ν σ := by
      refine ⟨fun k hk j => ?_, fun k j => ?_⟩
      · rw [b4.1 k hk j, rI_wI, if_neg (by omega)]; exact a4.1 k hk j
      · rw [b4.2, rR_wI]; exact a4.2 k j
    have hFσ := hF.tr (hFR.q hF.2.2)
    have key := fun y hy => key σ hFσ y hy
    have hR2 := hFσ.ring hR h35.2
    have es : rI σ 8 3 - rI σ 1 3 = beginU f e n := by rw [b1.2.2.2.1, hR2.2.2.2.1]; unfold beginU; omega
    rw [es]
    have key := key (some (.inl (beginU f e n))) (fun z => by simp)
    by_cases z : q.1 = -4
    · have qq := (hmi z).1
      have lt : beginU f e n < q.2 := by omega
      rw [if_pos lt, m0_n (q := (idC n, beginU f e n)) (by show (n : Int) ≠ -4; omega)] at key
      simp only [idC] at key
      rw [m0_z z]
      repeat' (first | exact trivial | omega | (with_reducible assumption) | exact absurd trivial (by with_reducible assumption) | contradiction | apply And.intro | intro _)
    · have qq := hmr z
      rw [m0_n z]
      rw [m0_n z] at hrg
      by_cases lt : beginU f e n < q.2
      · rw [if_pos lt, m0_n (q := (idC n, beginU f e n)) (by show (n : Int) ≠ -4; omega)] at key
        simp only [idC] at key
        repeat' (first | exact trivial | omega | (with_reducible assumption) | exact absurd trivial (by with_reducible assumption) | contradiction | apply And.intro | intro _)
      · rw [if_neg lt, m0_n z] at key
        repeat' (first | exact trivial | omega | (with_reducible assumption) | exact absurd trivial (by with_reducible assumption) | contradiction | apply And.intro | intro _)
def T5_begin : TT := fun a μ K => match a with
  | [.inr (.inr o), .inl n, .inl w] => o = 0 ∧ (InR n ∧ InR w ∧ RP μ 8 ∧ ∃ f, RG μ 1 f ∧ WF f ∧ f 38 ≤ 9999 ∧ ∀ ν, FQ μ ν → K [.inl (beginR f n w)] ν)
  | _ => False
theorem rec_X5_begin : ∀ a μ K, T5_begin a μ K → ∃ k r, a = .inr (.inr k) :: r ∧ kd k = 5 := by
  intro a μ K h
  unfold T5_begin at h
  split at h
  · exact ⟨_, _, rfl, by rw [h.1]; rfl⟩
  · exact h.elim
theorem gk_X5_begin (l : Launch) : ∀ i n b T, G_X5_begin i = some (n, b, T) → CallOK l 5 RX5 i n b T := by
  intro i n b T h
  have hm : (i, n, b, T) ∈ GL_X5_begin := lk_mem h
  simp only [GL_X5_begin, List.mem_cons, List.not_mem_nil, or_false, Prod.mk.injEq] at hm
  rcases hm with ⟨rfl, rfl, rfl, rfl⟩ | ⟨rfl, rfl, rfl, rfl⟩ | ⟨rfl, rfl, rfl, rfl⟩
  · exact CallOK.S (d := 5) (own := RX5) (i := 52) (n := 3) (good_X5_isOutside l) (by decide) (by decide) (mg 191 (by decide +kernel) (by decide +kernel)) (mg 192 (by decide +kernel) (by decide +kernel)) (mg 1 (by decide +kernel) (by decide +kernel)) (mg 193 (by decide +kernel) (by decide +kernel)) (by decide +kernel)
  · exact CallOK.V (d := 5) (own := RX5) (i := 144) (n := 0) (ci := 5) (good_X5_startTrial l) (by decide) (by decide) rfl (by decide) rec_X5_startTrial (mg 406 (by decide +kernel) (by decide +kernel)) (mg 408 (by decide +kernel) (by decide +kernel)) (mgs 13 (by decide +kernel) (by decide +kernel)) (mg 1 (by decide +kernel) (by decide +kernel)) (mg 409 (by decide +kernel) (by decide +kernel)) (by decide +kernel)
  · exact CallOK.V (d := 5) (own := RX5) (i := 147) (n := 1) (ci := 1) (good_X1_go l) (by decide) (by decide) rfl (by decide) rec_X1_go (mg 410 (by decide +kernel) (by decide +kernel)) (mg 411 (by decide +kernel) (by decide +kernel)) (mg 412 (by decide +kernel) (by decide +kernel)) (mg 2 (by decide +kernel) (by decide +kernel)) (mg 413 (by decide +kernel) (by decide +kernel)) (by decide +kernel)
set_option maxRecDepth 20000 in
set_option maxHeartbeats 4000000 in
theorem body_X5_begin (o : Nat) (n : Int) (w : Int) (μ : Mem) (K : List AV → Mem → Prop) (V : Nat → List (Option AV) → List AV → Mem → Prop) (hV : Clos FX5 CX5 G_X5_begin 1 K cX5_begin V) (hT : o = 0 ∧ (InR n ∧ InR w ∧ RP μ 8 ∧ ∃ f, RG μ 1 f ∧ WF f ∧ f 38 ≤ 9999 ∧ ∀ ν, FQ μ ν → K [.inl (beginR f n w)] ν)) : V 0 [some (.inr (.inr o)), some (.inl n), some (.inl w), none, none, none, none] [] μ := by
  simp only [InR] at hT
  obtain ⟨rfl, hn, hw, hP, f, hR, hW, h38, hK⟩ := hT
  have h35 := hW.1
  by_cases hc : (0 ≤ n ∧ n ≤ 200) ∧ 0 ≤ w ∧ w ≤ 1
  · obtain ⟨n', rfl⟩ := Int.eq_ofNat_of_zero_le hc.1.1
    have h := lp_begin V K hV μ f hW h38 n' (by omega) w (by omega) hP hR (fun ν hν => by
      have hk := hK ν hν
      unfold beginR at hk
      rw [if_pos hc, Int.toNat_natCast] at hk
      exact hk) (f 35).toNat 0 (by omega) μ (FQ.rf hP) _ rfl none (fun z => by simp)
    rw [m0_z (show (jd idC (beginU f n') 1000000000 0).1 = -4 from rfl)] at h
    simp only [jd] at h
    apply hV [31] 80
    simp only [InR, InL, inb, Int.toNat_natCast, wp1, wpc_z, wpc_s, stp_iconst, stp_bipush, stp_sipush, stp_lconst, stp_iload_n, stp_iload, stp_lload_n, stp_lload, stp_aload_n, stp_aload, stp_istore_n, stp_istore, stp_lstore_n, stp_lstore, stp_astore_n, stp_astore, stp_iinc, stp_iadd, stp_isub, stp_imul, stp_ineg, stp_idiv, stp_irem, stp_ladd, stp_lmul, stp_ldiv, stp_lrem, stp_ishl, stp_ishr, stp_iushr, stp_iand, stp_ior, stp_i2l, stp_i2b, stp_i2s, stp_lcmp, stp_dup, stp_dup2, stp_pop, stp_ifCond, stp_if_icmp, stp_goto, stp_tableswitch, stp_lookupswitch, stp_ldc, stp_ldc_w, stp_ldc2_w, stp_getstatic, stp_getfield, stp_putfield, stp_iaload, stp_baload, stp_iastore, stp_bastore, stp_aaload, stp_aastore, stp_invokevirtual, stp_invokestatic, stp_ireturn, stp_lreturn, stp_return_, lg, lset, okl, spl, wd, c1, cnd, tg, swT, swL, f4_0, f4_1, f4_2, f4_3, f2_0, f2_1, List.mem_cons, List.not_mem_nil, List.length_cons, List.length_nil, List.cons_append, List.nil_append, Nat.reduceAdd, Nat.reduceMul, Nat.reduceLT, Nat.reduceEqDiff, Nat.reduceLeDiff, Int.reduceAdd, Int.reduceNeg, Int.reduceToNat, Int.cast_ofNat_Int, Int.reduceNatCast, Int.toNat_zero, Int.toNat_one, Int.reduceLE, Int.reduceLT, Int.reduceEq, Int.zero_add, Int.add_zero, or_false, false_or, or_true, true_or, and_true, true_and, and_false, false_and, reduceIte, not_true_eq_false, not_false_eq_true, forall_const, false_implies, true_implies, implies_true, ne_eq, reduceCtorEq, List.all_cons, List.all_nil, Bool.and_true, Bool.and_self, decide_eq_true_eq, decide_true, dX5_begin_0, dX5_begin_1, dX5_begin_2, dX5_begin_5, dX5_begin_8, dX5_begin_11, dX5_begin_12, dX5_begin_13, dX5_begin_14, dX5_begin_17, dX5_begin_20, dX5_begin_21, dX5_begin_22, dX5_begin_23, dX5_begin_24, dX5_begin_26, dX5_begin_28, dX5_begin_29, dX5_begin_31, dX5_begin_33, dX5_begin_34, dX5_begin_37, dX5_begin_40, dX5_begin_43, dX5_begin_44, dX5_begin_47, dX5_begin_48, dX5_begin_51, dX5_begin_53, dX5_begin_56, dX5_begin_57, dX5_begin_60, dX5_begin_61, dX5_begin_64, dX5_begin_65, dX5_begin_68, dX5_begin_71, dX5_begin_72, dX5_begin_75, dX5_begin_78, dX5_begin_79, dX5_begin_81, dX5_begin_83, dX5_begin_85, dX5_begin_88, dX5_begin_90, dX5_begin_91, dX5_begin_94, dX5_begin_96, dX5_begin_97, dX5_begin_99, dX5_begin_101, dX5_begin_104, dX5_begin_107, dX5_begin_109, dX5_begin_111, dX5_begin_114, dX5_begin_115, dX5_begin_118, dX5_begin_120, dX5_begin_123, dX5_begin_124, FX5_10, FX5_85, FX5_16, FX5_88, FX5_91, G_X5_begin_52, G_X5_begin_144, G_X5_begin_147, kd_0, kd_1, kd_2, kd_3, kd_4, kd_5, kd_6, kd_7, kd_8, kd_9, kd_10, kd_11, kd_12, kd_13, kd_14, kd_15, kd_16, kd_17, kd_18, kd_19, kd_20, kd_21, kd_22, kd_23, kd_24, kd_25, kd_26, kd_27, kd_28, kd_29, kd_30, kd_31, kd_32, kd_33, kd_34, kd_35, kd_36, kd_37, kd_38, kd_39, kd_40, kd_41, kd_42, kd_43, kd_44, kd_45, kd_46, kd_47, kd_48, kd_49, kd_50, kd_51, kd_52, kd_53, kd_54, kd_55, kd_56, kd_57, kd_58, kd_59, kd_60, kd_61, kd_62, kd_63, kd_64, kd_65, ln_0, ln_1, ln_2, ln_3, ln_4, ln_5, ln_6, ln_7, ln_8, ln_9, ln_10, ln_11, ln_12, ln_13, ln_14, ln_15, ln_16, ln_17, ln_18, ln_19, ln_20, ln_21, ln_22, ln_23, ln_24, ln_25, ln_26, ln_27, ln_28, ln_29, ln_30, ln_31, ln_32, ln_33, ln_34, ln_35, ln_36, ln_37, ln_38, ln_39, ln_40, ln_41, ln_42, ln_43, ln_44, ln_45, ln_46, ln_47, ln_48, ln_49, ln_50, ln_51, ln_52, ln_53, ln_54, ln_55, ln_56, ln_57, ln_58, ln_59, ln_60, ln_61, ln_62, ln_63, ln_64, ln_65, T5_isOutside]
    repeat' (first | exact trivial | omega | (with_reducible assumption) | exact absurd trivial (by with_reducible assumption) | contradiction | apply And.intro | intro _)
  · have hk := hK μ (FQ.rf hP)
    unfold beginR at hk
    rw [if_neg hc] at hk
    apply hV [22] 80
    simp only [InR, InL, inb, Int.toNat_natCast, wp1, wpc_z, wpc_s, stp_iconst, stp_bipush, stp_sipush, stp_lconst, stp_iload_n, stp_iload, stp_lload_n, stp_lload, stp_aload_n, stp_aload, stp_istore_n, stp_istore, stp_lstore_n, stp_lstore, stp_astore_n, stp_astore, stp_iinc, stp_iadd, stp_isub, stp_imul, stp_ineg, stp_idiv, stp_irem, stp_ladd, stp_lmul, stp_ldiv, stp_lrem, stp_ishl, stp_ishr, stp_iushr, stp_iand, stp_ior, stp_i2l, stp_i2b, stp_i2s, stp_lcmp, stp_dup, stp_dup2, stp_pop, stp_ifCond, stp_if_icmp, stp_goto, stp_tableswitch, stp_lookupswitch, stp_ldc, stp_ldc_w, stp_ldc2_w, stp_getstatic, stp_getfield, stp_putfield, stp_iaload, stp_baload, stp_iastore, stp_bastore, stp_aaload, stp_aastore, stp_invokevirtual, stp_invokestatic, stp_ireturn, stp_lreturn, stp_return_, lg, lset, okl, spl, wd, c1, cnd, tg, swT, swL, f4_0, f4_1, f4_2, f4_3, f2_0, f2_1, List.mem_cons, List.not_mem_nil, List.length_cons, List.length_nil, List.cons_append, List.nil_append, Nat.reduceAdd, Nat.reduceMul, Nat.reduceLT, Nat.reduceEqDiff, Nat.reduceLeDiff, Int.reduceAdd, Int.reduceNeg, Int.reduceToNat, Int.cast_ofNat_Int, Int.reduceNatCast, Int.toNat_zero, Int.toNat_one, Int.reduceLE, Int.reduceLT, Int.reduceEq, Int.zero_add, Int.add_zero, or_false, false_or, or_true, true_or, and_true, true_and, and_false, false_and, reduceIte, not_true_eq_false, not_false_eq_true, forall_const, false_implies, true_implies, implies_true, ne_eq, reduceCtorEq, List.all_cons, List.all_nil, Bool.and_true, Bool.and_self, decide_eq_true_eq, decide_true, dX5_begin_0, dX5_begin_1, dX5_begin_2, dX5_begin_5, dX5_begin_8, dX5_begin_11, dX5_begin_12, dX5_begin_13, dX5_begin_14, dX5_begin_17, dX5_begin_20, dX5_begin_21, dX5_begin_22, dX5_begin_23, dX5_begin_24, dX5_begin_26, dX5_begin_28, dX5_begin_29, dX5_begin_31, dX5_begin_33, dX5_begin_34, dX5_begin_37, dX5_begin_40, dX5_begin_43, dX5_begin_44, dX5_begin_47, dX5_begin_48, dX5_begin_51, dX5_begin_53, dX5_begin_56, dX5_begin_57, dX5_begin_60, dX5_begin_61, dX5_begin_64, dX5_begin_65, dX5_begin_68, dX5_begin_71, dX5_begin_72, dX5_begin_75, dX5_begin_78, dX5_begin_79, dX5_begin_81, dX5_begin_83, dX5_begin_85, dX5_begin_88, dX5_begin_90, dX5_begin_91, dX5_begin_94, dX5_begin_96, dX5_begin_97, dX5_begin_99, dX5_begin_101, dX5_begin_104, dX5_begin_107, dX5_begin_109, dX5_begin_111, dX5_begin_114, dX5_begin_115, dX5_begin_118, dX5_begin_120, dX5_begin_123, dX5_begin_124, FX5_10, FX5_85, FX5_16, FX5_88, FX5_91, G_X5_begin_52, G_X5_begin_144, G_X5_begin_147, kd_0, kd_1, kd_2, kd_3, kd_4, kd_5, kd_6, kd_7, kd_8, kd_9, kd_10, kd_11, kd_12, kd_13, kd_14, kd_15, kd_16, kd_17, kd_18, kd_19, kd_20, kd_21, kd_22, kd_23, kd_24, kd_25, kd_26, kd_27, kd_28, kd_29, kd_30, kd_31, kd_32, kd_33, kd_34, kd_35, kd_36, kd_37, kd_38, kd_39, kd_40, kd_41, kd_42, kd_43, kd_44, kd_45, kd_46, kd_47, kd_48, kd_49, kd_50, kd_51, kd_52, kd_53, kd_54, kd_55, kd_56, kd_57, kd_58, kd_59, kd_60, kd_61, kd_62, kd_63, kd_64, kd_65, ln_0, ln_1, ln_2, ln_3, ln_4, ln_5, ln_6, ln_7, ln_8, ln_9, ln_10, ln_11, ln_12, ln_13, ln_14, ln_15, ln_16, ln_17, ln_18, ln_19, ln_20, ln_21, ln_22, ln_23, ln_24, ln_25, ln_26, ln_27, ln_28, ln_29, ln_30, ln_31, ln_32, ln_33, ln_34, ln_35, ln_36, ln_37, ln_38, ln_39, ln_40, ln_41, ln_42, ln_43, ln_44, ln_45, ln_46, ln_47, ln_48, ln_49, ln_50, ln_51, ln_52, ln_53, ln_54, ln_55, ln_56, ln_57, ln_58, ln_59, ln_60, ln_61, ln_62, ln_63, ln_64, ln_65, T5_isOutside]
    repeat' (first | exact trivial | omega | (with_reducible assumption) | exact absurd trivial (by with_reducible assumption) | contradiction | apply And.intro | intro _)
theorem good_X5_begin (l : Launch) : Good l 5 yX5_begin cX5_begin 7 (some .int) T5_begin := by
  refine Good.mk 1 (by decide) rfl (by simp [retOK]) FOK5 COK5 (gk_X5_begin l) ?_ ?_
  · intro a μ K h
    unfold T5_begin at h
    split at h
    · simp [entl]
    · exact h.elim
  · intro a μ K V hV h
    unfold T5_begin at h
    split at h
    · exact body_X5_begin _ _ _ μ K V hV h
    · exact h.elim

