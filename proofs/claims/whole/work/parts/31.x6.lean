/-! the class: what is best -/
theorem stv_100_0 : stv 100 0 = 0 := rfl
theorem stv_100_1 : stv 100 1 = 0 := rfl
theorem stv_100_2 : stv 100 2 = 1 := rfl
theorem stv_100_3 : stv 100 3 = 0 := rfl
theorem stv_100_4 : stv 100 4 = 1 := rfl
theorem stv_101_0 : stv 101 0 = 3 := rfl
theorem stv_101_1 : stv 101 1 = 99 := rfl
theorem stv_101_2 : stv 101 2 = 9 := rfl
theorem stv_101_3 : stv 101 3 = 9 := rfl
theorem stv_101_4 : stv 101 4 = 9 := rfl
/-- the first of the least, below b -/
def jd (c u : Nat → Int) (b : Int) : Nat → Int × Int
  | 0 => (-4, b)
  | n + 1 => if u n < (jd c u b n).2 then (c n, u n) else jd c u b n
/-- as told: nothing, which, how much -/
def jdA (q : Int × Int) (w : Int) : Int := if q.1 = -4 then -4 else if w = 0 then q.1 else q.2
def jdB (q : Int × Int) (w : Int) : Int := if q.1 = -4 then -4 else if w = 0 then q.1 else -q.2
theorem jd_in {c u : Nat → Int} {b : Int} (hc : ∀ n, c n ≠ -4) : ∀ n, ((jd c u b n).1 = -4 → (jd c u b n).2 = b ∧ ∀ k, k < n → b ≤ u k) ∧ ((jd c u b n).1 ≠ -4 → (jd c u b n).2 < b ∧ ∃ k, k < n ∧ (jd c u b n).1 = c k ∧ (jd c u b n).2 = u k)
  | 0 => ⟨fun _ => ⟨rfl, fun k hk => by omega⟩, fun z => absurd rfl z⟩
  | n + 1 => by
    obtain ⟨h1, h2⟩ := jd_in (c := c) (u := u) (b := b) hc n
    simp only [jd]
    by_cases e : u n < (jd c u b n).2
    · rw [if_pos e]
      refine ⟨fun z => absurd z (hc n), fun _ => ⟨?_, n, by omega, rfl, rfl⟩⟩
      by_cases z : (jd c u b n).1 = -4
      · have := (h1 z).1; show u n < b; omega
      · have := (h2 z).1; show u n < b; omega
    · rw [if_neg e]
      refine ⟨fun z => ⟨(h1 z).1, fun k hk => ?_⟩, fun z => ?_⟩
      · by_cases ek : k = n
        · subst ek; have := (h1 z).1; omega
        · exact (h1 z).2 k (by omega)
      · obtain ⟨q1, k, q2, q3, q4⟩ := h2 z
        exact ⟨q1, k, by omega, q3, q4⟩
theorem WF.set {f : Nat → Int} (h : WF f) {i t : Nat} (hi : (i : Int) < f 35) (ht : t < 5) {v : Int} (hv : (t = 0 → 0 ≤ v ∧ v ≤ 3) ∧ (t = 1 → 0 ≤ v ∧ v ≤ 99) ∧ (t = 2 → 1 ≤ v ∧ v ≤ 9) ∧ (t = 3 → 0 ≤ v ∧ v ≤ 9) ∧ (t = 4 → 1 ≤ v ∧ v ≤ 9)) : WF (upF f (7 * i + t) v) := by
  obtain ⟨h1, h2, h3, h4⟩ := h
  refine ⟨by rw [upF_n _ _ (by omega)]; exact h1, by rw [upF_n _ _ (by omega), upF_n _ _ (by omega)]; exact h2, by rw [upF_n _ _ (by omega), upF_n _ _ (by omega)]; exact h3, fun k hk => ?_⟩
  rw [upF_n _ _ (by omega)] at hk
  have hs := h4 k hk
  unfold SOK at hs ⊢
  rw [upF_n (j := 7 * i + t) (x := 38) _ _ (by omega)]
  by_cases e : k = i
  · subst e
    rw [upF_n (j := 7 * k + t) (x := 7 * k + 5) _ _ (by omega), upF_n (j := 7 * k + t) (x := 7 * k + 6) _ _ (by omega)]
    unfold upF
    rcases (show t = 0 ∨ t = 1 ∨ t = 2 ∨ t = 3 ∨ t = 4 by omega) with rfl | rfl | rfl | rfl | rfl
    · simp; have := hv.1 rfl; omega
    · simp; have := hv.2.1 rfl; omega
    · simp; have := hv.2.2.1 rfl; omega
    · simp; have := hv.2.2.2.1 rfl; omega
    · simp; have := hv.2.2.2.2 rfl; omega
  · rw [upF_n _ _ (by omega), upF_n _ _ (by omega), upF_n _ _ (by omega), upF_n _ _ (by omega), upF_n _ _ (by omega), upF_n _ _ (by omega), upF_n _ _ (by omega)]
    exact hs
def kindU (f : Nat → Int) (i n : Nat) : Nat → Int := fun v => -sS yes (upF f (7 * i) v) n
def kindR (f : Nat → Int) (i n w : Int) : Int := if (0 ≤ i ∧ i < f 35) ∧ (0 ≤ n ∧ n ≤ 200) ∧ 0 ≤ w ∧ w ≤ 1 then jdB (jd (fun v => v) (kindU f i.toNat n.toNat) 1 4) w else -1
def GL_X5_kind : List (Nat × Nat × Bool × TT) := [(111, 2, false, T1_has), (52, 3, true, T5_isOutside), (156, 4, false, T5_startTrialWith), (147, 2, false, T1_go)]
def G_X5_kind : Nat → Option (Nat × Bool × TT) := fun i => GL_X5_kind.lookup i
theorem G_X5_kind_111 : G_X5_kind 111 = some (2, false, T1_has) := rfl
theorem G_X5_kind_52 : G_X5_kind 52 = some (3, true, T5_isOutside) := rfl
theorem G_X5_kind_156 : G_X5_kind 156 = some (4, false, T5_startTrialWith) := rfl
theorem G_X5_kind_147 : G_X5_kind 147 = some (2, false, T1_go) := rfl

set_option maxRecDepth 20000 in
set_option maxHeartbeats 4000000 in
theorem lp_kind (V : Nat → List (Option AV) → List AV → Mem → Prop) (K : List AV → Mem → Prop) (hV : Clos FX5 CX5 G_X5_kind 1 K cX5_kind V) (μ : Mem) (f : Nat → Int) (hW : WF f) (h38 : f 38 ≤ 9999) (i : Nat) (hi : (i : Int) < f 35) (e : Nat) (he : e ≤ 200) (w : Int) (hw : 0 ≤ w ∧ w ≤ 1) (hP : RP μ 8) (hR : RG μ 1 f) (hK : ∀ ν, FQ μ ν → K [.inl (jdB (jd (fun v => v) (kindU f i e) 1 4) w)] ν) : ∀ m n : Nat, n + m = 4 → ∀ ν, FQ μ ν → ∀ mo : Int, mo = (if (jd (fun v => v) (kindU f i e) 1 n).1 = -4 then 0 else -(jd (fun v => v) (kindU f i e) 1 n).2) → V 47 [some (.inr (.inr 0)), some (.inl (i : Int)), some (.inl (e : Int)), some (.inl w), some (.inl (jd (fun v => v) (kindU f i e) 1 n).1), some (.inl mo), some (.inl (n : Int))] [] ν := by
  have h35 := hW.1
  have hu : ∀ v : Nat, v < 4 → -3600 ≤ kindU f i e v ∧ kindU f i e v ≤ 0 := by
    intro v hv
    have := (sum_in (p := yes) (hW.set (t := 0) hi (by omega) (v := v) ⟨fun _ => by omega, fun z => by omega, fun z => by omega, fun z => by omega, fun z => by omega⟩) e).1
    unfold kindU
    rw [Nat.add_zero] at this
    omega
  have hj := jd_in (c := fun v => (v : Int)) (u := kindU f i e) (b := 1) (fun n => by show (n : Int) ≠ -4; omega)
  intro m
  induction m with
  | zero =>
    intro n hn ν hF mo hmo
    have en : n = 4 := by omega
    subst en
    have hk := hK ν hF
    have hne : (jd (fun v => (v : Int)) (kindU f i e) 1 4).1 ≠ -4 := fun z => by
      have := ((hj 4).1 z).2 0 (by omega)
      have := hu 0 (by omega)
      omega
    rw [if_neg hne] at hmo
    unfold jdB at hk
    rw [if_neg hne, ← hmo] at hk
    apply hV [47] 60
    simp only [InR, InL, inb, Int.toNat_natCast, wp1, wpc_z, wpc_s, stp_iconst, stp_bipush, stp_sipush, stp_lconst, stp_iload_n, stp_iload, stp_lload_n, stp_lload, stp_aload_n, stp_aload, stp_istore_n, stp_istore, stp_lstore_n, stp_lstore, stp_astore_n, stp_astore, stp_iinc, stp_iadd, stp_isub, stp_imul, stp_ineg, stp_idiv, stp_irem, stp_ladd, stp_lmul, stp_ldiv, stp_lrem, stp_ishl, stp_ishr, stp_iushr, stp_iand, stp_ior, stp_i2l, stp_i2b, stp_i2s, stp_lcmp, stp_dup, stp_dup2, stp_pop, stp_ifCond, stp_if_icmp, stp_goto, stp_tableswitch, stp_lookupswitch, stp_ldc, stp_ldc_w, stp_ldc2_w, stp_getstatic, stp_getfield, stp_putfield, stp_iaload, stp_baload, stp_iastore, stp_bastore, stp_aaload, stp_aastore, stp_invokevirtual, stp_invokestatic, stp_ireturn, stp_lreturn, stp_return_, lg, lset, okl, spl, wd, c1, cnd, tg, swT, swL, f4_0, f4_1, f4_2, f4_3, f2_0, f2_1, List.mem_cons, List.not_mem_nil, List.length_cons, List.length_nil, List.cons_append, List.nil_append, Nat.reduceAdd, Nat.reduceMul, Nat.reduceLT, Nat.reduceEqDiff, Nat.reduceLeDiff, Int.reduceAdd, Int.reduceNeg, Int.reduceToNat, Int.cast_ofNat_Int, Int.reduceNatCast, Int.toNat_zero, Int.toNat_one, Int.reduceLE, Int.reduceLT, Int.reduceEq, Int.zero_add, Int.add_zero, or_false, false_or, or_true, true_or, and_true, true_and, and_false, false_and, reduceIte, not_true_eq_false, not_false_eq_true, forall_const, false_implies, true_implies, implies_true, ne_eq, reduceCtorEq, List.all_cons, List.all_nil, Bool.and_true, Bool.and_self, decide_eq_true_eq, decide_true, dX5_kind_0, dX5_kind_1, dX5_kind_4, dX5_kind_5, dX5_kind_8, dX5_kind_11, dX5_kind_12, dX5_kind_13, dX5_kind_16, dX5_kind_19, dX5_kind_22, dX5_kind_23, dX5_kind_24, dX5_kind_25, dX5_kind_28, dX5_kind_31, dX5_kind_32, dX5_kind_33, dX5_kind_35, dX5_kind_37, dX5_kind_38, dX5_kind_40, dX5_kind_43, dX5_kind_44, dX5_kind_45, dX5_kind_47, dX5_kind_49, dX5_kind_52, dX5_kind_53, dX5_kind_54, dX5_kind_57, dX5_kind_58, dX5_kind_59, dX5_kind_60, dX5_kind_62, dX5_kind_65, dX5_kind_66, dX5_kind_69, dX5_kind_70, dX5_kind_73, dX5_kind_75, dX5_kind_77, dX5_kind_80, dX5_kind_81, dX5_kind_84, dX5_kind_87, dX5_kind_89, dX5_kind_92, dX5_kind_93, dX5_kind_96, dX5_kind_99, dX5_kind_101, dX5_kind_103, dX5_kind_105, dX5_kind_108, dX5_kind_111, dX5_kind_112, dX5_kind_115, dX5_kind_117, dX5_kind_120, dX5_kind_122, FX5_10, CX5_118, CX5_122, FX5_16, FX5_97, G_X5_kind_111, G_X5_kind_52, G_X5_kind_156, G_X5_kind_147, kd_0, kd_1, kd_2, kd_3, kd_4, kd_5, kd_6, kd_7, kd_8, kd_9, kd_10, kd_11, kd_12, kd_13, kd_14, kd_15, kd_16, kd_17, kd_18, kd_19, kd_20, kd_21, kd_22, kd_23, kd_24, kd_25, kd_26, kd_27, kd_28, kd_29, kd_30, kd_31, kd_32, kd_33, kd_34, kd_35, kd_36, kd_37, kd_38, kd_39, kd_40, kd_41, kd_42, kd_43, kd_44, kd_45, kd_46, kd_47, kd_48, kd_49, kd_50, kd_51, kd_52, kd_53, kd_54, kd_55, kd_56, kd_57, kd_58, kd_59, kd_60, kd_61, kd_62, kd_63, kd_64, kd_65, ln_0, ln_1, ln_2, ln_3, ln_4, ln_5, ln_6, ln_7, ln_8, ln_9, ln_10, ln_11, ln_12, ln_13, ln_14, ln_15, ln_16, ln_17, ln_18, ln_19, ln_20, ln_21, ln_22, ln_23, ln_24, ln_25, ln_26, ln_27, ln_28, ln_29, ln_30, ln_31, ln_32, ln_33, ln_34, ln_35, ln_36, ln_37, ln_38, ln_39, ln_40, ln_41, ln_42, ln_43, ln_44, ln_45, ln_46, ln_47, ln_48, ln_49, ln_50, ln_51, ln_52, ln_53, ln_54, ln_55, ln_56, ln_57, ln_58, ln_59, ln_60, ln_61, ln_62, ln_63, ln_64, ln_65, kd_101, kd_100, stv_100_0, stv_100_2, stv_100_3, stv_101_0, stv_101_2, stv_101_3]
    by_cases w0 : w = 0
    · rw [if_pos w0] at hk
      repeat' (first | exact trivial | omega | (with_reducible assumption) | exact absurd trivial (by with_reducible assumption) | contradiction | apply And.intro | intro _)
    · rw [if_neg w0] at hk
      repeat' (first | exact trivial | omega | (with_reducible assumption) | exact absurd trivial (by with_reducible assumption) | contradiction | apply And.intro | intro _)
  | succ m ih =>
    intro n hn ν hF mo hmo
    have hR1 := hF.ring hR h35.2
    have hun := hu n (by omega)
    have hW2 : WF (upF f (7 * i) n) := hW.set (t := 0) hi (by omega) (v := n) ⟨fun _ => by omega, fun z => by omega, fun z => by omega, fun z => by omega, fun z => by omega⟩
    have hmr : (jd (fun v => (v : Int)) (kindU f i e) 1 n).1 ≠ -4 → -3600 ≤ (jd (fun v => (v : Int)) (kindU f i e) 1 n).2 ∧ (jd (fun v => (v : Int)) (kindU f i e) 1 n).2 ≤ 0 ∧ 0 ≤ (jd (fun v => (v : Int)) (kindU f i e) 1 n).1 ∧ (jd (fun v => (v : Int)) (kindU f i e) 1 n).1 < 4 := by
      intro z
      obtain ⟨k, q1, q2, q3⟩ := ((hj n).2 z).2
      have := hu k (by omega)
      rw [q3, q2]
      exact ⟨by omega, by omega, by show 0 ≤ (k : Int); omega, by show (k : Int) < 4; omega⟩
    have hmi := (hj n).1
    have hP2 := hF.2.2
    apply hV [47] 60
    simp only [InR, InL, inb, Int.toNat_natCast, wp1, wpc_z, wpc_s, stp_iconst, stp_bipush, stp_sipush, stp_lconst, stp_iload_n, stp_iload, stp_lload_n, stp_lload, stp_aload_n, stp_aload, stp_istore_n, stp_istore, stp_lstore_n, stp_lstore, stp_astore_n, stp_astore, stp_iinc, stp_iadd, stp_isub, stp_imul, stp_ineg, stp_idiv, stp_irem, stp_ladd, stp_lmul, stp_ldiv, stp_lrem, stp_ishl, stp_ishr, stp_iushr, stp_iand, stp_ior, stp_i2l, stp_i2b, stp_i2s, stp_lcmp, stp_dup, stp_dup2, stp_pop, stp_ifCond, stp_if_icmp, stp_goto, stp_tableswitch, stp_lookupswitch, stp_ldc, stp_ldc_w, stp_ldc2_w, stp_getstatic, stp_getfield, stp_putfield, stp_iaload, stp_baload, stp_iastore, stp_bastore, stp_aaload, stp_aastore, stp_invokevirtual, stp_invokestatic, stp_ireturn, stp_lreturn, stp_return_, lg, lset, okl, spl, wd, c1, cnd, tg, swT, swL, f4_0, f4_1, f4_2, f4_3, f2_0, f2_1, List.mem_cons, List.not_mem_nil, List.length_cons, List.length_nil, List.cons_append, List.nil_append, Nat.reduceAdd, Nat.reduceMul, Nat.reduceLT, Nat.reduceEqDiff, Nat.reduceLeDiff, Int.reduceAdd, Int.reduceNeg, Int.reduceToNat, Int.cast_ofNat_Int, Int.reduceNatCast, Int.toNat_zero, Int.toNat_one, Int.reduceLE, Int.reduceLT, Int.reduceEq, Int.zero_add, Int.add_zero, or_false, false_or, or_true, true_or, and_true, true_and, and_false, false_and, reduceIte, not_true_eq_false, not_false_eq_true, forall_const, false_implies, true_implies, implies_true, ne_eq, reduceCtorEq, List.all_cons, List.all_nil, Bool.and_true, Bool.and_self, decide_eq_true_eq, decide_true, dX5_kind_0, dX5_kind_1, dX5_kind_4, dX5_kind_5, dX5_kind_8, dX5_kind_11, dX5_kind_12, dX5_kind_13, dX5_kind_16, dX5_kind_19, dX5_kind_22, dX5_kind_23, dX5_kind_24, dX5_kind_25, dX5_kind_28, dX5_kind_31, dX5_kind_32, dX5_kind_33, dX5_kind_35, dX5_kind_37, dX5_kind_38, dX5_kind_40, dX5_kind_43, dX5_kind_44, dX5_kind_45, dX5_kind_47, dX5_kind_49, dX5_kind_52, dX5_kind_53, dX5_kind_54, dX5_kind_57, dX5_kind_58, dX5_kind_59, dX5_kind_60, dX5_kind_62, dX5_kind_65, dX5_kind_66, dX5_kind_69, dX5_kind_70, dX5_kind_73, dX5_kind_75, dX5_kind_77, dX5_kind_80, dX5_kind_81, dX5_kind_84, dX5_kind_87, dX5_kind_89, dX5_kind_92, dX5_kind_93, dX5_kind_96, dX5_kind_99, dX5_kind_101, dX5_kind_103, dX5_kind_105, dX5_kind_108, dX5_kind_111, dX5_kind_112, dX5_kind_115, dX5_kind_117, dX5_kind_120, dX5_kind_122, FX5_10, CX5_118, CX5_122, FX5_16, FX5_97, G_X5_kind_111, G_X5_kind_52, G_X5_kind_156, G_X5_kind_147, kd_0, kd_1, kd_2, kd_3, kd_4, kd_5, kd_6, kd_7, kd_8, kd_9, kd_10, kd_11, kd_12, kd_13, kd_14, kd_15, kd_16, kd_17, kd_18, kd_19, kd_20, kd_21, kd_22, kd_23, kd_24, kd_25, kd_26, kd_27, kd_28, kd_29, kd_30, kd_31, kd_32, kd_33, kd_34, kd_35, kd_36, kd_37, kd_38, kd_39, kd_40, kd_41, kd_42, kd_43, kd_44, kd_45, kd_46, kd_47, kd_48, kd_49, kd_50, kd_51, kd_52, kd_53, kd_54, kd_55, kd_56, kd_57, kd_58, kd_59, kd_60, kd_61, kd_62, kd_63, kd_64, kd_65, ln_0, ln_1, ln_2, ln_3, ln_4, ln_5, ln_6, ln_7, ln_8, ln_9, ln_10, ln_11, ln_12, ln_13, ln_14, ln_15, ln_16, ln_17, ln_18, ln_19, ln_20, ln_21, ln_22, ln_23, ln_24, ln_25, ln_26, ln_27, ln_28, ln_29, ln_30, ln_31, ln_32, ln_33, ln_34, ln_35, ln_36, ln_37, ln_38, ln_39, ln_40, ln_41, ln_42, ln_43, ln_44, ln_45, ln_46, ln_47, ln_48, ln_49, ln_50, ln_51, ln_52, ln_53, ln_54, ln_55, ln_56, ln_57, ln_58, ln_59, ln_60, ln_61, ln_62, ln_63, ln_64, ln_65, kd_101, kd_100, stv_100_0, stv_100_2, stv_100_3, stv_101_0, stv_101_2, stv_101_3, T5_startTrialWith, T1_go]
    repeat' (first | exact trivial | omega | (with_reducible assumption) | exact absurd trivial (by with_reducible assumption) | contradiction | apply And.intro | intro _)
    refine ⟨f, hR1, by omega, h35.2, fun ρ hρ => ?_⟩
    obtain ⟨a1, a2, a3, a4⟩ := hρ
    refine ⟨by omega, upF f (7 * i) n, a1, hW2, by rw [upF_n _ _ (by omega)]; omega, fun σ hσ => ?_⟩
    obtain ⟨b1, b2, b3, b4⟩ := hσ
    have hFσ : FQ μ σ := hF.tr ((a4.tr b4).q hF.2.2)
    have es : rI σ 8 5 = -kindU f i e n := by rw [b2, a2]; unfold kindU; omega
    have key := ih (n + 1) (by omega) σ hFσ
    rw [show ((n + 1 : Nat) : Int) = (n : Int) + 1 by omega] at key
    simp only [jd] at key
    rw [es]
    by_cases z : (jd (fun v => (v : Int)) (kindU f i e) 1 n).1 = -4
    · have q := hmi z
      have lt : kindU f i e n < (jd (fun v => (v : Int)) (kindU f i e) 1 n).2 := by have := q.1; omega
      rw [if_pos lt] at key
      have key := key (-kindU f i e n) (by rw [if_neg (by show (n : Int) ≠ -4; omega)])
      repeat' (first | exact trivial | omega | (with_reducible assumption) | exact absurd trivial (by with_reducible assumption) | contradiction | apply And.intro | intro _)
    · have q := hmr z
      rw [if_neg z] at hmo
      by_cases lt : kindU f i e n < (jd (fun v => (v : Int)) (kindU f i e) 1 n).2
      · rw [if_pos lt] at key
        have key := key (-kindU f i e n) (by rw [if_neg (by show (n : Int) ≠ -4; omega)])
        repeat' (first | exact trivial | omega | (with_reducible assumption) | exact absurd trivial (by with_reducible assumption) | contradiction | apply And.intro | intro _)
      · rw [if_neg lt] at key
        have key := key mo (by rw [if_neg z]; exact hmo)
        repeat' (first | exact trivial | omega | (with_reducible assumption) | exact absurd trivial (by with_reducible assumption) | contradiction | apply And.intro | intro _)
def T5_kind : TT := fun a μ K => match a with
  | [.inr (.inr o), .inl i, .inl n, .inl w] => o = 0 ∧ (InR i ∧ InR n ∧ InR w ∧ RP μ 8 ∧ ∃ f, RG μ 1 f ∧ WF f ∧ f 38 ≤ 9999 ∧ ∀ ν, FQ μ ν → K [.inl (kindR f i n w)] ν)
  | _ => False
theorem rec_X5_kind : ∀ a μ K, T5_kind a μ K → ∃ k r, a = .inr (.inr k) :: r ∧ kd k = 5 := by
  intro a μ K h
  unfold T5_kind at h
  split at h
  · exact ⟨_, _, rfl, by rw [h.1]; rfl⟩
  · exact h.elim
theorem gk_X5_kind (l : Launch) : ∀ i n b T, G_X5_kind i = some (n, b, T) → CallOK l 5 RX5 i n b T := by
  intro i n b T h
  have hm : (i, n, b, T) ∈ GL_X5_kind := lk_mem h
  simp only [GL_X5_kind, List.mem_cons, List.not_mem_nil, or_false, Prod.mk.injEq] at hm
  rcases hm with ⟨rfl, rfl, rfl, rfl⟩ | ⟨rfl, rfl, rfl, rfl⟩ | ⟨rfl, rfl, rfl, rfl⟩ | ⟨rfl, rfl, rfl, rfl⟩
  · exact CallOK.V (d := 5) (own := RX5) (i := 111) (n := 1) (ci := 1) (good_X1_has l) (by decide) (by decide) rfl (by decide) rec_X1_has (mg 351 (by decide +kernel) (by decide +kernel)) (mg 313 (by decide +kernel) (by decide +kernel)) (mg 314 (by decide +kernel) (by decide +kernel)) (mg 2 (by decide +kernel) (by decide +kernel)) (mg 315 (by decide +kernel) (by decide +kernel)) (by decide +kernel)
  · exact CallOK.S (d := 5) (own := RX5) (i := 52) (n := 3) (good_X5_isOutside l) (by decide) (by decide) (mg 191 (by decide +kernel) (by decide +kernel)) (mg 192 (by decide +kernel) (by decide +kernel)) (mg 1 (by decide +kernel) (by decide +kernel)) (mg 193 (by decide +kernel) (by decide +kernel)) (by decide +kernel)
  · exact CallOK.V (d := 5) (own := RX5) (i := 156) (n := 3) (ci := 5) (good_X5_startTrialWith l) (by decide) (by decide) rfl (by decide) rec_X5_startTrialWith (mg 430 (by decide +kernel) (by decide +kernel)) (mg 432 (by decide +kernel) (by decide +kernel)) (mgs 14 (by decide +kernel) (by decide +kernel)) (mg 1 (by decide +kernel) (by decide +kernel)) (mg 433 (by decide +kernel) (by decide +kernel)) (by decide +kernel)
  · exact CallOK.V (d := 5) (own := RX5) (i := 147) (n := 1) (ci := 1) (good_X1_go l) (by decide) (by decide) rfl (by decide) rec_X1_go (mg 410 (by decide +kernel) (by decide +kernel)) (mg 411 (by decide +kernel) (by decide +kernel)) (mg 412 (by decide +kernel) (by decide +kernel)) (mg 2 (by decide +kernel) (by decide +kernel)) (mg 413 (by decide +kernel) (by decide +kernel)) (by decide +kernel)
set_option maxRecDepth 20000 in
set_option maxHeartbeats 4000000 in
theorem body_X5_kind (o : Nat) (i : Int) (n : Int) (w : Int) (μ : Mem) (K : List AV → Mem → Prop) (V : Nat → List (Option AV) → List AV → Mem → Prop) (hV : Clos FX5 CX5 G_X5_kind 1 K cX5_kind V) (hT : o = 0 ∧ (InR i ∧ InR n ∧ InR w ∧ RP μ 8 ∧ ∃ f, RG μ 1 f ∧ WF f ∧ f 38 ≤ 9999 ∧ ∀ ν, FQ μ ν → K [.inl (kindR f i n w)] ν)) : V 0 [some (.inr (.inr o)), some (.inl i), some (.inl n), some (.inl w), none, none, none] [] μ := by
  simp only [InR] at hT
  obtain ⟨rfl, hi, hn, hw, hP, f, hR, hW, h38, hK⟩ := hT
  have h35 := hW.1
  have r35 := hR.2.1
  by_cases hc : (0 ≤ i ∧ i < f 35) ∧ (0 ≤ n ∧ n ≤ 200) ∧ 0 ≤ w ∧ w ≤ 1
  · obtain ⟨i', rfl⟩ := Int.eq_ofNat_of_zero_le hc.1.1
    obtain ⟨n', rfl⟩ := Int.eq_ofNat_of_zero_le hc.2.1.1
    have h := lp_kind V K hV μ f hW h38 i' (by omega) n' (by omega) w (by omega) hP hR (fun ν hν => by
      have hk := hK ν hν
      unfold kindR at hk
      rw [if_pos hc, Int.toNat_natCast, Int.toNat_natCast] at hk
      exact hk) 4 0 (by omega) μ (FQ.rf hP) 0 (by simp [jd])
    simp only [jd] at h
    apply hV [47] 80
    simp only [InR, InL, inb, Int.toNat_natCast, wp1, wpc_z, wpc_s, stp_iconst, stp_bipush, stp_sipush, stp_lconst, stp_iload_n, stp_iload, stp_lload_n, stp_lload, stp_aload_n, stp_aload, stp_istore_n, stp_istore, stp_lstore_n, stp_lstore, stp_astore_n, stp_astore, stp_iinc, stp_iadd, stp_isub, stp_imul, stp_ineg, stp_idiv, stp_irem, stp_ladd, stp_lmul, stp_ldiv, stp_lrem, stp_ishl, stp_ishr, stp_iushr, stp_iand, stp_ior, stp_i2l, stp_i2b, stp_i2s, stp_lcmp, stp_dup, stp_dup2, stp_pop, stp_ifCond, stp_if_icmp, stp_goto, stp_tableswitch, stp_lookupswitch, stp_ldc, stp_ldc_w, stp_ldc2_w, stp_getstatic, stp_getfield, stp_putfield, stp_iaload, stp_baload, stp_iastore, stp_bastore, stp_aaload, stp_aastore, stp_invokevirtual, stp_invokestatic, stp_ireturn, stp_lreturn, stp_return_, lg, lset, okl, spl, wd, c1, cnd, tg, swT, swL, f4_0, f4_1, f4_2, f4_3, f2_0, f2_1, List.mem_cons, List.not_mem_nil, List.length_cons, List.length_nil, List.cons_append, List.nil_append, Nat.reduceAdd, Nat.reduceMul, Nat.reduceLT, Nat.reduceEqDiff, Nat.reduceLeDiff, Int.reduceAdd, Int.reduceNeg, Int.reduceToNat, Int.cast_ofNat_Int, Int.reduceNatCast, Int.toNat_zero, Int.toNat_one, Int.reduceLE, Int.reduceLT, Int.reduceEq, Int.zero_add, Int.add_zero, or_false, false_or, or_true, true_or, and_true, true_and, and_false, false_and, reduceIte, not_true_eq_false, not_false_eq_true, forall_const, false_implies, true_implies, implies_true, ne_eq, reduceCtorEq, List.all_cons, List.all_nil, Bool.and_true, Bool.and_self, decide_eq_true_eq, decide_true, dX5_kind_0, dX5_kind_1, dX5_kind_4, dX5_kind_5, dX5_kind_8, dX5_kind_11, dX5_kind_12, dX5_kind_13, dX5_kind_16, dX5_kind_19, dX5_kind_22, dX5_kind_23, dX5_kind_24, dX5_kind_25, dX5_kind_28, dX5_kind_31, dX5_kind_32, dX5_kind_33, dX5_kind_35, dX5_kind_37, dX5_kind_38, dX5_kind_40, dX5_kind_43, dX5_kind_44, dX5_kind_45, dX5_kind_47, dX5_kind_49, dX5_kind_52, dX5_kind_53, dX5_kind_54, dX5_kind_57, dX5_kind_58, dX5_kind_59, dX5_kind_60, dX5_kind_62, dX5_kind_65, dX5_kind_66, dX5_kind_69, dX5_kind_70, dX5_kind_73, dX5_kind_75, dX5_kind_77, dX5_kind_80, dX5_kind_81, dX5_kind_84, dX5_kind_87, dX5_kind_89, dX5_kind_92, dX5_kind_93, dX5_kind_96, dX5_kind_99, dX5_kind_101, dX5_kind_103, dX5_kind_105, dX5_kind_108, dX5_kind_111, dX5_kind_112, dX5_kind_115, dX5_kind_117, dX5_kind_120, dX5_kind_122, FX5_10, CX5_118, CX5_122, FX5_16, FX5_97, G_X5_kind_111, G_X5_kind_52, G_X5_kind_156, G_X5_kind_147, kd_0, kd_1, kd_2, kd_3, kd_4, kd_5, kd_6, kd_7, kd_8, kd_9, kd_10, kd_11, kd_12, kd_13, kd_14, kd_15, kd_16, kd_17, kd_18, kd_19, kd_20, kd_21, kd_22, kd_23, kd_24, kd_25, kd_26, kd_27, kd_28, kd_29, kd_30, kd_31, kd_32, kd_33, kd_34, kd_35, kd_36, kd_37, kd_38, kd_39, kd_40, kd_41, kd_42, kd_43, kd_44, kd_45, kd_46, kd_47, kd_48, kd_49, kd_50, kd_51, kd_52, kd_53, kd_54, kd_55, kd_56, kd_57, kd_58, kd_59, kd_60, kd_61, kd_62, kd_63, kd_64, kd_65, ln_0, ln_1, ln_2, ln_3, ln_4, ln_5, ln_6, ln_7, ln_8, ln_9, ln_10, ln_11, ln_12, ln_13, ln_14, ln_15, ln_16, ln_17, ln_18, ln_19, ln_20, ln_21, ln_22, ln_23, ln_24, ln_25, ln_26, ln_27, ln_28, ln_29, ln_30, ln_31, ln_32, ln_33, ln_34, ln_35, ln_36, ln_37, ln_38, ln_39, ln_40, ln_41, ln_42, ln_43, ln_44, ln_45, ln_46, ln_47, ln_48, ln_49, ln_50, ln_51, ln_52, ln_53, ln_54, ln_55, ln_56, ln_57, ln_58, ln_59, ln_60, ln_61, ln_62, ln_63, ln_64, ln_65, kd_101, kd_100, stv_100_0, stv_100_2, stv_100_3, stv_101_0, stv_101_2, stv_101_3, T1_has, T5_isOutside, r35]
    repeat' (first | exact trivial | omega | (with_reducible assumption) | exact absurd trivial (by with_reducible assumption) | contradiction | apply And.intro | intro _)
  · have hk := hK μ (FQ.rf hP)
    unfold kindR at hk
    rw [if_neg hc] at hk
    apply hV [33] 80
    simp only [InR, InL, inb, Int.toNat_natCast, wp1, wpc_z, wpc_s, stp_iconst, stp_bipush, stp_sipush, stp_lconst, stp_iload_n, stp_iload, stp_lload_n, stp_lload, stp_aload_n, stp_aload, stp_istore_n, stp_istore, stp_lstore_n, stp_lstore, stp_astore_n, stp_astore, stp_iinc, stp_iadd, stp_isub, stp_imul, stp_ineg, stp_idiv, stp_irem, stp_ladd, stp_lmul, stp_ldiv, stp_lrem, stp_ishl, stp_ishr, stp_iushr, stp_iand, stp_ior, stp_i2l, stp_i2b, stp_i2s, stp_lcmp, stp_dup, stp_dup2, stp_pop, stp_ifCond, stp_if_icmp, stp_goto, stp_tableswitch, stp_lookupswitch, stp_ldc, stp_ldc_w, stp_ldc2_w, stp_getstatic, stp_getfield, stp_putfield, stp_iaload, stp_baload, stp_iastore, stp_bastore, stp_aaload, stp_aastore, stp_invokevirtual, stp_invokestatic, stp_ireturn, stp_lreturn, stp_return_, lg, lset, okl, spl, wd, c1, cnd, tg, swT, swL, f4_0, f4_1, f4_2, f4_3, f2_0, f2_1, List.mem_cons, List.not_mem_nil, List.length_cons, List.length_nil, List.cons_append, List.nil_append, Nat.reduceAdd, Nat.reduceMul, Nat.reduceLT, Nat.reduceEqDiff, Nat.reduceLeDiff, Int.reduceAdd, Int.reduceNeg, Int.reduceToNat, Int.cast_ofNat_Int, Int.reduceNatCast, Int.toNat_zero, Int.toNat_one, Int.reduceLE, Int.reduceLT, Int.reduceEq, Int.zero_add, Int.add_zero, or_false, false_or, or_true, true_or, and_true, true_and, and_false, false_and, reduceIte, not_true_eq_false, not_false_eq_true, forall_const, false_implies, true_implies, implies_true, ne_eq, reduceCtorEq, List.all_cons, List.all_nil, Bool.and_true, Bool.and_self, decide_eq_true_eq, decide_true, dX5_kind_0, dX5_kind_1, dX5_kind_4, dX5_kind_5, dX5_kind_8, dX5_kind_11, dX5_kind_12, dX5_kind_13, dX5_kind_16, dX5_kind_19, dX5_kind_22, dX5_kind_23, dX5_kind_24, dX5_kind_25, dX5_kind_28, dX5_kind_31, dX5_kind_32, dX5_kind_33, dX5_kind_35, dX5_kind_37, dX5_kind_38, dX5_kind_40, dX5_kind_43, dX5_kind_44, dX5_kind_45, dX5_kind_47, dX5_kind_49, dX5_kind_52, dX5_kind_53, dX5_kind_54, dX5_kind_57, dX5_kind_58, dX5_kind_59, dX5_kind_60, dX5_kind_62, dX5_kind_65, dX5_kind_66, dX5_kind_69, dX5_kind_70, dX5_kind_73, dX5_kind_75, dX5_kind_77, dX5_kind_80, dX5_kind_81, dX5_kind_84, dX5_kind_87, dX5_kind_89, dX5_kind_92, dX5_kind_93, dX5_kind_96, dX5_kind_99, dX5_kind_101, dX5_kind_103, dX5_kind_105, dX5_kind_108, dX5_kind_111, dX5_kind_112, dX5_kind_115, dX5_kind_117, dX5_kind_120, dX5_kind_122, FX5_10, CX5_118, CX5_122, FX5_16, FX5_97, G_X5_kind_111, G_X5_kind_52, G_X5_kind_156, G_X5_kind_147, kd_0, kd_1, kd_2, kd_3, kd_4, kd_5, kd_6, kd_7, kd_8, kd_9, kd_10, kd_11, kd_12, kd_13, kd_14, kd_15, kd_16, kd_17, kd_18, kd_19, kd_20, kd_21, kd_22, kd_23, kd_24, kd_25, kd_26, kd_27, kd_28, kd_29, kd_30, kd_31, kd_32, kd_33, kd_34, kd_35, kd_36, kd_37, kd_38, kd_39, kd_40, kd_41, kd_42, kd_43, kd_44, kd_45, kd_46, kd_47, kd_48, kd_49, kd_50, kd_51, kd_52, kd_53, kd_54, kd_55, kd_56, kd_57, kd_58, kd_59, kd_60, kd_61, kd_62, kd_63, kd_64, kd_65, ln_0, ln_1, ln_2, ln_3, ln_4, ln_5, ln_6, ln_7, ln_8, ln_9, ln_10, ln_11, ln_12, ln_13, ln_14, ln_15, ln_16, ln_17, ln_18, ln_19, ln_20, ln_21, ln_22, ln_23, ln_24, ln_25, ln_26, ln_27, ln_28, ln_29, ln_30, ln_31, ln_32, ln_33, ln_34, ln_35, ln_36, ln_37, ln_38, ln_39, ln_40, ln_41, ln_42, ln_43, ln_44, ln_45, ln_46, ln_47, ln_48, ln_49, ln_50, ln_51, ln_52, ln_53, ln_54, ln_55, ln_56, ln_57, ln_58, ln_59, ln_60, ln_61, ln_62, ln_63, ln_64, ln_65, T1_has, T5_isOutside, r35]
    repeat' (first | exact trivial | omega | (with_reducible assumption) | exact absurd trivial (by with_reducible assumption) | contradiction | apply And.intro | intro _)
theorem good_X5_kind (l : Launch) : Good l 5 yX5_kind cX5_kind 7 (some .int) T5_kind := by
  refine Good.mk 1 (by decide) rfl (by simp [retOK]) FOK5 COK5 (gk_X5_kind l) ?_ ?_
  · intro a μ K h
    unfold T5_kind at h
    split at h
    · simp [entl]
    · exact h.elim
  · intro a μ K V hV h
    unfold T5_kind at h
    split at h
    · exact body_X5_kind _ _ _ _ μ K V hV h
    · exact h.elim

